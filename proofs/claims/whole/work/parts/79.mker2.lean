/-! The kernel's walks and attaches: what an answer 0 tells. -/
theorem T_338_0 : hTab 338 0 = some ((3, 0, 2, []), 1) := rfl
theorem T_338_1 : hTab 338 1 = some ((0, 0, 104, []), 3) := rfl
theorem T_338_3 : hTab 338 3 = some ((0, 0, 1, []), 4) := rfl
theorem T_338_4 : hTab 338 4 = some ((31, 228, 0, []), 7) := rfl
theorem T_338_7 : hTab 338 7 = some ((3, 0, 2, []), 8) := rfl
theorem T_338_8 : hTab 338 8 = some ((0, 0, 4, []), 9) := rfl
theorem T_338_9 : hTab 338 9 = some ((3, 2, 0, []), 10) := rfl
theorem T_338_10 : hTab 338 10 = some ((14, 0, 0, []), 11) := rfl
theorem T_338_11 : hTab 338 11 = some ((31, 229, 0, []), 14) := rfl
theorem T_338_14 : hTab 338 14 = some ((3, 0, 2, []), 15) := rfl
theorem T_338_15 : hTab 338 15 = some ((0, 0, 4, []), 16) := rfl
theorem T_338_16 : hTab 338 16 = some ((1, 0, 4294967295, []), 19) := rfl
theorem T_338_19 : hTab 338 19 = some ((31, 229, 0, []), 22) := rfl
theorem T_338_22 : hTab 338 22 = some ((3, 0, 2, []), 23) := rfl
theorem T_338_23 : hTab 338 23 = some ((0, 0, 2, []), 24) := rfl
theorem T_338_24 : hTab 338 24 = some ((1, 0, 3, []), 27) := rfl
theorem T_338_27 : hTab 338 27 = some ((31, 229, 0, []), 30) := rfl
theorem T_338_30 : hTab 338 30 = some ((0, 0, 0, []), 31) := rfl
theorem T_338_31 : hTab 338 31 = some ((4, 4, 0, []), 33) := rfl
theorem T_338_33 : hTab 338 33 = some ((3, 4, 0, []), 35) := rfl
theorem T_338_35 : hTab 338 35 = some ((0, 0, 3, []), 36) := rfl
theorem T_338_36 : hTab 338 36 = some ((19, 3, Int.ofNat 62, []), 39) := rfl
theorem T_338_39 : hTab 338 39 = some ((3, 0, 2, []), 40) := rfl
theorem T_338_40 : hTab 338 40 = some ((0, 0, 1, []), 41) := rfl
theorem T_338_41 : hTab 338 41 = some ((3, 0, 2, []), 42) := rfl
theorem T_338_42 : hTab 338 42 = some ((24, 17, Int.ofNat 2, []), 45) := rfl
theorem T_338_45 : hTab 338 45 = some ((0, 0, 3, []), 46) := rfl
theorem T_338_46 : hTab 338 46 = some ((3, 3, 0, []), 47) := rfl
theorem T_338_47 : hTab 338 47 = some ((10, 2, 0, []), 48) := rfl
theorem T_338_48 : hTab 338 48 = some ((3, 4, 0, []), 50) := rfl
theorem T_338_50 : hTab 338 50 = some ((10, 0, 0, []), 51) := rfl
theorem T_338_51 : hTab 338 51 = some ((26, 0, 0, []), 52) := rfl
theorem T_338_52 : hTab 338 52 = some ((14, 0, 0, []), 53) := rfl
theorem T_338_53 : hTab 338 53 = some ((31, 229, 0, []), 56) := rfl
theorem T_338_56 : hTab 338 56 = some ((5, 4, 1, []), 59) := rfl
theorem T_338_59 : hTab 338 59 = some ((22, 0, Int.ofNat 33, []), 62) := rfl
theorem T_338_62 : hTab 338 62 = some ((3, 0, 2, []), 63) := rfl
theorem T_338_63 : hTab 338 63 = some ((0, 0, 2, []), 64) := rfl
theorem T_338_64 : hTab 338 64 = some ((1, 0, 0, []), 65) := rfl
theorem T_338_65 : hTab 338 65 = some ((31, 229, 0, []), 68) := rfl
theorem T_338_68 : hTab 338 68 = some ((3, 0, 2, []), 69) := rfl
theorem T_338_69 : hTab 338 69 = some ((3, 1, 0, []), 70) := rfl
theorem T_338_70 : hTab 338 70 = some ((31, 231, 0, []), 73) := rfl
theorem T_338_73 : hTab 338 73 = some ((33, 1, 0, []), 74) := rfl
theorem T_343_11 : hTab 343 11 = some ((3, 3, 0, []), 12) := rfl
theorem T_343_12 : hTab 343 12 = some ((3, 2, 0, []), 13) := rfl
theorem T_343_13 : hTab 343 13 = some ((19, 3, Int.ofNat 34, []), 16) := rfl
theorem T_343_16 : hTab 343 16 = some ((3, 0, 2, []), 17) := rfl
theorem T_343_17 : hTab 343 17 = some ((0, 0, 1, []), 18) := rfl
theorem T_343_18 : hTab 343 18 = some ((3, 0, 2, []), 19) := rfl
theorem T_343_19 : hTab 343 19 = some ((24, 17, Int.ofNat 78, []), 22) := rfl
theorem T_343_22 : hTab 343 22 = some ((3, 3, 0, []), 23) := rfl
theorem T_343_23 : hTab 343 23 = some ((26, 0, 0, []), 24) := rfl
theorem T_343_24 : hTab 343 24 = some ((14, 0, 0, []), 25) := rfl
theorem T_343_25 : hTab 343 25 = some ((31, 229, 0, []), 28) := rfl
theorem T_343_28 : hTab 343 28 = some ((5, 3, 1, []), 31) := rfl
theorem T_343_31 : hTab 343 31 = some ((22, 0, Int.ofNat 11, []), 34) := rfl
theorem T_343_34 : hTab 343 34 = some ((33, 0, 0, []), 35) := rfl
theorem F_17_78 : (hFd 17 78).2.2.1 = 4 := rfl
theorem mN_338 : hmN 338 = 4 := by decide +kernel
theorem mL_338 : hmL 338 = 5 := by decide +kernel
theorem mK_338 : hmK 338 = 1 := by decide +kernel
theorem mO_338 : hmO 338 = 17 := by decide +kernel
theorem mN_343 : hmN 343 = 3 := by decide +kernel
theorem mL_343 : hmL 343 = 4 := by decide +kernel
theorem mK_343 : hmK 343 = 1 := by decide +kernel
theorem mO_343 : hmO 343 = 17 := by decide +kernel
def usL (u : Int) : List Int := leb 1 (ubyte (3 * u + 0)) ++ leb 1 (ubyte (3 * u + 1)) ++ leb 1 (ubyte (3 * u + 2))
def mAtt (f u : Int) : List Int := leb 1 104 ++ leb 2 1 ++ leb 4 f ++ leb 4 4294967295 ++ leb 2 3 ++ usL u ++ leb 2 0
def mWalk (f g : Int) (nm : List Int) : List Int := leb 1 110 ++ leb 2 1 ++ leb 4 f ++ leb 4 g ++ leb 2 1 ++ leb 2 (nm.length : Int) ++ nm
/-- where a walk led: a path, a kind -/
def kPath (l : List Int) : Int := nu (lg l) 14 8
def kKind (l : List Int) : Int := nu (lg l) 9 1
section MKER2
variable {fb : Bool} {d : Nat} {σ0 σ : hM} {P Q S S1 S2 : qR} {T U s w f g u : Int} {l R nm : List Int}
theorem mWalk_len : ((mWalk f g nm).length : Int) = 15 + nm.length := by
  unfold mWalk
  rw [List.length_append]
  show ((15 + nm.length : Nat) : Int) = _
  omega
theorem mWalk_0 : lg (mWalk f g nm) 0 = 110 := rfl
theorem mAtt_0 : lg (mAtt f u) 0 = 104 := rfl
theorem mAtt_len : (mAtt f u).length = 18 := rfl
theorem mWalk_f (hf : 0 ≤ f ∧ f ≤ 4294967295) : nu (msgA (mWalk f g nm)) 7 4 = f := by
  have e : leb 4 (4 + ((mWalk f g nm).length : Int)) ++ mWalk f g nm = (leb 4 (4 + ((mWalk f g nm).length : Int)) ++ (leb 1 110 ++ leb 2 1)) ++ (leb 4 f ++ (leb 4 g ++ (leb 2 1 ++ (leb 2 (nm.length : Int) ++ nm)))) := by
    conv => lhs; rhs; unfold mWalk
    simp only [List.append_assoc]
  unfold msgA
  rw [e]
  exact nu_lg2 4 rfl (by rw [show (256 : Int) ^ 4 = 4294967296 by decide]; omega)
theorem mWalk_g (hf : 0 ≤ g ∧ g ≤ 4294967295) : nu (msgA (mWalk f g nm)) 11 4 = g := by
  have e : leb 4 (4 + ((mWalk f g nm).length : Int)) ++ mWalk f g nm = (leb 4 (4 + ((mWalk f g nm).length : Int)) ++ (leb 1 110 ++ (leb 2 1 ++ leb 4 f))) ++ (leb 4 g ++ (leb 2 1 ++ (leb 2 (nm.length : Int) ++ nm))) := by
    conv => lhs; rhs; unfold mWalk
    simp only [List.append_assoc]
  unfold msgA
  rw [e]
  exact nu_lg2 4 rfl (by rw [show (256 : Int) ^ 4 = 4294967296 by decide]; omega)
theorem mWalk_n : nu (msgA (mWalk f g nm)) 15 2 = 1 := by
  have e : leb 4 (4 + ((mWalk f g nm).length : Int)) ++ mWalk f g nm = (leb 4 (4 + ((mWalk f g nm).length : Int)) ++ (leb 1 110 ++ (leb 2 1 ++ (leb 4 f ++ leb 4 g)))) ++ (leb 2 1 ++ (leb 2 (nm.length : Int) ++ nm)) := by
    conv => lhs; rhs; unfold mWalk
    simp only [List.append_assoc]
  unfold msgA
  rw [e]
  exact nu_lg2 2 rfl (by decide)
theorem mWalk_k (hn : nm.length ≤ 400) : nu (msgA (mWalk f g nm)) 17 2 = (nm.length : Int) := by
  have e : leb 4 (4 + ((mWalk f g nm).length : Int)) ++ mWalk f g nm = (leb 4 (4 + ((mWalk f g nm).length : Int)) ++ (leb 1 110 ++ (leb 2 1 ++ (leb 4 f ++ (leb 4 g ++ leb 2 1))))) ++ (leb 2 (nm.length : Int) ++ nm) := by
    conv => lhs; rhs; unfold mWalk
    simp only [List.append_assoc]
  unfold msgA
  rw [e]
  exact nu_lg2 2 rfl (by rw [show (256 : Int) ^ 2 = 65536 by decide]; omega)
theorem msgA_z (hl : l.length ≤ 416) : nu (msgA l) 0 4 = 4 + (l.length : Int) := by
  unfold msgA
  exact nu_lg2 (l1 := []) 4 rfl (by rw [show (256 : Int) ^ 4 = 4294967296 by decide]; omega)
theorem mCopy_g (hf : 0 ≤ g ∧ g ≤ 4294967295) : nu (msgA (mCopy f g)) 11 4 = g := by
  have e : leb 4 (4 + ((mCopy f g).length : Int)) ++ mCopy f g = (leb 4 (4 + ((mCopy f g).length : Int)) ++ (leb 1 110 ++ (leb 2 1 ++ leb 4 f))) ++ (leb 4 g ++ leb 2 0) := by
    conv => lhs; rhs; unfold mCopy
    simp only [List.append_assoc]
  unfold msgA
  rw [e]
  exact nu_lg2 4 rfl (by rw [show (256 : Int) ^ 4 = 4294967296 by decide]; omega)
theorem mAtt_f (hf : 0 ≤ f ∧ f ≤ 4294967295) : nu (msgA (mAtt f u)) 7 4 = f := by
  have e : leb 4 (4 + ((mAtt f u).length : Int)) ++ mAtt f u = (leb 4 (4 + ((mAtt f u).length : Int)) ++ (leb 1 104 ++ leb 2 1)) ++ (leb 4 f ++ (leb 4 4294967295 ++ (leb 2 3 ++ (usL u ++ leb 2 0)))) := by
    conv => lhs; rhs; unfold mAtt
    simp only [List.append_assoc]
  unfold msgA
  rw [e]
  exact nu_lg2 4 rfl (by rw [show (256 : Int) ^ 4 = 4294967296 by decide]; omega)
/-- an answer 0 of a well-made message: its parts -/
theorem tE_0 (h : tE P s l = 0) (hl : 3 ≤ l.length ∧ l.length ≤ 416) : srE (gM1 P (seg (msgA l) 0 (4 + (l.length : Int)).toNat)) s 0 (lg l 0) (msgA l) (4 + (l.length : Int)) = 0 ∧ tA P s l = ansL (msgA l) (lg l 0 + 1) (srL (gM1 P (seg (msgA l) 0 (4 + (l.length : Int)).toNat)) s 0 (lg l 0) (msgA l) (4 + (l.length : Int))) := by
  unfold tE trE at h
  have h2 := h
  unfold srvE at h2
  rw [if_neg (fun q => q ⟨by omega, msgA_z hl.2⟩), msgA_4 (by omega)] at h2
  have h3 : ¬ gM1 P (seg (msgA l) 0 (4 + (l.length : Int)).toNat) 2313 (2 * s + 0) < 4 + (l.length : Int) := fun q => by
    rw [if_pos q] at h2
    omega
  rw [if_neg h3] at h2
  refine ⟨h2, ?_⟩
  unfold tA trA srvA
  rw [if_neg (fun q => q ⟨by omega, msgA_z hl.2⟩), if_pos h, if_pos h, msgA_4 (by omega)]
theorem qPath_gM1 {n : Int} : qPath (gM1 P R) s n = qPath P s n := by
  unfold qPath
  rw [gM1_f (by decide) (by decide) (by decide)]
theorem qKind_rng {n : Int} : 0 ≤ qKind P s n ∧ qKind P s n ≤ 128 := by
  unfold qKind
  (repeat' split) <;> decide
theorem walk_ok (hG : GI T U P) (hT : 0 ≤ T) (hT2 : T + 201 ≤ 2147483647) (hs : 0 ≤ s ∧ s < 3) (hl : byt nm) (hn : nm.length ≤ 400) (hf : 0 ≤ f ∧ f ≤ 4294967295) (h : tE P s (mWalk f g nm) = 0) : ∃ n, oN (gM1 P (seg (msgA (mWalk f g nm)) 0 (4 + ((mWalk f g nm).length : Int)).toNat)) s n ∧ kPath (tA P s (mWalk f g nm)) = qPath P s n ∧ nu (lg (tA P s (mWalk f g nm))) 14 4 = qPath P s n ∧ kKind (tA P s (mWalk f g nm)) = qKind (gM1 P (seg (msgA (mWalk f g nm)) 0 (4 + ((mWalk f g nm).length : Int)).toNat)) s n ∧ ((tA P s (mWalk f g nm)).length : Int) = 22 ∧ 0 ≤ qPath P s n ∧ qPath P s n ≤ T + 201 := by
  have hlen := mWalk_len (f := f) (g := g) (nm := nm)
  obtain ⟨h1, h2⟩ := tE_0 h ⟨by omega, by omega⟩
  have hbl : byt (mWalk f g nm) := byt_app (byt_app (byt_app (byt_app (byt_app (byt_app (byt_leb 1 _) (byt_leb 2 _)) (byt_leb 4 _)) (byt_leb 4 _)) (byt_leb 2 _)) (byt_leb 2 _)) hl
  obtain ⟨P1, hP1⟩ : ∃ P1, gM1 P (seg (msgA (mWalk f g nm)) 0 (4 + ((mWalk f g nm).length : Int)).toNat) = P1 := ⟨_, rfl⟩
  have hG1 : GI (T + 1) U P1 := by
    rw [← hP1]
    exact GI_gM1 hG (by rw [msgA_seg]; exact msgA_byt hbl) (by rw [seg_len]; omega)
  rw [hP1] at h1 h2 ⊢
  rw [mWalk_0] at h1 h2
  have h3 : wlE P1 s 0 (msgA (mWalk f g nm)) (4 + ((mWalk f g nm).length : Int)) = 0 := h1
  obtain ⟨e0, e1, e2, e3⟩ := wlE_0 h3
  have e4 := qFid_in hs (by decide) e1
  have h4 : srL P1 s 0 110 (msgA (mWalk f g nm)) (4 + ((mWalk f g nm).length : Int)) = wlL P1 s 0 (msgA (mWalk f g nm)) (4 + ((mWalk f g nm).length : Int)) := rfl
  rw [h4] at h2
  have hst : wkS (msgA (mWalk f g nm)) (4 + ((mWalk f g nm).length : Int)) (nu (msgA (mWalk f g nm)) 15 2).toNat 17 = [(19, (nm.length : Int))] := by
    rw [mWalk_n]
    show wkS _ _ (0 + 1) 17 = _
    unfold wkS
    have hsE : sE (msgA (mWalk f g nm)) (4 + ((mWalk f g nm).length : Int)) 17 = 19 + (nm.length : Int) := by
      unfold sE
      rw [mWalk_k hn, if_neg (by omega), if_neg (by omega)]
      omega
    rw [hsE, if_neg (by omega), mWalk_k hn]
    rfl
  have hW : wlW P1 s 0 (msgA (mWalk f g nm)) (4 + ((mWalk f g nm).length : Int)) = wlk P1 s (P1 2308 (qFid P1 s 0 (nu (msgA (mWalk f g nm)) 7 4))) [seg (msgA (mWalk f g nm)) 19 (nm.length : Int).toNat] (P1 2306 (qFid P1 s 0 (nu (msgA (mWalk f g nm)) 7 4))) := by
    unfold wlW
    rw [hst]
    rfl
  obtain ⟨n0, hn0⟩ : ∃ n0, P1 2306 (qFid P1 s 0 (nu (msgA (mWalk f g nm)) 7 4)) = n0 := ⟨_, rfl⟩
  obtain ⟨u0, hu0⟩ : ∃ u0, P1 2308 (qFid P1 s 0 (nu (msgA (mWalk f g nm)) 7 4)) = u0 := ⟨_, rfl⟩
  obtain ⟨x, hx⟩ : ∃ x, seg (msgA (mWalk f g nm)) 19 (nm.length : Int).toNat = x := ⟨_, rfl⟩
  rw [hn0, hu0, hx] at hW
  have hN := oN_fid hG1 hs (k := qFid P1 s 0 (nu (msgA (mWalk f g nm)) 7 4)) (by omega) e4.2.2 e3
  rw [hn0] at hN
  have h5 : (wlW P1 s 0 (msgA (mWalk f g nm)) (4 + ((mWalk f g nm).length : Int))).1 ≠ 0 := fun q => by
    have hw1 : 1 ≤ (wlk P1 s u0 [x] n0).2.2.1 := by
      have := (wlk_le P1 s u0 [x] n0).2 (by rw [← hW, q]; exact Nat.zero_lt_one)
      exact this.1
    unfold wlE at h3
    (repeat' split at h3) <;> first | (exfalso; omega) | skip
    · rw [hW] at h3
      omega
    · rename_i c
      rw [mWalk_n] at c
      exact c ⟨by decide, q⟩
  have hq : qSt P1 s n0 u0 x = 0 := Classical.byContradiction (fun q => h5 (by rw [hW]; unfold wlk; rw [if_neg q]))
  have hw2 : wlk P1 s u0 [x] n0 = (1, qTo P1 s n0 x, 0, qidL P1 s (qTo P1 s n0 x) ++ []) := by
    unfold wlk
    rw [if_pos hq]
    rfl
  have hN2 : oN P1 s (qTo P1 s n0 x) := by
    rcases qSt_v P1 s n0 u0 x with ⟨-, g1, -, g2⟩ | gg
    · exact oN_qTo hG1 hN g1 g2
    · omega
  have hL : wlL P1 s 0 (msgA (mWalk f g nm)) (4 + ((mWalk f g nm).length : Int)) = leb 2 1 ++ qidL P1 s (qTo P1 s n0 x) := by
    unfold wlL
    rw [hW, hw2, List.append_nil]
    rfl
  rw [hL] at h2
  have hp := qPath_i hG1.iv hN2.1 (by omega)
  have hP2 : qPath P1 s (qTo P1 s n0 x) = qPath P s (qTo P1 s n0 x) := by rw [← hP1, qPath_gM1]
  have e256 : (256 : Int) ^ 8 = 18446744073709551616 := by decide
  have e2564 : (256 : Int) ^ 4 = 4294967296 := by decide
  refine ⟨qTo P1 s n0 x, hN2, ?_, ?_, ?_, ?_, by omega, by omega⟩
  · unfold kPath
    rw [h2, ← hP2]
    unfold ansL qidL
    rw [show ∀ A B C D E F : List Int, A ++ (B ++ (C ++ ((D ++ E) ++ F))) = (A ++ (B ++ (C ++ (D ++ E)))) ++ (F ++ []) by intros; simp only [List.append_assoc, List.append_nil]]
    exact nu_lg2 8 rfl ⟨hp.1, by omega⟩
  · rw [h2, ← hP2]
    unfold ansL qidL
    rw [show leb 8 (qPath P1 s (qTo P1 s n0 x)) = leb 4 (qPath P1 s (qTo P1 s n0 x)) ++ leb 4 (qPath P1 s (qTo P1 s n0 x) / 256 / 256 / 256 / 256) from rfl, show ∀ A B C D E F G : List Int, A ++ (B ++ (C ++ ((D ++ E) ++ (F ++ G)))) = (A ++ (B ++ (C ++ (D ++ E)))) ++ (F ++ G) by intros; simp only [List.append_assoc]]
    exact nu_lg2 4 rfl ⟨hp.1, by omega⟩
  · have hk := qKind_rng (P := P1) (s := s) (n := qTo P1 s n0 x)
    unfold kKind
    rw [h2]
    unfold ansL qidL
    rw [show ∀ A B C D E F : List Int, A ++ (B ++ (C ++ ((D ++ E) ++ F))) = (A ++ (B ++ C)) ++ (D ++ (E ++ F)) by intros; simp only [List.append_assoc]]
    have e1 : (256 : Int) ^ 1 = 256 := by decide
    exact nu_lg2 1 rfl ⟨hk.1, by omega⟩
  · rw [h2]
    rfl
theorem att_ok (hG : GI T U P) (hs : 0 ≤ s ∧ s < 3) (h : tE P s (mAtt f u) = 0) : nu (lg (tA P s (mAtt f u))) 12 8 = 0 ∧ nu (lg (tA P s (mAtt f u))) 7 1 = 128 ∧ ((tA P s (mAtt f u)).length : Int) = 20 := by
  obtain ⟨h1, h2⟩ := tE_0 h ⟨by rw [mAtt_len]; decide, by rw [mAtt_len]; decide⟩
  obtain ⟨P1, hP1⟩ : ∃ P1, gM1 P (seg (msgA (mAtt f u)) 0 (4 + ((mAtt f u).length : Int)).toNat) = P1 := ⟨_, rfl⟩
  rw [hP1] at h1 h2
  rw [mAtt_0] at h1 h2
  have h4 : srL P1 s 0 104 (msgA (mAtt f u)) (4 + ((mAtt f u).length : Int)) = qidL (atP P1 s 0 (msgA (mAtt f u))) s 0 := rfl
  rw [h4] at h2
  have r : ∀ k : Nat, (k = 2293 ∨ k = 2291) → ∀ j : Int, atP P1 s 0 (msgA (mAtt f u)) k j = P k j := by
    intro k hk j
    have r1 : atP P1 s 0 (msgA (mAtt f u)) k j = P1 k j := RF_gMake k j (by rcases hk with rfl | rfl <;> rfl)
    rw [r1, ← hP1]
    exact gM1_f (by rcases hk with rfl | rfl <;> decide) (by rcases hk with rfl | rfl <;> decide) (by rcases hk with rfl | rfl <;> decide)
  have hp : qPath (atP P1 s 0 (msgA (mAtt f u))) s 0 = 0 := by
    unfold qPath
    split
    · rename_i q
      rw [r _ (Or.inr rfl), show 64 * s + (0 : Int) = 64 * s by omega]
      exact (hG.2.1.1 s hs.1 q).2.2.2
    · rfl
  have hk : qKind (atP P1 s 0 (msgA (mAtt f u))) s 0 = 128 := by
    unfold qKind
    rw [if_pos]
    unfold qMode
    split
    · rename_i q
      rw [r _ (Or.inl rfl), show 64 * s + (0 : Int) = 64 * s by omega]
      exact (hG.2.1.1 s hs.1 q).2.2.1
    · decide
  refine ⟨?_, ?_, by rw [h2]; rfl⟩
  · rw [h2]
    unfold ansL qidL
    rw [hp, show ∀ A B D E F : List Int, A ++ (B ++ ((D ++ E) ++ F)) = (A ++ (B ++ (D ++ E))) ++ (F ++ []) by intros; simp only [List.append_assoc, List.append_nil]]
    exact nu_lg2 8 rfl (by decide)
  · rw [h2]
    unfold ansL qidL
    rw [hk, show ∀ A B D E F : List Int, A ++ (B ++ ((D ++ E) ++ F)) = (A ++ B) ++ (D ++ (E ++ F)) by intros; simp only [List.append_assoc]]
    exact nu_lg2 1 rfl (by decide)
/-! asks -/
theorem g_askOne {t : Int} (hP : PM σ0 P S σ) (hJ : IV true T U S) (hG : GI T U P) (hT : T + 49 ≤ 2147483000) (hs : 0 ≤ s ∧ s < 3) (ht : t = 120 ∨ t = 122 ∨ t = 124) : CL fb (d + 11) 345 [vR (some 2281), vI t, vI s, vI f] σ (rG T U σ0 P S s (mOne t f)) := by
  have hm : 0 ≤ P 2281 42 ∧ P 2281 42 ≤ T := IV.n hG.iv 42 42 rfl rfl (by decide)
  have e : lg (mOne t f) 0 = t := by
    show t % 256 = t
    omega
  exact CL.mono (k_askOne hP hJ (hG.si (by omega) hs.1) hT hs) (fun r σ1 h => rK_rG h hG (by omega) hs (byt_app (byt_app (byt_leb 1 _) (byt_leb 2 _)) (byt_leb 4 _)) ⟨by show 3 ≤ 7; decide, by show 7 ≤ 416; decide⟩ (by rw [e]; omega) (by rw [e]; omega) (by rw [e]; omega))
theorem g_askCopy (hP : PM σ0 P S σ) (hJ : IV true T U S) (hG : GI T U P) (hT : T + 49 ≤ 2147483000) (hs : 0 ≤ s ∧ s < 3) (hg : 0 ≤ g ∧ g ≤ 47) : CL fb (d + 11) 335 [vR (some 2281), vI s, vI f, vI g] σ (rG T U σ0 P S s (mCopy f g)) := by
  have hm : 0 ≤ P 2281 42 ∧ P 2281 42 ≤ T := IV.n hG.iv 42 42 rfl rfl (by decide)
  exact CL.mono (k_askCopy hP hJ (hG.si (by omega) hs.1) hT hs) (fun r σ1 h => rK_rG h hG (by omega) hs (byt_app (byt_app (byt_app (byt_app (byt_leb 1 _) (byt_leb 2 _)) (byt_leb 4 _)) (byt_leb 4 _)) (byt_leb 2 _)) ⟨by show 3 ≤ 13; decide, by show 13 ≤ 416; decide⟩ (by show (110 : Int) ≠ 100; decide) (fun q => absurd (show (110 : Int) = 104 from q) (by decide)) (fun _ => by rw [mCopy_g (by omega)]; exact hg.2))
theorem g_askOpen {m : Int} (hP : PM σ0 P S σ) (hJ : IV true T U S) (hG : GI T U P) (hT : T + 49 ≤ 2147483000) (hs : 0 ≤ s ∧ s < 3) : CL fb (d + 11) 349 [vR (some 2281), vI s, vI f, vI m] σ (rG T U σ0 P S s (mOpen f m)) := by
  have hm : 0 ≤ P 2281 42 ∧ P 2281 42 ≤ T := IV.n hG.iv 42 42 rfl rfl (by decide)
  exact CL.mono (k_askOpen hP hJ (hG.si (by omega) hs.1) hT hs) (fun r σ1 h => rK_rG h hG (by omega) hs (byt_app (byt_app (byt_app (byt_leb 1 _) (byt_leb 2 _)) (byt_leb 4 _)) (byt_leb 1 _)) ⟨by show 3 ≤ 8; decide, by show 8 ≤ 416; decide⟩ (by show (112 : Int) ≠ 100; decide) (fun q => absurd (show (112 : Int) = 104 from q) (by decide)) (fun q => absurd (show (112 : Int) = 110 from q) (by decide)))
theorem g_askRead {o n : Int} (hP : PM σ0 P S σ) (hJ : IV true T U S) (hG : GI T U P) (hT : T + 49 ≤ 2147483000) (hs : 0 ≤ s ∧ s < 3) : CL fb (d + 11) 350 [vR (some 2281), vI s, vI f, vI o, vI n] σ (rG T U σ0 P S s (mRead f o n)) := by
  have hm : 0 ≤ P 2281 42 ∧ P 2281 42 ≤ T := IV.n hG.iv 42 42 rfl rfl (by decide)
  exact CL.mono (k_askRead hP hJ (hG.si (by omega) hs.1) hT hs) (fun r σ1 h => rK_rG h hG (by omega) hs (byt_app (byt_app (byt_app (byt_app (byt_leb 1 _) (byt_leb 2 _)) (byt_leb 4 _)) (byt_leb 8 _)) (byt_leb 4 _)) ⟨by show 3 ≤ 19; decide, by show 19 ≤ 416; decide⟩ (by show (116 : Int) ≠ 100; decide) (fun q => absurd (show (116 : Int) = 104 from q) (by decide)) (fun q => absurd (show (116 : Int) = 110 from q) (by decide)))
theorem g_askAttach (hP : PM σ0 P S σ) (hJ : IV true T U S) (hG : GI T U P) (hT : T + 49 ≤ 2147483000) (hs : 0 ≤ s ∧ s < 3) (hg : 0 ≤ g ∧ g ≤ 47) (hu : 0 ≤ u ∧ u ≤ 3) : CL fb (d + 11) 338 [vR (some 2281), vI s, vI g, vI u] σ (rG T U σ0 P S s (mAtt g u)) := by
  have e : leb 1 104 ++ leb 2 1 ++ leb 4 g ++ leb 4 4294967295 ++ leb 2 3 ++ leb 1 (ubyte (3 * u + 0)) ++ leb 1 (ubyte (3 * u + 1)) ++ leb 1 (ubyte (3 * u + 2)) ++ leb 2 0 = mAtt g u := by
    unfold mAtt usL
    simp only [List.append_assoc]
  refine CL_in mL_338 rfl ?_
  show WP fb _ 338 0 [some (vR (some 2281)), some (vI s), some (vI g), some (vI u), none] [] σ _
  refine x_lr (z := some 2281) T_338_0 rfl ?_
  refine x_ic T_338_1 ?_
  refine x_ic T_338_3 ?_
  refine x_cv3 T_338_4 mN_228 mL_228 (Nat.le_of_ble_eq_true rfl) mO_228 (PM.t hP) (Nat.le_of_ble_eq_true rfl) (r_begin hP hJ) ?_
  rintro _ σ ⟨rfl, S1, hP, hQ⟩
  refine cV ?_
  refine x_lr (z := some 2281) T_338_7 rfl ?_
  refine x_ic T_338_8 ?_
  refine x_li (z := g) T_338_9 rfl ?_
  refine x_i2l T_338_10 ?_
  refine x_cv3 T_338_11 mN_229 mL_229 (Nat.le_of_ble_eq_true rfl) mO_229 (PM.t hP) (Nat.le_of_ble_eq_true rfl) (r_askPut 4 rfl hP hQ (by decide) (by omega)) ?_
  rintro _ σ ⟨rfl, S1, hP, hQ⟩
  refine cV ?_
  refine x_lr (z := some 2281) T_338_14 rfl ?_
  refine x_ic T_338_15 ?_
  refine x_lc T_338_16 ?_
  refine x_cv3 T_338_19 mN_229 mL_229 (Nat.le_of_ble_eq_true rfl) mO_229 (PM.t hP) (Nat.le_of_ble_eq_true rfl) (r_askPut 4 rfl hP hQ (by decide) (by omega)) ?_
  rintro _ σ ⟨rfl, S1, hP, hQ⟩
  refine cV ?_
  refine x_lr (z := some 2281) T_338_22 rfl ?_
  refine x_ic T_338_23 ?_
  refine x_lc T_338_24 ?_
  refine x_cv3 T_338_27 mN_229 mL_229 (Nat.le_of_ble_eq_true rfl) mO_229 (PM.t hP) (Nat.le_of_ble_eq_true rfl) (r_askPut 2 rfl hP hQ (by decide) (by omega)) ?_
  rintro _ σ ⟨rfl, S1, hP, hQ⟩
  refine cV ?_
  refine x_ic T_338_30 ?_
  refine x_si (ls1 := [some (vR (some 2281)), some (vI s), some (vI g), some (vI u), some (vI 0)]) T_338_31 rfl ?_
  refine x_li (z := 0) T_338_33 rfl ?_
  refine x_ic T_338_35 ?_
  refine x_ic2 T_338_36 (fun h => absurd (show 3 ≤ (0 : Int) from h) (by decide)) (fun _ => ?_)
  refine x_lr (z := some 2281) T_338_39 rfl ?_
  refine x_ic T_338_40 ?_
  refine x_lr (z := some 2281) T_338_41 rfl ?_
  refine x_gR (z := some 2284) T_338_42 F_17_2 (PM.t hP) (PM.r hP 2 2284 rfl) ?_
  refine x_ic T_338_45 ?_
  refine x_li (z := u) T_338_46 rfl ?_
  refine x_ib (w := (3 * u)) T_338_47 (fun h => absurd h.1 (by decide)) (w32_id (by omega) (by omega)) ?_
  refine x_li (z := 0) T_338_48 rfl ?_
  refine x_ib (w := ((3 * u) + 0)) T_338_50 (fun h => absurd h.1 (by decide)) (w32_id (by omega) (by omega)) ?_
  refine x_alI (z := ubyte ((3 * u) + 0)) T_338_51 (by decide) (PM.ta hP 2284 0 12 rfl rfl) (by omega) (by omega) (PM.c2284 hP (by omega) (by omega)) ?_
  refine x_i2l T_338_52 ?_
  refine x_cv3 T_338_53 mN_229 mL_229 (Nat.le_of_ble_eq_true rfl) mO_229 (PM.t hP) (Nat.le_of_ble_eq_true rfl) (r_askPut 1 rfl hP hQ (by decide) (by omega)) ?_
  rintro _ σ ⟨rfl, S1, hP, hQ⟩
  refine cV ?_
  refine x_inc (w := 1) (ls1 := [some (vR (some 2281)), some (vI s), some (vI g), some (vI u), some (vI 1)]) T_338_56 rfl (w32_id (by omega) (by omega)) rfl ?_
  refine x_goto T_338_59 ?_
  refine x_li (z := 1) T_338_33 rfl ?_
  refine x_ic T_338_35 ?_
  refine x_ic2 T_338_36 (fun h => absurd (show 3 ≤ (1 : Int) from h) (by decide)) (fun _ => ?_)
  refine x_lr (z := some 2281) T_338_39 rfl ?_
  refine x_ic T_338_40 ?_
  refine x_lr (z := some 2281) T_338_41 rfl ?_
  refine x_gR (z := some 2284) T_338_42 F_17_2 (PM.t hP) (PM.r hP 2 2284 rfl) ?_
  refine x_ic T_338_45 ?_
  refine x_li (z := u) T_338_46 rfl ?_
  refine x_ib (w := (3 * u)) T_338_47 (fun h => absurd h.1 (by decide)) (w32_id (by omega) (by omega)) ?_
  refine x_li (z := 1) T_338_48 rfl ?_
  refine x_ib (w := ((3 * u) + 1)) T_338_50 (fun h => absurd h.1 (by decide)) (w32_id (by omega) (by omega)) ?_
  refine x_alI (z := ubyte ((3 * u) + 1)) T_338_51 (by decide) (PM.ta hP 2284 0 12 rfl rfl) (by omega) (by omega) (PM.c2284 hP (by omega) (by omega)) ?_
  refine x_i2l T_338_52 ?_
  refine x_cv3 T_338_53 mN_229 mL_229 (Nat.le_of_ble_eq_true rfl) mO_229 (PM.t hP) (Nat.le_of_ble_eq_true rfl) (r_askPut 1 rfl hP hQ (by decide) (by omega)) ?_
  rintro _ σ ⟨rfl, S1, hP, hQ⟩
  refine cV ?_
  refine x_inc (w := 2) (ls1 := [some (vR (some 2281)), some (vI s), some (vI g), some (vI u), some (vI 2)]) T_338_56 rfl (w32_id (by omega) (by omega)) rfl ?_
  refine x_goto T_338_59 ?_
  refine x_li (z := 2) T_338_33 rfl ?_
  refine x_ic T_338_35 ?_
  refine x_ic2 T_338_36 (fun h => absurd (show 3 ≤ (2 : Int) from h) (by decide)) (fun _ => ?_)
  refine x_lr (z := some 2281) T_338_39 rfl ?_
  refine x_ic T_338_40 ?_
  refine x_lr (z := some 2281) T_338_41 rfl ?_
  refine x_gR (z := some 2284) T_338_42 F_17_2 (PM.t hP) (PM.r hP 2 2284 rfl) ?_
  refine x_ic T_338_45 ?_
  refine x_li (z := u) T_338_46 rfl ?_
  refine x_ib (w := (3 * u)) T_338_47 (fun h => absurd h.1 (by decide)) (w32_id (by omega) (by omega)) ?_
  refine x_li (z := 2) T_338_48 rfl ?_
  refine x_ib (w := ((3 * u) + 2)) T_338_50 (fun h => absurd h.1 (by decide)) (w32_id (by omega) (by omega)) ?_
  refine x_alI (z := ubyte ((3 * u) + 2)) T_338_51 (by decide) (PM.ta hP 2284 0 12 rfl rfl) (by omega) (by omega) (PM.c2284 hP (by omega) (by omega)) ?_
  refine x_i2l T_338_52 ?_
  refine x_cv3 T_338_53 mN_229 mL_229 (Nat.le_of_ble_eq_true rfl) mO_229 (PM.t hP) (Nat.le_of_ble_eq_true rfl) (r_askPut 1 rfl hP hQ (by decide) (by omega)) ?_
  rintro _ σ ⟨rfl, S1, hP, hQ⟩
  refine cV ?_
  refine x_inc (w := 3) (ls1 := [some (vR (some 2281)), some (vI s), some (vI g), some (vI u), some (vI 3)]) T_338_56 rfl (w32_id (by omega) (by omega)) rfl ?_
  refine x_goto T_338_59 ?_
  refine x_li (z := 3) T_338_33 rfl ?_
  refine x_ic T_338_35 ?_
  refine x_ic2 T_338_36 (fun _ => ?_) (fun h => absurd (show 3 ≤ (3 : Int) by decide) h)
  refine x_lr (z := some 2281) T_338_62 rfl ?_
  refine x_ic T_338_63 ?_
  refine x_lc T_338_64 ?_
  refine x_cv3 T_338_65 mN_229 mL_229 (Nat.le_of_ble_eq_true rfl) mO_229 (PM.t hP) (Nat.le_of_ble_eq_true rfl) (r_askPut 2 rfl hP hQ (by decide) (by omega)) ?_
  rintro _ σ ⟨rfl, S1, hP, hQ⟩
  refine cV ?_
  refine x_lr (z := some 2281) T_338_68 rfl ?_
  refine x_li (z := s) T_338_69 rfl ?_
  refine x_cv2 T_338_70 mN_231 mL_231 (Nat.le_of_ble_eq_true rfl) mO_231 (PM.t hP) (Nat.le_of_ble_eq_true rfl) ((e ▸ m_trG (d := d) hP hQ hG hT hs (by rw [e, mAtt_len]; decide) (by rw [e, mAtt_0]; decide) (fun _ => by rw [e, mAtt_f (by omega)]; exact hg.2) (fun q => absurd q (by rw [e, mAtt_0]; decide)) : CL fb (d + 10) 231 [vR (some 2281), vI s] σ (rG T U σ0 P S s (mAtt g u)))) ?_
  rintro _ σ ⟨S2, rfl, h⟩
  refine cI ?_
  refine x_ri T_338_73 ?_
  exact ⟨S2, rfl, h⟩
theorem r_askRaw_loop {a b w0 : Int} (ha : 0 ≤ a) (hb : b ≤ 200) (hw0 : w0 + (b - a) ≤ 420) (hJ : IV true T U S) : ∀ (m : Nat) (k : Int) (σ : hM) (S1 : qR), k + m = b → a ≤ k → PM σ0 P S1 σ → RQ T U S S1 (w0 + (k - a)) (l ++ seg (S 2346) a (k - a).toNat) → WP fb (d + 1) 343 11 [some (vR (some 2281)), some (vI a), some (vI b), some (vI k)] [] σ (rQ T U σ0 P S (w0 + (b - a)) (l ++ seg (S 2346) a (b - a).toNat)) := by
  intro m
  induction m with
  | zero =>
    intro k σ S1 h1 h2 hP hQ
    have e : k = b := by omega
    rw [e] at hQ
    refine x_li (z := k) T_343_11 rfl ?_
    refine x_li (z := b) T_343_12 rfl ?_
    refine x_ic2 T_343_13 (fun _ => ?_) (fun h => absurd (show b ≤ k by omega) h)
    refine x_rv T_343_34 ?_
    exact ⟨rfl, S1, hP, hQ⟩
  | succ m ih =>
    intro k σ S1 h1 h2 hP hQ
    have er : S1 2346 k = S 2346 k := hQ.2.2.2.2.2.1 _ _ (by decide) (by decide)
    have br : 0 ≤ S 2346 k ∧ S 2346 k ≤ 255 := IV.a hJ 2346 0 200 rfl rfl rfl (by omega) (by omega)
    refine x_li (z := k) T_343_11 rfl ?_
    refine x_li (z := b) T_343_12 rfl ?_
    refine x_ic2 T_343_13 (fun h => absurd (show b ≤ k from h) (by omega)) (fun _ => ?_)
    refine x_lr (z := some 2281) T_343_16 rfl ?_
    refine x_ic T_343_17 ?_
    refine x_lr (z := some 2281) T_343_18 rfl ?_
    refine x_gR (z := some 2346) T_343_19 F_17_78 (PM.t hP) (PM.r hP 78 2346 rfl) ?_
    refine x_li (z := k) T_343_22 rfl ?_
    refine x_alI (z := S 2346 k) T_343_23 (by decide) (PM.ta hP 2346 0 200 rfl rfl) (by omega) (by omega) (Eq.trans (PM.aS hP 2346 rfl rfl (by omega)) er) ?_
    refine x_i2l T_343_24 ?_
    refine x_cv3 T_343_25 mN_229 mL_229 (Nat.le_of_ble_eq_true rfl) mO_229 (PM.t hP) (Nat.le_of_ble_eq_true rfl) (r_askPut 1 rfl hP hQ (by decide) (by omega)) ?_
    rintro _ σ ⟨rfl, S1, hP, hQ⟩
    refine cV ?_
    refine x_inc (w := (k + 1)) (ls1 := [some (vR (some 2281)), some (vI a), some (vI b), some (vI (k + 1))]) T_343_28 rfl (w32_id (by omega) (by omega)) rfl ?_
    refine x_goto T_343_31 ?_
    refine ih (k + 1) σ _ (by omega) (by omega) hP ?_
    rw [leb_one br, List.append_assoc] at hQ
    rw [show w0 + (k + 1 - a) = w0 + (k - a) + 1 by omega, show (k + 1 - a).toNat = (k - a).toNat + 1 by omega, seg_snoc, show a + ((k - a).toNat : Int) = k by omega]
    exact hQ
end MKER2
