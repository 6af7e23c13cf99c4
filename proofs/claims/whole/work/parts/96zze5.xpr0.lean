/-! A clunk, and a process that goes: one after the other, or the other way round. -/
def pr0 (P : qR) (p : Int) : qR := rU (rU P 2320 p 0) 2321 p 0
def prL : List Nat := [2320, 2321]
section XPRZ
variable {A B P Q : qR} {s n u k v f c t z o p w i m2 : Int} {l : List Int} {a : Int → Int}
theorem pr0_rf : RF prL (pr0 A p) A := RF_up (RF_up RF_rfl rfl) rfl
theorem RFp_m1 (r : RF prL A B) : RF prL (gM1 A l) (gM1 B l) := by
  have e1 : A 2281 42 = B 2281 42 := r _ _ rfl
  have e2 : A 2281 45 = B 2281 45 := r _ _ rfl
  unfold gM1 gKp
  rw [e1, e2]
  exact RF_rU (RF_rU (RF_rU (RF_rW r)))
theorem RFp_gr (r : RF prL A B) : RF prL (gGrow A s n u) (gGrow B s n u) := by
  unfold gGrow
  rw [r 2292 _ rfl]
  exact RF_rU (RF_rU r)
theorem RFp_rm (r : RF prL A B) : RF prL (gRem A s n u) (gRem B s n u) := by
  have r0 : RF prL (gRem0 A s n u) (gRem0 B s n u) := by
    unfold gRem0
    rw [r 2302 _ rfl, r 2301 _ rfl, r 2297 _ rfl, r 2290 _ rfl]
    exact RFp_gr (RF_rU (RF_rU (RF_rU (RF_rU r))))
  intro f k hf
  unfold gRem gGone
  rw [r0 f k hf, r0 2310 k rfl, r0 2304 k rfl, r0 2306 k rfl]
theorem RFp_fi (r : RF prL A B) : ∀ (m : Nat) (k : Int), fiFid A v m k = fiFid B v m k
  | 0, _ => rfl
  | m + 1, k => by
    show (if ¬ A 2304 k = 0 ∧ A 2305 k = v then k else fiFid A v m (k + 1)) = (if ¬ B 2304 k = 0 ∧ B 2305 k = v then k else fiFid B v m (k + 1))
    rw [r 2304 k rfl, r 2305 k rfl, RFp_fi r m (k + 1)]
theorem RFp_uI (r : RF prL A B) : ∀ (m : Nat) (f g : Int), enI A s n v m f g = enI B s n v m f g
  | 0, _, _ => rfl
  | m + 1, f, g => by
    unfold enI
    rw [RFp_uI r m, r 2289 _ rfl, r 2290 _ rfl, r 2291 _ rfl, r 2291 _ rfl]
theorem RFp_uO (r : RF prL A B) : ∀ (m : Nat) (v : Int), enO A s n m v = enO B s n m v
  | 0, v => RFp_uI r _ _ _
  | m + 1, v => by
    unfold enO
    rw [RFp_uI r, r 2291 _ rfl, RFp_uO r m]
theorem RFp_rem (r : RF prL A B) : qRem A s n u = qRem B s n u := by
  by_cases q : s = 2
  · unfold qRem
    rw [if_pos (Or.inl q), if_pos (Or.inl q)]
  · have h1 : qUp A s n = qUp B s n := by unfold qUp; rw [r 2290 _ rfl]
    have h2 : ∀ n, qMode A s n = qMode B s n := fun n => by unfold qMode; rw [r 2293 _ rfl]
    have h3 : ∀ n, qUid A s n = qUid B s n := fun n => by unfold qUid; rw [r 2294 _ rfl, r 2322 _ rfl]
    have h4 : ∀ n, qGid A s n = qGid B s n := fun n => by unfold qGid; rw [r 2295 _ rfl, h3]
    have h5 : ∀ n u w, qMv A s n u w = qMv B s n u w := fun n u w => by unfold qMv; rw [h3, h4, h2]
    have h6 : qEnt A s n 0 = qEnt B s n 0 := by
      unfold qEnt
      rw [if_neg q, if_neg q, RFp_uO r]
    unfold qRem
    rw [h1, h5, h2, h6]
theorem RFp_ck (r : RF prL A B) : RF prL (gClunk A s k) (gClunk B s k) := by
  unfold gClunk
  rw [r 2309 k rfl, r 2310 k rfl, r 2306 k rfl, r 2308 k rfl, RFp_rem r]
  refine RF_rU ?_
  split
  · exact RFp_rm r
  · exact r
theorem RFp_clk (r : RF prL A B) (ht : nu (msgA l) 4 1 = 120) : RF prL (tP A s l) (tP B s l) ∧ tE A s l = tE B s l := by
  obtain ⟨R1, hR1⟩ : ∃ q, seg (msgA l) 0 (4 + (l.length : Int)).toNat = q := ⟨_, rfl⟩
  have r1 : RF prL (gM1 A R1) (gM1 B R1) := RFp_m1 r
  have ef : qFid (gM1 A R1) s 0 (nu (msgA l) 7 4) = qFid (gM1 B R1) s 0 (nu (msgA l) 7 4) := RFp_fi r1 48 _
  have eS : srvE (gM1 A R1) s 0 (msgA l) (4 + (l.length : Int)) = srvE (gM1 B R1) s 0 (msgA l) (4 + (l.length : Int)) := by
    unfold srvE
    rw [ht, srE_120, srE_120, ef, r1 2313 _ rfl]
    simp only [onE_120]
  have eA : srvA (gM1 A R1) s 0 (msgA l) (4 + (l.length : Int)) = srvA (gM1 B R1) s 0 (msgA l) (4 + (l.length : Int)) := by
    unfold srvA
    rw [eS, ht, onL_120, onL_120, onL_0, onL_0]
  have eP : RF prL (srvP (gM1 A R1) s 0 (msgA l) (4 + (l.length : Int))) (srvP (gM1 B R1) s 0 (msgA l) (4 + (l.length : Int))) := by
    unfold srvP
    rw [ht, srP_120, srP_120, ef, r1 2313 _ rfl]
    split
    · exact r1
    · split
      · exact r1
      · split
        · rw [onP_120, onP_120]
          split
          · exact r1
          · exact RFp_ck r1
        · exact r1
  have e0 : ∀ X : qR, tP X s l = gM1 (srvP (gM1 X R1) s 0 (msgA l) (4 + (l.length : Int))) (srvA (gM1 X R1) s 0 (msgA l) (4 + (l.length : Int))) := fun X => by rw [← hR1]; rfl
  have e1 : ∀ X : qR, tE X s l = srvE (gM1 X R1) s 0 (msgA l) (4 + (l.length : Int)) := fun X => by rw [← hR1]; rfl
  refine ⟨?_, by rw [e1, e1, eS]⟩
  rw [e0, e0, eA]
  exact RFp_m1 eP
/-- a clunk ends no process -/
theorem tP_dy : tP P s (mOne 120 f) 2321 k = P 2321 k := by
  obtain ⟨R1, hR1⟩ : ∃ q, seg (msgA (mOne 120 f)) 0 (4 + ((mOne 120 f).length : Int)).toNat = q := ⟨_, rfl⟩
  have e0 : tP P s (mOne 120 f) = gM1 (srvP (gM1 P R1) s 0 (msgA (mOne 120 f)) (4 + ((mOne 120 f).length : Int))) (srvA (gM1 P R1) s 0 (msgA (mOne 120 f)) (4 + ((mOne 120 f).length : Int))) := by rw [← hR1]; rfl
  have hd : ∀ X l, gM1 X l 2321 k = X 2321 k := fun X l => gM1_f (by decide) (by decide) (by decide)
  rw [e0, hd]
  have hck : ∀ (X : qR) (j : Int), gClunk X s j 2321 k = X 2321 k := fun X j => by
    unfold gClunk
    rw [rU_f (by decide)]
    split
    · exact RF_gRem 2321 k rfl
    · rfl
  unfold srvP
  rw [mOne_4, srP_120]
  split
  · exact hd _ _
  · split
    · exact hd _ _
    · split
      · rw [onP_120]
        split
        · exact hd _ _
        · rw [hck]
          exact hd _ _
      · exact hd _ _
theorem pr0_is : pr0 A p 2320 k = if k = p then 0 else A 2320 k := by
  have e : pr0 A p 2320 k = rU A 2320 p 0 2320 k := rU_f (by decide)
  rw [e]
  by_cases q : k = p
  · rw [if_pos q, q]
    exact rU_s
  · rw [if_neg q]
    exact rU_k q
theorem pr0_dy : pr0 A p 2321 k = if k = p then 0 else A 2321 k := by
  by_cases q : k = p
  · rw [if_pos q, q]
    exact rU_s
  · rw [if_neg q]
    exact (rU_k q).trans (rU_f (by decide))
theorem pr0_clk : tP (pr0 A p) s (mOne 120 f) = pr0 (tP A s (mOne 120 f)) p := by
  have h := (RFp_clk (s := s) (l := mOne 120 f) (pr0_rf (A := A) (p := p)) mOne_4).1
  funext g k
  by_cases q1 : g = 2320
  · subst q1
    have e1 : ∀ X : qR, tP X s (mOne 120 f) 2320 k = X 2320 k := fun X => tP_f (by decide) (by decide) (by decide) (by decide)
    rw [e1, pr0_is, pr0_is, e1]
  · by_cases q2 : g = 2321
    · subst q2
      rw [tP_dy, pr0_dy, pr0_dy, tP_dy]
    · have e2 : ∀ X : qR, pr0 X p g k = X g k := fun X => (rU_f q2).trans (rU_f q1)
      rw [e2, h g k (by
        show (g == 2320 || (g == 2321 || false)) = false
        rw [Bool.or_false, Bool.or_eq_false_iff]
        exact ⟨beq_eq_false_iff_ne.mpr q1, beq_eq_false_iff_ne.mpr q2⟩)]
theorem pr0_f {g : Nat} (h1 : g ≠ 2320) (h2 : g ≠ 2321) : pr0 A p g k = A g k := (rU_f h2).trans (rU_f h1)
theorem pr0_drM {pt : Int} : ∀ (m : Nat) (j : Int) (A : qR), kDrM pt m j (pr0 A p) = pr0 (kDrM pt m j A) p
  | 0, _, _ => rfl
  | m + 1, j, A => by
    show kDrM pt m (j + 1) (tP (pr0 A p) (pr0 A p 2338 (6 * pt + j)) (mOne 120 (pr0 A p 2339 (6 * pt + j)))) = pr0 (kDrM pt m (j + 1) (tP A (A 2338 (6 * pt + j)) (mOne 120 (A 2339 (6 * pt + j))))) p
    rw [pr0_f (by decide) (by decide), pr0_f (by decide) (by decide), pr0_clk, pr0_drM m (j + 1)]
theorem pr0_enDr {g : Int} : ∀ (m : Nat) (k : Int) (A : qR), enDr g m k (pr0 A p) = pr0 (enDr g m k A) p
  | 0, _, _ => rfl
  | m + 1, k, A => by
    show enDr g m (k + 1) (kDrM (8 * g + k) (pr0 A p 2337 (8 * g + k)).toNat 0 (pr0 A p)) = pr0 (enDr g m (k + 1) (kDrM (8 * g + k) (A 2337 (8 * g + k)).toNat 0 A)) p
    rw [pr0_f (by decide) (by decide), pr0_drM, pr0_enDr m (k + 1)]
theorem pr0_pts {g v : Int} : rU (pr0 A p) 2334 g v = pr0 (rU A 2334 g v) p := by
  funext f k
  unfold pr0 rU
  by_cases q1 : f = 2334
  · subst q1
    simp
  · rw [if_neg (fun c => q1 c.1)]
    simp only [q1, false_and, if_false]
end XPRZ
