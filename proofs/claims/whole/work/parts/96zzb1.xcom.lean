/-! A clunk, and rows that no server reads: one after the other, or the other way round. -/
/-- rows that a clunk reads or writes -/
def ckR : List Nat := [2289, 2290, 2291, 2292, 2293, 2294, 2295, 2296, 2297, 2298, 2299, 2320, 2322, 2304, 2305, 2306, 2307, 2308, 2309, 2310, 2316, 2317, 2281, 2302, 2301, 2313]
section XCOM
variable {fb : Bool} {d : Nat} {σ0 σ : hM} {A B P Q : qR} {s n u k v f c t z o T U p : Int} {l : List Int} {L : List Nat} {a : Int → Int} {ch : Ch}
theorem RF_rU {g : Nat} (r : RF L A B) : RF L (rU A g k v) (rU B g k v) := fun f j hf => by
  show (if f = g ∧ j = k then v else A f j) = (if f = g ∧ j = k then v else B f j)
  rw [r f j hf]
theorem RF_rW {g : Nat} (r : RF L A B) : RF L (rW A g o l) (rW B g o l) := fun f j hf => by
  show (if f = g ∧ _ then _ else A f j) = (if f = g ∧ _ then _ else B f j)
  rw [r f j hf]
theorem ck_fe (r : RF L A B) (hL : ckR.all (fun x => !(L.elem x)) = true) : FE A B := fun f k hf => r f k (el_dj hL (by
  have : fileR.all (fun x => ckR.elem x) = true := by decide
  exact List.all_eq_true.mp this f (List.elem_iff.mp hf)))
theorem RF_cm1 (r : RF L A B) (hL : ckR.all (fun x => !(L.elem x)) = true) : RF L (gM1 A l) (gM1 B l) := by
  have e1 : A 2281 42 = B 2281 42 := r _ _ (el_dj hL rfl)
  have e2 : A 2281 45 = B 2281 45 := r _ _ (el_dj hL rfl)
  unfold gM1 gKp
  rw [e1, e2]
  exact RF_rU (RF_rU (RF_rU (RF_rW r)))
theorem RF_cgr (r : RF L A B) (hL : ckR.all (fun x => !(L.elem x)) = true) : RF L (gGrow A s n u) (gGrow B s n u) := by
  unfold gGrow
  rw [r 2292 _ (el_dj hL rfl)]
  exact RF_rU (RF_rU r)
theorem RF_crm (r : RF L A B) (hL : ckR.all (fun x => !(L.elem x)) = true) : RF L (gRem A s n u) (gRem B s n u) := by
  have r0 : RF L (gRem0 A s n u) (gRem0 B s n u) := by
    unfold gRem0
    rw [r 2302 _ (el_dj hL rfl), r 2301 _ (el_dj hL rfl), r 2297 _ (el_dj hL rfl), r 2290 _ (el_dj hL rfl)]
    exact RF_cgr (RF_rU (RF_rU (RF_rU (RF_rU r)))) hL
  intro f k hf
  unfold gRem gGone
  rw [r0 f k hf, r0 2310 k (el_dj hL rfl), r0 2304 k (el_dj hL rfl), r0 2306 k (el_dj hL rfl)]
theorem ck_fi (r : RF L A B) (hL : ckR.all (fun x => !(L.elem x)) = true) : ∀ (m : Nat) (k : Int), fiFid A v m k = fiFid B v m k
  | 0, _ => rfl
  | m + 1, k => by
    show (if ¬ A 2304 k = 0 ∧ A 2305 k = v then k else fiFid A v m (k + 1)) = (if ¬ B 2304 k = 0 ∧ B 2305 k = v then k else fiFid B v m (k + 1))
    rw [r 2304 k (el_dj hL rfl), r 2305 k (el_dj hL rfl), ck_fi r hL m (k + 1)]
theorem RF_cck (r : RF L A B) (hL : ckR.all (fun x => !(L.elem x)) = true) : RF L (gClunk A s k) (gClunk B s k) := by
  unfold gClunk
  rw [r 2309 k (el_dj hL rfl), r 2310 k (el_dj hL rfl), r 2306 k (el_dj hL rfl), r 2308 k (el_dj hL rfl), (ck_fe r hL).rem]
  refine RF_rU ?_
  split
  · exact RF_crm r hL
  · exact r
theorem srP_120 : srP P s c 120 a z = if z = 11 then onP P s (qFid P s c (nu a 7 4)) 120 else P := rfl
theorem srE_120 : srE P s c 120 a z = if z = 11 then onE P s (qFid P s c (nu a 7 4)) 120 else 14 := rfl
theorem onE_120 : onE P s k 120 = if k < 0 then 6 else 0 := rfl
theorem onP_120 : onP P s k 120 = if k < 0 then P else gClunk P s k := rfl
theorem onL_120 : srL P s c 120 a z = onL P s (qFid P s c (nu a 7 4)) 120 := rfl
theorem onL_0 : onL P s k 120 = [] := rfl
/-- a clunk reads and writes none of these rows -/
theorem RF_clk (r : RF L A B) (hL : ckR.all (fun x => !(L.elem x)) = true) (ht : nu (msgA l) 4 1 = 120) : RF L (tP A s l) (tP B s l) ∧ tE A s l = tE B s l := by
  obtain ⟨R1, hR1⟩ : ∃ q, seg (msgA l) 0 (4 + (l.length : Int)).toNat = q := ⟨_, rfl⟩
  have r1 : RF L (gM1 A R1) (gM1 B R1) := RF_cm1 r hL
  have ef : qFid (gM1 A R1) s 0 (nu (msgA l) 7 4) = qFid (gM1 B R1) s 0 (nu (msgA l) 7 4) := ck_fi r1 hL 48 _
  have eS : srvE (gM1 A R1) s 0 (msgA l) (4 + (l.length : Int)) = srvE (gM1 B R1) s 0 (msgA l) (4 + (l.length : Int)) := by
    unfold srvE
    rw [ht, srE_120, srE_120, ef, r1 2313 _ (el_dj hL rfl)]
    simp only [onE_120]
  have eA : srvA (gM1 A R1) s 0 (msgA l) (4 + (l.length : Int)) = srvA (gM1 B R1) s 0 (msgA l) (4 + (l.length : Int)) := by
    unfold srvA
    rw [eS, ht, onL_120, onL_120, onL_0, onL_0]
  have eP : RF L (srvP (gM1 A R1) s 0 (msgA l) (4 + (l.length : Int))) (srvP (gM1 B R1) s 0 (msgA l) (4 + (l.length : Int))) := by
    unfold srvP
    rw [ht, srP_120, srP_120, ef, r1 2313 _ (el_dj hL rfl)]
    split
    · exact r1
    · split
      · exact r1
      · split
        · rw [onP_120, onP_120]
          split
          · exact r1
          · exact RF_cck r1 hL
        · exact r1
  have e0 : ∀ X : qR, tP X s l = gM1 (srvP (gM1 X R1) s 0 (msgA l) (4 + (l.length : Int))) (srvA (gM1 X R1) s 0 (msgA l) (4 + (l.length : Int))) := fun X => by rw [← hR1]; rfl
  have e1 : ∀ X : qR, tE X s l = srvE (gM1 X R1) s 0 (msgA l) (4 + (l.length : Int)) := fun X => by rw [← hR1]; rfl
  refine ⟨?_, by rw [e1, e1, eS]⟩
  rw [e0, e0, eA]
  exact RF_cm1 eP hL
theorem mOne_4 : nu (msgA (mOne 120 f)) 4 1 = 120 := rfl
/-- a channel is clunked behind a change of a place, or before -/
theorem kDrop_dot {p : Int} : kDrop (gDot P p l) ch = gDot (kDrop P ch) p l := by
  have r : RF [2325, 2326] (gDot P p l) P := fun f k hf => (rU_f (fun e => by rw [e] at hf; exact absurd hf (by decide))).trans (rW_f (fun e => by rw [e] at hf; exact absurd hf (by decide)))
  have h := (RF_clk (s := ch.1) (l := mOne 120 ch.2.1) r (by decide) mOne_4).1
  funext f k
  by_cases q1 : f = 2326
  · subst q1
    have e1 : kDrop (gDot P p l) ch 2326 k = gDot P p l 2326 k := tP_f (by decide) (by decide) (by decide) (by decide)
    have e2 : kDrop P ch 2326 k = P 2326 k := tP_f (by decide) (by decide) (by decide) (by decide)
    rw [e1]
    show (if _ then _ else rW P 2325 (60 * p) l 2326 k) = (if _ then _ else rW (kDrop P ch) 2325 (60 * p) l 2326 k)
    rw [rW_f (by decide), rW_f (by decide), e2]
  · by_cases q2 : f = 2325
    · subst q2
      have e1 : kDrop (gDot P p l) ch 2325 k = gDot P p l 2325 k := tP_f (by decide) (by decide) (by decide) (by decide)
      have e2 : kDrop P ch 2325 k = P 2325 k := tP_f (by decide) (by decide) (by decide) (by decide)
      rw [e1]
      have e3 : gDot P p l 2325 k = rW P 2325 (60 * p) l 2325 k := rU_f (by decide)
      have e4 : gDot (kDrop P ch) p l 2325 k = rW (kDrop P ch) 2325 (60 * p) l 2325 k := rU_f (by decide)
      rw [e3, e4]
      show (if _ then _ else P 2325 k) = (if _ then _ else kDrop P ch 2325 k)
      rw [e2]
    · have e1 : kDrop (gDot P p l) ch f k = kDrop P ch f k := h f k (by
        show (f == 2325 || (f == 2326 || false)) = false
        rw [Bool.or_false, Bool.or_eq_false_iff]
        exact ⟨beq_eq_false_iff_ne.mpr q2, beq_eq_false_iff_ne.mpr q1⟩)
      rw [e1]
      exact ((rU_f q1).trans (rW_f q2)).symm
end XCOM
