/-! The class's groups and points: a point, a member goes. -/
/-- the row of references behind an object, when the one at p goes behind the last -/
def rmR (R : rR) (S : Nat) (p C : Int) : rR := oU (mvR R S p C) (S + 1) (C - 1) (R (S + 1) p)
def rmI (p C k : Int) : Int := if p ≤ k ∧ k + 1 < C then k + 1 else if k = C - 1 then p else k
def pcR : List Nat := [2335, 2336, 2337]
section XGRM
variable {fb : Bool} {d S a b y x0 n st b0 : Nat} {σ0 σ : hM} {W W1 W2 P Q : qR} {R R1 R2 : rR} {i j k x z v s e w f g p pt K T U C : Int}
theorem rmR_at (hp : 0 ≤ p ∧ p < C) : rmR R S p C (S + 1) k = R (S + 1) (rmI p C k) := by
  unfold rmR rmI oU mvR
  by_cases q : k = C - 1
  · rw [if_pos ⟨rfl, q⟩, if_neg (by omega), if_pos q]
  · rw [if_neg (fun c => q c.2)]
    by_cases q2 : p ≤ k ∧ k + 1 < C
    · rw [if_pos ⟨rfl, q2⟩, if_pos q2]
    · rw [if_neg (fun c => q2 c.2), if_neg q2, if_neg q]
theorem rmR_o (hx : y ≠ S + 1) : rmR R S p C y k = R y k := by
  unfold rmR oU mvR
  rw [if_neg (fun c => hx c.1), if_neg (fun c => hx c.1)]
theorem rmR_row (hk : 2000 ≤ k) (hC : C < 2000) (hp : 0 ≤ p ∧ p < C) : rmR R S p C y k = R y k := by
  unfold rmR oU mvR
  rw [if_neg (fun c => by omega), if_neg (fun c => by omega)]
theorem rmI_rng (hp : 0 ≤ p ∧ p < C) (hC : C ≤ z) (hk : 0 ≤ k ∧ k < z) : 0 ≤ rmI p C k ∧ rmI p C k < z := by
  unfold rmI
  split
  · omega
  · split <;> omega
theorem rmI_inj (hp : 0 ≤ p ∧ p < C) (h : rmI p C k = rmI p C j) : k = j := by
  unfold rmI at h
  (repeat' split at h) <;> omega
theorem ARP.rm (h : ARP R (S + 1) n b0 st) (hp : 0 ≤ p ∧ p < C) (hC : C ≤ (n : Int)) : ARP (rmR R S p C) (S + 1) n b0 st := by
  refine ⟨fun k k0 k1 => ?_, fun k j k0 k1 j0 j1 e => ?_⟩
  · have hr := rmI_rng hp hC (k := k) ⟨k0, k1⟩
    rw [rmR_at hp]
    exact h.1 _ hr.1 hr.2
  · rw [rmR_at hp, rmR_at hp] at e
    have hr := rmI_rng hp hC (k := k) ⟨k0, k1⟩
    have hs := rmI_rng hp hC (k := j) ⟨j0, j1⟩
    exact rmI_inj hp (h.2 _ _ hr.1 hr.2 hs.1 hs.2 e)
theorem mbR_5 {f : Nat} (h : mbR.elem f = true) : f = 2338 ∨ f = 2339 ∨ f = 2340 ∨ f = 2341 ∨ f = 2342 := by
  have h2 : f ∈ mbR := List.elem_iff.mp h
  unfold mbR at h2
  simpa only [List.mem_cons, List.not_mem_nil, or_false] using h2
theorem pcR_3 {f : Nat} (h : pcR.elem f = true) : f = 2335 ∨ f = 2336 ∨ f = 2337 := by
  have h2 : f ∈ pcR := List.elem_iff.mp h
  unfold pcR at h2
  simpa only [List.mem_cons, List.not_mem_nil, or_false] using h2
theorem gMv_at {f : Nat} (hf : mbR.elem f = true) {aa bb : Int} : gMv P aa bb f i = if i = bb then P f aa else P f i := by
  rcases mbR_5 hf with q | q | q | q | q <;> (subst q; by_cases q : i = bb)
  all_goals simp [gMv, rU, q]
theorem gMvs_at {f : Nat} (hf : mbR.elem f = true) : ∀ (m : Nat) (j : Int) (P : qR), gMvs k m j P f i = if 6 * k + j ≤ i ∧ i < 6 * k + j + m then P f (i + 6) else P f i
  | 0, j, P => by rw [if_neg (by omega)]; rfl
  | m + 1, j, P => by
    show gMvs k m (j + 1) (gMv P (6 * (k + 1) + j) (6 * k + j)) f i = _
    rw [gMvs_at hf m (j + 1), gMv_at hf, gMv_at hf]
    by_cases q2 : 6 * k + (j + 1) ≤ i ∧ i < 6 * k + (j + 1) + m
    · rw [if_pos q2, if_neg (show ¬ i + 6 = 6 * k + j by omega), if_pos ⟨by omega, by omega⟩]
    · rw [if_neg q2]
      by_cases q : i = 6 * k + j
      · rw [if_pos q, if_pos ⟨by omega, by omega⟩, q, show 6 * (k + 1) + j = 6 * k + j + 6 by omega]
      · rw [if_neg q, if_neg (by omega)]
theorem gRmS_mb {f : Nat} (hf : mbR.elem f = true) : gRmS P k f i = if 6 * k ≤ i ∧ i < 6 * k + 6 then P f (i + 6) else P f i := by
  have e : ∀ v : Int, rU (rU (rU P 2335 k (P 2335 (k + 1))) 2336 k (P 2336 (k + 1))) 2337 k (P 2337 (k + 1)) f v = P f v := fun v => by
    rcases mbR_5 hf with q | q | q | q | q <;> (subst q; exact (rU_f (by decide)).trans ((rU_f (by decide)).trans (rU_f (by decide))))
  unfold gRmS
  rw [gMvs_at hf, e, e]
  by_cases q : 6 * k ≤ i ∧ i < 6 * k + 6
  · rw [if_pos q, if_pos ⟨by omega, by omega⟩]
  · rw [if_neg q, if_neg (by omega)]
theorem gRmS_pc {f : Nat} (hf : pcR.elem f = true) : gRmS P k f i = if i = k then P f (k + 1) else P f i := by
  unfold gRmS
  rcases pcR_3 hf with q | q | q <;> (subst q; rw [gMvs_rf 6 0 _ _ i rfl]; by_cases q : i = k)
  all_goals simp [rU, q]
theorem gRmL_mb {f : Nat} (hf : mbR.elem f = true) : ∀ (m : Nat) (k : Int) (P : qR), gRmL m k P f i = if 6 * k ≤ i ∧ i < 6 * (k + m) then P f (i + 6) else P f i
  | 0, k, P => by rw [if_neg (by omega)]; rfl
  | m + 1, k, P => by
    show gRmL m (k + 1) (gRmS P k) f i = _
    rw [gRmL_mb hf m (k + 1), gRmS_mb hf, gRmS_mb hf]
    by_cases q2 : 6 * (k + 1) ≤ i ∧ i < 6 * (k + 1 + m)
    · rw [if_pos q2, if_neg (show ¬ (6 * k ≤ i + 6 ∧ i + 6 < 6 * k + 6) by omega), if_pos ⟨by omega, by omega⟩]
    · rw [if_neg q2]
      by_cases q : 6 * k ≤ i ∧ i < 6 * k + 6
      · rw [if_pos q, if_pos ⟨by omega, by omega⟩]
      · rw [if_neg q, if_neg (by omega)]
theorem gRmL_pc {f : Nat} (hf : pcR.elem f = true) : ∀ (m : Nat) (k : Int) (P : qR), gRmL m k P f i = if k ≤ i ∧ i < k + m then P f (i + 1) else P f i
  | 0, k, P => by rw [if_neg (by omega)]; rfl
  | m + 1, k, P => by
    show gRmL m (k + 1) (gRmS P k) f i = _
    rw [gRmL_pc hf m (k + 1), gRmS_pc hf, gRmS_pc hf]
    by_cases q2 : k + 1 ≤ i ∧ i < k + 1 + m
    · rw [if_pos q2, if_neg (show ¬ i + 1 = k by omega), if_pos ⟨by omega, by omega⟩]
    · rw [if_neg q2]
      by_cases q : i = k
      · rw [if_pos q, if_pos ⟨by omega, by omega⟩, q]
      · rw [if_neg q, if_neg (by omega)]
theorem gMvD_mb {f : Nat} (hf : mbR.elem f = true) : ∀ (m : Nat) (k : Int) (P : qR), gMvD pt m k P f i = if 6 * pt + k ≤ i ∧ i < 6 * pt + k + m then P f (i + 1) else P f i
  | 0, k, P => by rw [if_neg (by omega)]; rfl
  | m + 1, k, P => by
    show gMvD pt m (k + 1) (gMv P (6 * pt + k + 1) (6 * pt + k)) f i = _
    rw [gMvD_mb hf m (k + 1), gMv_at hf, gMv_at hf]
    by_cases q2 : 6 * pt + (k + 1) ≤ i ∧ i < 6 * pt + (k + 1) + m
    · rw [if_pos q2, if_neg (show ¬ i + 1 = 6 * pt + k by omega), if_pos ⟨by omega, by omega⟩]
    · rw [if_neg q2]
      by_cases q : i = 6 * pt + k
      · rw [if_pos q, if_pos ⟨by omega, by omega⟩, q]
      · rw [if_neg q, if_neg (by omega)]
theorem gRmP_mb {f : Nat} (hf : mbR.elem f = true) (hC : P 2334 g = C) (hp : 0 ≤ p ∧ p < C) : gRmP P g (8 * g + p) f i = if 6 * (8 * g + p) ≤ i ∧ i < 6 * (8 * g + C - 1) then P f (i + 6) else P f i := by
  have e : ∀ v : Int, rU P 2334 g (P 2334 g - 1) f v = P f v := fun v => by
    rcases mbR_5 hf with q | q | q | q | q <;> (subst q; exact rU_f (by decide))
  unfold gRmP
  rw [gRmL_mb hf, e, e, hC]
  by_cases q : 6 * (8 * g + p) ≤ i ∧ i < 6 * (8 * g + C - 1)
  · rw [if_pos q, if_pos ⟨q.1, by omega⟩]
  · rw [if_neg q, if_neg (by omega)]
theorem gRmP_pc {f : Nat} (hf : pcR.elem f = true) (hC : P 2334 g = C) (hp : 0 ≤ p ∧ p < C) : gRmP P g (8 * g + p) f i = if 8 * g + p ≤ i ∧ i < 8 * g + C - 1 then P f (i + 1) else P f i := by
  have e : ∀ v : Int, rU P 2334 g (P 2334 g - 1) f v = P f v := fun v => by
    rcases pcR_3 hf with q | q | q <;> (subst q; exact rU_f (by decide))
  unfold gRmP
  rw [gRmL_pc hf, e, e, hC]
  by_cases q : 8 * g + p ≤ i ∧ i < 8 * g + C - 1
  · rw [if_pos q, if_pos ⟨q.1, by omega⟩]
  · rw [if_neg q, if_neg (by omega)]
theorem gRmP_rf {pq : Int} : RF (2334 :: ptR) (gRmP P g pq) P := by
  intro f i hf
  unfold gRmP
  have hf2 : ptR.elem f = false := elem_sub (l1 := ptR) (l2 := 2334 :: ptR) (by decide) hf
  rw [gRmL_rf _ _ _ f i hf2]
  exact rU_f (fun q => by rw [q] at hf; exact absurd hf (by decide))
theorem gRmP_points {pq : Int} : gRmP P g pq 2334 i = if i = g then P 2334 g - 1 else P 2334 i := by
  unfold gRmP
  rw [gRmL_rf _ _ _ 2334 i rfl]
  by_cases q : i = g
  · rw [if_pos q, q, rU_s]
  · rw [if_neg q, rU_k q]
/-- the other groups' rows are as before -/
theorem gRmP_oth {g2 : Int} (hC : P 2334 g = C) (hC8 : C ≤ 8) (hp : 0 ≤ p ∧ p < C) (hne : g2 ≠ g) : grQ P (gRmP P g (8 * g + p)) g2 := by
  refine ⟨by rw [gRmP_points, if_neg hne], fun q q0 q1 => ?_, fun m m0 m1 => ?_⟩
  · rw [gRmP_pc rfl hC hp, gRmP_pc rfl hC hp, gRmP_pc rfl hC hp, if_neg (by omega), if_neg (by omega), if_neg (by omega)]
    exact ⟨rfl, rfl, rfl⟩
  · rw [gRmP_mb rfl hC hp, gRmP_mb rfl hC hp, gRmP_mb rfl hC hp, gRmP_mb rfl hC hp, gRmP_mb rfl hC hp, if_neg (by omega), if_neg (by omega), if_neg (by omega), if_neg (by omega), if_neg (by omega)]
    exact ⟨rfl, rfl, rfl, rfl, rfl⟩
theorem gMvD_oth {m : Nat} {g2 : Int} (hpt : 8 * g ≤ pt ∧ pt < 8 * g + 8) (hk : 0 ≤ k ∧ k + m ≤ 6) (hne : g2 ≠ g) : grQ P (gMvD pt m k (rU P 2337 pt v)) g2 := by
  have hr := gMvD_rf (pt := pt) m k (rU P 2337 pt v)
  have e : ∀ (f : Nat) (i : Int), f ≠ 2337 → rU P 2337 pt v f i = P f i := fun f i h => rU_f h
  refine ⟨(hr 2334 _ rfl).trans (rU_f (by decide)), fun q q0 q1 => ⟨(hr 2335 _ rfl).trans (rU_f (by decide)), (hr 2336 _ rfl).trans (rU_f (by decide)), (hr 2337 _ rfl).trans (rU_k (by omega))⟩, fun m m0 m1 => ?_⟩
  rw [gMvD_mb rfl, gMvD_mb rfl, gMvD_mb rfl, gMvD_mb rfl, gMvD_mb rfl, if_neg (by omega), if_neg (by omega), if_neg (by omega), if_neg (by omega), if_neg (by omega), e _ _ (by decide), e _ _ (by decide), e _ _ (by decide), e _ _ (by decide), e _ _ (by decide)]
  exact ⟨rfl, rfl, rfl, rfl, rfl⟩
/-- a point's object is gone from its group -/
theorem XGR.rmG (h : XGR W R P g) (hI : IV false T U P) (hg : 0 ≤ g ∧ g < 8) (hC : P 2334 g = C) (hC8 : C ≤ 8) (hp : 0 ≤ p ∧ p < C) (h97 : W2 (grO g) 2097 = C - 1) (h98 : W2 (grO g) 2098 = W (grO g) 2098) (hPT : ∀ (k : Int) (x : Nat), 0 ≤ k → k < C → k ≠ p → R (grO g + 1) k = some x → PTO W2 R P x (8 * g + k)) : XGR W2 (rmR R (grO g) p C) (gRmP P g (8 * g + p)) g := by
  have h0 := h
  obtain ⟨a1, a2, a3, a4, a5⟩ := h
  have hr := grO_rng hg
  refine ⟨by rw [gRmP_points, if_pos rfl, hC]; exact h97, ?_, a3.rm hp hC8, fun i hi => (a4 i hi).eqv (fun k _ _ => rmR_o (by omega)), fun k k0 k1 => ?_⟩
  · rw [h98, qPn_fr (fun k => gRmP_rf 2320 k rfl) (fun k => gRmP_rf 2323 k rfl)]
    exact a2
  · rw [gRmP_points, if_pos rfl, hC] at k1
    obtain ⟨kk, hkk⟩ : ∃ kk, rmI p C k = kk := ⟨_, rfl⟩
    have hk2 : kk = if p ≤ k then k + 1 else k := by
      rw [← hkk]
      unfold rmI
      by_cases q : p ≤ k
      · rw [if_pos ⟨q, by omega⟩, if_pos q]
      · rw [if_neg (fun c => q c.1), if_neg (by omega), if_neg q]
    have hk3 : 0 ≤ kk ∧ kk < C ∧ kk ≠ p := by
      rw [hk2]
      split <;> omega
    obtain ⟨x, hx, -⟩ := a5 kk hk3.1 (by omega)
    obtain ⟨b1, b2, b3, b4⟩ := hPT kk x hk3.1 hk3.2.1 hk3.2.2 hx
    obtain ⟨i, hi, hx2⟩ := h0.pt (k := kk) ⟨hk3.1, by omega⟩
    have ex : x = grO g + 2 + 8 * i := Option.some.inj (hx.symm.trans hx2)
    have epc : ∀ f : Nat, pcR.elem f = true → gRmP P g (8 * g + p) f (8 * g + k) = P f (8 * g + kk) := fun f hf => by
      rw [gRmP_pc hf hC hp, hk2]
      by_cases q : p ≤ k
      · rw [if_pos ⟨by omega, by omega⟩, if_pos q, show 8 * g + k + 1 = 8 * g + (k + 1) by omega]
      · rw [if_neg (by omega), if_neg q]
    have emb : ∀ (f : Nat) (j : Int), mbR.elem f = true → 0 ≤ j → j < 6 → gRmP P g (8 * g + p) f (6 * (8 * g + k) + j) = P f (6 * (8 * g + kk) + j) := fun f j hf j0 j1 => by
      rw [gRmP_mb hf hC hp, hk2]
      by_cases q : p ≤ k
      · rw [if_pos ⟨by omega, by omega⟩, if_pos q, show 6 * (8 * g + k) + j + 6 = 6 * (8 * g + (k + 1)) + j by omega]
      · rw [if_neg (by omega), if_neg q]
    refine ⟨x, by rw [rmR_at hp, hkk]; exact hx, by rw [epc _ rfl]; exact b1, by rw [epc _ rfl]; exact b2, by rw [epc _ rfl]; exact b3, fun j j0 j1 => ?_⟩
    rw [epc _ rfl] at j1
    obtain ⟨c, c1, m1, m2, m3, m4, m5⟩ := b4 j j0 j1
    have hmb : 0 ≤ P 2337 (8 * g + kk) ∧ P 2337 (8 * g + kk) ≤ 6 := IV.a hI 2337 0 64 rfl rfl rfl (by omega) (by omega)
    have q6 : j < 6 := by omega
    exact ⟨c, by rw [rmR_o (by omega)]; exact c1, by rw [emb _ _ rfl j0 q6]; exact m1, by rw [emb _ _ rfl j0 q6]; exact m2, by rw [emb _ _ rfl j0 q6]; exact m3, by rw [emb _ _ rfl j0 q6]; exact m4, by rw [emb _ _ rfl j0 q6]; exact m5⟩
/-- a member is gone from its point -/
theorem XGR.rmM {n : Int} (h : XGR W R P g) (hI : IV false T U P) (hg : 0 ≤ g ∧ g < 8) (hk : 0 ≤ k ∧ k < P 2334 g) (hy : R (grO g + 1) k = some y) (hn : P 2337 (8 * g + k) = n) (hj : 0 ≤ j ∧ j < n) : XGR (rU W y 2131 (n - 1)) (rmR R y j n) (gMvD (8 * g + k) (n - 1 - j).toNat j (rU P 2337 (8 * g + k) (n - 1))) g := by
  have h0 := h
  obtain ⟨a1, a2, a3, a4, a5⟩ := h
  have hr := grO_rng hg
  have hpb : 0 ≤ P 2334 g ∧ P 2334 g ≤ 8 := IV.a hI 2334 0 8 rfl rfl rfl (by omega) (by omega)
  obtain ⟨iy, hiy, hy2⟩ := h0.pt (k := k) ⟨hk.1, by omega⟩
  have ey : y = grO g + 2 + 8 * iy := Option.some.inj (hy.symm.trans hy2)
  have hmn : 0 ≤ P 2337 (8 * g + k) ∧ P 2337 (8 * g + k) ≤ 6 := IV.a hI 2337 0 64 rfl rfl rfl (by omega) (by omega)
  rw [hn] at hmn
  obtain ⟨Q, hQ⟩ : ∃ Q, gMvD (8 * g + k) (n - 1 - j).toNat j (rU P 2337 (8 * g + k) (n - 1)) = Q := ⟨_, rfl⟩
  have hrf : RF mbR Q (rU P 2337 (8 * g + k) (n - 1)) := by rw [← hQ]; exact gMvD_rf _ _ _
  have hmb : ∀ (f : Nat) (i : Int), mbR.elem f = true → Q f i = if 6 * (8 * g + k) + j ≤ i ∧ i < 6 * (8 * g + k) + (n - 1) then P f (i + 1) else P f i := fun f i hf => by
    have e : ∀ v : Int, rU P 2337 (8 * g + k) (n - 1) f v = P f v := fun v => by
      rcases mbR_5 hf with q | q | q | q | q <;> (subst q; exact rU_f (by decide))
    rw [← hQ, gMvD_mb hf, e, e]
    by_cases q : 6 * (8 * g + k) + j ≤ i ∧ i < 6 * (8 * g + k) + (n - 1)
    · rw [if_pos q, if_pos ⟨q.1, by omega⟩]
    · rw [if_neg q, if_neg (by omega)]
  rw [hQ]
  have ePt : Q 2334 g = P 2334 g := (hrf 2334 _ rfl).trans (rU_f (by decide))
  refine ⟨by rw [ePt, rU_f (by omega)]; exact a1, ?_, a3.eqv (fun k _ _ => rmR_o (by omega)), fun i hi => ?_, fun k2 k0 k1 => ?_⟩
  · rw [rU_f (by omega), qPn_fr (fun k => (hrf 2320 k rfl).trans (rU_f (by decide))) (fun k => (hrf 2323 k rfl).trans (rU_f (by decide)))]
    exact a2
  · by_cases q : i = iy
    · have h4 := a4 i hi
      have e1 : grO g + 3 + 8 * i = y + 1 := by omega
      rw [e1] at h4 ⊢
      exact h4.rm hj hmn.2
    · exact (a4 i hi).eqv (fun k _ _ => rmR_o (by omega))
  · rw [ePt] at k1
    obtain ⟨x, hx, b1, b2, b3, b4⟩ := a5 k2 k0 k1
    obtain ⟨i, hi, hx2⟩ := h0.pt (k := k2) ⟨k0, by omega⟩
    have ex : x = grO g + 2 + 8 * i := Option.some.inj (hx.symm.trans hx2)
    have hm2 : 0 ≤ P 2337 (8 * g + k2) ∧ P 2337 (8 * g + k2) ≤ 6 := IV.a hI 2337 0 64 rfl rfl rfl (by omega) (by omega)
    have hW : ∀ (c : Nat) (v : Int), v ≠ 2131 → rU W y 2131 (n - 1) c v = W c v := fun c v hv => rU_j hv
    refine ⟨x, by rw [rmR_o (by omega)]; exact hx, by rw [hW _ _ (by decide), hrf 2335 _ rfl, rU_f (by decide)]; exact b1, by rw [hW _ _ (by decide), hrf 2336 _ rfl, rU_f (by decide)]; exact b2, ?_, fun m m0 m1 => ?_⟩
    · rw [hrf 2337 _ rfl]
      by_cases q : k2 = k
      · have : x = y := Option.some.inj (hx.symm.trans (by rw [q]; exact hy))
        rw [q, this, rU_s, rU_s]
      · have hne : x ≠ y := fun e => q (a3.2 k2 k k0 (by omega) hk.1 (by omega) (hx.trans (by rw [e]; exact hy.symm)))
        rw [rU_k (show 8 * g + k2 ≠ 8 * g + k by omega), rU_f hne]
        exact b3
    · rw [hrf 2337 _ rfl] at m1
      by_cases q : k2 = k
      · have hxy : x = y := Option.some.inj (hx.symm.trans (by rw [q]; exact hy))
        subst hxy
        subst q
        rw [rU_s] at m1
        obtain ⟨mm, hmm⟩ : ∃ mm, rmI j n m = mm := ⟨_, rfl⟩
        have hmv : mm = if j ≤ m then m + 1 else m := by
          rw [← hmm]
          unfold rmI
          by_cases q : j ≤ m
          · rw [if_pos ⟨q, by omega⟩, if_pos q]
          · rw [if_neg (fun c => q c.1), if_neg (by omega), if_neg q]
        have hm3 : 0 ≤ mm ∧ mm < n := by
          rw [hmv]
          split <;> omega
        obtain ⟨c, c1, d1, d2, d3, d4, d5⟩ := b4 mm hm3.1 (by omega)
        have em : ∀ f : Nat, mbR.elem f = true → Q f (6 * (8 * g + k2) + m) = P f (6 * (8 * g + k2) + mm) := fun f hf => by
          rw [hmb f _ hf, hmv]
          by_cases q : j ≤ m
          · rw [if_pos ⟨by omega, by omega⟩, if_pos q, show 6 * (8 * g + k2) + m + 1 = 6 * (8 * g + k2) + (m + 1) by omega]
          · rw [if_neg (by omega), if_neg q]
        exact ⟨c, by rw [rmR_at hj, hmm]; exact c1, by rw [em _ rfl, hW _ _ (by decide)]; exact d1, by rw [em _ rfl, hW _ _ (by decide)]; exact d2, by rw [em _ rfl, hW _ _ (by decide)]; exact d3, by rw [em _ rfl, hW _ _ (by decide)]; exact d4, by rw [em _ rfl, hW _ _ (by decide)]; exact d5⟩
      · rw [rU_k (show 8 * g + k2 ≠ 8 * g + k by omega)] at m1
        have hne : x ≠ y := fun e => q (a3.2 k2 k k0 (by omega) hk.1 (by omega) (hx.trans (by rw [e]; exact hy.symm)))
        obtain ⟨c, c1, d1, d2, d3, d4, d5⟩ := b4 m m0 m1
        have em : ∀ f : Nat, mbR.elem f = true → Q f (6 * (8 * g + k2) + m) = P f (6 * (8 * g + k2) + m) := fun f hf => by
          rw [hmb f _ hf, if_neg (by omega)]
        exact ⟨c, by rw [rmR_o (by omega)]; exact c1, by rw [em _ rfl, hW _ _ (by decide)]; exact d1, by rw [em _ rfl, hW _ _ (by decide)]; exact d2, by rw [em _ rfl, hW _ _ (by decide)]; exact d3, by rw [em _ rfl, hW _ _ (by decide)]; exact d4, by rw [em _ rfl, hW _ _ (by decide)]; exact d5⟩
end XGRM
