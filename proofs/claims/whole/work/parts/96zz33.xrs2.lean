/-! The class's servers: resize, as what it means. -/
section XRSA
variable {fb : Bool} {d S a b c rp m : Nat} {σ0 σ : hM} {W W1 W2 P Q : qR} {R R1 R2 : rR} {i j k x z v s e w f u n p g ln K T U : Int} {ord : List Int} {t : Nat → Nat} {r : Option Nat}
theorem nA_inj {j k : Nat} (hj : j < 128) (hk : k < 128) (e : nA j = nA k) : j = k := by
  unfold nA at e
  (repeat' split at e) <;> omega
theorem cnC_new {j : Nat} (ha : a = nA j) (hj : j < 128) (hn : R a 2267 = none) : cnC (oU R a 2267 (some c)) 128 = cnC R 128 + 1 := by
  have key : ∀ m, m ≤ 128 → cnC (oU R a 2267 (some c)) m = cnC R m + if j < m then 1 else 0 := fun m => by
    induction m with
    | zero => intro _; rfl
    | succ m ih =>
      intro hm
      show cnC (oU R a 2267 (some c)) m + (if oU R a 2267 (some c) (nA m) 2267 = none then 0 else 1) = cnC R m + (if R (nA m) 2267 = none then 0 else 1) + _
      rw [ih (by omega)]
      by_cases q : m = j
      · rw [q, ← ha, oU_s, hn, if_neg (Nat.lt_irrefl j), if_neg (show ¬ (some c = none) from fun e => by cases e), if_pos rfl, if_pos (Nat.lt_succ_self j)]
      · have hne : nA m ≠ a := fun e => q (nA_inj (by omega) hj (by rw [e, ha]))
        rw [oU_f hne]
        by_cases q2 : j < m
        · rw [if_pos q2, if_pos (show j < m + 1 by omega)]
          omega
        · rw [if_neg q2, if_neg (show ¬ j < m + 1 by omega)]
          omega
  rw [key 128 (Nat.le_refl _), if_pos hj]
theorem SZ.size (h : SZ W P S s) (hs : s < 2) (hA : ∀ (x : Nat) (k : Int), S ≤ x → x < S + 294 → ¬ (x = S ∧ k = 2231) → k ≠ 2266 → W2 x k = W x k) (hB : W2 S 2231 = P 2301 s + (z - P 2297 (64 * s + n))) : SZ W2 (gSize P s n z) S s := by
  obtain ⟨z1, z2, z3, z4⟩ := h
  have r : ∀ f k, [2300, 2301, 2297].elem f = false → gSize P s n z f k = P f k := RF_gSize
  refine ⟨?_, ?_, ?_, fun _ => ⟨?_, ?_⟩, fun c => by omega⟩
  · rw [hA _ _ (by omega) (by omega) (by omega) (by decide), r _ _ rfl]; exact z1
  · rw [hA _ _ (by omega) (by omega) (by omega) (by decide), r _ _ rfl]; exact z2
  · rw [hA _ _ (by omega) (by omega) (by omega) (by decide)]; exact z3
  · rw [hB]
    unfold gSize
    rw [rU_f (by decide), rU_s]
  · rw [hA _ _ (by omega) (by omega) (by omega) (by decide), r _ _ rfl]; exact (z4.1 hs).2
theorem gSize_by (h : k < 600 * (64 * s + n) + P 2297 (64 * s + n) ∨ 600 * (64 * s + n) + z ≤ k) : gSize P s n z 2300 k = P 2300 k := by
  unfold gSize
  rw [rU_f (by decide), rU_f (by decide)]
  exact if_neg (fun c => by omega)
theorem gSize_b0 (h : 600 * (64 * s + n) + P 2297 (64 * s + n) ≤ k ∧ k < 600 * (64 * s + n) + z) : gSize P s n z 2300 k = 0 := by
  unfold gSize
  rw [rU_f (by decide), rU_f (by decide)]
  exact if_pos ⟨rfl, h⟩
theorem XV.size (h : XV W R P S s ord t) (hS : VS S s) (hI : IV false T U P) (hs : s < 2) (hi : 0 ≤ i ∧ i < ord.length) (ha : S + 6 + 3 * t i.toNat = a) (hn : lg ord i = n) (hd : 0 ≤ qMode P s n) (hz : 0 ≤ z ∧ z ≤ 600) (hA : ∀ (x : Nat) (k : Int), S ≤ x → x < S + 294 → ¬ (x = S ∧ k = 2231) → ¬ (x = a ∧ k = 2266) → W2 x k = W x k) (hB : W2 S 2231 = P 2301 s + (z - P 2297 (64 * s + n))) (hB2 : W2 a 2266 = z) (hC : ∀ (x : Nat) (k : Int), ¬ (x = a ∧ k = 2267) → R2 x k = R x k) (hD : ∀ (b c : Nat), b ≠ a → R b 2267 = some c → 2372 ≤ c → ∀ i : Int, W2 c i = W c i) (hE : z = 0 ∨ ∃ c : Nat, R2 a 2267 = some c ∧ 2372 ≤ c ∧ (∀ i : Int, 0 ≤ i → i < P 2297 (64 * s + n) → i < z → W2 c i = sb8 (P 2300 (600 * (64 * s + n) + i))) ∧ ∀ i : Int, P 2297 (64 * s + n) ≤ i → i < z → W2 c i = 0) : XV W2 R2 (gSize P s n z) S s ord t := by
  have hsr := hS.1
  have r : ∀ f k, [2300, 2301, 2297].elem f = false → gSize P s n z f k = P f k := RF_gSize
  have hl6 := XV.len6 hI hsr.1
  have hle := h.1.1.2.1
  have t63 := h.1.2.1.1 i.toNat (by omega)
  have hN := h.1.2.2.2.1 i hi.1 hi.2
  rw [ha, hn] at hN
  have hnl := isN_lt hs ((h.1.1.1 _).mp (by rw [← hn]; exact lg_mem hi.1 hi.2) : isN P s n)
  have hlen : 0 ≤ P 2297 (64 * s + n) ∧ P 2297 (64 * s + n) ≤ 600 := IV.a hI 2297 0 128 rfl rfl rfl (by omega) (by omega)
  refine ⟨h.1.one hi ha (fun x k x0 x1 q _ _ hq => hA x k x0 x1 (fun c => by have := hq c.1; omega) (fun c => q c.1)) (fun k => hC _ _ (by omega)) (fun x => hC _ _ (fun c => absurd c.2 (by decide))) (fun m => isN_tree hs (fun k => r _ _ rfl)) (fun m hm hne => ?_) ?_ ?_ ?_, ?_, h.2.2.1.size hs (fun x k x0 x1 q1 q2 => hA x k x0 x1 q1 (fun c => q2 c.2)) hB, fun j j0 j1 => ?_⟩
  · have hml := isN_lt hs ((h.1.1.1 _).mp hm)
    rw [hn] at hne
    refine EN_tree hs (fun f hf => ?_) (fun k _ _ => r _ _ rfl)
    by_cases q : f = 2297
    · rw [q, gSize_len, if_neg (by omega)]
    · refine r _ _ ?_
      cases e : [2300, 2301, 2297].elem f
      · rfl
      · exfalso
        have := List.elem_iff.mp e
        simp only [List.mem_cons, List.not_mem_nil, or_false] at this
        rcases this with rfl | rfl | rfl
        · exact absurd hf (by decide)
        · exact absurd hf (by decide)
        · exact q rfl
  · unfold qPath; rw [r _ _ rfl]
  · unfold qUp; rw [r _ _ rfl]
  · rw [hn]
    obtain ⟨a1, a2, a3, a4, a5, a6, a7, a8, a9, a10⟩ := hN
    have em : qMode (gSize P s n z) s n = qMode P s n := by unfold qMode; rw [r _ _ rfl]
    have ep : qPath (gSize P s n z) s n = qPath P s n := by unfold qPath; rw [r _ _ rfl]
    have ev : qVer (gSize P s n z) s n = qVer P s n := by unfold qVer; rw [r _ _ rfl]
    have eu : qUid (gSize P s n z) s n = qUid P s n := by unfold qUid; rw [if_pos hs, if_pos hs, r _ _ rfl]
    have eg : qGid (gSize P s n z) s n = qGid P s n := by unfold qGid; rw [if_pos hs, if_pos hs, r _ _ rfl]
    have ek : qMuid (gSize P s n z) s n = qMuid P s n := by unfold qMuid; rw [if_pos hs, if_pos hs, r _ _ rfl]
    have el : qLen (gSize P s n z) s n = z := by unfold qLen; rw [em, if_pos ⟨hs, hd⟩, gSize_len, if_pos rfl]
    have es : qNs (gSize P s n z) s n = qNs P s n := by unfold qNs; rw [r _ _ rfl]
    have en : qNm (gSize P s n z) s n = qNm P s n := by
      unfold qNm
      rw [es]
      exact seg_seg.mpr (fun j _ _ => by unfold qNb; rw [r _ _ rfl])
    have w : ∀ k : Int, k ≠ 2266 → W2 a k = W a k := fun k hk => hA a k (by omega) (by omega) (by omega) (fun c => hk c.2)
    unfold ND
    rw [em, ep, ev, eu, eg, ek, el, es, en, w _ (by decide), w _ (by decide), w _ (by decide), w _ (by decide), w _ (by decide), w _ (by decide), hB2]
    refine ⟨a1, a2, a3, a4, a5, a6, a7, ⟨rfl, hz⟩, ?_, a10⟩
    obtain ⟨b1, b2, b3, b4, b5, b6, b7⟩ := a9
    exact ⟨b1, b2, b3, (hA _ _ (by omega) (by omega) (by omega) (by omega)).trans b4, b5, b6, fun k k0 k1 => (hA _ _ (by omega) (by omega) (by omega) (by omega)).trans (b7 k k0 k1)⟩
  · refine FD.pp (P := P) (fun k k0 k1 => ?_) (fun f k hf => r _ _ ?_)
    · obtain ⟨a1, a2, a3⟩ := h.2.1 k k0 k1
      have w : ∀ q : Int, q ≠ 2266 → W2 (S + 198 + k.toNat) q = W (S + 198 + k.toNat) q := fun q hq => hA _ _ (by omega) (by omega) (by omega) (fun c => hq c.2)
      have hrr := hC (S + 198 + k.toNat) 2291 (fun c => absurd c.2 (by decide))
      rw [w _ (by decide), hrr]
      refine ⟨a1, fun q => ?_, a3⟩
      have := a2 q
      unfold FDu at this ⊢
      rw [w _ (by decide), w _ (by decide), w _ (by decide), w _ (by decide), w _ (by decide), w _ (by decide), w _ (by decide), hrr]
      exact this
    · cases e : [2300, 2301, 2297].elem f
      · rfl
      · exfalso
        have := List.elem_iff.mp e
        simp only [List.mem_cons, List.not_mem_nil, or_false] at this
        rcases this with rfl | rfl | rfl <;> exact absurd hf (by decide)
  · have tj := h.1.2.1.1 j.toNat (by omega)
    have hml := isN_lt hs ((h.1.1.1 _).mp (lg_mem j0 j1) : isN P s (lg ord j))
    obtain ⟨g1, g2⟩ := (h.2.2.2 j j0 j1).1 hs
    refine ⟨fun _ => ?_, fun q => by omega⟩
    by_cases e : j = i
    · rw [e, ha] at g1
      rw [e, hn, ha] at g2 ⊢
      rw [gSize_len, if_pos rfl, hA a _ (by omega) (by omega) (by omega) (fun c => absurd c.2 (by decide))]
      refine ⟨g1, hE.imp id ?_⟩
      rintro ⟨c, c1, c2, c3, c4⟩
      refine ⟨c, c1, c2, fun k k0 k1 => ?_⟩
      by_cases q : k < P 2297 (64 * s + n)
      · rw [gSize_by (by omega)]
        exact c3 k k0 q k1
      · rw [gSize_b0 (by omega), c4 k (by omega) k1]
        rfl
    · have hne : t j.toNat ≠ t i.toNat := fun q => e (by have := h.1.2.1.2 _ _ (by omega) (by omega) q; omega)
      have hnm : lg ord j ≠ n := fun q => by
        have h1 := idx_get h.1.nodup j0 j1
        rw [q, ← hn, idx_get h.1.nodup hi.1 hi.2] at h1
        omega
      have hlj : 0 ≤ P 2297 (64 * s + lg ord j) ∧ P 2297 (64 * s + lg ord j) ≤ 600 := IV.a hI 2297 0 128 rfl rfl rfl (by omega) (by omega)
      rw [gSize_len, if_neg (by omega), hA _ _ (by omega) (by omega) (by omega) (by omega), hC _ _ (by omega)]
      refine ⟨g1, g2.imp id ?_⟩
      rintro ⟨c, c1, c2, c3⟩
      refine ⟨c, c1, c2, fun k k0 k1 => ?_⟩
      rw [hD _ c (by omega) c1 c2, gSize_by (by omega)]
      exact c3 k k0 k1
/-- what resize does, as the reference's -/
theorem x_resize (hP : PX σ0 W R σ) (hS : VS S s) (h : XV W R P S s ord t) (hK : CT K W R) (hI : IV false T U P) (hs : s < 2) (hi : 0 ≤ i ∧ i < ord.length) (ha : S + 6 + 3 * t i.toNat = a) (hn : lg ord i = n) (hd : 0 ≤ qMode P s n) (hz : 0 ≤ z ∧ z ≤ 600) : CL fb d 62 [vR (some S), vR (some a), vI z] σ (fun r σ' => r = none ∧ ∃ W2 R2, PX σ0 W2 R2 σ' ∧ XV W2 R2 (gSize P s n z) S s ord t ∧ CT K W2 R2 ∧ FV S rp W W2 R R2) := by
  have hsr := hS.1
  have hrg := hS.rng
  have hle := h.1.1.2.1
  have t63 := h.1.2.1.1 i.toNat (by omega)
  have hN := h.1.2.2.2.1 i hi.1 hi.2
  have hDN := (h.2.2.2 i hi.1 hi.2).1 hs
  rw [ha, hn] at hN hDN
  have hno : tX a = some (Sum.inl 8) := hN.1
  have hnl := isN_lt hs ((h.1.1.1 _).mp (by rw [← hn]; exact lg_mem hi.1 hi.2) : isN P s n)
  have hlen : 0 ≤ P 2297 (64 * s + n) ∧ P 2297 (64 * s + n) ≤ 600 := IV.a hI 2297 0 128 rfl rfl rfl (by omega) (by omega)
  have htb : 0 ≤ P 2301 s ∧ P 2301 s ≤ 8192 := IV.a hI 2301 0 2 rfl rfl rfl (by omega) (by omega)
  have hv := (h.2.2.1.2.2.2.1 hs).1
  have hw : W a 2266 = P 2297 (64 * s + n) := hN.2.2.2.2.2.2.2.1.1.trans (by unfold qLen; rw [if_pos ⟨hs, hd⟩])
  obtain ⟨v, hv0⟩ : ∃ v, P 2301 s = v := ⟨_, rfl⟩
  obtain ⟨ln, hl0⟩ : ∃ v, P 2297 (64 * s + n) = v := ⟨_, rfl⟩
  have fin := fun (W2 : qR) (R2 : rR) => h.size (W2 := W2) (R2 := R2) hS hI hs hi ha hn hd hz
  rw [hv0] at htb hv fin
  rw [hl0] at hlen hw hDN fin
  cases hc : R a 2267 with
  | some c =>
    obtain ⟨-, h2, hl⟩ := hK.1 a c hc
    have hu := x_resize_c (fb := fb) (d := d) (z := z) hP hno hc h2 hl hS.o hlen hz hv hw (by omega)
    refine hu.mono ?_
    rintro _ σ' ⟨rfl, hP2⟩
    have e0 : ∀ (x : Nat) (k : Int), x ≠ c → ¬ (x = S ∧ k = 2231) → ¬ (x = a ∧ k = 2266) → rU (rU (gZer W c ln z) S 2231 (v + (z - ln))) a 2266 z x k = W x k := fun x k q1 q2 q3 => by
      rw [show rU (rU (gZer W c ln z) S 2231 (v + (z - ln))) a 2266 z x k = rU (gZer W c ln z) S 2231 (v + (z - ln)) x k from if_neg q3, show rU (gZer W c ln z) S 2231 (v + (z - ln)) x k = gZer W c ln z x k from if_neg q2]
      exact gZer_x q1
    have e1 : ∀ k : Int, rU (rU (gZer W c ln z) S 2231 (v + (z - ln))) a 2266 z c k = gZer W c ln z c k := fun k => (rU_f (by omega)).trans (rU_f (by omega))
    refine ⟨rfl, _, _, hP2, fin _ _ (fun x k _ _ q1 q2 => e0 x k (by omega) q1 q2) ?_ rU_s (fun _ _ _ => rfl) (fun b c2 hb hb2 hb3 i => ?_) (Or.inr ⟨c, hc, h2, fun i i0 i1 i2 => ?_, fun i i0 i1 => ?_⟩), hK.fv (e0 _ _ (by omega) (by omega) (by omega)) (e0 _ _ (by omega) (by omega) (by omega)) (fun _ => rfl), ⟨fun x k _ _ q _ _ => e0 x k (by omega) (by omega) (by omega), fun _ _ _ => rfl, ⟨rfl, rfl, e0 _ _ (by omega) (by omega) (by omega)⟩, fun c2 k q1 q2 q3 => e0 _ _ (fun q => q3 a (by omega) (by omega) (by rw [q]; exact hc)) (by omega) (by omega), by rw [e0 _ _ (by omega) (by omega) (by omega)]; exact Int.le_refl _, fun _ => Or.inl rfl⟩⟩
    · rw [rU_f (by omega), rU_s]
    · exact e0 _ _ (fun q => hb (hK.2.1 b a c2 hb2 (by rw [q]; exact hc))) (by omega) (by omega)
    · rw [e1]
      obtain ⟨c3, k1, k2, k3⟩ := hDN.2.resolve_left (by omega)
      have hcc : c3 = c := by rw [hc] at k1; exact (Option.some.inj k1).symm
      rw [hcc] at k3
      rw [← k3 i i0 i1]
      exact if_neg (fun q => by omega)
    · rw [e1]
      exact if_pos ⟨rfl, i0, i1⟩
  | none =>
    have hln : ln = 0 := by
      rcases hDN.2 with q | ⟨c3, k1, _⟩
      · exact q
      · rw [hc] at k1
        cases k1
    subst hln
    by_cases hz0 : z = 0
    · subst hz0
      have hu := x_resize_0 (fb := fb) (d := d) hP hno hc hS.o hv hw (by omega)
      refine hu.mono ?_
      rintro _ σ' ⟨rfl, hP2⟩
      have e0 : ∀ (x : Nat) (k : Int), ¬ (x = S ∧ k = 2231) → ¬ (x = a ∧ k = 2266) → rU (rU W S 2231 v) a 2266 0 x k = W x k := fun x k q2 q3 => by
        rw [show rU (rU W S 2231 v) a 2266 0 x k = rU W S 2231 v x k from if_neg q3]
        exact if_neg q2
      refine ⟨rfl, _, _, hP2, fin _ _ (fun x k _ _ q1 q2 => e0 x k q1 q2) ?_ rU_s (fun _ _ _ => rfl) (fun b c2 hb hb2 hb3 i => e0 _ _ (by omega) (by omega)) (Or.inl rfl), hK.fv (e0 _ _ (by omega) (by omega)) (e0 _ _ (by omega) (by omega)) (fun _ => rfl), ⟨fun x k _ _ q _ _ => e0 x k (by omega) (by omega), fun _ _ _ => rfl, ⟨rfl, rfl, e0 _ _ (by omega) (by omega)⟩, fun c2 k q1 q2 q3 => e0 _ _ (by omega) (by omega), by rw [e0 _ _ (by omega) (by omega)]; exact Int.le_refl _, fun _ => Or.inl rfl⟩⟩
      rw [rU_f (by omega), rU_s]
      omega
    · obtain ⟨c, hcz⟩ : ∃ c : Nat, W 0 0 = (c : Int) := ⟨_, hP.1.2.1⟩
      have h2 : 2372 ≤ c := by
        have h3 := hP.1
        rw [h3.2.1] at hcz
        omega
      have hu := x_resize_n (fb := fb) (d := d) (z := z) hP hno hc hcz hS.o ⟨by omega, hz.2⟩ hv hw (by omega)
      refine hu.mono ?_
      rintro _ σ' ⟨rfl, hP2⟩
      have e0 : ∀ (x : Nat) (k : Int), x ≠ c → x ≠ 0 → ¬ (x = S ∧ k = 2231) → ¬ (x = a ∧ k = 2266) → rU (rU (gZer (nwW W) c 0 z) S 2231 (v + z)) a 2266 z x k = W x k := fun x k q1 q0 q2 q3 => by
        rw [show rU (rU (gZer (nwW W) c 0 z) S 2231 (v + z)) a 2266 z x k = rU (gZer (nwW W) c 0 z) S 2231 (v + z) x k from if_neg q3, show rU (gZer (nwW W) c 0 z) S 2231 (v + z) x k = gZer (nwW W) c 0 z x k from if_neg q2, gZer_x q1]
        exact nwW_o hP (by omega) q0
      have e1 : ∀ k : Int, rU (rU (gZer (nwW W) c 0 z) S 2231 (v + z)) a 2266 z c k = gZer (nwW W) c 0 z c k := fun k => (rU_f (by omega)).trans (rU_f (by omega))
      have e2 : ∀ k : Int, rU (rU (gZer (nwW W) c 0 z) S 2231 (v + z)) a 2266 z 0 k = nwW W 0 k := fun k => (rU_f (by omega)).trans ((rU_f (by omega)).trans (gZer_x (by omega)))
      have e3 : nwW W 0 0 = W 0 0 + 1 := by
        unfold nwW
        rw [if_neg (by omega), rU_k (by decide), rU_s]
      have e4 : nwW W 0 1 = W 0 1 + 600 := by
        unfold nwW
        rw [if_neg (by omega), rU_s]
      have hro : ∀ (x : Nat) (k : Int), ¬ (x = a ∧ k = 2267) → oU R a 2267 (some c) x k = R x k := fun x k q => if_neg q
      have ho : ∀ b c2, oU R a 2267 (some c) b 2267 = some c2 → (b = a ∧ c2 = c) ∨ (b ≠ a ∧ R b 2267 = some c2) := fun b c2 q => by
        by_cases e : b = a
        · rw [e, oU_s] at q
          exact Or.inl ⟨e, (Option.some.inj q).symm⟩
        · rw [oU_f e] at q
          exact Or.inr ⟨e, q⟩
      obtain ⟨j, hj, hja⟩ : ∃ j, j < 128 ∧ a = nA j := by
        rcases hS.cases with ⟨q1, q2⟩ | ⟨q1, q2⟩ | ⟨q1, q2⟩
        · exact ⟨t i.toNat, by omega, by unfold nA; rw [if_pos t63]; omega⟩
        · exact ⟨64 + t i.toNat, by omega, by unfold nA; rw [if_neg (by omega)]; omega⟩
        · omega
      refine ⟨rfl, _, _, hP2, fin _ _ (fun x k _ _ q1 q2 => e0 x k (by omega) (by omega) q1 q2) ?_ rU_s hro (fun b c2 hb hb2 hb3 i => ?_) (Or.inr ⟨c, oU_s, h2, fun i i0 i1 i2 => by omega, fun i i0 i1 => ?_⟩), ⟨fun b c2 hb => ?_, fun b b2 c2 hb hb2 => ?_, ?_, ?_⟩, ⟨fun x k q0 _ q _ _ => e0 x k (by omega) (by omega) (by omega) (by omega), fun x k q => hro _ _ (by omega), ⟨hro _ _ (by omega), hro _ _ (by omega), e0 _ _ (by omega) (by omega) (by omega) (by omega)⟩, fun c2 k q1 q2 q3 => e0 _ _ (by omega) (by omega) (by omega) (by omega), ?_, fun b => ?_⟩⟩
      · rw [rU_f (by omega), rU_s]
        omega
      · have := (hK.1 b c2 hb2).2.2
        exact e0 _ _ (by omega) (by omega) (by omega) (by omega)
      · rw [e1]
        exact if_pos ⟨rfl, i0, i1⟩
      · rw [e2, e3]
        rcases ho b c2 hb with ⟨q1, q2⟩ | ⟨q1, q2⟩
        · exact ⟨⟨j, hj, q1.trans hja⟩, by omega, by omega⟩
        · obtain ⟨g1, g2, g3⟩ := hK.1 b c2 q2
          exact ⟨g1, g2, by omega⟩
      · rcases ho b c2 hb with ⟨q1, q2⟩ | ⟨q1, q2⟩
        · rcases ho b2 c2 hb2 with ⟨q3, q4⟩ | ⟨q3, q4⟩
          · rw [q1, q3]
          · have := (hK.1 b2 c2 q4).2.2
            omega
        · rcases ho b2 c2 hb2 with ⟨q3, q4⟩ | ⟨q3, q4⟩
          · have := (hK.1 b c2 q2).2.2
            omega
          · exact hK.2.1 b b2 c2 q2 q4
      · rw [e2, e3, cnC_new hja hj hc, hK.2.2.1]
        omega
      · rw [e2, e4, cnC_new hja hj hc, hK.2.2.2]
        omega
      · rw [e2, e3]
        omega
      · by_cases e : b = a
        · rw [e, oU_s]
          exact Or.inr ⟨hc, c, rfl, by omega⟩
        · exact Or.inl (oU_f e)
end XRSA
