/-! What stays true of the trees and of the fids, whatever is asked. -/
def RF (l : List Nat) (Q P : qR) : Prop := ∀ (f : Nat) (k : Int), l.elem f = false → Q f k = P f k
section RFR
variable {l : List Nat} {P Q R : qR}
theorem RF_rfl : RF l P P := fun _ _ _ => rfl
theorem RF_tr (h1 : RF l R Q) (h2 : RF l Q P) : RF l R P := fun f k hf => (h1 f k hf).trans (h2 f k hf)
theorem RF_up {g : Nat} {j v : Int} (h : RF l Q P) (hg : l.elem g = true) : RF l (rU Q g j v) P := fun f k hf => (rU_f (fun e => by rw [e, hg] at hf; cases hf)).trans (h f k hf)
theorem RF_wr {g : Nat} {o : Int} {x : List Int} (h : RF l Q P) (hg : l.elem g = true) : RF l (rW Q g o x) P := fun f k hf => (rW_f (fun e => by rw [e, hg] at hf; cases hf)).trans (h f k hf)
theorem RF_if {p : Prop} [Decidable p] {Q1 Q2 : qR} (h1 : RF l Q1 P) (h2 : RF l Q2 P) : RF l (if p then Q1 else Q2) P := by
  split
  · exact h1
  · exact h2
end RFR
/-- roots, trees, lengths of what is no file, the fids of the server that shows -/
def RT (P : qR) : Prop := ∀ s : Int, 0 ≤ s → s < 2 → P 2289 (64 * s) = 1 ∧ P 2290 (64 * s) = 0 ∧ P 2293 (64 * s) < 0 ∧ P 2291 (64 * s) = 0
def TR (P : qR) : Prop := ∀ s n : Int, 0 ≤ s → s < 2 → 1 ≤ n → n < 64 → ¬ P 2289 (64 * s + n) = 0 → P 2289 (64 * s + P 2290 (64 * s + n)) = 1 ∧ P 2293 (64 * s + P 2290 (64 * s + n)) < 0 ∧ 1 ≤ P 2291 (64 * s + n)
def LZ (P : qR) : Prop := ∀ k : Int, 0 ≤ k → k < 128 → P 2289 k = 0 → P 2297 k = 0
def F2 (P : qR) : Prop := ∀ k : Int, 192 ≤ k → k < 288 → (P 2306 k < 2 ∨ 16 ≤ P 2306 k) ∧ (0 ≤ P 2309 k → 1 ≤ and32 (P 2309 k) 3 → and32 (P 2309 k) 3 ≤ 2 → ¬ P 2306 k = 0)
def GT (P : qR) : Prop := RT P ∧ TR P ∧ LZ P
def GI (T U : Int) (P : qR) : Prop := MJ T U P ∧ GT P ∧ F2 P
section MINVB
variable {T U T1 s n u k c : Int} {P Q : qR}
theorem GI.mono (h : GI T U P) (h1 : T ≤ T1) : GI T1 U P := ⟨h.1.mono h1, h.2⟩
theorem GI.iv (h : GI T U P) : IV false T U P := h.1.1.1
theorem GI.si (h : GI T U P) (hT : T + 48 ≤ 2147483000) (hs : 0 ≤ s) : SI T U s P := ⟨h.1, hT, fun q => (h.2.1.1 s hs q).1, fun _ k h1 h2 => (h.2.2 k h1 h2).1, fun _ k h1 h2 => (h.2.2 k h1 h2).2⟩
theorem RT.of (h : RT P) (h1 : ∀ k, Q 2289 k = P 2289 k) (h2 : ∀ k, Q 2290 k = P 2290 k) (h3 : ∀ k, Q 2293 k = P 2293 k) (h4 : ∀ k, Q 2291 k = P 2291 k) : RT Q := fun s a b => by
  rw [h1, h2, h3, h4]
  exact h s a b
theorem TR.of (h : TR P) (h1 : ∀ k, Q 2289 k = P 2289 k) (h2 : ∀ k, Q 2290 k = P 2290 k) (h3 : ∀ k, Q 2293 k = P 2293 k) (h4 : ∀ k, Q 2291 k = P 2291 k) : TR Q := fun s n a b c d e => by
  rw [h1] at e
  rw [h1, h2, h3, h4]
  exact h s n a b c d e
theorem LZ.of (h : LZ P) (h1 : ∀ k, Q 2289 k = P 2289 k) (h5 : ∀ k, Q 2297 k = P 2297 k) : LZ Q := fun k a b e => by
  rw [h1] at e
  rw [h5]
  exact h k a b e
theorem GT.of (h : GT P) (h1 : ∀ k, Q 2289 k = P 2289 k) (h2 : ∀ k, Q 2290 k = P 2290 k) (h3 : ∀ k, Q 2293 k = P 2293 k) (h4 : ∀ k, Q 2291 k = P 2291 k) (h5 : ∀ k, Q 2297 k = P 2297 k) : GT Q := ⟨h.1.of h1 h2 h3 h4, h.2.1.of h1 h2 h3 h4, h.2.2.of h1 h5⟩
theorem FI.of (h : FI P) (h1 : ∀ k, Q 2289 k = P 2289 k) (h2 : ∀ k, Q 2304 k = P 2304 k) (h3 : ∀ k, Q 2310 k = P 2310 k) (h4 : ∀ k, Q 2306 k = P 2306 k) : FI Q := fun k a b e1 e2 => by
  rw [h2] at e1
  rw [h3] at e2
  rw [h1, h4]
  exact h k a b e1 e2
theorem F2.of (h : F2 P) (h1 : ∀ k, Q 2306 k = P 2306 k) (h2 : ∀ k, Q 2309 k = P 2309 k) : F2 Q := fun k a b => by
  rw [h1, h2]
  exact h k a b
theorem GI.of {l : List Nat} (h : GI T U P) (hM : MI T1 U Q) (hr : RF l Q P) (h1 : l.elem 2289 = false) (h2 : l.elem 2290 = false) (h3 : l.elem 2293 = false) (h4 : l.elem 2291 = false) (h5 : l.elem 2297 = false) (h6 : l.elem 2304 = false) (h7 : l.elem 2310 = false) (h8 : l.elem 2306 = false) (h9 : l.elem 2309 = false) : GI T1 U Q :=
  ⟨⟨hM, h.1.2.of (fun k => hr _ k h1) (fun k => hr _ k h6) (fun k => hr _ k h7) (fun k => hr _ k h8)⟩, h.2.1.of (fun k => hr _ k h1) (fun k => hr _ k h2) (fun k => hr _ k h3) (fun k => hr _ k h4) (fun k => hr _ k h5), h.2.2.of (fun k => hr _ k h8) (fun k => hr _ k h9)⟩
theorem RF_gGrow {l : List Nat} (h : RF l Q P) (h1 : l.elem 2292 = true) (h2 : l.elem 2296 = true) : RF l (gGrow Q s n u) P := RF_up (RF_up h h1) h2
theorem GI_gGrow (h : GI T U P) (hn : 0 ≤ s ∧ s < 2 ∧ 0 ≤ n ∧ n < 64) (hu : 0 ≤ u ∧ u ≤ 3) : GI (T + 1) U (gGrow P s n u) := h.of (l := [2292, 2296]) (MI_gGrow h.1.1 hn hu) (RF_gGrow RF_rfl rfl rfl) rfl rfl rfl rfl rfl rfl rfl rfl rfl
theorem GI_gName {l : List Int} (h : GI T U P) (hn : 0 ≤ s ∧ s < 2 ∧ 0 ≤ n ∧ n < 64) (hl : byt l) (hz : l.length ≤ 12) : GI T U (gName P s n l) := h.of (l := [2298, 2299]) (MI_gName h.1.1 hn hl hz) (RF_up (RF_wr RF_rfl rfl) rfl) rfl rfl rfl rfl rfl rfl rfl rfl rfl
theorem RF_gSize {z : Int} : RF [2300, 2301, 2297] (gSize P s n z) P := fun f k hf => gSize_f (fun e => by rw [e] at hf; exact absurd hf (by decide)) (fun e => by rw [e] at hf; exact absurd hf (by decide)) (fun e => by rw [e] at hf; exact absurd hf (by decide))
theorem gSize_len {z : Int} : gSize P s n z 2297 k = if k = 64 * s + n then z else P 2297 k := by
  unfold gSize
  by_cases e : k = 64 * s + n
  · rw [if_pos e, e, rU_s]
  · rw [if_neg e, rU_k e, rU_f (by decide), gZer_f (by decide)]
theorem GI_gSize {z : Int} (h : GI T U P) (hn : 0 ≤ s ∧ s < 2 ∧ 0 ≤ n ∧ n < 64) (hf : ¬ P 2289 (64 * s + n) = 0) (hz : 0 ≤ z ∧ z ≤ 600) (hb : P 2301 s + (z - P 2297 (64 * s + n)) ≤ 8192) : GI T U (gSize P s n z) := by
  have r : ∀ f k, [2300, 2301, 2297].elem f = false → gSize P s n z f k = P f k := RF_gSize
  refine ⟨⟨MI_gSize h.1.1 hn hz hb, h.1.2.of (fun k => r _ k rfl) (fun k => r _ k rfl) (fun k => r _ k rfl) (fun k => r _ k rfl)⟩, ⟨h.2.1.1.of (fun k => r _ k rfl) (fun k => r _ k rfl) (fun k => r _ k rfl) (fun k => r _ k rfl), h.2.1.2.1.of (fun k => r _ k rfl) (fun k => r _ k rfl) (fun k => r _ k rfl) (fun k => r _ k rfl), fun k a b e => ?_⟩, h.2.2.of (fun k => r _ k rfl) (fun k => r _ k rfl)⟩
  rw [r _ _ rfl] at e
  rw [gSize_len, if_neg (fun q => hf (by rw [← q]; exact e))]
  exact h.2.1.2.2 k a b e
theorem RF_gMake {v : Int} : RF [2307, 2304, 2305, 2306, 2308, 2309, 2310, 2311, 2312] (gMake P k v n u) P := RF_up (RF_up (RF_up (RF_up (RF_up (RF_up (RF_up (RF_up (RF_up RF_rfl rfl) rfl) rfl) rfl) rfl) rfl) rfl) rfl) rfl
theorem gMake_o {v j : Int} {g : Nat} (h : j ≠ k) : gMake P k v n u g j = P g j := by
  have e : ∀ (Q : qR) (f : Nat) (w : Int), rU Q f k w g j = Q g j := fun Q f w => if_neg (fun q => h q.2)
  unfold gMake
  rw [e, e, e, e, e, e, e, e, e]
theorem gMake_node {v : Int} : gMake P k v n u 2306 k = n := by
  unfold gMake
  rw [rU_f (by decide), rU_f (by decide), rU_f (by decide), rU_f (by decide), rU_f (by decide), rU_s]
theorem gMake_mode {v : Int} : gMake P k v n u 2309 k = -1 := by
  unfold gMake
  rw [rU_f (by decide), rU_f (by decide), rU_f (by decide), rU_s]
theorem GI_gMake {v : Int} (h : GI T U P) (hT : 0 ≤ T) (hk : 0 ≤ k ∧ k < 288) (hn : okN (k / 96) n) (hu : 0 ≤ u ∧ u ≤ 3) (hv : 0 ≤ v ∧ v ≤ 4294967295 ∧ (k % 96 < 48 → v ≤ 47)) (hf : k < 192 → P 2289 (64 * (k / 96) + n) = 1) (h2 : 192 ≤ k → n < 2 ∨ 16 ≤ n) : GI T U (gMake P k v n u) := by
  have r : ∀ f k1, [2307, 2304, 2305, 2306, 2308, 2309, 2310, 2311, 2312].elem f = false → gMake P k v n u f k1 = P f k1 := RF_gMake
  refine ⟨⟨MI_gMake h.1.1 hT hk hn hu hv, fun j a b e1 e2 => ?_⟩, h.2.1.of (fun k => r _ k rfl) (fun k => r _ k rfl) (fun k => r _ k rfl) (fun k => r _ k rfl) (fun k => r _ k rfl), fun j a b => ?_⟩
  · rw [r 2289 _ rfl]
    by_cases e : j = k
    · rw [e, gMake_node]
      exact hf (by omega)
    · rw [gMake_o e] at e1 e2 ⊢
      exact h.1.2 j a b e1 e2
  · by_cases e : j = k
    · rw [e, gMake_node, gMake_mode]
      exact ⟨h2 (by omega), fun q => absurd q (by decide)⟩
    · rw [gMake_o e, gMake_o e]
      exact h.2.2 j a b
theorem GI_gOpen {m : Int} (h : GI T U P) (hm : -1 ≤ m ∧ m ≤ 255) (h2 : 192 ≤ k → 1 ≤ and32 m 3 → and32 m 3 ≤ 2 → ¬ P 2306 k = 0) : GI T U (gOpen P k m) := by
  have r : ∀ f k1, [2309, 2311, 2312].elem f = false → gOpen P k m f k1 = P f k1 := RF_up (RF_up (RF_up RF_rfl rfl) rfl) rfl
  refine ⟨⟨MI_gOpen h.1.1 hm, h.1.2.of (fun k => r _ k rfl) (fun k => r _ k rfl) (fun k => r _ k rfl) (fun k => r _ k rfl)⟩, h.2.1.of (fun k => r _ k rfl) (fun k => r _ k rfl) (fun k => r _ k rfl) (fun k => r _ k rfl) (fun k => r _ k rfl), fun j a b => ?_⟩
  have e0 : gOpen P k m 2309 j = if j = k then m else P 2309 j := by
    unfold gOpen
    rw [rU_f (by decide), rU_f (by decide)]
    by_cases e : j = k
    · rw [if_pos e, e, rU_s]
    · rw [if_neg e, rU_k e]
  rw [r 2306 _ rfl, e0]
  have h3 := h.2.2 j a b
  refine ⟨h3.1, ?_⟩
  by_cases e : j = k
  · rw [if_pos e, e]
    intro _ q1 q2
    exact h2 (by omega) q1 q2
  · rw [if_neg e]
    exact h3.2
theorem GI_isFid {b : Int} (h : GI T U P) (hb : b = 0) : GI T U (rU P 2304 k b) := by
  have r : ∀ f k1, [2304].elem f = false → rU P 2304 k b f k1 = P f k1 := RF_up RF_rfl rfl
  refine ⟨⟨⟨IV_isFid h.iv (by omega), h.1.1.2.upd (by decide) (by decide) (by decide) (by decide)⟩, fun j a c e1 e2 => ?_⟩, h.2.1.of (fun k => r _ k rfl) (fun k => r _ k rfl) (fun k => r _ k rfl) (fun k => r _ k rfl) (fun k => r _ k rfl), h.2.2.of (fun k => r _ k rfl) (fun k => r _ k rfl)⟩
  rw [r _ _ rfl] at e2
  rw [r _ _ rfl, r _ _ rfl]
  by_cases e : j = k
  · rw [e, rU_s] at e1
    exact absurd hb e1
  · rw [rU_k e] at e1
    exact h.1.2 j a c e1 e2
/-- the entries of a directory -/
theorem enI_get {l : Int} : ∀ (m : Nat) (f g : Int), f + m = 64 → 1 ≤ f → (g < 0 ∨ (1 ≤ g ∧ g < 64 ∧ ¬ P 2289 (64 * s + g) = 0 ∧ P 2290 (64 * s + g) = n ∧ l < P 2291 (64 * s + g))) → enI P s n l m f g < 0 ∨ (1 ≤ enI P s n l m f g ∧ enI P s n l m f g < 64 ∧ ¬ P 2289 (64 * s + enI P s n l m f g) = 0 ∧ P 2290 (64 * s + enI P s n l m f g) = n ∧ l < P 2291 (64 * s + enI P s n l m f g))
  | 0, f, g, _, _, h => h
  | m + 1, f, g, h1, h2, h => by
    refine enI_get m (f + 1) _ (by omega) (by omega) ?_
    split
    · rename_i q
      exact Or.inr ⟨by omega, by omega, q.1⟩
    · exact h
theorem enI_none {l : Int} : ∀ (m : Nat) (f g : Int), 1 ≤ f → enI P s n l m f g < 0 → g < 0 ∧ ∀ i, f ≤ i → i < f + m → ¬ (¬ P 2289 (64 * s + i) = 0 ∧ P 2290 (64 * s + i) = n ∧ l < P 2291 (64 * s + i))
  | 0, f, g, h1, h => ⟨h, fun i a b => by omega⟩
  | m + 1, f, g, h1, h => by
    obtain ⟨h2, h3⟩ := enI_none m (f + 1) _ (by omega) h
    by_cases q : (¬ P 2289 (64 * s + f) = 0 ∧ P 2290 (64 * s + f) = n ∧ l < P 2291 (64 * s + f)) ∧ (g < 0 ∨ P 2291 (64 * s + f) < P 2291 (64 * s + g))
    · rw [if_pos q] at h2
      omega
    · rw [if_neg q] at h2
      refine ⟨h2, fun i a b => ?_⟩
      by_cases e : i = f
      · rw [e]
        exact fun c => q ⟨c, Or.inl h2⟩
      · exact h3 i (by omega) (by omega)
def inD (P : qR) (s n l f : Int) : Int := if ¬ P 2289 (64 * s + f) = 0 ∧ P 2290 (64 * s + f) = n ∧ l < P 2291 (64 * s + f) then 1 else 0
theorem inD_01 {l f : Int} : 0 ≤ inD P s n l f ∧ inD P s n l f ≤ 1 := by
  unfold inD
  split <;> decide
theorem enO_cnt : ∀ (m : Nat) (l : Int), 0 ≤ enO P s n m l → (m : Int) + 1 ≤ sm (inD P s n l) 1 63
  | 0, l, h => by
    obtain ⟨h1, h2, h3⟩ := (enI_get (P := P) (s := s) (n := n) (l := l) 63 1 (-1) (by decide) (by decide) (Or.inl (by decide))).resolve_left (by unfold enO at h; omega)
    have e : inD P s n l (enI P s n l 63 1 (-1)) = 1 := if_pos h3
    have := sm_ge (f := inD P s n l) (k := enI P s n l 63 1 (-1)) 63 1 h1 (by omega) (fun i _ _ => inD_01.1)
    omega
  | m + 1, l, h => by
    unfold enO at h
    by_cases q : enI P s n l 63 1 (-1) < 0
    · rw [if_pos q] at h
      omega
    · rw [if_neg q] at h
      obtain ⟨h1, h2, h3⟩ := (enI_get (P := P) (s := s) (n := n) (l := l) 63 1 (-1) (by decide) (by decide) (Or.inl (by decide))).resolve_left q
      have ih := enO_cnt m _ h
      obtain ⟨g, hg⟩ : ∃ g, enI P s n l 63 1 (-1) = g := ⟨_, rfl⟩
      rw [hg] at h1 h2 h3 ih
      have e := sm_one (f := fun i => if i = g then 1 else inD P s n (P 2291 (64 * s + g)) i) (g := inD P s n (P 2291 (64 * s + g))) (k := g) 63 1 h1 (by omega) (fun i hi => if_neg hi)
      have e0 : inD P s n (P 2291 (64 * s + g)) g = 0 := if_neg (fun c => by have := c.2.2; omega)
      rw [e0, if_pos rfl] at e
      have e2 := sm_le (f := fun i => if i = g then 1 else inD P s n (P 2291 (64 * s + g)) i) (g := inD P s n l) 63 1 (fun i _ _ => by
        show (if i = g then (1 : Int) else inD P s n (P 2291 (64 * s + g)) i) ≤ inD P s n l i
        by_cases q1 : i = g
        · rw [if_pos q1, q1, show inD P s n l g = 1 from if_pos h3]
          decide
        · rw [if_neg q1]
          by_cases q2 : ¬ P 2289 (64 * s + i) = 0 ∧ P 2290 (64 * s + i) = n ∧ P 2291 (64 * s + g) < P 2291 (64 * s + i)
          · rw [show inD P s n (P 2291 (64 * s + g)) i = 1 from if_pos q2, show inD P s n l i = 1 from if_pos ⟨q2.1, q2.2.1, by omega⟩]
            decide
          · rw [show inD P s n (P 2291 (64 * s + g)) i = 0 from if_neg q2]
            exact inD_01.1)
      omega
theorem enO_lt {m : Nat} {l : Int} (h : 0 ≤ enO P s n m l) : (m : Int) < 63 := by
  have h1 := enO_cnt m l h
  have h2 := sm_le (f := inD P s n l) (g := fun _ => 1) 63 1 (fun i _ _ => inD_01.2)
  rw [sm_const] at h2
  omega
theorem enP_cnt : ∀ (m : Nat) (p j g : Int), (0 ≤ j → j ≤ m ∨ enP P m p j g = g) ∧ (j < 0 → enP P m p j g = g)
  | 0, p, j, g => ⟨fun _ => Or.inr rfl, fun _ => rfl⟩
  | m + 1, p, j, g => by
    unfold enP
    split
    · obtain ⟨h1, h2⟩ := enP_cnt m (p + 1) j g
      exact ⟨fun h => (h1 h).imp (fun q => by omega) id, h2⟩
    · obtain ⟨h1, h2⟩ := enP_cnt m (p + 1) (j + (-1)) (if j + (-1) = 0 then 16 * p + 16 else g)
      refine ⟨fun h => ?_, fun h => by rw [h2 (by omega), if_neg (by omega)]⟩
      by_cases q : j = 0
      · refine Or.inl (by omega)
      · rcases h1 (by omega) with h3 | h3
        · exact Or.inl (by omega)
        · by_cases q2 : j + (-1) = 0
          · exact Or.inl (by omega)
          · rw [if_neg q2] at h3
            exact Or.inr (by rw [if_neg q2]; exact h3)
theorem qEnt_lt (h : 0 ≤ qEnt P s n k) (hk : 0 ≤ k) : k < 63 := by
  unfold qEnt at h
  by_cases c1 : s = 2
  · rw [if_pos c1] at h
    by_cases c2 : 0 < n
    · rw [if_pos c2] at h
      by_cases c3 : k < 2
      · omega
      · rw [if_neg c3] at h
        omega
    · rw [if_neg c2] at h
      rcases (enP_cnt (P := P) 8 0 k (if k = 0 then 1 else -1)).1 hk with h3 | h3
      · omega
      · rw [h3] at h
        by_cases c3 : k = 0
        · omega
        · rw [if_neg c3] at h
          omega
  · rw [if_neg c1] at h
    have := enO_lt h
    omega
theorem rdE_most : ∀ (m : Nat) (x l : Int), 0 ≤ x → x ≤ 64 → (rdE P s n m x l).1 ≤ 64
  | 0, x, l, _, h => h
  | m + 1, x, l, h0, h => by
    unfold rdE
    by_cases q : 0 ≤ qEnt P s n x ∧ 58 + qNs P s (qEnt P s n x) ≤ l
    · rw [if_pos q]
      have := qEnt_lt q.1 h0
      exact rdE_most m (x + 1) _ (by omega) (by omega)
    · rw [if_neg q]
      exact h
/-- no file is in what is removed -/
theorem qRem_none (h : qRem P s n u = 0) (hG : GT P) (hs : 0 ≤ s ∧ s < 3) (hn : 0 ≤ n ∧ n < 64) : ∀ i, 1 ≤ i → i < 64 → ¬ P 2289 (64 * s + i) = 0 → ¬ P 2290 (64 * s + i) = n := fun i h1 h2 h3 h4 => by
  have hs2 := (qRem_0 h).1
  unfold qRem at h
  by_cases c1 : s = 2 ∨ n = 0 ∨ qMv P s (qUp P s n) u 2 = 0
  · rw [if_pos c1] at h
    omega
  · rw [if_neg c1] at h
    by_cases hs3 : s < 2
    · obtain ⟨g1, g2, g3⟩ := hG.2.1 s i hs.1 hs3 h1 h2 h3
      rw [h4] at g1 g2
      have hm : qMode P s n = P 2293 (64 * s + n) := if_pos hs3
      by_cases c2 : qMode P s n < 0 ∧ 0 ≤ qEnt P s n 0
      · rw [if_pos c2] at h
        omega
      · have c3 : qEnt P s n 0 < 0 := by omega
        have c4 : enI P s n 0 63 1 (-1) < 0 := by
          unfold qEnt at c3
          rw [if_neg hs2] at c3
          exact c3
        exact (enI_none 63 1 (-1) (by decide) c4).2 i h1 (by omega) ⟨h3, h4, by omega⟩
    · omega
end MINVB
