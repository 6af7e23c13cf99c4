/-! What each message leaves true of the trees and of the fids. -/
section MINVC
variable {T U T1 s n u k c : Int} {P Q : qR}
theorem RF_gRem : RF [2289, 2302, 2301, 2297, 2292, 2296, 2310] (gRem P s n u) P := fun f k hf => gRem_o (fun e => by rw [e] at hf; exact absurd hf (by decide)) (fun e => by rw [e] at hf; exact absurd hf (by decide)) (fun e => by rw [e] at hf; exact absurd hf (by decide)) (fun e => by rw [e] at hf; exact absurd hf (by decide)) (fun e => by rw [e] at hf; exact absurd hf (by decide)) (fun e => by rw [e] at hf; exact absurd hf (by decide)) (fun e => by rw [e] at hf; exact absurd hf (by decide))
theorem gRem_len : gRem P s n u 2297 k = if k = 64 * s + n then 0 else P 2297 k := by
  show gGone (gRem0 P s n u) _ _ _ 2297 k = _
  rw [gGone_f (by decide)]
  unfold gRem0
  rw [gGrow_f (by decide) (by decide)]
  by_cases e : k = 64 * s + n
  · rw [if_pos e, e, rU_s]
  · rw [if_neg e, rU_k e, rU_f (by decide), rU_f (by decide), rU_f (by decide)]
theorem GI_gRem (h : GI T U P) (hs : 0 ≤ s ∧ s < 3) (hn : 0 ≤ n ∧ n < 64) (hr : qRem P s n u = 0) (hf : P 2289 (64 * s + n) = 1) (hu : 0 ≤ u ∧ u ≤ 3) : GI (T + 1) U (gRem P s n u) := by
  have r : ∀ f k, [2289, 2302, 2301, 2297, 2292, 2296, 2310].elem f = false → gRem P s n u f k = P f k := RF_gRem
  obtain ⟨c1, c2⟩ := qRem_0 hr
  have hq := qRem_none hr h.2.1 hs hn
  have hs2 : s < 2 := by omega
  refine ⟨⟨MI_gRem h.1.1 ⟨hs.1, hs2, hn.1, hn.2⟩ hf hu, FI_gRem h.1.2 h.iv ⟨hs.1, hs2⟩ hn⟩, ⟨fun t a b => ?_, fun t i a b c d e => ?_, fun j a b e => ?_⟩, h.2.2.of (fun k => r _ k rfl) (fun k => r _ k rfl)⟩
  · rw [gRem_isFile, if_neg (by omega), r 2290 _ rfl, r 2293 _ rfl, r 2291 _ rfl]
    exact h.2.1.1 t a b
  · rw [gRem_isFile] at e
    have e1 : ¬ 64 * t + i = 64 * s + n := fun q => e (if_pos q)
    rw [if_neg e1] at e
    have g := h.2.1.2.1 t i a b c d e
    have ba : 0 ≤ P 2290 (64 * t + i) ∧ P 2290 (64 * t + i) ≤ 63 := IV.a h.iv 2290 0 128 rfl rfl rfl (by omega) (by omega)
    rw [r 2290 _ rfl, r 2293 _ rfl, r 2291 _ rfl, gRem_isFile, if_neg]
    · exact g
    · intro q
      have q1 : t = s := by omega
      rw [q1] at e q g
      exact hq i c d e (by rw [q1] at ba; omega)
  · rw [gRem_isFile] at e
    rw [gRem_len]
    by_cases q : j = 64 * s + n
    · rw [if_pos q]
    · rw [if_neg q] at e ⊢
      exact h.2.1.2.2 j a b e
theorem fid_node (h : GI T U P) (hs : 0 ≤ s ∧ s < 3) (hk : 96 * s ≤ k ∧ k < 96 * s + 96) : okN s (P 2306 k) ∧ 0 ≤ P 2308 k ∧ P 2308 k ≤ 3 := by
  have b : 0 ≤ P 2306 k ∧ P 2306 k ≤ (if k < 192 then 63 else 143) := IV.a h.iv 2306 0 288 rfl rfl rfl (by omega) (by omega)
  have b2 : 0 ≤ P 2308 k ∧ P 2308 k ≤ 3 := IV.a h.iv 2308 0 288 rfl rfl rfl (by omega) (by omega)
  refine ⟨⟨hs.1, by omega, b.1, ?_, fun q => ?_⟩, b2⟩
  · split at b <;> omega
  · rw [if_pos (by omega)] at b
    omega
theorem fid_file (h : GI T U P) (hs : 0 ≤ s ∧ s < 2) (hk : 96 * s ≤ k ∧ k < 96 * s + 96) (hf : ¬ P 2304 k = 0) (hg : P 2310 k = 0) : P 2289 (64 * s + P 2306 k) = 1 := by
  have := h.1.2 k (by omega) (by omega) hf hg
  rw [show k / 96 = s by omega] at this
  exact this
theorem GI_gClunk (h : GI T U P) (hs : 0 ≤ s ∧ s < 3) (hk : 96 * s ≤ k ∧ k < 96 * s + 96) (hf : ¬ P 2304 k = 0) : GI (T + 1) U (gClunk P s k) := by
  obtain ⟨b1, b2⟩ := fid_node h hs hk
  unfold gClunk
  split
  · rename_i q
    have hr := qRem_0 q.2
    exact GI_isFid (GI_gRem h hs ⟨b1.2.2.1, b1.2.2.2.2 (by omega)⟩ q.2 (fid_file h ⟨hs.1, by omega⟩ hk hf q.1.2) b2) rfl
  · exact GI_isFid (h.mono (by omega)) rfl
theorem GI_clA (hs : 0 ≤ s ∧ s < 3) (hc : 0 ≤ c ∧ c < 2) : ∀ (m : Nat) (T : Int) (P : qR), GI T U P → GI (T + m) U (clA P s c m)
  | 0, T, P, h => h.mono (by omega)
  | m + 1, T, P, h => by
    unfold clA
    have hr := lsF_rng (P := P) (lo := 48 * (2 * s + c)) 48 (48 * (2 * s + c)) (-1) (by omega) (by omega) (Or.inl rfl)
    split
    · exact h.mono (by omega)
    · rename_i q
      have q : ¬ lsF P 48 (48 * (2 * s + c)) (-1) < 0 := q
      have h2 := GI_clA hs hc m (T + 1) _ (GI_gClunk (k := qLeast P s c) h hs (by unfold qLeast; omega) (by unfold qLeast; omega))
      rw [show T + ((m + 1 : Nat) : Int) = T + 1 + (m : Int) by omega]
      exact h2
theorem GI_one {f : Nat} {j v : Int} {ty len : Nat} (h : GI T U P) (e0 : Nat.beq f 2281 = false) (hv : (ivP T U f j).1 ≤ v ∧ v ≤ (ivP T U f j).2) (h1 : [f].elem 2289 = false) (h2 : [f].elem 2290 = false) (h3 : [f].elem 2293 = false) (h4 : [f].elem 2291 = false) (h5 : [f].elem 2297 = false) (h6 : [f].elem 2304 = false) (h7 : [f].elem 2310 = false) (h8 : [f].elem 2306 = false) (h9 : [f].elem 2309 = false) (h10 : 2301 ≠ f) (h11 : 2302 ≠ f) : GI T U (rU P f j v) := by
  have n1 : 2297 ≠ f := fun e => by rw [e] at h5; rw [List.elem_cons, beq_self_eq_true] at h5; cases h5
  have n2 : 2289 ≠ f := fun e => by rw [e] at h1; rw [List.elem_cons, beq_self_eq_true] at h1; cases h1
  exact h.of (l := [f]) ⟨h.iv.uA f e0 hv, h.1.1.2.upd h10 h11 n1 n2⟩ (RF_up RF_rfl (by rw [List.elem_cons, beq_self_eq_true])) h1 h2 h3 h4 h5 h6 h7 h8 h9
theorem GI_vsP {a : Int → Int} (h : GI T U P) (hs : 0 ≤ s ∧ s < 3) (hc : 0 ≤ c ∧ c < 2) (hv : 64 ≤ nu a 7 4) : GI (T + 48) U (vsP P s c a) := by
  have hq := GI_clA (U := U) hs hc 48 T P h
  exact GI_one (ty := 0) (len := 6) hq rfl (by show (64 : Int) ≤ (if nu a 7 4 < 300 then nu a 7 4 else 300) ∧ (if nu a 7 4 < 300 then nu a 7 4 else 300) ≤ 300; split <;> omega) rfl rfl rfl rfl rfl rfl rfl rfl rfl (by decide) (by decide)
theorem fiF_get (nm : List Int) : ∀ (m : Nat) (f : Int), 1 ≤ f → f + m = 64 → 0 ≤ fiF P s n nm m f → 1 ≤ fiF P s n nm m f ∧ fiF P s n nm m f < 64 ∧ ¬ P 2289 (64 * s + fiF P s n nm m f) = 0 ∧ P 2290 (64 * s + fiF P s n nm m f) = n ∧ qNm P s (fiF P s n nm m f) = nm
  | 0, f, _, _, h => by unfold fiF at h; omega
  | m + 1, f, h1, h2, h => by
    unfold fiF at h ⊢
    split
    · rename_i q
      exact ⟨h1, by omega, q⟩
    · rename_i q
      rw [if_neg q] at h
      exact fiF_get nm m (f + 1) (by omega) (by omega) h
theorem fiE_get (nm : List Int) : ∀ (m : Nat) (k : Int), 0 ≤ fiE P n nm m k → ∃ j, k ≤ j ∧ fiE P n nm m k = qEnt P 2 n j ∧ 0 ≤ qEnt P 2 n j
  | 0, k, h => by unfold fiE at h; omega
  | m + 1, k, h => by
    unfold fiE at h ⊢
    split
    · rename_i q
      exact ⟨k, by omega, rfl, q.1⟩
    · rename_i q
      rw [if_neg q] at h
      obtain ⟨j, h1, h2⟩ := fiE_get nm m (k + 1) h
      exact ⟨j, by omega, h2⟩
/-- where names lead -/
def oN (P : qR) (s n : Int) : Prop := okN s n ∧ (s < 2 → P 2289 (64 * s + n) = 1) ∧ (s = 2 → n < 2 ∨ 16 ≤ n)
theorem isFile_1 {j : Int} (h : IV false T U P) (hj : 0 ≤ j ∧ j < 128) (hf : ¬ P 2289 j = 0) : P 2289 j = 1 := by
  have : 0 ≤ P 2289 j ∧ P 2289 j ≤ 1 := IV.a h 2289 2 128 rfl rfl rfl (by omega) (by omega)
  omega
theorem oN_qTo {nm : List Int} (h : GI T U P) (hn : oN P s n) (hd : qMode P s n < 0) (h0 : 0 ≤ qTo P s n nm) : oN P s (qTo P s n nm) := by
  have hok := (qTo_ok (nm := nm) h.iv hn.1 hd).2 h0
  refine ⟨hok, fun q => ?_, fun q => ?_⟩
  · unfold qTo at h0 hok ⊢
    split
    · rename_i c1
      rw [if_pos c1] at hok
      have e : qUp P s n = P 2290 (64 * s + n) := if_pos q
      rw [e]
      by_cases e0 : n = 0
      · rw [e0, show 64 * s + (0 : Int) = 64 * s by omega]
        rw [(h.2.1.1 s hn.1.1 q).2.1, show 64 * s + (0 : Int) = 64 * s by omega]
        exact (h.2.1.1 s hn.1.1 q).1
      · exact (h.2.1.2.1 s n hn.1.1 q (by have := hn.1.2.2.1; omega) (hn.1.2.2.2.2 q) (by rw [hn.2.1 q]; decide)).1
    · rename_i c1
      rw [if_neg c1] at h0 hok
      have e : qFind P s n nm = fiF P s n nm 63 1 := if_pos q
      rw [e] at h0 ⊢
      obtain ⟨g1, g2, g3, -⟩ := fiF_get nm 63 1 (by decide) (by decide) h0
      exact isFile_1 h.iv (by have := hn.1.1; omega) g3
  · have hd2 : n = 0 ∨ n % 16 = 0 := qMode_dir2 (P := P) (by rw [q] at hd; exact hd)
    have hn2 := hn.2.2 q
    have hb := hn.1.2.2.1
    unfold qTo at h0 hok ⊢
    split
    · rename_i c1
      have e : qUp P s n = if n < 16 ∨ n % 16 = 0 then 0 else n / 16 * 16 := if_neg (by omega)
      rw [e]
      split
      · exact Or.inl (by decide)
      · omega
    · rename_i c1
      rw [if_neg c1] at h0 hok
      have e : qFind P s n nm = fiE P n nm 9 0 := if_neg (by omega)
      rw [e] at h0 ⊢
      obtain ⟨j, g1, g2, g3⟩ := fiE_get nm 9 0 h0
      rw [g2]
      unfold qEnt at g3 ⊢
      rw [if_pos rfl] at g3 ⊢
      by_cases c2 : 0 < n
      · rw [if_pos c2] at g3 ⊢
        by_cases c3 : j < 2
        · rw [if_pos c3]
          exact Or.inr (by omega)
        · rw [if_neg c3] at g3
          omega
      · rw [if_neg c2] at g3 ⊢
        have := enP_rng P 8 0 j (if j = 0 then 1 else -1) (by omega) (by omega) (by split <;> omega)
        omega
theorem oN_wlk (h : GI T U P) : ∀ (r : List (List Int)) (n : Int), oN P s n → oN P s (wlk P s u r n).2.1
  | [], n, hn => hn
  | nm :: r, n, hn => by
    unfold wlk
    by_cases q : qSt P s n u nm = 0
    · rw [if_pos q]
      rcases qSt_v P s n u nm with ⟨-, g1, -, g2⟩ | g
      · exact oN_wlk h r _ (oN_qTo h hn g1 g2)
      · omega
    · rw [if_neg q]
      exact hn
theorem oN_fid (h : GI T U P) (hs : 0 ≤ s ∧ s < 3) (hk : 96 * s ≤ k ∧ k < 96 * s + 96) (hf : ¬ P 2304 k = 0) (hg : P 2310 k = 0) : oN P s (P 2306 k) := ⟨(fid_node h hs hk).1, fun q => fid_file h ⟨hs.1, q⟩ hk hf hg, fun q => (h.2.2 k (by omega) (by omega)).1⟩
theorem oN_root (h : GI T U P) (hs : 0 ≤ s ∧ s < 3) : oN P s 0 := ⟨⟨hs.1, by omega, by decide, by decide, fun _ => by decide⟩, fun q => by rw [show 64 * s + (0 : Int) = 64 * s by omega]; exact (h.2.1.1 s hs.1 q).1, fun _ => Or.inl (by decide)⟩
theorem GI_make {v : Int} (h : GI T U P) (hT : 0 ≤ T) (hs : 0 ≤ s ∧ s < 3) (hk : 96 * s ≤ k ∧ k < 96 * s + 96) (hn : oN P s n) (hu : 0 ≤ u ∧ u ≤ 3) (hv : 0 ≤ v ∧ v ≤ 4294967295 ∧ (k % 96 < 48 → v ≤ 47)) : GI T U (gMake P k v n u) := by
  have e : k / 96 = s := by omega
  refine GI_gMake h hT (by omega) (by rw [e]; exact hn.1) hu hv (fun q => ?_) (fun q => hn.2.2 (by omega))
  rw [e]
  exact hn.2.1 (by omega)
theorem and3_of {m : Int} (h : 0 ≤ m ∧ m ≤ 255) (h2 : and32 m (-81) ≤ 0) : and32 m 3 = 0 := by
  have h1 : (List.range 256).all (fun i => decide (¬ and32 (i : Int) (-81) ≤ 0) || decide (and32 (i : Int) 3 = 0)) = true := by decide +kernel
  obtain ⟨i, rfl⟩ := Int.eq_ofNat_of_zero_le h.1
  have := List.all_eq_true.mp h1 i (List.mem_range.mpr (by omega))
  rw [Bool.or_eq_true, decide_eq_true_eq, decide_eq_true_eq] at this
  exact this.resolve_left (fun q => q h2)
theorem GI_opG {m : Int} (h : GI T U P) (hs : 0 ≤ s ∧ s < 3) (hk : 96 * s ≤ k ∧ k < 96 * s + 96) (hf : ¬ P 2304 k = 0) (hg : P 2310 k = 0) (hm : 0 ≤ m ∧ m ≤ 255) (hq : qOpn P s (P 2306 k) (P 2308 k) m = 0) : GI (T + 1) U (opG P s k m) := by
  obtain ⟨b1, b2⟩ := fid_node h hs hk
  unfold opG
  have key : ∀ Q, GI (T + 1) U Q → (∀ j, Q 2306 j = P 2306 j) → GI (T + 1) U (gOpen Q k m) := fun Q hQ e => GI_gOpen hQ (by omega) (fun q1 q2 q3 q4 => by
    rw [e] at q4
    have hs2 : s = 2 := by omega
    have hd : qMode P s (P 2306 k) < 0 := by
      rw [hs2, q4]
      show (-2147483283 : Int) < 0
      decide
    unfold qOpn at hq
    by_cases c1 : 3 < and32 m (-81)
    · rw [if_pos c1] at hq
      omega
    · rw [if_neg c1] at hq
      by_cases c2 : qMode P s (P 2306 k) < 0 ∧ (0 < and32 m (-81) ∨ ¬ and32 m 16 = 0)
      · rw [if_pos c2] at hq
        omega
      · have := and3_of hm (by omega)
        omega)
  split
  · rename_i c1
    have hs2 : 0 ≤ s ∧ s < 2 ∧ 0 ≤ P 2306 k ∧ P 2306 k < 64 := ⟨hs.1, c1.2.1, b1.2.2.1, b1.2.2.2.2 c1.2.1⟩
    have hfile := fid_file h ⟨hs.1, c1.2.1⟩ hk hf hg
    have hl := h.1.1.lens hs2
    have hl2 : 0 ≤ P 2297 (64 * s + P 2306 k) ∧ P 2297 (64 * s + P 2306 k) ≤ 600 := IV.a h.iv 2297 0 128 rfl rfl rfl (by omega) (by omega)
    have hl3 : 0 ≤ P 2301 s ∧ P 2301 s ≤ 8192 := IV.a h.iv 2301 0 2 rfl rfl rfl (by omega) (by omega)
    refine key _ (GI_gGrow (GI_gSize h hs2 (by omega) (by decide) (by omega)) hs2 b2) (fun j => ?_)
    rw [gGrow_f (by decide) (by decide), gSize_f (by decide) (by decide) (by decide)]
  · exact key _ (h.mono (by omega)) (fun j => rfl)
theorem and32_rng (x y : Int) : -2147483648 ≤ and32 x y ∧ and32 x y ≤ 2147483647 := ⟨Int32.minValue_le_toInt _, Int32.toInt_le _⟩
theorem or32_rng (x y : Int) : -2147483648 ≤ or32 x y ∧ or32 x y ≤ 2147483647 := ⟨Int32.minValue_le_toInt _, Int32.toInt_le _⟩
theorem GI_gCre {p m nn : Int} {nm : List Int} (h : GI T U P) (hT : 0 ≤ T) (hs : 0 ≤ s ∧ s < 2) (hk : 96 * s ≤ k ∧ k < 96 * s + 96) (hi : oN P s n) (hd : P 2293 (64 * s + n) < 0) (hnn : 1 ≤ nn ∧ nn < 64 ∧ P 2289 (64 * s + nn) = 0) (hm : -1 ≤ m ∧ m ≤ 255) (hu : 0 ≤ u ∧ u ≤ 3) (hl : byt nm) (hz : nm.length ≤ 12) (ht : P 2302 s ≤ 63) : GI (T + 2) U (gCre P s k p m n nn u nm) := by
  have hI := h.iv
  have hb := hi.1.2.2.1
  have hb2 := hi.1.2.2.2.2 hs.2
  have hif := hi.2.1 hs.2
  have hne : n ≠ nn := fun e => by rw [e] at hif; omega
  have b0 : 0 ≤ P 2303 s ∧ P 2303 s ≤ T := IV.a hI 2303 0 2 rfl rfl rfl (by omega) (by omega)
  have b1 : 0 ≤ P 2295 (64 * s + n) ∧ P 2295 (64 * s + n) ≤ 3 := IV.a hI 2295 0 128 rfl rfl rfl (by omega) (by omega)
  have b2 : 0 ≤ P 2302 s ∧ P 2302 s ≤ 64 := IV.a hI 2302 0 2 rfl rfl rfl (by omega) (by omega)
  have hlz := h.2.1.2.2 (64 * s + nn) (by omega) (by omega) hnn.2.2
  have hI1 := hI.mono (show T ≤ T + 1 by omega) (Int.le_refl U)
  obtain ⟨Q, hQ⟩ : ∃ Q : qR, Q = rU (gName (rU (rU (rU (rU (rU (rU (rU (rU (rU (rU P 2289 (64 * s + nn) 1) 2290 (64 * s + nn) n) 2303 s (P 2303 s + 1)) 2291 (64 * s + nn) (P 2303 s + 1)) 2292 (64 * s + nn) 0) 2293 (64 * s + nn) (creM P s n p)) 2294 (64 * s + nn) u) 2295 (64 * s + nn) (P 2295 (64 * s + n))) 2296 (64 * s + nn) u) 2297 (64 * s + nn) 0) s nn nm) 2302 s (P 2302 s + 1) := ⟨_, rfl⟩
  have hc : ∀ (f : Nat) (j : Int), f ≠ 2302 → f ≠ 2298 → f ≠ 2299 → f ≠ 2297 → f ≠ 2296 → f ≠ 2295 → f ≠ 2294 → f ≠ 2292 → f ≠ 2303 → Q f j = rU (rU (rU (rU P 2289 (64 * s + nn) 1) 2290 (64 * s + nn) n) 2291 (64 * s + nn) (P 2303 s + 1)) 2293 (64 * s + nn) (creM P s n p) f j := fun f j a1 a2 a3 a4 a5 a6 a7 a8 a9 => by
    rw [hQ, rU_f a1, gName_f a2 a3, rU_f a4, rU_f a5, rU_f a6, rU_f a7]
    unfold rU
    by_cases e : f = 2293 ∧ j = 64 * s + nn
    · rw [if_pos e, if_pos e]
    · rw [if_neg e, if_neg e, if_neg (fun q => a8 q.1)]
      by_cases e2 : f = 2291 ∧ j = 64 * s + nn
      · rw [if_pos e2, if_pos e2]
      · rw [if_neg e2, if_neg e2, if_neg (fun q => a9 q.1)]
  have hfile : ∀ j, Q 2289 j = if j = 64 * s + nn then 1 else P 2289 j := fun j => by
    rw [hc _ _ (by decide) (by decide) (by decide) (by decide) (by decide) (by decide) (by decide) (by decide) (by decide), rU_f (by decide), rU_f (by decide), rU_f (by decide)]
    by_cases e : j = 64 * s + nn
    · rw [if_pos e, e, rU_s]
    · rw [if_neg e, rU_k e]
  have habove : ∀ j, Q 2290 j = if j = 64 * s + nn then n else P 2290 j := fun j => by
    rw [hc _ _ (by decide) (by decide) (by decide) (by decide) (by decide) (by decide) (by decide) (by decide) (by decide), rU_f (by decide), rU_f (by decide)]
    by_cases e : j = 64 * s + nn
    · rw [if_pos e, e, rU_s]
    · rw [if_neg e, rU_k e, rU_f (by decide)]
  have hpath : ∀ j, Q 2291 j = if j = 64 * s + nn then P 2303 s + 1 else P 2291 j := fun j => by
    rw [hc _ _ (by decide) (by decide) (by decide) (by decide) (by decide) (by decide) (by decide) (by decide) (by decide), rU_f (by decide)]
    by_cases e : j = 64 * s + nn
    · rw [if_pos e, e, rU_s]
    · rw [if_neg e, rU_k e, rU_f (by decide), rU_f (by decide)]
  have hmode : ∀ j, Q 2293 j = if j = 64 * s + nn then creM P s n p else P 2293 j := fun j => by
    rw [hc _ _ (by decide) (by decide) (by decide) (by decide) (by decide) (by decide) (by decide) (by decide) (by decide)]
    by_cases e : j = 64 * s + nn
    · rw [if_pos e, e, rU_s]
    · rw [if_neg e, rU_k e, rU_f (by decide), rU_f (by decide), rU_f (by decide)]
  have hoth : ∀ (f : Nat) (j : Int), f = 2304 ∨ f = 2310 ∨ f = 2306 ∨ f = 2309 → Q f j = P f j := fun f j e => by
    rw [hc _ _ (by rintro rfl; revert e; decide) (by rintro rfl; revert e; decide) (by rintro rfl; revert e; decide) (by rintro rfl; revert e; decide) (by rintro rfl; revert e; decide) (by rintro rfl; revert e; decide) (by rintro rfl; revert e; decide) (by rintro rfl; revert e; decide) (by rintro rfl; revert e; decide), rU_f (by rintro rfl; revert e; decide), rU_f (by rintro rfl; revert e; decide), rU_f (by rintro rfl; revert e; decide), rU_f (by rintro rfl; revert e; decide)]
  have hlen : ∀ j, Q 2297 j = P 2297 j := fun j => by
    rw [hQ, rU_f (by decide), gName_f (by decide) (by decide)]
    by_cases e : j = 64 * s + nn
    · rw [e, rU_s, hlz]
    · rw [rU_k e, rU_f (by decide), rU_f (by decide), rU_f (by decide), rU_f (by decide), rU_f (by decide), rU_f (by decide), rU_f (by decide), rU_f (by decide), rU_f (by decide)]
  have hIQ : IV false (T + 1) U Q := by
    rw [hQ]
    refine IV.uA (IV.uA (IV.wA (((((((((((hI1.uA 2289 rfl ?_).uA 2290 rfl ?_).uA 2303 rfl ?_).uA 2291 rfl ?_).uA 2292 rfl ?_).uA 2293 rfl ?_).uA 2294 rfl hu).uA 2295 rfl b1).uA 2296 rfl hu).uA 2297 rfl ?_)) 2298 rfl (fun j _ _ => hl _ (by omega))) 2299 rfl ?_) 2302 rfl ?_
    · show (0 : Int) ≤ 1 ∧ (1 : Int) ≤ 1; decide
    · show (0 : Int) ≤ n ∧ n ≤ 63; omega
    · show 0 ≤ P 2303 s + 1 ∧ P 2303 s + 1 ≤ T + 1; omega
    · show 0 ≤ P 2303 s + 1 ∧ P 2303 s + 1 ≤ T + 1; omega
    · show (0 : Int) ≤ 0 ∧ (0 : Int) ≤ T + 1; omega
    · exact or32_rng _ _
    · show (0 : Int) ≤ 0 ∧ (0 : Int) ≤ 600; decide
    · show 0 ≤ (nm.length : Int) ∧ (nm.length : Int) ≤ 12; omega
    · show 0 ≤ P 2302 s + 1 ∧ P 2302 s + 1 ≤ 64; omega
  have hTB : TB Q := by
    refine h.1.1.2.two (s := s) (n := nn) (b := 1) (l := 0) ⟨hs.1, hs.2, by omega, hnn.2.1⟩ (fun j => ?_) (fun j => ?_) (fun j => ?_) (fun j => ?_)
    · rw [hlz, rU_selfe (by omega), hQ, rU_f (by decide), gName_f (by decide) (by decide), rU_f (by decide), rU_f (by decide), rU_f (by decide), rU_f (by decide), rU_f (by decide), rU_f (by decide), rU_f (by decide), rU_f (by decide), rU_f (by decide), rU_f (by decide)]
    · rw [hnn.2.2, hQ, show P 2302 s + (1 - 0) = P 2302 s + 1 by omega]
      by_cases e : j = s
      · rw [e, rU_s, rU_s]
      · rw [rU_k e, rU_k e, gName_f (by decide) (by decide), rU_f (by decide), rU_f (by decide), rU_f (by decide), rU_f (by decide), rU_f (by decide), rU_f (by decide), rU_f (by decide), rU_f (by decide), rU_f (by decide), rU_f (by decide)]
    · rw [hlen]
      by_cases e : j = 64 * s + nn
      · rw [e, rU_s, hlz]
      · rw [rU_k e]
    · rw [hfile]
      by_cases e : j = 64 * s + nn
      · rw [if_pos e, e, rU_s]
      · rw [if_neg e, rU_k e]
  have hGQ : GI (T + 1) U Q := by
    refine ⟨⟨⟨hIQ, hTB⟩, fun j a b e1 e2 => ?_⟩, ⟨fun t a b => ?_, fun t i a b c d e => ?_, fun j a b e => ?_⟩, h.2.2.of (fun j => hoth _ j (by decide)) (fun j => hoth _ j (by decide))⟩
    · rw [hoth _ _ (by decide)] at e1 e2
      rw [hoth 2306 _ (by decide), hfile]
      have := h.1.2 j a b e1 e2
      split
      · rfl
      · exact this
    · rw [hfile, habove, hmode, hpath, if_neg (by omega), if_neg (by omega), if_neg (by omega), if_neg (by omega)]
      exact h.2.1.1 t a b
    · rw [hfile] at e
      rw [habove, hpath]
      by_cases q : 64 * t + i = 64 * s + nn
      · rw [if_pos q, if_pos q, hfile, hmode]
        have q1 : t = s := by omega
        rw [q1, if_neg (by omega), if_neg (by omega)]
        exact ⟨hif, hd, by omega⟩
      · rw [if_neg q] at e
        rw [if_neg q, if_neg q, hfile, hmode]
        have g := h.2.1.2.1 t i a b c d e
        have q2 : ¬ 64 * t + P 2290 (64 * t + i) = 64 * s + nn := fun q3 => by
          have := g.1
          rw [q3] at this
          omega
        rw [if_neg q2, if_neg q2]
        exact g
    · rw [hlen]
      rw [hfile] at e
      by_cases q : j = 64 * s + nn
      · rw [q]
        exact hlz
      · rw [if_neg q] at e
        exact h.2.1.2.2 j a b e
  have hG2 := GI_gGrow hGQ (s := s) (n := n) (u := u) ⟨hs.1, hs.2, hb, hb2⟩ hu
  have hG3 : GI (T + 1 + 1) U (rU (rU (gGrow Q s n u) 2306 k nn) 2307 k (P 2303 s + 1)) := by
    have r : ∀ f j, [2306, 2307].elem f = false → rU (rU (gGrow Q s n u) 2306 k nn) 2307 k (P 2303 s + 1) f j = gGrow Q s n u f j := RF_up (RF_up RF_rfl rfl) rfl
    have hfn : ∀ j, rU (rU (gGrow Q s n u) 2306 k nn) 2307 k (P 2303 s + 1) 2306 j = if j = k then nn else gGrow Q s n u 2306 j := fun j => by
      rw [rU_f (by decide)]
      by_cases e : j = k
      · rw [if_pos e, e, rU_s]
      · rw [if_neg e, rU_k e]
    refine ⟨⟨⟨(hG2.iv.uA 2306 rfl (by show 0 ≤ nn ∧ nn ≤ (if k < 192 then 63 else 143); rw [if_pos (by omega)]; omega)).uA 2307 rfl (by show 0 ≤ P 2303 s + 1 ∧ P 2303 s + 1 ≤ T + 1 + 1 + 200; omega), (hG2.1.1.2.upd (by decide) (by decide) (by decide) (by decide)).upd (by decide) (by decide) (by decide) (by decide)⟩, fun j a b e1 e2 => ?_⟩, hG2.2.1.of (fun j => r _ j rfl) (fun j => r _ j rfl) (fun j => r _ j rfl) (fun j => r _ j rfl) (fun j => r _ j rfl), fun j a b => ?_⟩
    · rw [r 2304 _ rfl] at e1
      rw [r 2310 _ rfl] at e2
      rw [r 2289 _ rfl, hfn]
      by_cases e : j = k
      · rw [if_pos e, gGrow_f (by decide) (by decide), hfile, e, show k / 96 = s by omega, if_pos rfl]
      · rw [if_neg e]
        exact hG2.1.2 j a b e1 e2
    · rw [hfn, if_neg (by omega), r 2309 _ rfl]
      exact hG2.2.2 j a b
  have hG4 := GI_gOpen (k := k) (m := m) hG3 hm (fun q => by omega)
  rw [show T + 1 + 1 = T + 2 by omega, hQ] at hG4
  exact hG4
end MINVC
