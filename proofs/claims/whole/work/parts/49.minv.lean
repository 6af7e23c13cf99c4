/-! What stays true of the reference's rows: bounds, and what the trees hold in all. -/
def sm (f : Int → Int) (o : Int) : Nat → Int
  | 0 => 0
  | n + 1 => f o + sm f (o + 1) n
theorem sm_congr {f g : Int → Int} : ∀ (n : Nat) (o : Int), (∀ i, o ≤ i → i < o + n → f i = g i) → sm f o n = sm g o n
  | 0, _, _ => rfl
  | n + 1, o, h => by
    show f o + sm f (o + 1) n = g o + sm g (o + 1) n
    rw [h o (by omega) (by omega), sm_congr n (o + 1) (fun i h1 h2 => h i (by omega) (by omega))]
theorem sm_le {f g : Int → Int} : ∀ (n : Nat) (o : Int), (∀ i, o ≤ i → i < o + n → f i ≤ g i) → sm f o n ≤ sm g o n
  | 0, _, _ => Int.le_refl _
  | n + 1, o, h => by
    show f o + sm f (o + 1) n ≤ g o + sm g (o + 1) n
    have h1 := h o (by omega) (by omega)
    have h2 := sm_le n (o + 1) (fun i h1 h2 => h i (by omega) (by omega))
    omega
theorem sm_const (c : Int) : ∀ (n : Nat) (o : Int), sm (fun _ => c) o n = c * n
  | 0, _ => by show (0 : Int) = c * 0; rw [Int.mul_zero]
  | n + 1, o => by
    show c + sm (fun _ => c) (o + 1) n = c * ((n + 1 : Nat) : Int)
    rw [sm_const c n, show ((n + 1 : Nat) : Int) = (n : Int) + 1 from rfl, Int.mul_add, Int.mul_one]
    omega
theorem sm_one {f g : Int → Int} {k : Int} : ∀ (n : Nat) (o : Int), o ≤ k → k < o + n → (∀ i, i ≠ k → f i = g i) → sm f o n = sm g o n + (f k - g k)
  | 0, o, h1, h2, _ => by omega
  | n + 1, o, h1, h2, h => by
    show f o + sm f (o + 1) n = g o + sm g (o + 1) n + (f k - g k)
    by_cases e : o = k
    · rw [e, sm_congr n (k + 1) (fun i h3 h4 => h i (by omega))]
      omega
    · rw [h o e, sm_one n (o + 1) (by omega) (by omega) h]
      omega
theorem sm_ge {f : Int → Int} {k : Int} (n : Nat) (o : Int) (h1 : o ≤ k) (h2 : k < o + n) (h : ∀ i, o ≤ i → i < o + n → 0 ≤ f i) : f k ≤ sm f o n := by
  have e := sm_one (f := f) (g := fun i => if i = k then 0 else f i) (k := k) n o h1 h2 (fun i hi => (if_neg hi).symm)
  have e2 : 0 ≤ sm (fun i => if i = k then 0 else f i) o n := by
    have := sm_le (f := fun _ => 0) (g := fun i => if i = k then 0 else f i) n o (fun i h3 h4 => by
      show (0 : Int) ≤ if i = k then 0 else f i
      split
      · exact Int.le_refl _
      · exact h i h3 h4)
    rw [sm_const, Int.zero_mul] at this
    exact this
  have e3 : (if k = k then (0 : Int) else f k) = 0 := if_pos rfl
  rw [e3] at e
  omega
theorem sm_rU_in {P : qR} {f : Nat} {k v : Int} {n : Nat} {o : Int} (h1 : o ≤ k) (h2 : k < o + n) : sm (rU P f k v f) o n = sm (P f) o n + (v - P f k) := by
  rw [sm_one (f := rU P f k v f) (g := P f) (k := k) n o h1 h2 (fun i hi => rU_k hi), rU_s]
theorem sm_rU_out {P : qR} {f : Nat} {k v : Int} {n : Nat} {o : Int} (h : k < o ∨ o + n ≤ k) : sm (rU P f k v f) o n = sm (P f) o n := sm_congr n o (fun i h1 h2 => rU_k (by omega))
theorem sm_rU_f {P : qR} {f g : Nat} {k v : Int} {n : Nat} {o : Int} (h : g ≠ f) : sm (rU P f k v g) o n = sm (P g) o n := sm_congr n o (fun i h1 h2 => rU_f h)
/-- a tree's bytes and files, in all -/
def TB (P : qR) : Prop := ∀ s : Int, 0 ≤ s → s < 2 → P 2301 s = sm (P 2297) (64 * s) 64 ∧ P 2302 s = sm (P 2289) (64 * s) 64
theorem TB.of {P Q : qR} (h : TB P) (h1 : ∀ k, Q 2301 k = P 2301 k) (h2 : ∀ k, Q 2302 k = P 2302 k) (h3 : ∀ k, Q 2297 k = P 2297 k) (h4 : ∀ k, Q 2289 k = P 2289 k) : TB Q := fun s hs0 hs1 => by
  rw [h1, h2, funext h3, funext h4]
  exact h s hs0 hs1
def MI (T U : Int) (P : qR) : Prop := IV false T U P ∧ TB P
section MINV
variable {T U s n u : Int} {P : qR}
theorem MI.mono {T1 U1 : Int} (h : MI T U P) (h1 : T ≤ T1) (h2 : U ≤ U1) : MI T1 U1 P := ⟨h.1.mono h1 h2, h.2⟩
theorem TB.upd {f : Nat} {k v : Int} (h : TB P) (h1 : 2301 ≠ f) (h2 : 2302 ≠ f) (h3 : 2297 ≠ f) (h4 : 2289 ≠ f) : TB (rU P f k v) := h.of (fun _ => rU_f h1) (fun _ => rU_f h2) (fun _ => rU_f h3) (fun _ => rU_f h4)
theorem MI_gGrow (h : MI T U P) (hn : 0 ≤ s ∧ s < 2 ∧ 0 ≤ n ∧ n < 64) (hu : 0 ≤ u ∧ u ≤ 3) : MI (T + 1) U (gGrow P s n u) := by
  have hv : 0 ≤ P 2292 (64 * s + n) ∧ P 2292 (64 * s + n) ≤ T := IV.a h.1 2292 0 128 rfl rfl rfl (by omega) (by omega)
  refine ⟨?_, (h.2.upd (by decide) (by decide) (by decide) (by decide)).upd (by decide) (by decide) (by decide) (by decide)⟩
  exact ((h.1.mono (T1 := T + 1) (by omega) (Int.le_refl U)).uA 2292 rfl (by show 0 ≤ P 2292 (64 * s + n) + 1 ∧ P 2292 (64 * s + n) + 1 ≤ T + 1; omega)).uA 2296 rfl hu
theorem MI.lens (h : MI T U P) (hn : 0 ≤ s ∧ s < 2 ∧ 0 ≤ n ∧ n < 64) : P 2297 (64 * s + n) ≤ P 2301 s := by
  rw [(h.2 s hn.1 hn.2.1).1]
  refine sm_ge 64 (64 * s) (by omega) (by omega) (fun i h1 h2 => ?_)
  have : 0 ≤ P 2297 i ∧ P 2297 i ≤ 600 := IV.a h.1 2297 0 128 rfl rfl rfl (by omega) (by omega)
  exact this.1
theorem MI.files (h : MI T U P) (hn : 0 ≤ s ∧ s < 2 ∧ 0 ≤ n ∧ n < 64) : P 2289 (64 * s + n) ≤ P 2302 s := by
  rw [(h.2 s hn.1 hn.2.1).2]
  refine sm_ge 64 (64 * s) (by omega) (by omega) (fun i h1 h2 => ?_)
  have : 0 ≤ P 2289 i ∧ P 2289 i ≤ 1 := IV.a h.1 2289 2 128 rfl rfl rfl (by omega) (by omega)
  exact this.1
theorem IV_gGone {lo hi : Int} (h : IV false T U P) : IV false T U (gGone P lo hi n) := by
  refine ⟨fun g ty len i a1 a2 a3 a4 a5 => ?_, fun j a1 a2 => ?_⟩
  · by_cases c : g = 2310 ∧ lo ≤ i ∧ i < hi
    · rw [show gGone P lo hi n g i = (if ¬ P 2310 i = 0 ∨ (¬ P 2304 i = 0 ∧ P 2306 i = n) then 1 else 0) from if_pos c]
      obtain ⟨rfl, -⟩ := c
      show 0 ≤ (if _ then (1 : Int) else 0) ∧ (if _ then (1 : Int) else 0) ≤ 1
      split <;> decide
    · rw [show gGone P lo hi n g i = P g i from if_neg c]
      exact h.1 g ty len i a1 a2 a3 a4 a5
  · rw [gGone_f (by decide)]
    exact h.2 j a1 a2
theorem TB.two {b l : Int} (h : TB P) {Q : qR} (hn : 0 ≤ s ∧ s < 2 ∧ 0 ≤ n ∧ n < 64) (e1 : ∀ k, Q 2301 k = rU P 2301 s (P 2301 s + (l - P 2297 (64 * s + n))) 2301 k) (e2 : ∀ k, Q 2302 k = rU P 2302 s (P 2302 s + (b - P 2289 (64 * s + n))) 2302 k) (e3 : ∀ k, Q 2297 k = rU P 2297 (64 * s + n) l 2297 k) (e4 : ∀ k, Q 2289 k = rU P 2289 (64 * s + n) b 2289 k) : TB Q := fun t ht0 ht1 => by
  have h0 := h t ht0 ht1
  rw [e1, e2, funext e3, funext e4]
  by_cases e : t = s
  · rw [e, rU_s, rU_s, sm_rU_in (by omega) (by omega), sm_rU_in (by omega) (by omega)]
    rw [e] at h0
    omega
  · rw [rU_k e, rU_k e, sm_rU_out (by omega), sm_rU_out (by omega)]
    exact h0
theorem MI_gRem (h : MI T U P) (hn : 0 ≤ s ∧ s < 2 ∧ 0 ≤ n ∧ n < 64) (hf : P 2289 (64 * s + n) = 1) (hu : 0 ≤ u ∧ u ≤ 3) : MI (T + 1) U (gRem P s n u) := by
  have h1 := h.files hn
  have h2 := h.lens hn
  have b1 : 0 ≤ P 2302 s ∧ P 2302 s ≤ 64 := IV.a h.1 2302 0 2 rfl rfl rfl (by omega) (by omega)
  have b2 : 0 ≤ P 2301 s ∧ P 2301 s ≤ 8192 := IV.a h.1 2301 0 2 rfl rfl rfl (by omega) (by omega)
  have b3 : 0 ≤ P 2297 (64 * s + n) ∧ P 2297 (64 * s + n) ≤ 600 := IV.a h.1 2297 0 128 rfl rfl rfl (by omega) (by omega)
  have b4 : 0 ≤ P 2290 (64 * s + n) ∧ P 2290 (64 * s + n) ≤ 63 := IV.a h.1 2290 0 128 rfl rfl rfl (by omega) (by omega)
  have hq : MI T U (rU (rU (rU (rU P 2289 (64 * s + n) 0) 2302 s (P 2302 s - 1)) 2301 s (P 2301 s - P 2297 (64 * s + n))) 2297 (64 * s + n) 0) := by
    refine ⟨?_, ?_⟩
    · exact (((h.1.uA 2289 rfl (by show (0 : Int) ≤ 0 ∧ (0 : Int) ≤ 1; decide)).uA 2302 rfl (by show 0 ≤ P 2302 s - 1 ∧ P 2302 s - 1 ≤ 64; omega)).uA 2301 rfl (by show 0 ≤ P 2301 s - P 2297 (64 * s + n) ∧ P 2301 s - P 2297 (64 * s + n) ≤ 8192; omega)).uA 2297 rfl (by show (0 : Int) ≤ 0 ∧ (0 : Int) ≤ 600; decide)
    · refine h.2.two (s := s) (n := n) (b := 0) (l := 0) hn (fun k => ?_) (fun k => ?_) (fun k => ?_) (fun k => ?_)
      · rw [rU_f (by decide), show P 2301 s + (0 - P 2297 (64 * s + n)) = P 2301 s - P 2297 (64 * s + n) by omega]
        unfold rU
        split
        · rfl
        · rfl
      · rw [rU_f (by decide), rU_f (by decide), hf, show P 2302 s + (0 - 1) = P 2302 s - 1 by omega]
        unfold rU
        split
        · rfl
        · rfl
      · unfold rU
        split
        · rfl
        · rfl
      · rw [rU_f (by decide), rU_f (by decide), rU_f (by decide)]
  have hg := MI_gGrow hq (s := s) (n := P 2290 (64 * s + n)) ⟨hn.1, hn.2.1, b4.1, by omega⟩ hu
  exact ⟨IV_gGone hg.1, hg.2.of (fun _ => gGone_f (by decide)) (fun _ => gGone_f (by decide)) (fun _ => gGone_f (by decide)) (fun _ => gGone_f (by decide))⟩
theorem MI_gClunk {k : Int} (h : MI T U P) (hs : 0 ≤ s ∧ s < 3) (hk : 96 * s ≤ k ∧ k < 96 * s + 96) (hf : s < 2 → P 2310 k = 0 → P 2289 (64 * s + P 2306 k) = 1) : MI (T + 1) U (gClunk P s k) := by
  have b1 : 0 ≤ P 2306 k ∧ P 2306 k ≤ (if k < 192 then 63 else 143) := IV.a h.1 2306 0 288 rfl rfl rfl (by omega) (by omega)
  have b2 : 0 ≤ P 2308 k ∧ P 2308 k ≤ 3 := IV.a h.1 2308 0 288 rfl rfl rfl (by omega) (by omega)
  have key : ∀ Q, MI (T + 1) U Q → MI (T + 1) U (rU Q 2304 k 0) := fun Q hQ => ⟨hQ.1.uA 2304 rfl (by show (0 : Int) ≤ 0 ∧ (0 : Int) ≤ 1; decide), hQ.2.upd (by decide) (by decide) (by decide) (by decide)⟩
  unfold gClunk
  split
  · rename_i c
    have hr := qRem_0 c.2
    rw [if_pos (by omega)] at b1
    exact key _ (MI_gRem h ⟨hs.1, by omega, b1.1, by omega⟩ (hf (by omega) c.1.2) b2)
  · exact key _ (h.mono (by omega) (Int.le_refl U))
theorem MI_gSize {z : Int} (h : MI T U P) (hn : 0 ≤ s ∧ s < 2 ∧ 0 ≤ n ∧ n < 64) (hz : 0 ≤ z ∧ z ≤ 600) (hb : P 2301 s + (z - P 2297 (64 * s + n)) ≤ 8192) : MI T U (gSize P s n z) := by
  have h2 := h.lens hn
  have hq : IV false T U (gZer P 2300 (600 * (64 * s + n) + P 2297 (64 * s + n)) (600 * (64 * s + n) + z)) := by
    refine ⟨fun g ty len i a1 a2 a3 a4 a5 => ?_, fun j a1 a2 => ?_⟩
    · unfold gZer
      split
      · rename_i c
        obtain ⟨rfl, -⟩ := c
        show (0 : Int) ≤ 0 ∧ (0 : Int) ≤ 255
        decide
      · exact h.1.1 g ty len i a1 a2 a3 a4 a5
    · rw [gZer_f (by decide)]
      exact h.1.2 j a1 a2
  refine ⟨(hq.uA 2301 rfl (by show 0 ≤ P 2301 s + (z - P 2297 (64 * s + n)) ∧ P 2301 s + (z - P 2297 (64 * s + n)) ≤ 8192; omega)).uA 2297 rfl hz, ?_⟩
  refine h.2.two (s := s) (n := n) (b := P 2289 (64 * s + n)) (l := z) hn (fun k => ?_) (fun k => ?_) (fun k => ?_) (fun k => ?_)
  · show rU (rU (gZer P 2300 _ _) 2301 s _) 2297 _ _ 2301 k = _
    rw [rU_f (by decide)]
    unfold rU
    split
    · rfl
    · exact gZer_f (by decide)
  · rw [gSize_f (by decide) (by decide) (by decide), show P 2302 s + (P 2289 (64 * s + n) - P 2289 (64 * s + n)) = P 2302 s by omega, rU_self]
  · show rU (rU (gZer P 2300 _ _) 2301 s _) 2297 _ _ 2297 k = _
    unfold rU
    split
    · rfl
    · rw [if_neg (fun e => absurd e.1 (by decide))]
      exact gZer_f (by decide)
  · rw [gSize_f (by decide) (by decide) (by decide), rU_self]
theorem MI_gName {l : List Int} (h : MI T U P) (hn : 0 ≤ s ∧ s < 2 ∧ 0 ≤ n ∧ n < 64) (hl : byt l) (hz : l.length ≤ 12) : MI T U (gName P s n l) := by
  refine ⟨(h.1.wA 2298 rfl (fun k h1 h2 => hl _ (by omega))).uA 2299 rfl (by show 0 ≤ (l.length : Int) ∧ (l.length : Int) ≤ 12; omega), ?_⟩
  exact h.2.of (fun _ => (rU_f (by decide)).trans (rW_f (by decide))) (fun _ => (rU_f (by decide)).trans (rW_f (by decide))) (fun _ => (rU_f (by decide)).trans (rW_f (by decide))) (fun _ => (rU_f (by decide)).trans (rW_f (by decide)))
theorem qPath_i (hI : IV false T U P) (h : okN s n) (hT : 0 ≤ T) : 0 ≤ qPath P s n ∧ qPath P s n ≤ T + 200 := by
  unfold qPath
  split
  · have : 0 ≤ P 2291 (64 * s + n) ∧ P 2291 (64 * s + n) ≤ T := IV.a hI 2291 0 128 rfl rfl rfl (by omega) (by omega)
    omega
  · omega
theorem MI_gMake {k v : Int} (h : MI T U P) (hT : 0 ≤ T) (hk : 0 ≤ k ∧ k < 288) (hn : okN (k / 96) n) (hu : 0 ≤ u ∧ u ≤ 3) (hv : 0 ≤ v ∧ v ≤ 4294967295 ∧ (k % 96 < 48 → v ≤ 47)) : MI T U (gMake P k v n u) := by
  have hp := qPath_i h.1 hn hT
  refine ⟨?_, ?_⟩
  · refine ((((((((h.1.uA 2307 rfl hp).uA 2304 rfl ?_).uA 2305 rfl ?_).uA 2306 rfl ?_).uA 2308 rfl hu).uA 2309 rfl ?_).uA 2310 rfl ?_).uA 2311 rfl ?_).uA 2312 rfl ?_
    · show (0 : Int) ≤ 1 ∧ (1 : Int) ≤ 1
      decide
    · show 0 ≤ v ∧ v ≤ (if k % 96 < 48 then 47 else 4294967295)
      split <;> omega
    · show 0 ≤ n ∧ n ≤ (if k < 192 then 63 else 143)
      split <;> omega
    · show (-1 : Int) ≤ -1 ∧ (-1 : Int) ≤ 255
      decide
    · show (0 : Int) ≤ 0 ∧ (0 : Int) ≤ 1
      decide
    · show (-9223372036854775808 : Int) ≤ 0 ∧ (0 : Int) ≤ 9223372036854775807
      decide
    · show (0 : Int) ≤ 0 ∧ (0 : Int) ≤ 64
      decide
  · exact ((((((((h.2.upd (by decide) (by decide) (by decide) (by decide)).upd (by decide) (by decide) (by decide) (by decide)).upd (by decide) (by decide) (by decide) (by decide)).upd (by decide) (by decide) (by decide) (by decide)).upd (by decide) (by decide) (by decide) (by decide)).upd (by decide) (by decide) (by decide) (by decide)).upd (by decide) (by decide) (by decide) (by decide)).upd (by decide) (by decide) (by decide) (by decide)).upd (by decide) (by decide) (by decide) (by decide)
theorem MI_gOpen {k m : Int} (h : MI T U P) (hm : -1 ≤ m ∧ m ≤ 255) : MI T U (gOpen P k m) := by
  refine ⟨((h.1.uA 2309 rfl hm).uA 2311 rfl ?_).uA 2312 rfl ?_, ((h.2.upd (by decide) (by decide) (by decide) (by decide)).upd (by decide) (by decide) (by decide) (by decide)).upd (by decide) (by decide) (by decide) (by decide)⟩
  · show (-9223372036854775808 : Int) ≤ 0 ∧ (0 : Int) ≤ 9223372036854775807
    decide
  · show (0 : Int) ≤ 0 ∧ (0 : Int) ≤ 64
    decide
end MINV
