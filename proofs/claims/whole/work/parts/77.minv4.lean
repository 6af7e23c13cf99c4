/-! What each message leaves true of the trees and of the fids: reading, writing, telling; any message. -/
section MINVD
variable {T U T1 s n u k c : Int} {P Q : qR}
theorem GI_gEnt {off cnt : Int} {r : Int × Int × List Int} (h : GI T U P) (hr : 0 ≤ r.1 ∧ r.1 ≤ 64) : GI T U (gEnt P k off cnt r) := by
  have h1 := GI_one (f := 2312) (j := k) (ty := 0) (len := 288) h rfl (show 0 ≤ r.1 ∧ r.1 ≤ 64 from hr) rfl rfl rfl rfl rfl rfl rfl rfl rfl (by decide) (by decide)
  exact GI_one (f := 2311) (j := k) (ty := 3) (len := 288) h1 rfl (w64_rng (off + (cnt - r.2.1))) rfl rfl rfl rfl rfl rfl rfl rfl rfl (by decide) (by decide)
theorem GI_gIn {m : Int} (h : GI T U P) (hm : 0 ≤ m ∧ m ≤ P 2281 39) : GI T U (gIn P m) := by
  have b : 0 ≤ P 2281 39 ∧ P 2281 39 ≤ 200 := IV.n h.iv 39 39 rfl rfl (by decide)
  have hf : ∀ f j, [2314, 2281].elem f = false → gIn P m f j = P f j := fun f j e => (gSh_f (fun q => by rw [q] at e; exact absurd e (by decide))).trans (rU_f (fun q => by rw [q] at e; exact absurd e (by decide)))
  refine h.of (l := [2314, 2281]) ⟨?_, h.1.1.2.of (fun j => hf _ j rfl) (fun j => hf _ j rfl) (fun j => hf _ j rfl) (fun j => hf _ j rfl)⟩ hf rfl rfl rfl rfl rfl rfl rfl rfl rfl
  have h1 : IV false T U (rU P 2281 39 (P 2281 39 - m)) := h.iv.uN 39 39 rfl (by show 0 ≤ P 2281 39 - m ∧ P 2281 39 - m ≤ 200; omega)
  refine ⟨fun g ty len i a1 a2 a3 a4 a5 => ?_, fun j a1 a2 => ?_⟩
  · by_cases e : g = 2314 ∧ 0 ≤ i ∧ i < P 2281 39 - m
    · rw [show gIn P m g i = P 2314 (i + m) from (if_pos e).trans (rU_f (by decide))]
      obtain ⟨rfl, e2⟩ := e
      exact IV.a (k := i + m) h.iv 2314 0 200 rfl rfl rfl (by omega) (by omega)
    · rw [show gIn P m g i = rU P 2281 39 (P 2281 39 - m) g i from if_neg e]
      exact h1.1 g ty len i a1 a2 a3 a4 a5
  · rw [show gIn P m 2281 (j : Int) = rU P 2281 39 (P 2281 39 - m) 2281 j from gSh_f (by decide)]
    exact h1.2 j a1 a2
theorem GI_gCon {f : Int → Int} {o : Int} {m : Nat} (h : GI T U P) (hf : ∀ i, o ≤ i → i < o + m → 0 ≤ f i ∧ f i ≤ 255) : GI T U (gCon P f o m) := by
  have e : ∀ g j, [2315, 2281].elem g = false → gCon P f o m g j = P g j := fun g j e => gCon_f (fun q => by rw [q] at e; exact absurd e (by decide)) (fun q => by rw [q.1] at e; exact absurd e (by decide)) m
  exact h.of (l := [2315, 2281]) ⟨IV_gCon h.iv m hf, h.1.1.2.of (fun j => e _ j rfl) (fun j => e _ j rfl) (fun j => e _ j rfl) (fun j => e _ j rfl)⟩ e rfl rfl rfl rfl rfl rfl rfl rfl rfl
theorem GI_gWr {off z b : Int} {l : List Int} (h : GI T U P) (hn : 0 ≤ s ∧ s < 2 ∧ 0 ≤ n ∧ n < 64) (hf : P 2289 (64 * s + n) = 1) (hu : 0 ≤ u ∧ u ≤ 3) (hq : qWr P s n off z = 0) (hb : b = if and32 (P 2293 (64 * s + n)) 1073741824 = 0 then off else P 2297 (64 * s + n)) (hl : byt l) (hz : (l.length : Int) = z) : GI (T + 1) U (gWr P s n u b l) := by
  have bl : 0 ≤ P 2297 (64 * s + n) ∧ P 2297 (64 * s + n) ≤ 600 := IV.a h.iv 2297 0 128 rfl rfl rfl (by omega) (by omega)
  have hq2 : b + z ≤ 600 ∧ 0 ≤ b ∧ b ≤ P 2297 (64 * s + n) ∧ (P 2297 (64 * s + n) < b + z → P 2301 s + (b + z - P 2297 (64 * s + n)) ≤ 8192) := by
    unfold qWr at hq
    rw [← hb] at hq
    by_cases c1 : and32 (P 2293 (64 * s + n)) 1073741824 = 0
    · rw [if_pos c1] at hb
      subst hb
      (repeat' split at hq) <;> omega
    · rw [if_neg c1] at hb
      subst hb
      (repeat' split at hq) <;> omega
  unfold gWr
  rw [hz]
  by_cases c : 0 < z
  · rw [if_pos c]
    have key : ∀ Q, GI T U Q → GI (T + 1) U (gGrow (rW Q 2300 (600 * (64 * s + n) + b) l) s n u) := fun Q hQ => GI_gGrow (hQ.of (l := [2300]) ⟨hQ.iv.wA 2300 rfl (fun j q1 q2 => hl _ (by omega)), hQ.1.1.2.of (fun _ => rW_f (by decide)) (fun _ => rW_f (by decide)) (fun _ => rW_f (by decide)) (fun _ => rW_f (by decide))⟩ (RF_wr RF_rfl rfl) rfl rfl rfl rfl rfl rfl rfl rfl rfl) hn hu
    split
    · rename_i c2
      exact key _ (GI_gSize h hn (by omega) (by omega) (hq2.2.2.2 c2))
    · exact key _ h
  · rw [if_neg c]
    exact h.mono (by omega)
theorem xor_neg {x y : Int} (hx : -2147483648 ≤ x ∧ x ≤ 2147483647) (hy : -2147483648 ≤ y ∧ y ≤ 2147483647) (h : and32 (xor32 x y) (-1073742336) = 0) : x < 0 ↔ y < 0 := by
  unfold and32 xor32 at h
  rw [Int32.ofInt_toInt] at h
  have h1 : (Int32.ofInt x ^^^ Int32.ofInt y) &&& Int32.ofInt (-1073742336) = 0 := Int32.toInt_inj.mp h
  have h2 : (((Int32.ofInt x ^^^ Int32.ofInt y) &&& Int32.ofInt (-1073742336)).toBitVec).msb = false := by rw [h1]; rfl
  rw [Int32.toBitVec_and, Int32.toBitVec_xor, BitVec.msb_and, BitVec.msb_xor, show (Int32.ofInt (-1073742336)).toBitVec.msb = true from rfl, Bool.and_true] at h2
  have ex : (Int32.ofInt x).toBitVec.toInt = x := Int32.toInt_ofInt_of_le (by omega) (by omega)
  have ey : (Int32.ofInt y).toBitVec.toInt = y := Int32.toInt_ofInt_of_le (by omega) (by omega)
  rw [BitVec.msb_eq_toInt, BitVec.msb_eq_toInt, ex, ey] at h2
  by_cases q1 : x < 0 <;> by_cases q2 : y < 0
  · exact ⟨fun _ => q2, fun _ => q1⟩
  · rw [decide_eq_true q1, decide_eq_false q2] at h2
    cases h2
  · rw [decide_eq_false q1, decide_eq_true q2] at h2
    cases h2
  · exact ⟨fun q => absurd q q1, fun q => absurd q q2⟩
theorem GI_mode {v : Int} (h : GI T U P) (hn : 0 ≤ s ∧ s < 2 ∧ 0 ≤ n ∧ n < 64) (hv : -2147483648 ≤ v ∧ v ≤ 2147483647) (hd : P 2293 (64 * s + n) < 0 → v < 0) : GI T U (rU P 2293 (64 * s + n) v) := by
  have r : ∀ f j, [2293].elem f = false → rU P 2293 (64 * s + n) v f j = P f j := RF_up RF_rfl rfl
  have hm : ∀ j, P 2293 j < 0 → rU P 2293 (64 * s + n) v 2293 j < 0 := fun j q => by
    by_cases e : j = 64 * s + n
    · rw [e, rU_s]
      rw [e] at q
      exact hd q
    · rw [rU_k e]
      exact q
  refine ⟨⟨⟨h.iv.uA 2293 rfl hv, h.1.1.2.upd (by decide) (by decide) (by decide) (by decide)⟩, h.1.2.of (fun k => r _ k rfl) (fun k => r _ k rfl) (fun k => r _ k rfl) (fun k => r _ k rfl)⟩, ⟨fun t a b => ?_, fun t i a b c d e => ?_, h.2.1.2.2.of (fun k => r _ k rfl) (fun k => r _ k rfl)⟩, h.2.2.of (fun k => r _ k rfl) (fun k => r _ k rfl)⟩
  · rw [r 2289 _ rfl, r 2290 _ rfl, r 2291 _ rfl]
    exact ⟨(h.2.1.1 t a b).1, (h.2.1.1 t a b).2.1, hm _ (h.2.1.1 t a b).2.2.1, (h.2.1.1 t a b).2.2.2⟩
  · rw [r 2289 _ rfl] at e
    rw [r 2289 _ rfl, r 2290 _ rfl, r 2291 _ rfl]
    exact ⟨(h.2.1.2.1 t i a b c d e).1, hm _ (h.2.1.2.1 t i a b c d e).2.1, (h.2.1.2.1 t i a b c d e).2.2⟩
theorem GI_gChg {md ln y : Int} {nm : List Int} (h : GI T U P) (hT : 0 ≤ T) (hn : 0 ≤ s ∧ s < 2 ∧ 0 ≤ n ∧ n < 64) (hf : P 2289 (64 * s + n) = 1) (hu : 0 ≤ u ∧ u ≤ 3) (hq : qChg P s n u md ln y nm = 0) (hl : byt nm) : GI (T + 1) U (gChg P s n u md ln y nm) := by
  have q1 : 0 < y → nmOk nm = true := by
    rcases qChg_v P s n u md ln y nm with g | g
    · exact g.2.1
    · omega
  have q2 : ¬ ln = -1 → 0 ≤ ln ∧ ln ≤ 600 ∧ P 2301 s - P 2297 (64 * s + n) + ln ≤ 8192 := fun c => by
    by_cases c2 : ¬ ln = -1 ∧ (¬ (0 ≤ ln ∧ ln ≤ 600) ∨ 8192 < P 2301 s - P 2297 (64 * s + n) + ln)
    · unfold qChg at hq
      (repeat' split at hq) <;> first | (exfalso; omega) | exact absurd c2 (by assumption)
    · omega
  have q3 : ¬ md = 4294967295 → and32 (xor32 (w32 md) (P 2293 (64 * s + n))) (-1073742336) = 0 := fun c => by
    by_cases c2 : ¬ md = 4294967295 ∧ (¬ and32 (xor32 (w32 md) (P 2293 (64 * s + n))) (-1073742336) = 0 ∨ (qMode P s n < 0 ∧ ¬ and32 (xor32 (w32 md) (P 2293 (64 * s + n))) 1073741824 = 0))
    · unfold qChg at hq
      (repeat' split at hq) <;> first | (exfalso; omega) | exact absurd c2 (by assumption)
    · omega
  have h1 : GI T U (gCh1 P s n y nm) ∧ ∀ f j, f ≠ 2298 → f ≠ 2299 → gCh1 P s n y nm f j = P f j := by
    unfold gCh1
    by_cases c : 0 < y
    · rw [if_pos c]
      have hk := q1 c
      unfold nmOk at hk
      rw [Bool.and_eq_true, Bool.and_eq_true, decide_eq_true_eq, decide_eq_true_eq] at hk
      exact ⟨GI_gName h hn hl hk.2.1, fun f j a b => gName_f a b⟩
    · rw [if_neg c]
      exact ⟨h, fun f j a b => rfl⟩
  obtain ⟨P1, hP1⟩ : ∃ P1, gCh1 P s n y nm = P1 := ⟨_, rfl⟩
  rw [hP1] at h1
  have h2 : GI (T + 1) U (gCh2 P1 s n ln) ∧ ∀ j, gCh2 P1 s n ln 2293 j = P 2293 j := by
    unfold gCh2
    by_cases c : ¬ ln = -1
    · rw [if_pos c]
      obtain ⟨g1, g2, g3⟩ := q2 c
      have hs := GI_gSize (z := ln) h1.1 hn (by rw [h1.2 _ _ (by decide) (by decide), hf]; decide) ⟨g1, g2⟩ (by rw [h1.2 _ _ (by decide) (by decide), h1.2 _ _ (by decide) (by decide)]; omega)
      have bv : 0 ≤ P1 2292 (64 * s + n) ∧ P1 2292 (64 * s + n) ≤ T := IV.a h1.1.iv 2292 0 128 rfl rfl rfl (by omega) (by omega)
      refine ⟨GI_one (f := 2292) (ty := 0) (len := 128) (hs.mono (by omega)) rfl (show 0 ≤ P1 2292 (64 * s + n) + 1 ∧ P1 2292 (64 * s + n) + 1 ≤ T + 1 by omega) rfl rfl rfl rfl rfl rfl rfl rfl rfl (by decide) (by decide), fun j => ?_⟩
      rw [rU_f (by decide), gSize_f (by decide) (by decide) (by decide), h1.2 _ _ (by decide) (by decide)]
    · rw [if_neg c]
      exact ⟨h1.1.mono (by omega), fun j => h1.2 _ _ (by decide) (by decide)⟩
  obtain ⟨P2, hP2⟩ : ∃ P2, gCh2 P1 s n ln = P2 := ⟨_, rfl⟩
  rw [hP2] at h2
  have bm : -2147483648 ≤ P 2293 (64 * s + n) ∧ P 2293 (64 * s + n) ≤ 2147483647 := IV.a h.iv 2293 0 128 rfl rfl rfl (by omega) (by omega)
  have h3 : GI (T + 1) U (gCh3 P2 s n md) := by
    unfold gCh3
    by_cases c : ¬ md = 4294967295
    · rw [if_pos c]
      exact GI_mode h2.1 hn (w32_rng md) (by rw [h2.2]; exact (xor_neg (w32_rng md) bm (q3 c)).mpr)
    · rw [if_neg c]
      exact h2.1
  unfold gChg
  rw [hP1, hP2]
  exact GI_one (f := 2296) (ty := 0) (len := 128) h3 rfl hu rfl rfl rfl rfl rfl rfl rfl rfl rfl (by decide) (by decide)
/-- what an answer 0 says of the fid -/
theorem atE_0 {a : Int → Int} {z : Int} (h : atE P s c a z = 0) : 0 ≤ qFree P s c ∧ 0 ≤ qUser a 17 (nu a 15 2) := by
  unfold atE at h
  (repeat' split at h) <;> first | (exfalso; omega) | exact ⟨by omega, by omega⟩
theorem wlE_0 {a : Int → Int} {z : Int} (h : wlE P s c a z = 0) : 17 ≤ z ∧ 0 ≤ qFid P s c (nu a 7 4) ∧ 0 ≤ wlT P s c a ∧ P 2310 (qFid P s c (nu a 7 4)) = 0 := by
  unfold wlE at h
  (repeat' split at h) <;> first | (exfalso; omega) | exact ⟨by omega, by omega, by omega, by omega⟩
theorem opE_0 {a : Int → Int} {z : Int} (h : opE P s c a z = 0) : z = 12 ∧ 0 ≤ qFid P s c (nu a 7 4) ∧ P 2310 (qFid P s c (nu a 7 4)) = 0 ∧ qOpn P s (P 2306 (qFid P s c (nu a 7 4))) (P 2308 (qFid P s c (nu a 7 4))) (nu a 11 1) = 0 := by
  unfold opE at h
  (repeat' split at h) <;> first | (exfalso; omega) | exact ⟨by omega, by omega, by omega, h⟩
theorem rdX_0 {off cnt lim : Int} (h : rdX P s k off cnt lim = 0) : 0 ≤ k ∧ P 2310 k = 0 ∧ cnt ≤ lim := by
  unfold rdX at h
  (repeat' split at h) <;> first | (exfalso; omega) | exact ⟨by omega, by omega, by omega⟩
theorem wrX_0 {a : Int → Int} {off z : Int} (h : wrX P s k off z a = 0) : 0 ≤ k ∧ P 2310 k = 0 ∧ (s < 2 → qWr P s (P 2306 k) off z = 0) := by
  unfold wrX at h
  (repeat' split at h) <;> first | (exfalso; omega) | exact ⟨by omega, by omega, fun q => by first | exact h | omega⟩
theorem wsX_0 {oth ys y md ln : Int} {nm : List Int} (h : wsX P s k oth ys y md ln nm = 0) : 0 ≤ k ∧ P 2310 k = 0 ∧ (s < 2 → qChg P s (P 2306 k) (P 2308 k) md ln y nm = 0) := by
  unfold wsX at h
  (repeat' split at h) <;> first | (exfalso; omega) | exact ⟨by omega, by omega, fun q => by first | exact h | omega⟩
theorem qFid_in (hs : 0 ≤ s ∧ s < 3) (hc : 0 ≤ c ∧ c < 2) {v : Int} (h : 0 ≤ qFid P s c v) : 48 * (2 * s + c) ≤ qFid P s c v ∧ qFid P s c v < 48 * (2 * s + c) + 48 ∧ ¬ P 2304 (qFid P s c v) = 0 := by
  rcases qFid_rng (P := P) (s := s) (c := c) v hs hc with g | g
  · omega
  · exact ⟨g.1, g.2.1, g.2.2.1⟩
theorem qFree_in (hs : 0 ≤ s ∧ s < 3) (hc : 0 ≤ c ∧ c < 2) (h : 0 ≤ qFree P s c) : 48 * (2 * s + c) ≤ qFree P s c ∧ qFree P s c < 48 * (2 * s + c) + 48 := by
  rcases frFid_rng (P := P) 48 (48 * (2 * s + c)) (by omega) with g | g
  · have : frFid P 48 (48 * (2 * s + c)) = qFree P s c := rfl
    omega
  · exact ⟨g.1, g.2.1⟩
theorem GI_srP {t z : Int} {a : Int → Int} (h : GI T U P) (hT : 0 ≤ T) (hs : 0 ≤ s ∧ s < 3) (hc : 0 ≤ c ∧ c < 2) (hb : ∀ j, 0 ≤ j → j < z → 0 ≤ a j ∧ a j ≤ 255) (hz : 7 ≤ z) (h1 : t = 104 → c = 0 → nu a 7 4 ≤ 47) (h2 : t = 110 → c = 0 → nu a 11 4 ≤ 47) (ht : t ≠ 100) : GI (T + 2) U (srP P s c t a z) := by
  have hM := h.mono (show T ≤ T + 2 by omega)
  have nr : ∀ (o : Int) (m : Nat), 0 ≤ o → o + m ≤ z → 0 ≤ nu a o m ∧ nu a o m < 256 ^ m := fun o m h0 h3 => nu_rng m (fun i hi => hb (o + i) (by omega) (by omega))
  unfold srP
  rw [if_neg ht]
  by_cases t2 : t = 104
  · rw [if_pos t2]
    split
    · rename_i e
      obtain ⟨e1, e2⟩ := atE_0 e
      have e3 := qFree_in hs hc e1
      have e4 := qUser_rng a 17 (nu a 15 2)
      have e5 := at_z e hb hz
      have e6 := nr 7 4 (by decide) (by omega)
      refine (GI_make h hT hs (by omega) (oN_root h hs) (by omega) ⟨e6.1, ?_, fun q => h1 t2 (by omega)⟩).mono (by omega)
      have : (256 : Int) ^ 4 = 4294967296 := by decide
      omega
    · exact hM
  rw [if_neg t2]
  by_cases t3 : t = 108
  · rw [if_pos t3]
    exact hM
  rw [if_neg t3]
  by_cases t4 : t = 110
  · rw [if_pos t4]
    split
    · rename_i e
      obtain ⟨e0, e1, e2, e3⟩ := wlE_0 e
      have e4 := qFid_in hs hc e1
      have e6 := nr 11 4 (by decide) (by omega)
      unfold wlP
      split
      · have e5 : 48 * (2 * s + c) ≤ wlT P s c a ∧ wlT P s c a < 48 * (2 * s + c) + 48 := by
          unfold wlT at e2 ⊢
          split
          · omega
          · rename_i q
            rw [if_neg q] at e2
            exact qFree_in hs hc e2
        have hu := (fid_node h hs (k := qFid P s c (nu a 7 4)) (by omega)).2
        refine (GI_make h hT hs (by omega) (oN_wlk h _ _ (oN_fid h hs (by omega) e4.2.2 e3)) hu ⟨e6.1, ?_, fun q => h2 t4 (by omega)⟩).mono (by omega)
        have : (256 : Int) ^ 4 = 4294967296 := by decide
        omega
      · exact hM
    · exact hM
  rw [if_neg t4]
  by_cases t5 : t = 112
  · rw [if_pos t5]
    split
    · rename_i e
      obtain ⟨e0, e1, e2, e3⟩ := opE_0 e
      have e4 := qFid_in hs hc e1
      have e6 := nr 11 1 (by decide) (by omega)
      have : (256 : Int) ^ 1 = 256 := by decide
      exact (GI_opG h hs (by omega) e4.2.2 e2 (by omega) e3).mono (by omega)
    · exact hM
  rw [if_neg t5]
  by_cases t6 : t = 114
  · rw [if_pos t6]
    split
    · rename_i e
      have q := cr_z e
      obtain ⟨f1, f2, f3⟩ := cr_q hb q
      have e0 : qCre P s (qFid P s c (nu a 7 4)) (nu a (sE a z 11) 4) (nu a (sE a z 11 + 4) 1) (seg a 13 (nu a 11 2).toNat) = 0 := by
        unfold crE at e
        rw [if_neg (fun g => g q)] at e
        exact e
      rcases qCre_v P s (qFid P s c (nu a 7 4)) (nu a (sE a z 11) 4) (nu a (sE a z 11 + 4) 1) (seg a 13 (nu a 11 2).toNat) with g | g
      · obtain ⟨-, g1, g2, g3, g4, g5, g6, g7, g8, g9⟩ := g
        have e4 := qFid_in hs hc g1
        have hs2 : s < 2 := by omega
        have hN := oN_fid h hs (k := qFid P s c (nu a 7 4)) (by omega) e4.2.2 g3
        have b2 : 0 ≤ P 2302 s ∧ P 2302 s ≤ 64 := IV.a h.iv 2302 0 2 rfl rfl rfl (by omega) (by omega)
        have hnw := qNew_ok h.1.1 ⟨hs.1, hs2⟩ (h.2.1.1 s hs.1 hs2).1 g9
        have hk := g6
        unfold nmOk at hk
        rw [Bool.and_eq_true, Bool.and_eq_true, decide_eq_true_eq, decide_eq_true_eq] at hk
        have e6 := nr (sE a z 11 + 4) 1 (by omega) (by omega)
        have : (256 : Int) ^ 1 = 256 := by decide
        exact GI_gCre h hT ⟨hs.1, hs2⟩ (by omega) hN (by have : qMode P s (P 2306 (qFid P s c (nu a 7 4))) = P 2293 (64 * s + P 2306 (qFid P s c (nu a 7 4))) := if_pos hs2; omega) hnw (by omega) (fid_node h hs (by omega)).2 (byt_seg (fun i h0 h3 => hb _ (by omega) (by omega))) hk.2.1 (by omega)
      · omega
    · exact hM
  rw [if_neg t6]
  by_cases t7 : t = 116
  · rw [if_pos t7]
    split
    · rename_i e
      have e0 := rd_z e
      have e1 : rdX P s (qFid P s c (nu a 7 4)) (w64 (nu a 11 8)) (nu a 19 4) (P 2313 (2 * s + c) - 11) = 0 := by
        unfold rdErr at e
        rw [if_neg (fun g => g e0)] at e
        exact e
      obtain ⟨g1, g2, g3⟩ := rdX_0 e1
      have e4 := qFid_in hs hc g1
      have e6 := nr 19 4 (by decide) (by omega)
      have hN := oN_fid h hs (k := qFid P s c (nu a 7 4)) (by omega) e4.2.2 g2
      unfold rdP
      split
      · rename_i hd
        have br : 0 ≤ P 2312 (qFid P s c (nu a 7 4)) ∧ P 2312 (qFid P s c (nu a 7 4)) ≤ 64 := IV.a h.iv 2312 0 288 rfl rfl rfl (by omega) (by omega)
        have hd2 : s = 2 → 0 < P 2306 (qFid P s c (nu a 7 4)) → P 2306 (qFid P s c (nu a 7 4)) % 16 = 0 := fun q1 q2 => by
          have := qMode_dir2 (P := P) (n := P 2306 (qFid P s c (nu a 7 4))) (by rw [q1] at hd; rw [q1]; exact hd)
          omega
        refine (GI_gEnt h ?_).mono (by omega)
        have r1 := rdE_rng h.iv hN.1 hd2 6 (if w64 (nu a 11 8) = 0 then 0 else P 2312 (qFid P s c (nu a 7 4))) (nu a 19 4) e6.1 (by split <;> omega)
        have r2 := rdE_most (P := P) (s := s) (n := P 2306 (qFid P s c (nu a 7 4))) 6 (if w64 (nu a 11 8) = 0 then 0 else P 2312 (qFid P s c (nu a 7 4))) (nu a 19 4) (by split <;> omega) (by split <;> omega)
        refine ⟨?_, r2⟩
        have : 0 ≤ (if w64 (nu a 11 8) = 0 then 0 else P 2312 (qFid P s c (nu a 7 4))) := by split <;> omega
        exact Int.le_trans this r1.1
      · split
        · exact hM
        · split
          · have bi : 0 ≤ P 2281 39 ∧ P 2281 39 ≤ 200 := IV.n h.iv 39 39 rfl rfl (by decide)
            exact (GI_gIn h (by split <;> omega)).mono (by omega)
          · exact hM
    · exact hM
  rw [if_neg t7]
  by_cases t8 : t = 118
  · rw [if_pos t8]
    split
    · rename_i e
      have e0 := wr_z e
      have e1 : wrX P s (qFid P s c (nu a 7 4)) (w64 (nu a 11 8)) (z - 23) a = 0 := by
        unfold wrErr at e
        split at e
        · omega
        · exact e
      obtain ⟨g1, g2, g3⟩ := wrX_0 e1
      have e4 := qFid_in hs hc g1
      obtain ⟨n1, n2⟩ := fid_node h hs (k := qFid P s c (nu a 7 4)) (by omega)
      have hN := oN_fid h hs (k := qFid P s c (nu a 7 4)) (by omega) e4.2.2 g2
      unfold wrP
      split
      · rename_i hs2
        exact (GI_gWr h ⟨hs.1, hs2, n1.2.2.1, n1.2.2.2.2 hs2⟩ (hN.2.1 hs2) n2 (g3 hs2) rfl (byt_seg (fun i h0 h3 => hb _ (by omega) (by omega))) (by rw [seg_len]; omega)).mono (by omega)
      · split
        · exact (GI_gCon h (fun i h0 h3 => hb _ (by omega) (by omega))).mono (by omega)
        · exact (GI_one (f := 2321) (ty := 2) (len := 8) h rfl (show (0 : Int) ≤ 1 ∧ (1 : Int) ≤ 1 by decide) rfl rfl rfl rfl rfl rfl rfl rfl rfl (by decide) (by decide)).mono (by omega)
    · exact hM
  rw [if_neg t8]
  by_cases t9 : t = 120 ∨ t = 122 ∨ t = 124
  · rw [if_pos t9]
    split
    · unfold onP
      split
      · exact hM
      · rename_i hk
        have e4 := qFid_in (P := P) hs hc (v := nu a 7 4) (by omega)
        obtain ⟨n1, n2⟩ := fid_node h hs (k := qFid P s c (nu a 7 4)) (by omega)
        split
        · exact (GI_gClunk h hs (by omega) e4.2.2).mono (by omega)
        · split
          · rename_i t10
            split
            · rename_i e
              have e1 : P 2310 (qFid P s c (nu a 7 4)) = 0 ∧ qRem (rU P 2304 (qFid P s c (nu a 7 4)) 0) s (P 2306 (qFid P s c (nu a 7 4))) (P 2308 (qFid P s c (nu a 7 4))) = 0 := by
                unfold onE at e
                (repeat' split at e) <;> first | (exfalso; omega) | exact ⟨by omega, e⟩
              have hr := qRem_0 e1.2
              have hf := fid_file h ⟨hs.1, by omega⟩ (k := qFid P s c (nu a 7 4)) (by omega) e4.2.2 e1.1
              exact (GI_gRem (GI_isFid (k := qFid P s c (nu a 7 4)) h rfl) hs ⟨n1.2.2.1, n1.2.2.2.2 (by omega)⟩ e1.2 (by rw [rU_f (by decide)]; exact hf) n2).mono (by omega)
            · exact (GI_isFid h rfl).mono (by omega)
          · exact hM
    · exact hM
  rw [if_neg t9]
  by_cases t11 : t = 126
  · rw [if_pos t11]
    split
    · rename_i e
      obtain ⟨e0, e5⟩ := ws_z e
      have e1 : wsX P s (qFid P s c (nu a 7 4)) (wsO a) ((wsY a z 1).2 + (wsY a z 2).2 + (wsY a z 3).2) (wsY a z 0).2 (nu a 34 4) (w64 (nu a 46 8)) (wsN a z) = 0 := by
        unfold wsE at e
        split at e
        · omega
        · exact e
      obtain ⟨g1, g2, g3⟩ := wsX_0 e1
      have e4 := qFid_in hs hc g1
      obtain ⟨n1, n2⟩ := fid_node h hs (k := qFid P s c (nu a 7 4)) (by omega)
      have hw := ws_q hb 4 54 0 (by omega) (by decide)
      unfold wsQ wsP
      split
      · rename_i q
        refine (GI_gChg h hT ⟨hs.1, q.1, n1.2.2.1, n1.2.2.2.2 q.1⟩ (fid_file h ⟨hs.1, q.1⟩ (by omega) e4.2.2 g2) n2 (g3 q.1) ?_).mono (by omega)
        exact byt_seg (fun i h0 h3 => hb _ (by unfold wsY; omega) (by unfold wsY at *; omega))
      · exact hM
    · exact hM
  · rw [if_neg t11]
    exact hM
end MINVD
