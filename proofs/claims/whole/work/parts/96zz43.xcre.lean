/-! The class's servers: a file is made. -/
section XCRE
variable {fb : Bool} {d S a b c0 rp mb m0 N M : Nat} {σ0 σ : hM} {W W1 W2 P Q : qR} {R R1 R2 : rR} {i j k x z v s e w f u n p g ln K T U C c m y : Int} {ord l l2 nm lo : List Int} {t : Nat → Nat} {r : Option Nat}
theorem m65 (hm : 0 ≤ m ∧ m ≤ 255) : and32 m (-65) ≤ 3 → and32 m 3 = and32 m (-65) := byte_all (p := fun m => and32 m (-65) ≤ 3 → and32 m 3 = and32 m (-65)) (by decide +kernel) hm
theorem FV_fbo (hF : FB b W W2) (hb : S < b ∧ b + 1 < S + 294) (hS : 0 < S ∧ S + 294 ≤ 2372) : FV S 0 W W2 R R := ⟨fun x k _ q _ _ _ => hF x k (by omega) (by omega), fun _ _ _ => rfl, ⟨rfl, rfl, hF.o (by decide) (by decide)⟩, fun c k c0 _ _ => hF c k (by omega) (by omega), by rw [hF 0 0 (by omega) (by omega)]; exact Int.le_refl _, fun _ => Or.inl rfl⟩
theorem XV.make (h : XV W R P S s ord t) (hS : VS S s) (h6 : ∀ n, s < 2 → isN P s n → P 2297 (64 * s + n) ≤ 600) (hi : 0 ≤ i ∧ i < 96) (ha : noA S ord t n = some b) : XV (fdW W (S + 198 + i.toNat) v u (qPath P s n)) (oU R (S + 198 + i.toNat) 2291 (some b)) (gMake P (96 * s + i) v n u) S s ord t := by
  have hm : ∀ n, n ∈ ord → isN P s n := fun n hn => (h.1.1.1 n).mp hn
  have w : ∀ (x : Nat) (k : Int), (k < 2288 ∨ 2296 < k) → fdW W (S + 198 + i.toNat) v u (qPath P s n) x k = W x k := fun x k q => by
    unfold fdW
    rw [rU_j (by omega), rU_j (by omega), rU_j (by omega), rU_j (by omega), rU_j (by omega), rU_j (by omega), rU_j (by omega), rU_j (by omega)]
  refine ⟨h.1.fid.fe gMake_fe, h.2.1.make hS hi ha rfl, ?_, fun k k0 k1 => (((h.2.2.2 k k0 k1).fr (w _ _ (by decide)) (oU_j (by decide)) (oU_j (by decide)) (fun c _ _ i i0 i1 => w _ _ (by omega)) (fun q => h6 _ q (hm _ (lg_mem k0 k1)))).pp (fun _ => gMake_fe _ _ rfl) (fun _ _ _ _ => RF_gMake _ _ rfl))⟩
  obtain ⟨z1, z2, z3, z4⟩ := h.2.2.1
  have r : ∀ f k1, [2307, 2304, 2305, 2306, 2308, 2309, 2310, 2311, 2312].elem f = false → gMake P (96 * s + i) v n u f k1 = P f k1 := RF_gMake
  unfold SZ
  rw [w _ _ (by decide), w _ _ (by decide), w _ _ (by decide), w _ _ (by decide), w _ _ (by decide), r _ _ rfl, r _ _ rfl, r _ _ rfl, r _ _ rfl]
  exact ⟨z1, z2, z3, z4⟩
/-- the fid that a file is made with, made anew -/
theorem gCre_fid {k nn pa : Int} (h1 : P 2304 k = 1) (h2 : P 2305 k = v) (h3 : P 2308 k = u) (h4 : P 2310 k = 0) (h5 : qPath P (k / 96) nn = pa) : gOpen (rU (rU P 2306 k nn) 2307 k pa) k m = gOpen (gMake P k v nn u) k m := by
  funext f j
  unfold gOpen gMake
  by_cases hj : j = k
  · subst hj
    rw [h5]
    by_cases c1 : f = 2312
    · rw [c1, rU_s, rU_s]
    · rw [rU_f c1, rU_f c1]
      by_cases c2 : f = 2311
      · rw [c2, rU_s, rU_s]
      · rw [rU_f c2, rU_f c2]
        by_cases c3 : f = 2309
        · rw [c3, rU_s, rU_s]
        · rw [rU_f c3, rU_f c3, rU_f c1, rU_f c2]
          by_cases c4 : f = 2310
          · rw [c4, rU_f (by decide), rU_f (by decide), rU_s, h4]
          · rw [rU_f c4, rU_f c3]
            by_cases c5 : f = 2308
            · rw [c5, rU_f (by decide), rU_f (by decide), rU_s, h3]
            · rw [rU_f c5]
              by_cases c6 : f = 2306
              · rw [c6, rU_f (by decide), rU_s, rU_s]
              · rw [rU_f c6]
                by_cases c7 : f = 2307
                · rw [c7, rU_s, rU_f (by decide), rU_f (by decide), rU_s]
                · rw [rU_f c7, rU_f c6]
                  by_cases c8 : f = 2305
                  · rw [c8, rU_s, h2]
                  · rw [rU_f c8]
                    by_cases c9 : f = 2304
                    · rw [c9, rU_s, h1]
                    · rw [rU_f c9, rU_f c7]
  · have e : ∀ (Q : qR) (g : Nat) (w : Int), rU Q g k w f j = Q f j := fun Q g w => if_neg (fun q => hj q.2)
    simp only [e]
/-- the rows of a new file, before its directory grows -/
def gNew (P : qR) (s nn into md u : Int) (nm : List Int) : qR := rU (gName (rU (rU (rU (rU (rU (rU (rU (rU (rU (rU P 2289 (64 * s + nn) 1) 2290 (64 * s + nn) into) 2303 s (P 2303 s + 1)) 2291 (64 * s + nn) (P 2303 s + 1)) 2292 (64 * s + nn) 0) 2293 (64 * s + nn) md) 2294 (64 * s + nn) u) 2295 (64 * s + nn) (P 2295 (64 * s + into))) 2296 (64 * s + nn) u) 2297 (64 * s + nn) 0) s nn nm) 2302 s (P 2302 s + 1)
theorem gNew_o {g : Nat} {nn into md : Int} (h : j ≠ 64 * s + nn) (h1 : g ≠ 2303) (h2 : g ≠ 2302) (h3 : g ≠ 2298) : gNew P s nn into md u nm g j = P g j := by
  have e : ∀ (Q : qR) (f : Nat) (w : Int), rU Q f (64 * s + nn) w g j = Q g j := fun Q f w => if_neg (fun q => h q.2)
  unfold gNew gName
  rw [rU_f h2, e, rW_f h3, e, e, e, e, e, e, e, rU_f h1, e, e]
theorem gNew_f {g : Nat} {nn into md : Int} (h : ([2289, 2290, 2303, 2291, 2292, 2293, 2294, 2295, 2296, 2297, 2298, 2299, 2302] : List Nat).elem g = false) : gNew P s nn into md u nm g j = P g j := by
  have e : ∀ f : Nat, ([2289, 2290, 2303, 2291, 2292, 2293, 2294, 2295, 2296, 2297, 2298, 2299, 2302] : List Nat).elem f = true → g ≠ f := fun f hf q => by rw [q, hf] at h; cases h
  unfold gNew gName
  rw [rU_f (e _ rfl), rU_f (e _ rfl), rW_f (e _ rfl), rU_f (e _ rfl), rU_f (e _ rfl), rU_f (e _ rfl), rU_f (e _ rfl), rU_f (e _ rfl), rU_f (e _ rfl), rU_f (e _ rfl), rU_f (e _ rfl), rU_f (e _ rfl), rU_f (e _ rfl)]
theorem gNew_at {nn into md : Int} : gNew P s nn into md u nm 2289 (64 * s + nn) = 1 ∧ gNew P s nn into md u nm 2290 (64 * s + nn) = into ∧ gNew P s nn into md u nm 2291 (64 * s + nn) = P 2303 s + 1 ∧ gNew P s nn into md u nm 2292 (64 * s + nn) = 0 ∧ gNew P s nn into md u nm 2293 (64 * s + nn) = md ∧ gNew P s nn into md u nm 2294 (64 * s + nn) = u ∧ gNew P s nn into md u nm 2295 (64 * s + nn) = P 2295 (64 * s + into) ∧ gNew P s nn into md u nm 2296 (64 * s + nn) = u ∧ gNew P s nn into md u nm 2297 (64 * s + nn) = 0 ∧ gNew P s nn into md u nm 2299 (64 * s + nn) = (nm.length : Int) ∧ gNew P s nn into md u nm 2303 s = P 2303 s + 1 := by
  have rf : ∀ {Q : qR} {f g : Nat} {j k v : Int}, g ≠ f → rU Q f k v g j = Q g j := fun h => rU_f h
  unfold gNew gName
  refine ⟨?_, ?_, ?_, ?_, ?_, ?_, ?_, ?_, ?_, ?_, ?_⟩
  · rw [rf (by decide), rf (by decide), rW_f (by decide), rf (by decide), rf (by decide), rf (by decide), rf (by decide), rf (by decide), rf (by decide), rf (by decide), rf (by decide), rf (by decide), rU_s]
  · rw [rf (by decide), rf (by decide), rW_f (by decide), rf (by decide), rf (by decide), rf (by decide), rf (by decide), rf (by decide), rf (by decide), rf (by decide), rf (by decide), rU_s]
  · rw [rf (by decide), rf (by decide), rW_f (by decide), rf (by decide), rf (by decide), rf (by decide), rf (by decide), rf (by decide), rf (by decide), rU_s]
  · rw [rf (by decide), rf (by decide), rW_f (by decide), rf (by decide), rf (by decide), rf (by decide), rf (by decide), rf (by decide), rU_s]
  · rw [rf (by decide), rf (by decide), rW_f (by decide), rf (by decide), rf (by decide), rf (by decide), rf (by decide), rU_s]
  · rw [rf (by decide), rf (by decide), rW_f (by decide), rf (by decide), rf (by decide), rf (by decide), rU_s]
  · rw [rf (by decide), rf (by decide), rW_f (by decide), rf (by decide), rf (by decide), rU_s]
  · rw [rf (by decide), rf (by decide), rW_f (by decide), rf (by decide), rU_s]
  · rw [rf (by decide), rf (by decide), rW_f (by decide), rU_s]
  · rw [rf (by decide), rU_s]
  · rw [rf (by decide), rf (by decide), rW_f (by decide), rf (by decide), rf (by decide), rf (by decide), rf (by decide), rf (by decide), rf (by decide), rf (by decide), rU_s]
theorem gNew_name {nn into md : Int} (h : 0 ≤ j ∧ j < nm.length) : gNew P s nn into md u nm 2298 (12 * (64 * s + nn) + j) = lg nm j := by
  unfold gNew gName
  rw [rU_f (by decide), rU_f (by decide), rW_i (by omega)]
  congr 1
  omega
theorem gNew_nm_o {nn into md : Int} (h : n ≠ nn) (hl : nm.length ≤ 12) (hj : 0 ≤ j ∧ j < 12) : gNew P s nn into md u nm 2298 (12 * (64 * s + n) + j) = P 2298 (12 * (64 * s + n) + j) := by
  unfold gNew gName
  rw [rU_f (by decide), rU_f (by decide), rW_o (by omega), rU_f (by decide), rU_f (by decide), rU_f (by decide), rU_f (by decide), rU_f (by decide), rU_f (by decide), rU_f (by decide), rU_f (by decide), rU_f (by decide), rU_f (by decide)]
theorem gCre_eq {k p nn into : Int} : gCre P s k p m into nn u nm = gOpen (rU (rU (gGrow (gNew P s nn into (creM P s into p) u nm) s into u) 2306 k nn) 2307 k (P 2303 s + 1)) k m := rfl
/-- a new file stands behind all others -/
theorem XV.new (h : XV W R P S s ord t) (hS : VS S s) (hG : GI T U P) (hD : TI P) (hs : s < 2) (hC : (ord.length : Int) = C) (hC2 : C < 64) (hb : S + 6 + 3 * t C.toNat = b) {nn into md : Int} (hnn : 1 ≤ nn ∧ nn < 64 ∧ P 2289 (64 * s + nn) = 0) (hi : isN P s into) (hl : byt nm) (hlz : nm.length ≤ 12) (hmd : -2147483648 ≤ md ∧ md ≤ 2147483647) (hu : 0 ≤ u ∧ u ≤ 3) (hlp : P 2303 s + 1 ≤ 2147483647) (hcn : W2 S 2230 = C + 1) (hlp2 : W2 S 2232 = P 2303 s + 1) (hW : ∀ (x : Nat) (k : Int), x ≠ b → ¬ (x = b + 1 ∧ k = 2065) → ¬ (x = b + 2 ∧ k < 2000) → ¬ (x = S ∧ (k = 2230 ∨ k = 2232)) → W2 x k = W x k) (w1 : W2 b 2260 = P 2303 s + 1 ∧ W2 b 2261 = 0 ∧ W2 b 2262 = md ∧ W2 b 2263 = u ∧ W2 b 2264 = P 2295 (64 * s + into) ∧ W2 b 2265 = u ∧ W2 b 2266 = 0 ∧ W2 b 2259 = 0) (hBY : BY W2 (b + 1) 12 nm) (hR1 : ∀ i : Int, 0 ≤ i → i < 64 → R2 (S + 1) i = R (S + 1) i) (hR2 : ∀ (x : Nat) (k : Int), 2000 ≤ k → x ≠ b → R2 x k = R x k) (hdr : R2 b 2257 = noA S ord t into) : XV W2 R2 (gNew P s nn into md u nm) S s (ord.insertIdx C.toNat nn) (insT t C C) := by
  have hsr := hS.1
  have hrg := hS.rng
  obtain ⟨g1, g2, g3, g4, g5, g6, g7, g8, g9, g10, g11⟩ := gNew_at (P := P) (s := s) (nn := nn) (into := into) (md := md) (u := u) (nm := nm)
  have tb := h.1.2.1.1 C.toNat (by omega)
  have hi0 := isN_lt hs hi
  have hno : nn ∉ ord := fun c => by
    have := isN_lt hs ((h.1.1.1 nn).mp c)
    omega
  have hIV := hG.iv
  have h6 := XV.len6 hIV hsr.1
  have hgid : 0 ≤ P 2295 (64 * s + into) ∧ P 2295 (64 * s + into) ≤ 3 := IV.a hIV 2295 0 128 rfl rfl rfl (by omega) (by omega)
  have hlpb : 0 ≤ P 2303 s ∧ P 2303 s ≤ T := IV.a hIV 2303 0 2 rfl rfl rfl (by omega) (by omega)
  have hL : ∀ m, isN (gNew P s nn into md u nm) s m ↔ isN P s m ∨ m = nn := fun m => by
    constructor
    · intro c
      obtain ⟨c1, c2, c3⟩ := isN_lt hs c
      by_cases e : m = nn
      · exact Or.inr e
      · rw [gNew_o (by omega) (by decide) (by decide) (by decide)] at c3
        exact Or.inl (Or.inl ⟨hs, c1, c2, c3⟩)
    · rintro (c | rfl)
      · obtain ⟨c1, c2, c3⟩ := isN_lt hs c
        have e : m ≠ nn := fun e => by rw [e] at c3; omega
        exact Or.inl ⟨hs, c1, c2, by rw [gNew_o (by omega) (by decide) (by decide) (by decide)]; exact c3⟩
      · exact Or.inl ⟨hs, by omega, hnn.2.1, g1⟩
  have hE : ∀ m ∈ ord, EN (gNew P s nn into md u nm) P s m := fun m hm => by
    have hml := isN_lt hs ((h.1.1.1 m).mp hm)
    have hmn : m ≠ nn := fun e => hno (by rw [← e]; exact hm)
    have hns : qNs P s m ≤ 12 := by
      obtain ⟨j, j0, j1, hj⟩ := mem_lg hm
      have hN := h.1.2.2.2.1 j j0 j1
      rw [hj] at hN
      have h1 := hN.2.2.2.2.2.2.2.2.1.2.2.2.2.1
      have h2 := hN.2.2.2.2.2.2.2.2.2
      omega
    exact EN_tree hs (fun f hf => gNew_o (by omega) (fun c => by rw [c] at hf; exact absurd hf (by decide)) (fun c => by rw [c] at hf; exact absurd hf (by decide)) (fun c => by rw [c] at hf; exact absurd hf (by decide))) (fun k k0 k1 => gNew_nm_o (by omega) hlz ⟨k0, by omega⟩)
  have epath : qPath (gNew P s nn into md u nm) s nn = P 2303 s + 1 := (if_pos hs).trans g3
  have eup : qUp (gNew P s nn into md u nm) s nn = into := (if_pos hs).trans g2
  have hup : ∀ m ∈ ord, ¬ m = 0 → qUp P s m ∈ ord := fun m hm hm0 => by
    have hml := isN_lt hs ((h.1.1.1 m).mp hm)
    have ba : 0 ≤ P 2290 (64 * s + m) ∧ P 2290 (64 * s + m) ≤ 63 := IV.a hIV 2290 0 128 rfl rfl rfl (by omega) (by omega)
    rw [show qUp P s m = P 2290 (64 * s + m) from if_pos hs, h.1.1.1]
    exact Or.inl ⟨hs, ba.1, by omega, (hG.2.1.2.1 s m hsr.1 hs (by omega) hml.2.1 (by omega)).1⟩
  have hwS : ∀ (x : Nat) (k : Int), S ≤ x → x < S + 294 → x ≠ b → x ≠ b + 1 → x ≠ b + 2 → x ≠ S → W2 x k = W x k := fun x k _ _ q1 q2 q3 q4 => hW x k q1 (fun c => q2 c.1) (fun c => q3 c.1) (fun c => q4 c.1)
  have eNs : qNs (gNew P s nn into md u nm) s nn = (nm.length : Int) := (if_pos hs).trans g10
  have eNm : qNm (gNew P s nn into md u nm) s nn = nm := by
    unfold qNm
    rw [eNs]
    exact seg_eq.mpr ⟨by omega, fun j j0 j1 => by
      unfold qNb
      rw [if_pos hs, Int.zero_add, gNew_name ⟨j0, by omega⟩]⟩
  obtain ⟨w2, w3, w4, w5, w6, w7, w8, w9⟩ := w1
  have hN : ND W2 (gNew P s nn into md u nm) b s nn := by
    have e1 : qMode (gNew P s nn into md u nm) s nn = md := (if_pos hs).trans g5
    have e2 : qVer (gNew P s nn into md u nm) s nn = 0 := (if_pos hs).trans g4
    have e3 : qUid (gNew P s nn into md u nm) s nn = u := (if_pos hs).trans g6
    have e4 : qGid (gNew P s nn into md u nm) s nn = P 2295 (64 * s + into) := (if_pos hs).trans g7
    have e5 : qMuid (gNew P s nn into md u nm) s nn = u := (if_pos hs).trans g8
    have e6 : qLen (gNew P s nn into md u nm) s nn = 0 := by
      unfold qLen
      split
      · exact g9
      · rfl
    unfold ND
    rw [e1, e2, e3, e4, e5, e6, epath, eNs, eNm]
    refine ⟨?_, ⟨w4, hmd⟩, ⟨w2, by omega, by omega⟩, ⟨w3, by decide, by decide⟩, ⟨w5, hu⟩, ⟨w6, hgid⟩, ⟨w7, hu⟩, ⟨w8, by decide, by decide⟩, hBY, rfl⟩
    rw [← hb]
    exact hS.nd tb
  refine ⟨h.1.ins ⟨by omega, Int.le_refl C⟩ hC hC2 hb hno hL hE hup (fun i i0 i1 => ?_) (fun i i0 i1 => by omega) hcn hwS hN (fun i i0 i1 => ?_) (fun x hx => hR2 x _ (by decide) hx) ?_ (fun _ => ?_), h.2.1.ins h.1 ⟨by omega, Int.le_refl C⟩ hC hno (fun i k i0 i1 => hW _ _ (by omega) (by omega) (by omega) (by omega)) (fun i i0 i1 => hR2 _ _ (by decide) (by omega)) (fun f k hf => ?_) (fun k k0 k1 c1 c2 c3 => ?_), ?_, h.2.2.2.ins h.1 ⟨by omega, Int.le_refl C⟩ hC hC2 hb (fun x _ _ hx => ?_) (fun x k hx hk => hR2 x k (by omega) hx) (fun c k hc => hW _ _ (by omega) (by omega) (by omega) (by omega)) h6 (fun m _ hm => ?_) ⟨fun _ => ⟨w9, Or.inl g9⟩, fun c => by omega⟩⟩
  · rw [epath]
    have hml := (h.1.1.1 _).mp (lg_mem (ord := ord) i0 (by omega))
    have := hD.2.1 s _ hsr.1 hs hml
    rw [show qPath P s (lg ord i) = P 2291 (64 * s + lg ord i) from if_pos hs]
    omega
  · rw [hR1 i i0 i1, dnR_C]
    by_cases c : i = C
    · rw [c, oU_s, h.1.2.2.1 C (by omega) hC2, hb]
    · rw [oU_j c]
  · rw [if_neg (by omega), eup]
    exact hdr
  · rw [eup]
    exact (h.1.1.1 into).mpr hi
  · exact gNew_f (by
      cases e : ([2289, 2290, 2303, 2291, 2292, 2293, 2294, 2295, 2296, 2297, 2298, 2299, 2302] : List Nat).elem f
      · rfl
      · exfalso
        have := List.elem_iff.mp e
        simp only [List.mem_cons, List.not_mem_nil, or_false] at this
        rcases this with rfl | rfl | rfl | rfl | rfl | rfl | rfl | rfl | rfl | rfl | rfl | rfl | rfl <;> exact absurd hf (by decide))
  · have hf := fid_file hG ⟨hsr.1, hs⟩ (k := k) ⟨k0, k1⟩ c1 c2
    rw [c3] at hf
    omega
  · obtain ⟨z1, z2, z3, z4⟩ := h.2.2.1
    have hA : ∀ (x : Nat) (k : Int), x = S ∨ x = S + 3 → k ≠ 2230 → k ≠ 2232 → W2 x k = W x k := fun x k hx q1 q2 => hW x k (by omega) (by omega) (by omega) (by omega)
    refine ⟨?_, ?_, ?_, fun _ => ⟨?_, ?_⟩, fun c => by omega⟩
    · rw [hA _ _ (Or.inr rfl) (by decide) (by decide), gNew_f rfl]; exact z1
    · rw [hA _ _ (Or.inr rfl) (by decide) (by decide), gNew_f rfl]; exact z2
    · rw [hA _ _ (Or.inl rfl) (by decide) (by decide)]; exact z3
    · rw [hA _ _ (Or.inl rfl) (by decide) (by decide), gNew_f rfl]; exact (z4.1 hs).1
    · rw [hlp2, g11]
  · exact hW x _ hx (by omega) (by omega) (by omega)
  · have hml := isN_lt hs ((h.1.1.1 m).mp hm)
    have hmn : m ≠ nn := fun e => hno (by rw [← e]; exact hm)
    exact ⟨gNew_o (by omega) (by decide) (by decide) (by decide), fun i _ _ => gNew_f rfl⟩
end XCRE
