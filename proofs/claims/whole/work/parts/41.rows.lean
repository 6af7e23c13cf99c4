/-! The reference's rows as two functions of place and index: P what stays between calls, S scratch. Rules that read and write them. -/
def rMt : List (Option Nat) := [some 2282, some 2283, some 2284, some 2285, none, some 2286, none, none, none, none, some 2287, some 2288, none, some 2289, some 2290, some 2291, some 2292, some 2293, some 2294, some 2295,
  some 2296, some 2297, some 2298, some 2299, some 2300, some 2301, some 2302, some 2303, some 2304, some 2305, some 2306, some 2307, some 2308, some 2309, some 2310, some 2311, some 2312, some 2313, some 2314, none,
  some 2315, none, none, some 2316, some 2317, none, some 2318, none, some 2319, none, some 2320, some 2321, some 2322, some 2323, some 2324, some 2325, some 2326, some 2327, some 2328, some 2329,
  some 2330, some 2331, some 2332, some 2333, some 2334, some 2335, some 2336, some 2337, some 2338, some 2339, some 2340, some 2341, some 2342, some 2343, none, some 2344, some 2345, none, some 2346, none,
  none, some 2347, some 2348, none, some 2349, none, some 2350, some 2351, some 2352, some 2353, some 2354, none, none, some 2355, some 2356, some 2357, some 2358, some 2359, some 2360, none,
  some 2361, some 2362, some 2363, none, some 2364, none, some 2365, some 2366, some 2367, some 2368, some 2369, some 2370, some 2371, none, none]
def rM (j : Nat) : Option Nat := rMt.getD j none
def shMt : List hSh := [some (Sum.inl 17), some (Sum.inr (0, 181)), some (Sum.inr (0, 17)), some (Sum.inr (0, 12)), some (Sum.inr (0, 512)), some (Sum.inr (0, 512)),
  some (Sum.inr (0, 8)), some (Sum.inr (0, 8)), some (Sum.inr (2, 128)), some (Sum.inr (0, 128)), some (Sum.inr (0, 128)), some (Sum.inr (0, 128)),
  some (Sum.inr (0, 128)), some (Sum.inr (0, 128)), some (Sum.inr (0, 128)), some (Sum.inr (0, 128)), some (Sum.inr (0, 128)), some (Sum.inr (0, 1536)),
  some (Sum.inr (0, 128)), some (Sum.inr (0, 76800)), some (Sum.inr (0, 2)), some (Sum.inr (0, 2)), some (Sum.inr (0, 2)), some (Sum.inr (2, 288)),
  some (Sum.inr (3, 288)), some (Sum.inr (0, 288)), some (Sum.inr (0, 288)), some (Sum.inr (0, 288)), some (Sum.inr (0, 288)), some (Sum.inr (2, 288)),
  some (Sum.inr (3, 288)), some (Sum.inr (0, 288)), some (Sum.inr (0, 6)), some (Sum.inr (0, 200)), some (Sum.inr (0, 1000)), some (Sum.inr (0, 16800)),
  some (Sum.inr (0, 40)), some (Sum.inr (0, 400)), some (Sum.inr (0, 512)), some (Sum.inr (2, 8)), some (Sum.inr (2, 8)), some (Sum.inr (0, 8)),
  some (Sum.inr (0, 8)), some (Sum.inr (0, 8)), some (Sum.inr (0, 480)), some (Sum.inr (0, 8)), some (Sum.inr (0, 64)), some (Sum.inr (0, 8000)),
  some (Sum.inr (0, 8)), some (Sum.inr (2, 64)), some (Sum.inr (0, 64)), some (Sum.inr (0, 64)), some (Sum.inr (0, 64)), some (Sum.inr (0, 8)),
  some (Sum.inr (0, 64)), some (Sum.inr (0, 64)), some (Sum.inr (0, 64)), some (Sum.inr (0, 384)), some (Sum.inr (0, 384)), some (Sum.inr (0, 384)),
  some (Sum.inr (0, 384)), some (Sum.inr (2, 384)), some (Sum.inr (0, 100)), some (Sum.inr (0, 60)), some (Sum.inr (0, 60)), some (Sum.inr (0, 200)),
  some (Sum.inr (0, 110)), some (Sum.inr (0, 110)), some (Sum.inr (0, 60)), some (Sum.inr (0, 64)), some (Sum.inr (0, 64)), some (Sum.inr (0, 64)),
  some (Sum.inr (0, 64)), some (Sum.inr (0, 64)), some (Sum.inr (0, 16)), some (Sum.inr (0, 6)), some (Sum.inr (0, 6)), some (Sum.inr (0, 6)),
  some (Sum.inr (0, 6)), some (Sum.inr (2, 6)), some (Sum.inr (0, 4160)), some (Sum.inr (0, 208)), some (Sum.inr (0, 100)), some (Sum.inr (0, 200)),
  some (Sum.inr (0, 1300)), some (Sum.inr (0, 13)), some (Sum.inr (0, 13)), some (Sum.inr (0, 13)), some (Sum.inr (2, 13)), some (Sum.inr (0, 7800)),
  some (Sum.inr (0, 13))]
def shM (f : Nat) : hSh := shMt.getD (f - 2281) none
def ebl : List Int := [110, 111, 32, 115, 117, 99, 104, 32, 102, 105, 108, 101, 110, 111, 116, 32, 97, 32, 100, 105, 114, 101, 99, 116, 111, 114, 121, 112, 101, 114,
  109, 105, 115, 115, 105, 111, 110, 32, 100, 101, 110, 105, 101, 100, 102, 105, 108, 101, 32, 101, 120, 105, 115, 116, 115, 98, 97, 100, 32, 110,
  97, 109, 101, 117, 110, 107, 110, 111, 119, 110, 32, 102, 105, 100, 102, 105, 100, 32, 105, 110, 32, 117, 115, 101, 102, 105, 100, 32, 105, 115,
  32, 111, 112, 101, 110, 102, 105, 100, 32, 105, 115, 32, 110, 111, 116, 32, 111, 112, 101, 110, 105, 115, 32, 97, 32, 100, 105, 114, 101, 99,
  116, 111, 114, 121, 110, 111, 116, 32, 101, 109, 112, 116, 121, 110, 111, 32, 114, 111, 111, 109, 98, 97, 100, 32, 111, 102, 102, 115, 101, 116,
  98, 97, 100, 32, 109, 101, 115, 115, 97, 103, 101, 117, 110, 107, 110, 111, 119, 110, 32, 117, 115, 101, 114, 98, 97, 100, 32, 109, 111, 100,
  101]
def eel : List Int := [0, 12, 27, 44, 55, 63, 74, 84, 95, 110, 124, 133, 140, 150, 161, 173, 181]
def ubl : List Int := [97, 100, 109, 97, 110, 110, 98, 111, 98, 101, 118, 101]
/-- errors' bytes, where they end, users' bytes -/
def ebyte (j : Int) : Int := lg ebl j
def eend (j : Int) : Int := lg eel j
def ubyte (j : Int) : Int := lg ubl j
def scrR (f : Nat) : Bool := [2285, 2286, 2287, 2288, 2343, 2344, 2345, 2346, 2347, 2348, 2349, 2350, 2351, 2352, 2353, 2354, 2355, 2356, 2357, 2358, 2359, 2360, 2364, 2365, 2366, 2367, 2368, 2369, 2370, 2371].elem f
def scrK (k : Nat) : Bool := [4, 6, 7, 8, 9, 12, 74, 77, 79, 80, 83, 85, 91, 92, 99, 105, 113, 114].elem k
def inA (f : Nat) : Bool := Nat.ble 2285 f && Nat.ble f 2371
def inM (f : Nat) : Bool := Nat.beq f 2281 || inA f
def scr (f k : Nat) : Bool := bif Nat.beq f 2281 then scrK k else scrR f
def GM (σ : hM) : Prop := (∀ f, 2281 ≤ f → f ≤ 2371 → mT σ f = shM f) ∧ (∀ j, j < 115 → mR σ 2281 j = rM j) ∧ (∀ k, k < 181 → mI σ 2282 k = ebl.getD k 0) ∧ (∀ k, k < 17 → mI σ 2283 k = eel.getD k 0) ∧ (∀ k, k < 12 → mI σ 2284 k = ubl.getD k 0)
abbrev qR : Type := Nat → Int → Int
/-- the memory is σ0's, but for the reference's rows, which are P and S -/
def PM (σ0 : hM) (P S : qR) (σ : hM) : Prop := GM σ0 ∧ (σ.1 = σ0.1 ∧ σ.2.1 = σ0.2.1) ∧ (∀ b, mT σ b = mT σ0 b) ∧ (∀ b k, mR σ b k = mR σ0 b k) ∧ (∀ b k, inM b = false → mI σ b k = mI σ0 b k) ∧ ∀ f k, inM f = true → mI σ f k = bif scr f k then S f (k : Int) else P f (k : Int)
/-- one place anew -/
def rU (W : qR) (f : Nat) (k v : Int) : qR := fun g j => if g = f ∧ j = k then v else W g j
/-- a list laid into a row from a place on -/
def rW (W : qR) (f : Nat) (o : Int) (l : List Int) : qR := fun g j => if g = f ∧ o ≤ j ∧ j < o + l.length then lg l (j - o) else W g j
/-- a list behind what the answer has -/
def rA (S : qR) (l : List Int) : qR := rU (rW S 2286 (S 2281 6) l) 2281 6 (S 2281 6 + l.length)
section ROWS
variable {W : qR} {f g : Nat} {j k v w : Int}
theorem rU_s : rU W f k v f k = v := if_pos ⟨rfl, rfl⟩
theorem rU_f (h : g ≠ f) : rU W f k v g j = W g j := if_neg (fun e => h e.1)
theorem rU_k (h : j ≠ k) : rU W f k v f j = W f j := if_neg (fun e => h e.2)
theorem rU_e (h : j = k) : rU W f k v f j = v := if_pos ⟨rfl, h⟩
theorem rU_self : rU W f k (W f k) = W := by
  funext g j
  unfold rU
  split
  · rename_i h; rw [h.1, h.2]
  · rfl
theorem rU_selfe (h : v = W f k) : rU W f k v = W := by rw [h]; exact rU_self
theorem rU_rU : rU (rU W f k v) f k w = rU W f k w := by
  funext g j
  unfold rU
  split <;> rfl
theorem rU_comm {f1 f2 : Nat} {k1 k2 v1 v2 : Int} (h : f1 ≠ f2 ∨ k1 ≠ k2) : rU (rU W f1 k1 v1) f2 k2 v2 = rU (rU W f2 k2 v2) f1 k1 v1 := by
  funext g j
  unfold rU
  by_cases h1 : g = f1 ∧ j = k1
  · rw [if_pos h1, if_neg (show ¬ (g = f2 ∧ j = k2) from fun h2 => h.elim (fun e => e (h1.1.symm.trans h2.1)) (fun e => e (h1.2.symm.trans h2.2))), if_pos h1]
  · rw [if_neg h1, if_neg h1]
theorem rW_f {o : Int} {l : List Int} (h : g ≠ f) : rW W f o l g j = W g j := if_neg (fun e => h e.1)
theorem rW_o {o : Int} {l : List Int} (h : j < o ∨ o + l.length ≤ j) : rW W f o l g j = W g j := if_neg (fun e => by omega)
theorem rW_i {o : Int} {l : List Int} (h : o ≤ j ∧ j < o + l.length) : rW W f o l f j = lg l (j - o) := if_pos ⟨rfl, h⟩
theorem rW_nil {o : Int} : rW W f o [] = W := by
  funext g j
  exact if_neg (fun e => by have := e.2; simp only [List.length_nil] at this; omega)
theorem rW_one {o : Int} : rW W f o [v] = rU W f o v := by
  funext g j
  unfold rW rU
  by_cases h : g = f ∧ j = o
  · rw [if_pos h, if_pos ⟨h.1, by omega, by simp only [List.length_singleton]; omega⟩, h.2, Int.sub_self]
    rfl
  · rw [if_neg h, if_neg (fun e => h ⟨e.1, by have := e.2; simp only [List.length_singleton] at this; omega⟩)]
theorem rW_app {o : Int} {l1 l2 : List Int} : rW (rW W f o l1) f (o + l1.length) l2 = rW W f o (l1 ++ l2) := by
  funext g j
  unfold rW
  by_cases hg : g = f
  · subst hg
    by_cases h2 : o + (l1.length : Int) ≤ j ∧ j < o + l1.length + l2.length
    · rw [if_pos ⟨rfl, h2⟩, if_pos ⟨rfl, by rw [List.length_append]; omega⟩, lg_app (by omega), if_neg (by omega)]
      congr 1
      omega
    · rw [if_neg (fun e => h2 e.2)]
      by_cases h1 : o ≤ j ∧ j < o + l1.length
      · rw [if_pos ⟨rfl, h1⟩, if_pos ⟨rfl, by rw [List.length_append]; omega⟩, lg_app (by omega), if_pos (by omega)]
      · rw [if_neg (fun e => h1 e.2), if_neg (fun e => by have := e.2; rw [List.length_append] at this; omega)]
  · rw [if_neg (fun e => hg e.1), if_neg (fun e => hg e.1), if_neg (fun e => hg e.1)]
theorem rA_z {l : List Int} : rA W l 2281 6 = W 2281 6 + l.length := rU_s
theorem rA_o {l : List Int} (h1 : g ≠ 2286) (h2 : ¬ (g = 2281 ∧ j = 6)) : rA W l g j = W g j := by
  unfold rA
  unfold rU
  rw [if_neg h2]
  exact rW_f h1
theorem rA_nil : rA W [] = W := by
  unfold rA
  rw [rW_nil]
  exact rU_selfe (by simp only [List.length_nil]; omega)
theorem rA_rA {l1 l2 : List Int} : rA (rA W l1) l2 = rA W (l1 ++ l2) := by
  show rU (rW (rA W l1) 2286 (rA W l1 2281 6) l2) 2281 6 (rA W l1 2281 6 + l2.length) = _
  rw [rA_z]
  funext g j
  unfold rU
  show (if g = 2281 ∧ j = 6 then _ else _) = (if g = 2281 ∧ j = 6 then _ else rW W 2286 (W 2281 6) (l1 ++ l2) g j)
  by_cases h : g = 2281 ∧ j = 6
  · rw [if_pos h, if_pos h, List.length_append]
    omega
  · rw [if_neg h, if_neg h, ← rW_app]
    unfold rA
    unfold rW
    by_cases h2 : g = 2286 ∧ W 2281 6 + (l1.length : Int) ≤ j ∧ j < W 2281 6 + l1.length + l2.length
    · rw [if_pos h2, if_pos h2]
    · rw [if_neg h2, if_neg h2]
      unfold rU
      rw [if_neg h]
end ROWS
section PMR
variable {fb : Bool} {d y pc nx : Nat} {ls : hLs} {st : List AV} {σ σ0 : hM} {Q : Option AV → hM → Prop} {P S : qR}
theorem PM.t (h : PM σ0 P S σ) : mT σ 2281 = some (Sum.inl 17) := (h.2.2.1 2281).trans (h.1.1 2281 (by decide) (by decide))
theorem PM.ta (h : PM σ0 P S σ) (f ty len : Nat) (e : shM f = some (Sum.inr (ty, len))) (b : (Nat.ble 2281 f && Nat.ble f 2371) = true) : mT σ f = some (Sum.inr (ty, len)) := by
  have h1 := Nat.le_of_ble_eq_true (Bool.and_eq_true_iff.mp b).1
  have h2 := Nat.le_of_ble_eq_true (Bool.and_eq_true_iff.mp b).2
  exact (h.2.2.1 f).trans ((h.1.1 f h1 h2).trans e)
theorem PM.r (h : PM σ0 P S σ) (j row : Nat) (e : rM j = some row) : mR σ 2281 j = some row := by
  have hj : j < 115 := by
    by_cases hj : j < 115
    · exact hj
    · have : rM j = none := by
        unfold rM
        rw [List.getD_eq_getElem?_getD, List.getElem?_eq_none (show rMt.length ≤ j by show 115 ≤ j; omega)]
        rfl
      rw [this] at e
      cases e
  exact (h.2.2.2.1 2281 j).trans ((h.1.2.1 j hj).trans e)
theorem PM.nP (h : PM σ0 P S σ) (f k : Nat) (kz : Int) (e1 : inM f = true) (e2 : scr f k = false) (e3 : (k : Int) = kz) : mI σ f k = P f kz := by
  rw [h.2.2.2.2.2 f k e1, e2, ← e3]
  rfl
theorem PM.nS (h : PM σ0 P S σ) (f k : Nat) (kz : Int) (e1 : inM f = true) (e2 : scr f k = true) (e3 : (k : Int) = kz) : mI σ f k = S f kz := by
  rw [h.2.2.2.2.2 f k e1, e2, ← e3]
  rfl
theorem inA_M {f : Nat} (h : inA f = true) : inM f = true ∧ Nat.beq f 2281 = false := by
  have h1 := Nat.le_of_ble_eq_true (Bool.and_eq_true_iff.mp h).1
  exact ⟨by unfold inM; rw [h, Bool.or_true], by rw [Bool.eq_false_iff]; intro e; have := Nat.eq_of_beq_eq_true e; omega⟩
theorem PM.aP (h : PM σ0 P S σ) (f : Nat) {j : Int} (e1 : inA f = true) (e2 : scrR f = false) (h0 : 0 ≤ j) : mI σ f j.toNat = P f j := by
  rw [h.2.2.2.2.2 f _ (inA_M e1).1]
  unfold scr
  rw [(inA_M e1).2, cond_false, e2, cond_false, Int.toNat_of_nonneg h0]
theorem PM.aS (h : PM σ0 P S σ) (f : Nat) {j : Int} (e1 : inA f = true) (e2 : scrR f = true) (h0 : 0 ≤ j) : mI σ f j.toNat = S f j := by
  rw [h.2.2.2.2.2 f _ (inA_M e1).1]
  unfold scr
  rw [(inA_M e1).2, cond_false, e2, cond_true, Int.toNat_of_nonneg h0]
theorem PM.c2282 (h : PM σ0 P S σ) {j : Int} (h0 : 0 ≤ j) (h1 : j < 181) : mI σ 2282 j.toNat = ebyte j := (h.2.2.2.2.1 2282 _ rfl).trans (h.1.2.2.1 _ (by omega))
theorem PM.c2283 (h : PM σ0 P S σ) {j : Int} (h0 : 0 ≤ j) (h1 : j < 17) : mI σ 2283 j.toNat = eend j := (h.2.2.2.2.1 2283 _ rfl).trans (h.1.2.2.2.1 _ (by omega))
theorem PM.c2284 (h : PM σ0 P S σ) {j : Int} (h0 : 0 ≤ j) (h1 : j < 12) : mI σ 2284 j.toNat = ubyte j := (h.2.2.2.2.1 2284 _ rfl).trans (h.1.2.2.2.2 _ (by omega))
theorem PM.wP (h : PM σ0 P S σ) {f k : Nat} {z : Int} (e1 : inM f = true) (e2 : scr f k = false) : PM σ0 (rU P f (k : Int) z) S (sI σ f k z) := by
  refine ⟨h.1, h.2.1, h.2.2.1, h.2.2.2.1, fun b i hb => ?_, fun g i hg => ?_⟩
  · rw [mI_sI, if_neg (fun e => by rw [e.1, e1] at hb; cases hb)]
    exact h.2.2.2.2.1 b i hb
  · rw [mI_sI]
    by_cases e : g = f ∧ i = k
    · rw [if_pos e, e.1, e.2, e2]
      exact (rU_s).symm
    · rw [if_neg e, h.2.2.2.2.2 g i hg]
      cases scr g i with
      | true => rfl
      | false => exact (if_neg (fun e3 => e ⟨e3.1, by omega⟩)).symm
theorem PM.wS (h : PM σ0 P S σ) {f k : Nat} {z : Int} (e1 : inM f = true) (e2 : scr f k = true) : PM σ0 P (rU S f (k : Int) z) (sI σ f k z) := by
  refine ⟨h.1, h.2.1, h.2.2.1, h.2.2.2.1, fun b i hb => ?_, fun g i hg => ?_⟩
  · rw [mI_sI, if_neg (fun e => by rw [e.1, e1] at hb; cases hb)]
    exact h.2.2.2.2.1 b i hb
  · rw [mI_sI]
    by_cases e : g = f ∧ i = k
    · rw [if_pos e, e.1, e.2, e2]
      exact (rU_s).symm
    · rw [if_neg e, h.2.2.2.2.2 g i hg]
      cases scr g i with
      | false => rfl
      | true => exact (if_neg (fun e3 => e ⟨e3.1, by omega⟩)).symm
theorem PM.wPa (h : PM σ0 P S σ) {f : Nat} {j z : Int} (e1 : inA f = true) (e2 : scrR f = false) (h0 : 0 ≤ j) : PM σ0 (rU P f j z) S (sI σ f j.toNat z) := by
  have h1 := h.wP (f := f) (k := j.toNat) (z := z) (inA_M e1).1 (by unfold scr; rw [(inA_M e1).2, cond_false, e2])
  rw [Int.toNat_of_nonneg h0] at h1
  exact h1
theorem PM.wSa (h : PM σ0 P S σ) {f : Nat} {j z : Int} (e1 : inA f = true) (e2 : scrR f = true) (h0 : 0 ≤ j) : PM σ0 P (rU S f j z) (sI σ f j.toNat z) := by
  have h1 := h.wS (f := f) (k := j.toNat) (z := z) (inA_M e1).1 (by unfold scr; rw [(inA_M e1).2, cond_false, e2])
  rw [Int.toNat_of_nonneg h0] at h1
  exact h1
theorem y_pIP {j : Nat} {z : Int} (h : PM σ0 P S σ) (T : hTab y pc = some ((25, 17, Int.ofNat j, []), nx)) (F : (hFd 17 j).2.2.1 = 0) (jz : Int) (e : (j : Int) = jz) (s : scr 2281 j = false) (k : ∀ σ1, PM σ0 (rU P 2281 jz z) S σ1 → WP fb d y nx ls st σ1 Q) : WP fb d y pc ls (vI z :: vR (some 2281) :: st) σ Q := x_pI T F h.t (by decide) (k _ (by rw [← e]; exact h.wP rfl s))
theorem y_pIS {j : Nat} {z : Int} (h : PM σ0 P S σ) (T : hTab y pc = some ((25, 17, Int.ofNat j, []), nx)) (F : (hFd 17 j).2.2.1 = 0) (jz : Int) (e : (j : Int) = jz) (s : scr 2281 j = true) (k : ∀ σ1, PM σ0 P (rU S 2281 jz z) σ1 → WP fb d y nx ls st σ1 Q) : WP fb d y pc ls (vI z :: vR (some 2281) :: st) σ Q := x_pI T F h.t (by decide) (k _ (by rw [← e]; exact h.wS rfl s))
theorem y_pZP {j : Nat} {z : Int} (h : PM σ0 P S σ) (T : hTab y pc = some ((25, 17, Int.ofNat j, []), nx)) (F : (hFd 17 j).2.2.1 = 2) (hz : h01 z = true) (jz : Int) (e : (j : Int) = jz) (s : scr 2281 j = false) (k : ∀ σ1, PM σ0 (rU P 2281 jz z) S σ1 → WP fb d y nx ls st σ1 Q) : WP fb d y pc ls (vI z :: vR (some 2281) :: st) σ Q := x_pZ T F h.t (by decide) hz (k _ (by rw [← e]; exact h.wP rfl s))
theorem y_pZS {j : Nat} {z : Int} (h : PM σ0 P S σ) (T : hTab y pc = some ((25, 17, Int.ofNat j, []), nx)) (F : (hFd 17 j).2.2.1 = 2) (hz : h01 z = true) (jz : Int) (e : (j : Int) = jz) (s : scr 2281 j = true) (k : ∀ σ1, PM σ0 P (rU S 2281 jz z) σ1 → WP fb d y nx ls st σ1 Q) : WP fb d y pc ls (vI z :: vR (some 2281) :: st) σ Q := x_pZ T F h.t (by decide) hz (k _ (by rw [← e]; exact h.wS rfl s))
theorem y_pLP {j : Nat} {z : Int} (h : PM σ0 P S σ) (T : hTab y pc = some ((25, 17, Int.ofNat j, []), nx)) (F : (hFd 17 j).2.2.1 = 3) (jz : Int) (e : (j : Int) = jz) (s : scr 2281 j = false) (k : ∀ σ1, PM σ0 (rU P 2281 jz z) S σ1 → WP fb d y nx ls st σ1 Q) : WP fb d y pc ls (vL z :: vR (some 2281) :: st) σ Q := x_pL T F h.t (by decide) (k _ (by rw [← e]; exact h.wP rfl s))
theorem inA_hK {f : Nat} (h : inA f = true) : hK ≤ f := by
  have h1 := Nat.le_of_ble_eq_true (Bool.and_eq_true_iff.mp h).1
  show 128 ≤ f
  omega
theorem y_aIP {j z : Int} (h : PM σ0 P S σ) (T : hTab y pc = some ((27, 0, 0, []), nx)) (f len : Nat) (e : shM f = some (Sum.inr (0, len))) (e1 : inA f = true) (e2 : scrR f = false) (h0 : 0 ≤ j) (h1 : j < len) (k : ∀ σ1, PM σ0 (rU P f j z) S σ1 → WP fb d y nx ls st σ1 Q) : WP fb d y pc ls (vI z :: vI j :: vR (some f) :: st) σ Q :=
  x_asI T ((h.2.2.1 f).trans ((h.1.1 f (by have := inA_hK e1; have := Nat.le_of_ble_eq_true (Bool.and_eq_true_iff.mp e1).1; omega) (Nat.le_of_ble_eq_true (Bool.and_eq_true_iff.mp e1).2)).trans e)) (inA_hK e1) h0 h1 (k _ (h.wPa e1 e2 h0))
theorem y_aIS {j z : Int} (h : PM σ0 P S σ) (T : hTab y pc = some ((27, 0, 0, []), nx)) (f len : Nat) (e : shM f = some (Sum.inr (0, len))) (e1 : inA f = true) (e2 : scrR f = true) (h0 : 0 ≤ j) (h1 : j < len) (k : ∀ σ1, PM σ0 P (rU S f j z) σ1 → WP fb d y nx ls st σ1 Q) : WP fb d y pc ls (vI z :: vI j :: vR (some f) :: st) σ Q :=
  x_asI T ((h.2.2.1 f).trans ((h.1.1 f (by have := Nat.le_of_ble_eq_true (Bool.and_eq_true_iff.mp e1).1; omega) (Nat.le_of_ble_eq_true (Bool.and_eq_true_iff.mp e1).2)).trans e)) (inA_hK e1) h0 h1 (k _ (h.wSa e1 e2 h0))
theorem y_aZP {j z : Int} (h : PM σ0 P S σ) (T : hTab y pc = some ((27, 2, 0, []), nx)) (hz : h01 z = true) (f len : Nat) (e : shM f = some (Sum.inr (2, len))) (e1 : inA f = true) (e2 : scrR f = false) (h0 : 0 ≤ j) (h1 : j < len) (k : ∀ σ1, PM σ0 (rU P f j z) S σ1 → WP fb d y nx ls st σ1 Q) : WP fb d y pc ls (vI z :: vI j :: vR (some f) :: st) σ Q :=
  x_asZ T ((h.2.2.1 f).trans ((h.1.1 f (by have := Nat.le_of_ble_eq_true (Bool.and_eq_true_iff.mp e1).1; omega) (Nat.le_of_ble_eq_true (Bool.and_eq_true_iff.mp e1).2)).trans e)) (inA_hK e1) h0 h1 hz (k _ (h.wPa e1 e2 h0))
theorem y_aZS {j z : Int} (h : PM σ0 P S σ) (T : hTab y pc = some ((27, 2, 0, []), nx)) (hz : h01 z = true) (f len : Nat) (e : shM f = some (Sum.inr (2, len))) (e1 : inA f = true) (e2 : scrR f = true) (h0 : 0 ≤ j) (h1 : j < len) (k : ∀ σ1, PM σ0 P (rU S f j z) σ1 → WP fb d y nx ls st σ1 Q) : WP fb d y pc ls (vI z :: vI j :: vR (some f) :: st) σ Q :=
  x_asZ T ((h.2.2.1 f).trans ((h.1.1 f (by have := Nat.le_of_ble_eq_true (Bool.and_eq_true_iff.mp e1).1; omega) (Nat.le_of_ble_eq_true (Bool.and_eq_true_iff.mp e1).2)).trans e)) (inA_hK e1) h0 h1 hz (k _ (h.wSa e1 e2 h0))
theorem y_aLP {j z : Int} (h : PM σ0 P S σ) (T : hTab y pc = some ((27, 3, 0, []), nx)) (f len : Nat) (e : shM f = some (Sum.inr (3, len))) (e1 : inA f = true) (e2 : scrR f = false) (h0 : 0 ≤ j) (h1 : j < len) (k : ∀ σ1, PM σ0 (rU P f j z) S σ1 → WP fb d y nx ls st σ1 Q) : WP fb d y pc ls (vL z :: vI j :: vR (some f) :: st) σ Q :=
  x_asL T ((h.2.2.1 f).trans ((h.1.1 f (by have := Nat.le_of_ble_eq_true (Bool.and_eq_true_iff.mp e1).1; omega) (Nat.le_of_ble_eq_true (Bool.and_eq_true_iff.mp e1).2)).trans e)) (inA_hK e1) h0 h1 (k _ (h.wPa e1 e2 h0))
theorem x_cut {C : Prop} [Decidable C] {J : Nat} {ls1 : hLs} {sk : Int → List AV} (k : ∀ z, z = (if C then (1 : Int) else 0) → WP fb d y J ls1 (sk z) σ Q) (h : (∀ z, z = (if C then (1 : Int) else 0) → WP fb d y J ls1 (sk z) σ Q) → WP fb d y pc ls st σ Q) : WP fb d y pc ls st σ Q := h k
theorem h01_of {z : Int} (h : z = 0 ∨ z = 1) : h01 z = true := by
  unfold h01
  rcases h with rfl | rfl <;> decide
/-- what a call of the reference answers: a number and nothing else; nothing, with rows anew; both -/
abbrev rP (z : Int) (σ : hM) : Option AV → hM → Prop := fun r σ' => r = some (vI z) ∧ σ' = σ
abbrev rPL (z : Int) (σ : hM) : Option AV → hM → Prop := fun r σ' => r = some (vL z) ∧ σ' = σ
abbrev rV (σ0 : hM) (P S : qR) : Option AV → hM → Prop := fun r σ' => r = none ∧ PM σ0 P S σ'
abbrev rI (z : Int) (σ0 : hM) (P S : qR) : Option AV → hM → Prop := fun r σ' => r = some (vI z) ∧ PM σ0 P S σ'
abbrev rL (z : Int) (σ0 : hM) (P S : qR) : Option AV → hM → Prop := fun r σ' => r = some (vL z) ∧ PM σ0 P S σ'
theorem rng_of {z lo hi : Int} (h : lo ≤ z ∧ z ≤ hi) : (lo ≤ z) ∧ (z ≤ hi) := h
end PMR
/-- bounds of the rows' values: T grows with each message, U with each command -/
def ivA : List (Int × Int × Nat) := [(0, 255, 0), (0, 255, 0), (0, 255, 0), (0, 255, 0), (0, 255, 0), (0, 512, 0), (0, 512, 0), (0, 1, 0),
  (0, 63, 0), (0, 0, 1), (0, 0, 1), (-2147483648, 2147483647, 0), (0, 3, 0), (0, 3, 0), (0, 3, 0), (0, 600, 0),
  (0, 255, 0), (0, 12, 0), (0, 255, 0), (0, 8192, 0), (0, 64, 0), (0, 0, 1), (0, 1, 0), (0, 0, 5),
  (0, 0, 4), (0, 0, 2), (0, 3, 0), (-1, 255, 0), (0, 1, 0), (-9223372036854775808, 9223372036854775807, 0), (0, 64, 0), (64, 300, 0),
  (0, 255, 0), (0, 255, 0), (0, 255, 0), (0, 420, 0), (0, 255, 0), (0, 255, 0), (0, 1, 0), (0, 1, 0),
  (0, 3, 0), (0, 7, 0), (0, 47, 0), (0, 255, 0), (0, 60, 0), (-1, 63, 0), (0, 255, 0), (0, 1000, 0),
  (0, 1, 0), (0, 2, 0), (0, 47, 0), (0, 0, 3), (0, 8, 0), (0, 2, 0), (0, 0, 2), (0, 6, 0),
  (0, 2, 0), (0, 47, 0), (0, 0, 2), (0, 255, 0), (0, 1, 0), (0, 255, 0), (0, 100, 0), (0, 100, 0),
  (0, 255, 0), (0, 200, 0), (0, 200, 0), (0, 255, 0), (0, 2, 0), (0, 47, 0), (0, 0, 2), (0, 255, 0),
  (-1, 63, 0), (0, 255, 0), (0, 2, 0), (0, 47, 0), (0, 0, 2), (0, 255, 0), (0, 1, 0), (0, 255, 0),
  (0, 20, 0), (0, 255, 0), (0, 255, 0), (0, 255, 0), (0, 100, 0), (0, 3, 0), (0, 700, 0), (0, 1, 0),
  (0, 255, 0), (0, 600, 0)]
def ivB : List (Int × Int × Nat) := [(0, 0, 0), (0, 0, 0), (0, 0, 0), (0, 0, 0), (0, 512, 0), (0, 0, 0), (0, 512, 0), (0, 20, 0),
  (0, 513, 0), (0, 1, 0), (0, 0, 0), (0, 0, 0), (0, 600, 0), (0, 0, 0), (0, 0, 0), (0, 0, 0),
  (0, 0, 0), (0, 0, 0), (0, 0, 0), (0, 0, 0), (0, 0, 0), (0, 0, 0), (0, 0, 0), (0, 0, 0),
  (0, 0, 0), (0, 0, 0), (0, 0, 0), (0, 0, 0), (0, 0, 0), (0, 0, 0), (0, 0, 0), (0, 0, 0),
  (0, 0, 0), (0, 0, 0), (0, 0, 0), (0, 0, 0), (0, 0, 0), (0, 0, 0), (0, 0, 0), (0, 200, 0),
  (0, 0, 0), (0, 1000, 0), (0, 0, 1), (0, 0, 0), (0, 0, 0), (-9223372036854775808, 9223372036854775807, 0), (0, 0, 0), (0, 400, 0),
  (0, 0, 0), (0, 512, 0), (0, 0, 0), (0, 0, 0), (0, 0, 0), (0, 0, 0), (0, 0, 0), (0, 0, 0),
  (0, 0, 0), (0, 0, 0), (0, 0, 0), (0, 0, 0), (0, 0, 0), (0, 0, 0), (0, 0, 0), (0, 0, 0),
  (0, 0, 0), (0, 0, 0), (0, 0, 0), (0, 0, 0), (0, 0, 0), (0, 0, 0), (0, 0, 0), (0, 0, 0),
  (0, 0, 0), (0, 0, 0), (0, 100, 0), (0, 0, 0), (0, 0, 0), (0, 60, 0), (0, 0, 0), (0, 200, 0),
  (-1, 2, 0), (0, 0, 0), (0, 0, 0), (0, 110, 0), (0, 0, 0), (0, 60, 0), (0, 0, 0), (0, 0, 0),
  (0, 0, 0), (0, 0, 0), (0, 0, 0), (0, 64, 0), (-1, 143, 0), (0, 0, 0), (0, 0, 0), (0, 0, 0),
  (0, 0, 0), (0, 0, 0), (0, 0, 0), (0, 6, 0), (0, 0, 0), (0, 0, 0), (0, 0, 0), (0, 100, 0),
  (0, 0, 0), (0, 200, 0), (0, 0, 0), (0, 0, 0), (0, 0, 0), (0, 0, 0), (0, 0, 0), (0, 0, 0),
  (0, 0, 0), (0, 12, 0), (0, 200, 0)]
def ivH (T U k h : Int) : Nat → Int
  | 1 => T
  | 2 => T + 200
  | 3 => U
  | 4 => if k < 192 then 63 else 143
  | 5 => if k % 96 < 48 then 47 else 4294967295
  | _ => h
def ivP (T U : Int) (f : Nat) (k : Int) : Int × Int := ((ivA.getD (f - 2282) (0, 0, 0)).1, ivH T U k (ivA.getD (f - 2282) (0, 0, 0)).2.1 (ivA.getD (f - 2282) (0, 0, 0)).2.2)
def ivN (T U : Int) (j : Nat) : Int × Int := ((ivB.getD j (0, 0, 0)).1, ivH T U 0 (ivB.getD j (0, 0, 0)).2.1 (ivB.getD j (0, 0, 0)).2.2)
def IV (b : Bool) (T U : Int) (W : qR) : Prop := (∀ (f ty len : Nat) (k : Int), shM f = some (Sum.inr (ty, len)) → inA f = true → scrR f = b → 0 ≤ k → k < len → (ivP T U f k).1 ≤ W f k ∧ W f k ≤ (ivP T U f k).2) ∧ ∀ j : Nat, scrK j = b → j < 115 → (ivN T U j).1 ≤ W 2281 (j : Int) ∧ W 2281 (j : Int) ≤ (ivN T U j).2
section IVR
variable {b : Bool} {T U T1 U1 : Int} {W : qR}
theorem IV.a (h : IV b T U W) (f ty len : Nat) {k : Int} (e : shM f = some (Sum.inr (ty, len))) (e1 : inA f = true) (e2 : scrR f = b) (h0 : 0 ≤ k) (h1 : k < len) : (ivP T U f k).1 ≤ W f k ∧ W f k ≤ (ivP T U f k).2 := h.1 f ty len k e e1 e2 h0 h1
theorem IV.n (h : IV b T U W) (j : Nat) (jz : Int) (e : (j : Int) = jz) (e2 : scrK j = b) (h1 : j < 115) : (ivN T U j).1 ≤ W 2281 jz ∧ W 2281 jz ≤ (ivN T U j).2 := by
  rw [← e]
  exact h.2 j e2 h1
theorem IV.uA (h : IV b T U W) (f : Nat) {k v : Int} (e : Nat.beq f 2281 = false) (hv : (ivP T U f k).1 ≤ v ∧ v ≤ (ivP T U f k).2) : IV b T U (rU W f k v) := by
  refine ⟨fun g ty len i a1 a2 a3 a4 a5 => ?_, fun j a1 a2 => ?_⟩
  · by_cases c : g = f ∧ i = k
    · obtain ⟨rfl, rfl⟩ := c
      rw [rU_s]
      exact hv
    · rw [show rU W f k v g i = W g i from if_neg c]
      exact h.1 g ty len i a1 a2 a3 a4 a5
  · rw [rU_f (fun c => by rw [← c] at e; exact absurd e (by decide))]
    exact h.2 j a1 a2
theorem IV.uN (h : IV b T U W) (j : Nat) (jz : Int) {v : Int} (e : (j : Int) = jz) (hv : (ivN T U j).1 ≤ v ∧ v ≤ (ivN T U j).2) : IV b T U (rU W 2281 jz v) := by
  refine ⟨fun g ty len i a1 a2 a3 a4 a5 => ?_, fun i a1 a2 => ?_⟩
  · rw [rU_f (fun c => by rw [c] at a2; exact absurd a2 (by decide))]
    exact h.1 g ty len i a1 a2 a3 a4 a5
  · by_cases c : i = j
    · subst c
      rw [e, rU_s]
      exact hv
    · rw [rU_k (by omega)]
      exact h.2 i a1 a2
/-- a list laid down -/
theorem IV.wA (h : IV b T U W) (f : Nat) {o : Int} {l : List Int} (e : Nat.beq f 2281 = false) (hv : ∀ k, o ≤ k → k < o + l.length → (ivP T U f k).1 ≤ lg l (k - o) ∧ lg l (k - o) ≤ (ivP T U f k).2) : IV b T U (rW W f o l) := by
  refine ⟨fun g ty len i a1 a2 a3 a4 a5 => ?_, fun j a1 a2 => ?_⟩
  · by_cases c : g = f ∧ o ≤ i ∧ i < o + l.length
    · obtain ⟨rfl, c1, c2⟩ := c
      rw [rW_i ⟨c1, c2⟩]
      exact hv i c1 c2
    · rw [show rW W f o l g i = W g i from if_neg c]
      exact h.1 g ty len i a1 a2 a3 a4 a5
  · rw [rW_f (fun c => by rw [← c] at e; exact absurd e (by decide))]
    exact h.2 j a1 a2
theorem ivH_mono {k h : Int} (h1 : T ≤ T1) (h2 : U ≤ U1) : ∀ c : Nat, ivH T U k h c ≤ ivH T1 U1 k h c
  | 0 => Int.le_refl _
  | 1 => h1
  | 2 => by show T + 200 ≤ T1 + 200; omega
  | 3 => h2
  | 4 => Int.le_refl _
  | 5 => Int.le_refl _
  | _ + 6 => Int.le_refl _
theorem ivP_mono {f : Nat} {k : Int} (h1 : T ≤ T1) (h2 : U ≤ U1) : (ivP T U f k).2 ≤ (ivP T1 U1 f k).2 := by
  unfold ivP
  dsimp only
  exact ivH_mono h1 h2 _
theorem ivN_mono {j : Nat} (h1 : T ≤ T1) (h2 : U ≤ U1) : (ivN T U j).2 ≤ (ivN T1 U1 j).2 := ivH_mono (k := 0) (h := (ivB.getD j (0, 0, 0)).2.1) h1 h2 (ivB.getD j (0, 0, 0)).2.2
theorem IV.mono (h : IV b T U W) (h1 : T ≤ T1) (h2 : U ≤ U1) : IV b T1 U1 W :=
  ⟨fun f ty len k a1 a2 a3 a4 a5 => ⟨(h.1 f ty len k a1 a2 a3 a4 a5).1, Int.le_trans (h.1 f ty len k a1 a2 a3 a4 a5).2 (ivP_mono h1 h2)⟩, fun j a1 a2 => ⟨(h.2 j a1 a2).1, Int.le_trans (h.2 j a1 a2).2 (ivN_mono h1 h2)⟩⟩
end IVR
