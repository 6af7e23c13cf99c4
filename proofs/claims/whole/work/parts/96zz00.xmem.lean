/-! The class's objects: where they stand; its memory as two functions, W (numbers) and R (references that change). Rules that read and write them. -/
abbrev rR : Type := Nat → Int → Option Nat
def tXk : List hSh := [some (Sum.inl 0), some (Sum.inl 1), some (Sum.inl 2), some (Sum.inr (1, 200)), some (Sum.inl 2), some (Sum.inr (1, 1000)), some (Sum.inl 2), some (Sum.inr (1, 300)), some (Sum.inl 2), some (Sum.inr (1, 60)), some (Sum.inl 2), some (Sum.inr (1, 300)), some (Sum.inr (12, 40)), some (Sum.inr (17, 3)), some (Sum.inr (16, 8)), some (Sum.inr (13, 8)), some (Sum.inr (15, 64)), some (Sum.inl 2), some (Sum.inr (1, 161)), some (Sum.inr (0, 100)), some (Sum.inr (0, 100))]
def tXp : List hSh := [some (Sum.inl 6), some (Sum.inl 2), some (Sum.inr (1, 60)), some (Sum.inl 2), some (Sum.inr (1, 1000)), some (Sum.inr (12, 26)), some (Sum.inr (15, 8))]
def tXg (r : Nat) : hSh := if r < 66 then (if r = 0 then some (Sum.inl 3) else if r = 1 then some (Sum.inr (14, 8)) else if (r - 2) % 8 = 0 then some (Sum.inl 4) else if (r - 2) % 8 = 1 then some (Sum.inr (15, 6)) else some (Sum.inl 5)) else if r < 73 then tXp.getD (r - 66) none else if r % 2 = 1 then some (Sum.inl 2) else some (Sum.inr (1, 20))
def tXv : List hSh := [some (Sum.inl 7), some (Sum.inr (18, 64)), some (Sum.inr (19, 96)), some (Sum.inr (0, 2)), some (Sum.inl 2), some (Sum.inr (1, 100))]
def tXs (r : Nat) : hSh := if r < 6 then tXv.getD r none else if r < 198 then (if r % 3 = 0 then some (Sum.inl 8) else if r % 3 = 1 then some (Sum.inl 2) else some (Sum.inr (1, 12))) else some (Sum.inl 9)
def tXc1 : List hSh := [some (Sum.inl 14), some (Sum.inl 2), some (Sum.inr (1, 101)), some (Sum.inl 5), some (Sum.inl 5), some (Sum.inr (15, 6)), some (Sum.inl 5), some (Sum.inl 5), some (Sum.inl 5), some (Sum.inl 5), some (Sum.inl 5), some (Sum.inl 5), some (Sum.inl 15), some (Sum.inr (26, 12)), some (Sum.inl 2), some (Sum.inr (1, 100))]
def tXc2 : List hSh := [some (Sum.inl 16), some (Sum.inl 2), some (Sum.inr (1, 100)), some (Sum.inl 2), some (Sum.inr (1, 600)), some (Sum.inr (0, 100)), some (Sum.inr (0, 100))]
def tXc3 : List hSh := [some (Sum.inl 2), some (Sum.inr (1, 100)), some (Sum.inl 2), some (Sum.inr (1, 400)), some (Sum.inl 2), some (Sum.inr (1, 300))]
def tXc (r : Nat) : hSh := if r < 16 then tXc1.getD r none else if r < 100 then tXc2.getD ((r - 16) % 7) none else tXc3.getD (r - 100) none
/-- what stands at an address of the class's -/
def tX (a : Nat) : hSh := if a < 128 then none else if a < 149 then tXk.getD (a - 128) none else if a < 229 then (if (a - 149) % 2 = 0 then some (Sum.inl 2) else some (Sum.inr (1, 300))) else if a < 1229 then tXg ((a - 229) % 125) else if a < 1293 then some (Sum.inl 5) else if a < 2175 then tXs ((a - 1293) % 294) else if a < 2281 then tXc (a - 2175) else if a < 2372 then none else some (Sum.inr (1, 600))
/-- a field's place in its object's row; an array's places are its own -/
def kX (a k : Nat) : Int := match tX a with
  | some (Sum.inl c) => ((2000 + 32 * c + k : Nat) : Int)
  | _ => (k : Int)
/-- which references of an object, an array change -/
def mutO (c k : Nat) : Bool := [(8, 1), (8, 2), (8, 11), (9, 3), (5, 4), (6, 9), (7, 9), (7, 10)].elem (c, k)
def mutA (a ty len : Nat) : Bool := Nat.beq ty 18 || Nat.beq ty 14 || (Nat.beq ty 15 && (Nat.beq len 8 || (Nat.beq len 6 && !(Nat.beq a 2180))))
def mutR (a k : Nat) : Bool := match tX a with
  | some (Sum.inl c) => mutO c k
  | some (Sum.inr (ty, len)) => mutA a ty len
  | none => false
/-- those that don't -/
def rO (c a k : Nat) : Option Nat := match c, k with
  | 0, 0 => some 129 | 0, 1 => some 2175 | 0, 2 => some 2187 | 0, 3 => some 2275 | 0, 4 => some 2277 | 0, 5 => some 2279
  | 1, 0 => some 130 | 1, 1 => some 132 | 1, 2 => some 134 | 1, 7 => some 136 | 1, 8 => some 138 | 1, 9 => some 140 | 1, 10 => some 141 | 1, 11 => some 142 | 1, 12 => some 143 | 1, 13 => some 144 | 1, 14 => some 145 | 1, 15 => some 147 | 1, 16 => some 148
  | 2, 0 => some (a + 1) | 3, 0 => some (a + 1) | 4, 0 => some (a + 1) | 8, 0 => some (a + 1)
  | 6, 1 => some (a + 1) | 6, 2 => some (a + 3) | 6, 3 => some (a + 5) | 6, 4 => some (a + 6)
  | 7, 0 => some 129 | 7, 2 => some (a + 1) | 7, 3 => some (a + 2) | 7, 4 => some (a + 3) | 7, 5 => some (a + 4)
  | 14, 0 => some 129 | 14, 1 => some 2176 | 14, 2 => some 2178 | 14, 3 => some 2179 | 14, 4 => some 2180
  | 15, 0 => some 2188 | 15, 1 => some 2189
  | 16, 0 => some (a + 1) | 16, 1 => some (a + 3) | 16, 2 => some (a + 5) | 16, 3 => some (a + 6)
  | _, _ => none
def rA1 (a k : Nat) : Option Nat := if a = 140 then some (149 + 2 * k) else if a = 141 then some (1293 + 294 * k) else if a = 142 then some (295 + 125 * k) else if a = 143 then some (229 + 125 * k) else if a = 144 then some (1229 + k) else if a = 2180 then some (2181 + k) else if a = 2188 then some (2191 + 7 * k) else none
def rAr (a ty len k : Nat) : Option Nat := if k < len then (if ty = 19 then some (a + 196 + k) else if ty = 12 ∧ a ≠ 140 then some (a + 2 + 2 * k) else rA1 a k) else none
def rX (a k : Nat) : Option Nat := match tX a with
  | some (Sum.inl c) => rO c a k
  | some (Sum.inr (ty, len)) => rAr a ty len k
  | none => none
def inX (a : Nat) : Bool := (Nat.ble 128 a && Nat.ble a 2280) || Nat.ble 2372 a
/-- Strings and rows of the class itself, which never change -/
def GX (σ : hM) : Prop := (∀ j, j < 58 → mT σ (4 + 2 * j) = some (Sum.inl 10) ∧ mR σ (4 + 2 * j) 0 = some (5 + 2 * j) ∧ mI σ (4 + 2 * j) 1 = 0 ∧ mT σ (5 + 2 * j) = some (Sum.inr (1, hTl j)) ∧ ∀ k, k < hTl j → mI σ (5 + 2 * j) k = (hTb.getD j []).getD k 0) ∧ (mT σ 2 = some (Sum.inr (0, 4)) ∧ mT σ 3 = some (Sum.inr (0, 4))) ∧ ∀ k, k < 4 → mI σ 2 k = hUN.getD k 0 ∧ mI σ 3 k = hND.getD k 0
/-- the memory is σ0's, but for the class's objects, which are W and R; W 0 0 is the next free address -/
def PX (σ0 : hM) (W : qR) (R : rR) (σ : hM) : Prop := (2372 ≤ σ.1 ∧ W 0 0 = (σ.1 : Int) ∧ W 0 1 = (σ.2.1 : Int)) ∧ (∀ a, inX a = true → a < σ.1 → mT σ a = tX a) ∧ (∀ a k, inX a = true → mI σ a k = W a (kX a k)) ∧ (∀ a k, inX a = true → a < 2281 → mR σ a k = bif mutR a k then R a (kX a k) else rX a k) ∧ GX σ0 ∧ ∀ b, inX b = false → mT σ b = mT σ0 b ∧ (∀ k, mI σ b k = mI σ0 b k) ∧ ∀ k, mR σ b k = mR σ0 b k
/-- one reference anew -/
def oU (R : rR) (f : Nat) (k : Int) (v : Option Nat) : rR := fun g j => if g = f ∧ j = k then v else R g j
section XMEM
variable {fb : Bool} {d y pc nx : Nat} {ls : hLs} {st : List AV} {Q : Option AV → hM → Prop} {σ0 σ : hM} {W : qR} {R : rR} {a b c f g j ty len : Nat} {k key v z i : Int} {r : Option Nat}
theorem rU_j {h : Int} (e : h ≠ k) : rU W f k v g h = W g h := if_neg (fun c => e c.2)
theorem oU_s : oU R f k r f k = r := if_pos ⟨rfl, rfl⟩
theorem oU_f {h : Int} (e : g ≠ f) : oU R f k r g h = R g h := if_neg (fun c => e c.1)
theorem oU_j {h : Int} (e : h ≠ k) : oU R f k r g h = R g h := if_neg (fun c => e c.2)
theorem tX_in {sh : Nat ⊕ (Nat × Nat)} (h : tX a = some sh) : inX a = true := by
  unfold tX at h
  unfold inX
  by_cases h1 : a < 128
  · rw [if_pos h1] at h
    cases h
  · by_cases h2 : a < 2281
    · rw [Nat.ble_eq_true_of_le (show 128 ≤ a by omega), Nat.ble_eq_true_of_le (show a ≤ 2280 by omega)]
      rfl
    · by_cases h3 : a < 2372
      · rw [if_neg h1, if_neg (by omega), if_neg (by omega), if_neg (by omega), if_neg (by omega), if_neg (by omega), if_neg h2, if_pos h3] at h
        cases h
      · rw [Nat.ble_eq_true_of_le (show 2372 ≤ a by omega), Bool.or_true]
theorem tX_o (h : tX a = some (Sum.inl c)) : 128 ≤ a ∧ a < 2281 := by
  have hi := tX_in h
  by_cases h2 : a < 2281
  · unfold inX at hi
    by_cases h1 : 128 ≤ a
    · exact ⟨h1, h2⟩
    · unfold tX at h
      rw [if_pos (by omega)] at h
      cases h
  · exfalso
    unfold tX at h
    rw [if_neg (by omega), if_neg (by omega), if_neg (by omega), if_neg (by omega), if_neg (by omega), if_neg (by omega), if_neg h2] at h
    split at h <;> cases h
/-- an array of the class's that is there from the start on -/
def isA (a ty len : Nat) : Prop := tX a = some (Sum.inr (ty, len)) ∧ a < 2281
theorem isA_ge (h : isA a ty len) : 128 ≤ a := by
  apply Decidable.byContradiction
  intro h1
  have h := h.1
  unfold tX at h
  rw [if_pos (by omega)] at h
  cases h
theorem PX.o (hP : PX σ0 W R σ) (h : tX a = some (Sum.inl c)) : mT σ a = some (Sum.inl c) := (hP.2.1 a (tX_in h) (by have := (tX_o h).2; have := hP.1.1; omega)).trans h
theorem PX.ta (hP : PX σ0 W R σ) (h : isA a ty len) : mT σ a = some (Sum.inr (ty, len)) := (hP.2.1 a (tX_in h.1) (by have := h.2; have := hP.1.1; omega)).trans h.1
theorem kX_o (h : tX a = some (Sum.inl c)) : kX a j = ((2000 + 32 * c + j : Nat) : Int) := by
  unfold kX
  rw [h]
theorem kX_a (h : tX a = some (Sum.inr (ty, len))) : kX a j = (j : Int) := by
  unfold kX
  rw [h]
theorem PX.gi (hP : PX σ0 W R σ) (h : tX a = some (Sum.inl c)) (hk : ((2000 + 32 * c + j : Nat) : Int) = key) : mI σ a j = W a key := by
  rw [hP.2.2.1 a j (tX_in h), kX_o h, hk]
theorem PX.ai (hP : PX σ0 W R σ) (h : isA a ty len) (h0 : 0 ≤ i) : mI σ a i.toNat = W a i := by
  rw [hP.2.2.1 a i.toNat (tX_in h.1), kX_a h.1, Int.toNat_of_nonneg h0]
/-- a reference that never changes -/
theorem PX.rc (hP : PX σ0 W R σ) (h : tX a = some (Sum.inl c)) (hm : mutO c j = false) (e : rO c a j = r) : mR σ a j = r := by
  rw [hP.2.2.2.1 a j (tX_in h) (tX_o h).2, show mutR a j = false by unfold mutR; rw [h]; exact hm]
  show rX a j = r
  unfold rX
  rw [h]
  exact e
theorem PX.rm (hP : PX σ0 W R σ) (h : tX a = some (Sum.inl c)) (hm : mutO c j = true) (hk : ((2000 + 32 * c + j : Nat) : Int) = key) : mR σ a j = R a key := by
  rw [hP.2.2.2.1 a j (tX_in h) (tX_o h).2, show mutR a j = true by unfold mutR; rw [h]; exact hm, kX_o h, hk]
  rfl
theorem PX.arc (hP : PX σ0 W R σ) (h : isA a ty len) (hm : mutA a ty len = false) (e : rAr a ty len i.toNat = r) : mR σ a i.toNat = r := by
  rw [hP.2.2.2.1 a _ (tX_in h.1) h.2, show mutR a i.toNat = false by unfold mutR; rw [h.1]; exact hm]
  show rX a _ = r
  unfold rX
  rw [h.1]
  exact e
theorem PX.arm (hP : PX σ0 W R σ) (h : isA a ty len) (hm : mutA a ty len = true) (h0 : 0 ≤ i) : mR σ a i.toNat = R a i := by
  rw [hP.2.2.2.1 a _ (tX_in h.1) h.2, show mutR a i.toNat = true by unfold mutR; rw [h.1]; exact hm, kX_a h.1, Int.toNat_of_nonneg h0]
  rfl
theorem PX.wI (hP : PX σ0 W R σ) (hx : inX a = true) (hk : ∀ i, kX a i = key ↔ i = j) (h0 : a ≠ 0) : PX σ0 (rU W a key z) R (sI σ a j z) := by
  obtain ⟨⟨h1, h2, h6⟩, h3, h4, h5, hg, h7⟩ := hP
  refine ⟨⟨h1, (rU_f (Ne.symm h0)).trans h2, (rU_f (Ne.symm h0)).trans h6⟩, h3, fun b i hb => ?_, h5, hg, fun b hb => ⟨(h7 b hb).1, fun i => ?_, (h7 b hb).2.2⟩⟩
  · rw [mI_sI]
    unfold rU
    by_cases e : b = a
    · subst e
      by_cases e2 : i = j
      · rw [if_pos ⟨rfl, e2⟩, if_pos ⟨rfl, (hk i).mpr e2⟩]
      · rw [if_neg (fun c => e2 c.2), if_neg (fun c => e2 ((hk i).mp c.2))]
        exact h4 b i hb
    · rw [if_neg (fun c => e c.1), if_neg (fun c => e c.1)]
      exact h4 b i hb
  · rw [mI_sI, if_neg (fun c => by rw [c.1, hx] at hb; cases hb)]
    exact (h7 b hb).2.1 i
theorem PX.wR (hP : PX σ0 W R σ) (hx : inX a = true) (hk : ∀ i, kX a i = key ↔ i = j) (hm : mutR a j = true) : PX σ0 W (oU R a key r) (sR σ a j r) := by
  obtain ⟨h1, h3, h4, h5, hg, h7⟩ := hP
  refine ⟨h1, h3, h4, fun b i hb hl => ?_, hg, fun b hb => ⟨(h7 b hb).1, (h7 b hb).2.1, fun i => ?_⟩⟩
  · rw [mR_sR]
    unfold oU
    by_cases e : b = a
    · subst e
      by_cases e2 : i = j
      · subst e2
        rw [if_pos ⟨rfl, rfl⟩, if_pos ⟨rfl, (hk i).mpr rfl⟩, hm]
        rfl
      · rw [if_neg (fun c => e2 c.2), if_neg (fun c => e2 ((hk i).mp c.2))]
        exact h5 b i hb hl
    · rw [if_neg (fun c => e c.1), if_neg (fun c => e c.1)]
      exact h5 b i hb hl
  · rw [mR_sR, if_neg (fun c => by rw [c.1, hx] at hb; cases hb)]
    exact (h7 b hb).2.2 i
theorem kX_ok (h : tX a = some (Sum.inl c)) (hk : ((2000 + 32 * c + j : Nat) : Int) = key) (i : Nat) : kX a i = key ↔ i = j := by
  rw [kX_o h, ← hk]
  omega
theorem kX_ak (h : tX a = some (Sum.inr (ty, len))) (h0 : 0 ≤ key) (i : Nat) : kX a i = key ↔ i = key.toNat := by
  rw [kX_a h]
  omega
theorem PX.putI (hP : PX σ0 W R σ) (h : tX a = some (Sum.inl c)) (hk : ((2000 + 32 * c + j : Nat) : Int) = key) : PX σ0 (rU W a key z) R (sI σ a j z) := hP.wI (tX_in h) (kX_ok h hk) (by have := (tX_o h).1; omega)
theorem PX.putR (hP : PX σ0 W R σ) (h : tX a = some (Sum.inl c)) (hk : ((2000 + 32 * c + j : Nat) : Int) = key) (hm : mutO c j = true) : PX σ0 W (oU R a key r) (sR σ a j r) := hP.wR (tX_in h) (kX_ok h hk) (by unfold mutR; rw [h]; exact hm)
theorem PX.asI (hP : PX σ0 W R σ) (h : isA a ty len) (h0 : 0 ≤ i) : PX σ0 (rU W a i z) R (sI σ a i.toNat z) := hP.wI (tX_in h.1) (kX_ak h.1 h0) (by have := isA_ge h; omega)
theorem PX.asR (hP : PX σ0 W R σ) (h : isA a ty len) (h0 : 0 ≤ i) (hm : mutA a ty len = true) : PX σ0 W (oU R a i r) (sR σ a i.toNat r) := hP.wR (tX_in h.1) (kX_ak h.1 h0) (by unfold mutR; rw [h.1]; exact hm)
theorem z_pI (hP : PX σ0 W R σ) (T : hTab y pc = some ((25, c, Int.ofNat j, []), nx)) (F : (hFd c j).2.2.1 = 0) (ho : tX a = some (Sum.inl c)) (hk : ((2000 + 32 * c + j : Nat) : Int) = key) (k : ∀ σ, PX σ0 (rU W a key z) R σ → WP fb d y nx ls st σ Q) : WP fb d y pc ls (vI z :: vR (some a) :: st) σ Q := x_pI T F (hP.o ho) (tX_o ho).1 (k _ (hP.putI ho hk))
theorem z_pZ (hP : PX σ0 W R σ) (T : hTab y pc = some ((25, c, Int.ofNat j, []), nx)) (F : (hFd c j).2.2.1 = 2) (hz : h01 z = true) (ho : tX a = some (Sum.inl c)) (hk : ((2000 + 32 * c + j : Nat) : Int) = key) (k : ∀ σ, PX σ0 (rU W a key z) R σ → WP fb d y nx ls st σ Q) : WP fb d y pc ls (vI z :: vR (some a) :: st) σ Q := x_pZ T F (hP.o ho) (tX_o ho).1 hz (k _ (hP.putI ho hk))
theorem z_pL (hP : PX σ0 W R σ) (T : hTab y pc = some ((25, c, Int.ofNat j, []), nx)) (F : (hFd c j).2.2.1 = 3) (ho : tX a = some (Sum.inl c)) (hk : ((2000 + 32 * c + j : Nat) : Int) = key) (k : ∀ σ, PX σ0 (rU W a key z) R σ → WP fb d y nx ls st σ Q) : WP fb d y pc ls (vL z :: vR (some a) :: st) σ Q := x_pL T F (hP.o ho) (tX_o ho).1 (k _ (hP.putI ho hk))
theorem z_pR (hP : PX σ0 W R σ) (T : hTab y pc = some ((25, c, Int.ofNat j, []), nx)) (F : (hFd c j).2.2.1 = 4) (hm : mutO c j = true) (ho : tX a = some (Sum.inl c)) (hk : ((2000 + 32 * c + j : Nat) : Int) = key) (k : ∀ σ, PX σ0 W (oU R a key r) σ → WP fb d y nx ls st σ Q) : WP fb d y pc ls (vR r :: vR (some a) :: st) σ Q := x_pR T F (hP.o ho) (tX_o ho).1 (k _ (hP.putR ho hk hm))
theorem z_aI (hP : PX σ0 W R σ) (T : hTab y pc = some ((27, 0, 0, []), nx)) (hA : isA a 0 len) (h0 : 0 ≤ i) (h1 : i < len) (k : ∀ σ, PX σ0 (rU W a i z) R σ → WP fb d y nx ls st σ Q) : WP fb d y pc ls (vI z :: vI i :: vR (some a) :: st) σ Q := x_asI T (hP.ta hA) (isA_ge hA) h0 h1 (k _ (hP.asI hA h0))
theorem z_aB (hP : PX σ0 W R σ) (T : hTab y pc = some ((27, 1, 0, []), nx)) (hw : sb8 z = v) (hA : isA a 1 len) (h0 : 0 ≤ i) (h1 : i < len) (k : ∀ σ, PX σ0 (rU W a i v) R σ → WP fb d y nx ls st σ Q) : WP fb d y pc ls (vI z :: vI i :: vR (some a) :: st) σ Q := x_asB T (hP.ta hA) (isA_ge hA) h0 h1 hw (k _ (hP.asI hA h0))
theorem z_aR (hP : PX σ0 W R σ) (T : hTab y pc = some ((27, 10, 0, []), nx)) (ht : 10 ≤ ty) (hz : ∀ b, r = some b → tX b = some (Sum.inl (ty - 10))) (hm : mutA a ty len = true) (hA : isA a ty len) (h0 : 0 ≤ i) (h1 : i < len) (k : ∀ σ, PX σ0 W (oU R a i r) σ → WP fb d y nx ls st σ Q) : WP fb d y pc ls (vR r :: vI i :: vR (some a) :: st) σ Q := x_asR T (hP.ta hA) ht (fun b e => hP.o (hz b e)) (isA_ge hA) h0 h1 (k _ (hP.asR hA h0 hm))
end XMEM
/-! families -/
theorem tX_lat : ∀ i < 40, tX (149 + 2 * i) = some (Sum.inl 2) := by decide +kernel
theorem tX_grp : ∀ g < 8, tX (229 + 125 * g) = some (Sum.inl 3) := by decide +kernel
theorem tX_pt : ∀ g < 8, ∀ k < 8, tX (231 + 125 * g + 8 * k) = some (Sum.inl 4) := by decide +kernel
theorem tX_mem0 : ∀ g < 8, ∀ m < 48, tX (233 + 125 * g + 8 * (m / 6) + m % 6) = some (Sum.inl 5) := by decide +kernel
theorem tX_mem {g k j : Nat} (hg : g < 8) (hk : k < 8) (hj : j < 6) : tX (233 + 125 * g + 8 * k + j) = some (Sum.inl 5) := by
  have h := tX_mem0 g hg (6 * k + j) (by omega)
  rw [show (6 * k + j) / 6 = k by omega, show (6 * k + j) % 6 = j by omega] at h
  exact h
theorem tX_prc : ∀ p < 8, tX (295 + 125 * p) = some (Sum.inl 6) := by decide +kernel
theorem tX_var : ∀ p < 8, ∀ x < 26, tX (302 + 125 * p + 2 * x) = some (Sum.inl 2) := by decide +kernel
theorem tX_opn : ∀ o < 64, tX (1229 + o) = some (Sum.inl 5) := by decide +kernel
theorem tX_srv : ∀ s < 3, tX (1293 + 294 * s) = some (Sum.inl 7) := by decide +kernel
theorem tX_nd : ∀ s < 3, ∀ i < 64, tX (1299 + 294 * s + 3 * i) = some (Sum.inl 8) := by decide +kernel
theorem tX_fid : ∀ s < 3, ∀ j < 96, tX (1491 + 294 * s + j) = some (Sum.inl 9) := by decide +kernel
theorem tX_cmd : ∀ i < 12, tX (2191 + 7 * i) = some (Sum.inl 16) := by decide +kernel
/-- each Bytes has its row behind it -/
theorem tX_row : ∀ a < 2281, tX a = some (Sum.inl 2) → ∃ n, tX (a + 1) = some (Sum.inr (1, n)) ∧ n ≤ 1000 ∧ a + 1 < 2281 := by
  intro a ha h
  have hk : ∀ a < 2281, (match tX a with | some (Sum.inl 2) => (match tX (a + 1) with | some (Sum.inr (1, n)) => Nat.ble n 1000 && Nat.ble (a + 1) 2280 | _ => false) | _ => true) = true := by decide +kernel
  have h2 := hk a ha
  rw [h] at h2
  split at h2
  · split at h2
    · rename_i n e
      rw [Bool.and_eq_true] at h2
      exact ⟨n, e, Nat.le_of_ble_eq_true h2.1, Nat.lt_succ_of_le (Nat.le_of_ble_eq_true h2.2)⟩
    · cases h2
  · rename_i e
    exact absurd rfl e
