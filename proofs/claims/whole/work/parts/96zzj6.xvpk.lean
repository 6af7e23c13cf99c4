/-! A command's word and its number. -/
def pkU : List Int → Int → Int
  | [], v => v
  | x :: r, v => pkU r (v * 256 + x)
section XVPK
variable {wd w l r : List Int} {v x c : Int}
theorem byt_tl {y : Int} (h : byt (y :: l)) : byt l := fun k k0 => by
  have := h (k + 1) (by omega)
  rw [show lg (y :: l) (k + 1) = lg l k by unfold lg; rw [show (k + 1).toNat = k.toNat + 1 by omega]; rfl] at this
  exact this
theorem pkU_inj : ∀ (a b : List Int) (v x : Int), a.length = b.length → byt a → byt b → pkU a v = pkU b x → v = x ∧ a = b
  | [], [], v, x, _, _, _, h => ⟨h, rfl⟩
  | [], _ :: _, _, _, h, _, _, _ => by cases h
  | _ :: _, [], _, _, h, _, _, _ => by cases h
  | y :: a, z :: b, v, x, h, ha, hb, e => by
    have hy := ha 0 (Int.le_refl 0)
    have hz := hb 0 (Int.le_refl 0)
    rw [show lg (y :: a) 0 = y from rfl] at hy
    rw [show lg (z :: b) 0 = z from rfl] at hz
    have ha2 : byt a := byt_tl ha
    have hb2 : byt b := byt_tl hb
    obtain ⟨h1, h2⟩ := pkU_inj a b _ _ (by simpa using h) ha2 hb2 e
    have h3 : v = x ∧ y = z := by omega
    exact ⟨h3.1, by rw [h3.2, h2]⟩
theorem pk_len (hb : byt wd) (hl : wd.length ≤ 8) (h0 : 0 < lg wd 0) : (wd.length = 1 ∧ 1 ≤ pkU wd 0 ∧ pkU wd 0 < 256) ∨ (wd.length = 2 ∧ 256 ≤ pkU wd 0 ∧ pkU wd 0 < 65536) ∨ (wd.length = 3 ∧ 65536 ≤ pkU wd 0 ∧ pkU wd 0 < 16777216) ∨ (wd.length = 4 ∧ 16777216 ≤ pkU wd 0 ∧ pkU wd 0 < 4294967296) ∨ (wd.length = 5 ∧ 4294967296 ≤ pkU wd 0 ∧ pkU wd 0 < 1099511627776) ∨ (wd.length = 6 ∧ 1099511627776 ≤ pkU wd 0 ∧ pkU wd 0 < 281474976710656) ∨ (wd.length = 7 ∧ 281474976710656 ≤ pkU wd 0 ∧ pkU wd 0 < 72057594037927936) ∨ (wd.length = 8 ∧ 72057594037927936 ≤ pkU wd 0 ∧ pkU wd 0 < 18446744073709551616) := by
  have b0 := hb 0 (by decide)
  have b1 := hb 1 (by decide)
  have b2 := hb 2 (by decide)
  have b3 := hb 3 (by decide)
  have b4 := hb 4 (by decide)
  have b5 := hb 5 (by decide)
  have b6 := hb 6 (by decide)
  have b7 := hb 7 (by decide)
  match wd, hl with
  | [], _ => exact absurd h0 (by decide)
  | [a], _ =>
    have h0 : 0 < a := h0
    have b0 : 0 ≤ a ∧ a ≤ 255 := b0
    refine Or.inl ⟨rfl, ?_⟩
    simp only [pkU]
    omega
  | [a, b], _ =>
    have h0 : 0 < a := h0
    have b0 : 0 ≤ a ∧ a ≤ 255 := b0
    have b1 : 0 ≤ b ∧ b ≤ 255 := b1
    refine Or.inr (Or.inl ⟨rfl, ?_⟩)
    simp only [pkU]
    omega
  | [a, b, c], _ =>
    have h0 : 0 < a := h0
    have b0 : 0 ≤ a ∧ a ≤ 255 := b0
    have b1 : 0 ≤ b ∧ b ≤ 255 := b1
    have b2 : 0 ≤ c ∧ c ≤ 255 := b2
    refine Or.inr (Or.inr (Or.inl ⟨rfl, ?_⟩))
    simp only [pkU]
    omega
  | [a, b, c, d], _ =>
    have h0 : 0 < a := h0
    have b0 : 0 ≤ a ∧ a ≤ 255 := b0
    have b1 : 0 ≤ b ∧ b ≤ 255 := b1
    have b2 : 0 ≤ c ∧ c ≤ 255 := b2
    have b3 : 0 ≤ d ∧ d ≤ 255 := b3
    refine Or.inr (Or.inr (Or.inr (Or.inl ⟨rfl, ?_⟩)))
    simp only [pkU]
    omega
  | [a, b, c, d, e], _ =>
    have h0 : 0 < a := h0
    have b0 : 0 ≤ a ∧ a ≤ 255 := b0
    have b1 : 0 ≤ b ∧ b ≤ 255 := b1
    have b2 : 0 ≤ c ∧ c ≤ 255 := b2
    have b3 : 0 ≤ d ∧ d ≤ 255 := b3
    have b4 : 0 ≤ e ∧ e ≤ 255 := b4
    refine Or.inr (Or.inr (Or.inr (Or.inr (Or.inl ⟨rfl, ?_⟩))))
    simp only [pkU]
    omega
  | [a, b, c, d, e, f], _ =>
    have h0 : 0 < a := h0
    have b0 : 0 ≤ a ∧ a ≤ 255 := b0
    have b1 : 0 ≤ b ∧ b ≤ 255 := b1
    have b2 : 0 ≤ c ∧ c ≤ 255 := b2
    have b3 : 0 ≤ d ∧ d ≤ 255 := b3
    have b4 : 0 ≤ e ∧ e ≤ 255 := b4
    have b5 : 0 ≤ f ∧ f ≤ 255 := b5
    refine Or.inr (Or.inr (Or.inr (Or.inr (Or.inr (Or.inl ⟨rfl, ?_⟩)))))
    simp only [pkU]
    omega
  | [a, b, c, d, e, f, g], _ =>
    have h0 : 0 < a := h0
    have b0 : 0 ≤ a ∧ a ≤ 255 := b0
    have b1 : 0 ≤ b ∧ b ≤ 255 := b1
    have b2 : 0 ≤ c ∧ c ≤ 255 := b2
    have b3 : 0 ≤ d ∧ d ≤ 255 := b3
    have b4 : 0 ≤ e ∧ e ≤ 255 := b4
    have b5 : 0 ≤ f ∧ f ≤ 255 := b5
    have b6 : 0 ≤ g ∧ g ≤ 255 := b6
    refine Or.inr (Or.inr (Or.inr (Or.inr (Or.inr (Or.inr (Or.inl ⟨rfl, ?_⟩))))))
    simp only [pkU]
    omega
  | [a, b, c, d, e, f, g, i], _ =>
    have h0 : 0 < a := h0
    have b0 : 0 ≤ a ∧ a ≤ 255 := b0
    have b1 : 0 ≤ b ∧ b ≤ 255 := b1
    have b2 : 0 ≤ c ∧ c ≤ 255 := b2
    have b3 : 0 ≤ d ∧ d ≤ 255 := b3
    have b4 : 0 ≤ e ∧ e ≤ 255 := b4
    have b5 : 0 ≤ f ∧ f ≤ 255 := b5
    have b6 : 0 ≤ g ∧ g ≤ 255 := b6
    have b7 : 0 ≤ i ∧ i ≤ 255 := b7
    refine Or.inr (Or.inr (Or.inr (Or.inr (Or.inr (Or.inr (Or.inr ⟨rfl, ?_⟩))))))
    simp only [pkU]
    omega
  | _ :: _ :: _ :: _ :: _ :: _ :: _ :: _ :: _ :: r, h => exact absurd h (by simp only [List.length_cons]; omega)
theorem pkV_U : ∀ (l : List Int) (v : Int), byt l → l.length ≤ 8 → 0 ≤ v → v < (256 : Int) ^ (8 - l.length) → pkV l (w64 v) = w64 (pkU l v)
  | [], _, _, _, _, _ => rfl
  | y :: r, v, hb, hl, h0, h1 => by
    rw [List.length_cons] at hl h1
    have hy := hb 0 (Int.le_refl 0)
    rw [show lg (y :: r) 0 = y from rfl] at hy
    have hp := pow256_7 (c := 8 - (r.length + 1)) (by omega)
    have e1 : w64 v = v := w64_id (by omega) (by omega)
    have e2 : or64 (shl64 (w64 v) 8) y = w64 (v * 256 + y) := by
      rw [e1, shl64_one]
      exact or64_low ⟨h0, by omega⟩ hy
    show pkV r (or64 (shl64 (w64 v) 8) y) = w64 (pkU r (v * 256 + y))
    rw [e2]
    refine pkV_U r _ (byt_tl hb) (by omega) (by omega) ?_
    have e3 : (256 : Int) ^ (8 - r.length) = (256 : Int) ^ (8 - (r.length + 1)) * 256 := by
      rw [show 8 - r.length = (8 - (r.length + 1)) + 1 by omega, Int.pow_succ]
    rw [e3]
    omega
theorem w64_in {a b : Int} (h : w64 a = w64 b) (ha : 0 ≤ a ∧ a < 18446744073709551616) (hb : 0 ≤ b ∧ b < 18446744073709551616) : a = b := by
  unfold w64 at h
  rw [Int.bmod_def, Int.bmod_def] at h
  split at h <;> split at h <;> omega
theorem txt_byt : ∀ j < 58, (txt j).all (fun x => decide (0 ≤ x ∧ x ≤ 255)) = true := by decide +kernel
theorem byt_all (h : l.all (fun x => decide (0 ≤ x ∧ x ≤ 255)) = true) : byt l := fun k k0 => by
  unfold lg
  by_cases q : k.toNat < l.length
  · rw [List.getD_eq_getElem?_getD, List.getElem?_eq_getElem q]
    have := List.all_eq_true.mp h _ (List.getElem_mem q)
    exact of_decide_eq_true this
  · rw [List.getD_eq_getElem?_getD, List.getElem?_eq_none (by omega)]
    decide
theorem pk_txt {j : Nat} (hj : j < 58) (hb : byt wd) (hl : (txt j).length ≤ 8) (h0 : 0 < lg (txt j) 0) (hc : pkV (txt j) 0 = c) (hc0 : 0 < c) : pkW wd = c ↔ wd = txt j := by
  constructor
  · intro e
    unfold pkW at e
    by_cases q : wd.length ≤ 8 ∧ 0 < lg wd 0
    · rw [if_pos q] at e
      have hb2 := byt_all (txt_byt j hj)
      have h1 := pk_len hb q.1 q.2
      have h2 := pk_len hb2 hl h0
      have z0 : w64 0 = 0 := by decide +kernel
      have u1 := pkV_U wd 0 hb q.1 (Int.le_refl 0) (Int.pow_pos (by decide))
      have u2 := pkV_U (txt j) 0 hb2 hl (Int.le_refl 0) (Int.pow_pos (by decide))
      rw [z0] at u1 u2
      have e9 := w64_in (u1.symm.trans (e.trans (hc.symm.trans u2))) (by omega) (by omega)
      have h3 : wd.length = (txt j).length := by omega
      exact (pkU_inj wd (txt j) 0 0 h3 hb hb2 e9).2
    · rw [if_neg q] at e
      omega
  · intro e
    rw [e]
    unfold pkW
    rw [if_pos ⟨hl, h0⟩]
    exact hc
end XVPK
