/-! The class's shell: the frames that are open; the command that is next. -/
section XSH5
variable {fb : Bool} {d b k n : Nat} {σ0 σ : hM} {W W1 W2 V P : qR} {R : rR} {i j x z v s e p D pl N w nx bd E u K T U a c ex : Int} {l sc lo wd src : List Int} {y : Nat} {ar : Option (List Int)} {fs : List Fr} {fr : Fr}
/-- a command's object is a frame -/
def FRX (W : qR) (k : Nat) (fr : Fr) : Prop := CMD W k fr.2.1 ∧ W k 2517 = (if fr.1 = 0 then 0 else if fr.1 = 1 then 23 else if fr.1 = 2 then 24 else 25) ∧ (2 ≤ fr.1 → W k 2518 = fr.2.2.1) ∧ (fr.1 = 2 → W k 2519 = pdO fr.2.1 + 1) ∧ W k 2520 = (if fr.1 = 3 then fr.2.2.2.1 else 0) ∧ (fr.1 = 3 → BY W (k + 3) 600 fr.2.2.2.2)
/-- the frames, the innermost first -/
def FSX (W : qR) : List Fr → Prop
  | [] => BY W 2275 100 []
  | f :: r => ((0 ≤ f.1 ∧ f.1 ≤ 3) ∧ FRX W (cmO (r.length : Int)) f) ∧ FSX W r
theorem FRX.eqv (h : FRX W k fr) (hk : 2191 ≤ k) (hF : ∀ (x : Nat) (j : Int), k ≤ x → x < k + 7 → V x j = W x j) : FRX V k fr := by
  obtain ⟨⟨c1, c2, c3, c4, c5, c6⟩, a2, a3, a4, a5, a6⟩ := h
  have g := lnW_ok c4.2.2.2.2.1
  have := g.2
  refine ⟨⟨c1, c2, c3, c4.eqv (fun _ => hF _ _ (by omega) (by omega)) (fun _ _ _ => hF _ _ (by omega) (by omega)), (hF _ _ (by omega) (by omega)).trans c5, fun i hi => ?_⟩, ?_, fun h => ?_, fun h => ?_, ?_, fun h => ?_⟩
  · exact ⟨(hF _ _ (by omega) (by omega)).trans (c6 i hi).1, (hF _ _ (by omega) (by omega)).trans (c6 i hi).2⟩
  · exact (hF _ _ (by omega) (by omega)).trans a2
  · exact (hF _ _ (by omega) (by omega)).trans (a3 h)
  · exact (hF _ _ (by omega) (by omega)).trans (a4 h)
  · exact (hF _ _ (by omega) (by omega)).trans a5
  · exact (a6 h).eqv (fun _ => hF _ _ (by omega) (by omega)) (fun _ _ _ => hF _ _ (by omega) (by omega))
theorem FSX.eqv : ∀ {fs : List Fr}, FSX W fs → (∀ (x : Nat) (j : Int), 2191 ≤ x → (x < 2191 + 7 * fs.length ∨ (2275 ≤ x ∧ x ≤ 2276)) → V x j = W x j) → FSX V fs
  | [], h, hF => BY.eqv h (fun _ => hF _ _ (by decide) (Or.inr (by decide))) (fun _ _ _ => hF _ _ (by decide) (Or.inr (by decide)))
  | f :: r, h, hF => by
    have hF : ∀ (x : Nat) (j : Int), 2191 ≤ x → (x < 2191 + 7 * (r.length + 1) ∨ (2275 ≤ x ∧ x ≤ 2276)) → V x j = W x j := hF
    refine ⟨⟨h.1.1, h.1.2.eqv (by unfold cmO; omega) (fun x j a b => hF x j (by unfold cmO at a; omega) (Or.inl (by unfold cmO at b; omega)))⟩, FSX.eqv h.2 (fun x j a b => hF x j a (by omega))⟩
theorem FSX.scp (hb : 2191 + 7 * n ≤ b) : ∀ {fs : List Fr}, FSX W fs → fs.length ≤ n → SCP W b (arOf fs) (inS W fs.length)
  | [], _, _ => Or.inl ⟨rfl, rfl⟩
  | f :: r, h, hl => by
    have hl : r.length + 1 ≤ n := hl
    obtain ⟨⟨h0, h1⟩, h2⟩ := h
    have ec : cmO (r.length : Int) = 2191 + 7 * r.length := by unfold cmO; omega
    have e1 : inS W (f :: r).length = if W (2191 + 7 * r.length) 2517 = 25 then some (2191 + 7 * r.length) else inS W r.length := rfl
    have e2 : arOf (f :: r) = if f.1 = 3 then some f.2.1 else arOf r := rfl
    have hd := h1.2.1
    rw [ec] at hd
    rw [e1, e2]
    by_cases q : f.1 = 3
    · have hd3 : W (2191 + 7 * r.length) 2517 = 25 := by rw [hd, if_neg (by omega), if_neg (by omega), if_neg (by omega)]
      rw [if_pos hd3, if_pos q]
      have hC := h1.1
      rw [ec] at hC
      exact Or.inr ⟨f.2.1, _, rfl, rfl, hC, by omega, by omega⟩
    · have hd3 : ¬ W (2191 + 7 * r.length) 2517 = 25 := by
        rw [hd]
        split
        · decide
        · split
          · decide
          · rw [if_pos (by omega)]
            decide
      rw [if_neg hd3, if_neg q]
      exact FSX.scp hb h2 (by omega)
theorem inS_eqv : ∀ {n : Nat}, (∀ (x : Nat), 2191 ≤ x → V x 2517 = W x 2517) → inS V n = inS W n
  | 0, _ => rfl
  | n + 1, h => by
    show (if V (2191 + 7 * n) 2517 = 25 then some (2191 + 7 * n) else inS V n) = if W (2191 + 7 * n) 2517 = 25 then some (2191 + 7 * n) else inS W n
    rw [h _ (by omega), inS_eqv h]
theorem exI_0 : ∀ (m : Nat) (i : Int), (src.length : Int) ≤ i + m → 0 ≤ i → exI P p ar src 0 m i = seg (lg src) i ((src.length : Int) - i).toNat
  | 0, i, h, h0 => by
    rw [show ((src.length : Int) - i).toNat = 0 by omega]
    rfl
  | m + 1, i, h, h0 => by
    have e : nxS src 0 i = -1 := if_neg (fun c => absurd c.1 (by decide))
    show (if (src.length : Int) ≤ i then [] else if 48 ≤ nxS src 0 i ∧ nxS src 0 i ≤ 57 then argL ar (nxS src 0 i - 48) ++ exI P p ar src 0 m (i + 2) else if 97 ≤ nxS src 0 i ∧ nxS src 0 i ≤ 122 then varL P p (nxS src 0 i - 97) ++ exI P p ar src 0 m (i + 2) else [lg src i] ++ exI P p ar src 0 m (if nxS src 0 i = 36 then i + 2 else i + 1)) = _
    by_cases q : (src.length : Int) ≤ i
    · rw [if_pos q, show ((src.length : Int) - i).toNat = 0 by omega]
      rfl
    · rw [if_neg q, e, if_neg (by decide), if_neg (by decide), if_neg (by decide), exI_0 m (i + 1) (by omega) (by omega), show ((src.length : Int) - i).toNat = ((src.length : Int) - (i + 1)).toNat + 1 by omega]
      rfl
theorem exL_0 : exL P p ar 0 src = src := by
  have h := exI_0 (P := P) (p := p) (ar := ar) (src := src) src.length 0 (by omega) (by decide)
  rw [show ((src.length : Int) - 0).toNat = src.length by omega, seg_all] at h
  exact h
/-- where the shell stands -/
def SHL (W : qR) (D c e w : Int) : Prop := W 2187 2482 = D ∧ W 2187 2483 = c ∧ W 2187 2484 = e ∧ W 2187 2485 = w
/-- only a command's object and the shell's numbers are written -/
def FNX (k : Nat) (W V : qR) : Prop := ∀ (x : Nat) (j : Int), ¬ (x = 2187 ∧ 2482 ≤ j ∧ j ≤ 2486) → ¬ (k ≤ x ∧ x < k + 7) → V x j = W x j
theorem XW.fnx (h : XW K T U W R P) (hF : FNX k W V) (hk : 2191 ≤ k ∧ k < 2275) : XW K T U V R P := h.hiw (fun x j hx => hF x j (by omega) (by omega)) (fun _ _ _ => rfl)
/-- what comes of a line that waits: it is refused, or begun -/
def NXX (σ0 : hM) (W : qR) (R : rR) (n : Nat) (c e : Int) (L : List Int) : Option AV → hM → Prop := fun r σ' => ∃ V, PX σ0 V R σ' ∧ (FNX (cmO (n : Int)) W V ∧ (n = 12 → FNX 2280 W V)) ∧ ((bgE (n : Int) c L = 0 ∧ r = some (vR (some (cmO (n : Int)))) ∧ FRX V (cmO (n : Int)) (0, L, 0, 0, []) ∧ SHL V ((n : Int) + 1) (c + 1) e 0) ∨ (¬ bgE (n : Int) c L = 0 ∧ r = some (vR none) ∧ SHL V n (bgC (n : Int) c) (bgE (n : Int) c L) 0))
end XSH5
