/-! A script's argument, found by going over its text. -/
/-- the signs of a word among those from here on: how many words have begun, whether one is going on -/
def scA (w0 : Int) : List Int → Int → Int → List Int
  | [], _, _ => []
  | b :: r, word, ins => if b = 32 then scA w0 r word 0 else (if (if ins = 0 then word + 1 else word) = w0 then [b] else []) ++ scA w0 r (if ins = 0 then word + 1 else word) 1
abbrev Fr : Type := Int × List Int × Int × Int × List Int
/-- the text of the innermost script that is being done -/
def arOf : List Fr → Option (List Int)
  | [] => none
  | f :: r => if f.1 = 3 then some f.2.1 else arOf r
def argL (ar : Option (List Int)) (k : Int) : List Int := match ar with
  | none => []
  | some t => lnB t (k + 1)
/-- a FOR or a RUN has begun its first -/
def frGo (f : Fr) : Prop := (f.1 = 2 ∧ 3 < f.2.2.1) ∨ (f.1 = 3 ∧ 0 < f.2.2.1)
/-- a frame -/
def FX (S : qR) (i : Int) (f : Fr) : Prop := S 2367 i = f.1 ∧ (f.2.1.length ≤ 100 ∧ byt f.2.1 ∧ TX S i f.2.1) ∧ (2 ≤ f.1 → S 2368 i = f.2.2.1) ∧ (frGo f → S 2369 i = f.2.2.2.1) ∧ (f.1 = 3 → SCL S i f.2.2.2.2)
/-- the frames, the innermost first -/
def FST (S : qR) : List Fr → Prop
  | [] => True
  | f :: r => FX S ((r.length : Int) + 1) f ∧ FST S r
section MFR2
variable {fb : Bool} {d : Nat} {σ0 σ : hM} {P Q R S S1 S2 : qR} {T U s w g u p k e t z o n N v dp b w0 : Int} {l L vs ws tx : List Int} {h : List Ch} {fs : List Fr} {fr : Fr}
theorem scA_skip : ∀ (r : List Int) (word ins : Int), w0 < word → scA w0 r word ins = []
  | [], _, _, _ => rfl
  | b :: r, word, ins, h => by
    unfold scA
    split
    · exact scA_skip r word 0 h
    · rw [if_neg (by split <;> omega), List.nil_append]
      exact scA_skip r _ 1 (by split <;> omega)
theorem seg_nil {f : Int → Int} : seg f o (0 : Int).toNat = [] := rfl
/-- in a word: the rest of it, then the next ones -/
theorem scA_in {f : Int → Int} (hz0 : 0 ≤ z) : ∀ (m : Nat) (k : Int) (word : Int), k + m = z → 0 ≤ k → word ≤ w0 → scA w0 (seg f k m) word 1 = (if word = w0 then seg f k (spE f z z.toNat k - k).toNat else []) ++ scA w0 (seg f (spE f z z.toNat k) (z - spE f z z.toNat k).toNat) word 0
  | 0, k, word, h1, h2, h3 => by
    have h1 : k + ((0 : Nat) : Int) = z := h1
    have e : spE f z z.toNat k = k := by
      have := spE_rng (z := z) (f := f) z.toNat k
      have := this.2 (by omega)
      omega
    rw [e, show k - k = 0 by omega, show z - k = 0 by omega]
    show [] = (if word = w0 then [] else []) ++ []
    split <;> rfl
  | m + 1, k, word, h1, h2, h3 => by
    show scA w0 (f k :: seg f (k + 1) m) word 1 = _
    have e0 : scA w0 (f k :: seg f (k + 1) m) word 1 = if f k = 32 then scA w0 (seg f (k + 1) m) word 0 else (if (if (1 : Int) = 0 then word + 1 else word) = w0 then [f k] else []) ++ scA w0 (seg f (k + 1) m) (if (1 : Int) = 0 then word + 1 else word) 1 := rfl
    rw [e0]
    obtain ⟨j, hj⟩ : ∃ j, z.toNat = j + 1 := ⟨z.toNat - 1, by omega⟩
    by_cases q : f k = 32
    · rw [if_pos q]
      have e : spE f z z.toNat k = k := by
        rw [hj]
        unfold spE
        rw [if_neg (fun c => c.2 q)]
      rw [e, show k - k = 0 by omega, show (z - k).toNat = m + 1 by omega]
      show _ = (if word = w0 then [] else []) ++ scA w0 (f k :: seg f (k + 1) m) word 0
      rw [show scA w0 (f k :: seg f (k + 1) m) word 0 = scA w0 (seg f (k + 1) m) word 0 from if_pos q]
      split <;> rfl
    · rw [if_neg q, if_neg (by decide : ¬ (1 : Int) = 0)]
      have e : spE f z z.toNat k = spE f z z.toNat (k + 1) := by
        have e1 : spE f z z.toNat k = spE f z j (k + 1) := by
          rw [hj]
          show (if k < z ∧ ¬ f k = 32 then spE f z j (k + 1) else k) = _
          rw [if_pos ⟨by omega, q⟩]
        rw [e1]
        exact spE_more j z.toNat (k + 1) (by omega) (by omega)
      rw [scA_in hz0 m (k + 1) word (by omega) (by omega) h3, e]
      have r := (spE_rng (z := z) (f := f) z.toNat (k + 1)).1
      rw [show (spE f z z.toNat (k + 1) - k).toNat = (spE f z z.toNat (k + 1) - (k + 1)).toNat + 1 by omega]
      by_cases q2 : word = w0
      · rw [if_pos q2, if_pos q2, if_pos q2]
        rfl
      · rw [if_neg q2, if_neg q2, if_neg q2]
        rfl
theorem scA_out {f : Int → Int} (hz0 : 0 ≤ z) : ∀ (m n : Nat) (k : Int) (word : Int), z ≤ k + m → k + n = z → 0 ≤ k → word < w0 → scA w0 (seg f k n) word 0 = seg f ((spW f z m k).getD (w0 - word - 1).toNat (0, 0)).1 (((spW f z m k).getD (w0 - word - 1).toNat (0, 0)).2 - ((spW f z m k).getD (w0 - word - 1).toNat (0, 0)).1).toNat := by
  intro m
  induction m with
  | zero =>
    intro n k word h0 h1 h2 h3
    have h0 : z ≤ k + ((0 : Nat) : Int) := h0
    have hn : n = 0 := by omega
    subst hn
    rfl
  | succ m ih =>
    intro n k word h0 h1 h2 h3
    unfold spW
    by_cases q : z ≤ k
    · rw [if_pos q]
      have hn : n = 0 := by omega
      subst hn
      rfl
    · rw [if_neg q]
      obtain ⟨n1, hn1⟩ : ∃ n1, n = n1 + 1 := ⟨n - 1, by omega⟩
      subst hn1
      show scA w0 (f k :: seg f (k + 1) n1) word 0 = _
      by_cases q2 : f k = 32
      · rw [if_pos q2, show scA w0 (f k :: seg f (k + 1) n1) word 0 = scA w0 (seg f (k + 1) n1) word 0 from if_pos q2]
        exact ih n1 (k + 1) word (by omega) (by omega) (by omega) h3
      · rw [if_neg q2]
        have e0 : scA w0 (f k :: seg f (k + 1) n1) word 0 = (if word + 1 = w0 then [f k] else []) ++ scA w0 (seg f (k + 1) n1) (word + 1) 1 := by
          show (if f k = 32 then _ else _) = _
          rw [if_neg q2, if_pos rfl]
        rw [e0, scA_in hz0 n1 (k + 1) (word + 1) (by omega) (by omega) (by omega)]
        have hst := spE_step (z := z) (f := f) (by omega) q2 h2
        have e1 : spE f z z.toNat (k + 1) = spE f z z.toNat k := by
          obtain ⟨j, hj⟩ : ∃ j, z.toNat = j + 1 := ⟨z.toNat - 1, by omega⟩
          have e1 : spE f z z.toNat k = spE f z j (k + 1) := by
            rw [hj]
            show (if k < z ∧ ¬ f k = 32 then spE f z j (k + 1) else k) = _
            rw [if_pos ⟨by omega, q2⟩]
          rw [e1]
          exact spE_more z.toNat j (k + 1) (by omega) (by omega)
        rw [e1]
        have hle := (spE_rng (z := z) (f := f) z.toNat k).2 (by omega)
        obtain ⟨en, hen⟩ : ∃ en, spE f z z.toNat k = en := ⟨_, rfl⟩
        rw [hen] at hst hle ⊢
        by_cases q3 : word + 1 = w0
        · rw [if_pos q3, if_pos q3, q3, show w0 - word - 1 = 0 by omega]
          show [f k] ++ (seg f (k + 1) (en - (k + 1)).toNat ++ scA w0 (seg f en (z - en).toNat) w0 0) = seg f k (en - k).toNat
          have e5 : ∀ r ins, scA w0 r w0 ins = if ins = 1 then scA w0 r w0 1 else scA w0 r w0 ins := fun r ins => by split <;> rename_i c <;> simp [c]
          have e4 : scA w0 (seg f en (z - en).toNat) w0 0 = [] := by
            have key : ∀ (r : List Int), scA w0 r w0 0 = [] := by
              intro r
              induction r with
              | nil => rfl
              | cons b r ih2 =>
                show (if b = 32 then scA w0 r w0 0 else (if (if (0 : Int) = 0 then w0 + 1 else w0) = w0 then [b] else []) ++ scA w0 r (if (0 : Int) = 0 then w0 + 1 else w0) 1) = []
                rw [if_pos rfl]
                split
                · exact ih2
                · rw [if_neg (by omega), scA_skip r (w0 + 1) 1 (by omega)]
                  rfl
            exact key _
          rw [e4, List.append_nil, show (en - k).toNat = (en - (k + 1)).toNat + 1 by omega]
          rfl
        · rw [if_neg q3, if_neg q3]
          obtain ⟨j2, hj2⟩ : ∃ j2, (w0 - word - 1).toNat = j2 + 1 := ⟨(w0 - word - 1).toNat - 1, by omega⟩
          rw [hj2]
          show scA w0 (seg f en (z - en).toNat) (word + 1) 0 = seg f ((spW f z m en).getD j2 (0, 0)).1 (((spW f z m en).getD j2 (0, 0)).2 - ((spW f z m en).getD j2 (0, 0)).1).toNat
          rw [ih (z - en).toNat en (word + 1) (by omega) (by omega) (by omega) (by omega), show (w0 - (word + 1) - 1).toNat = j2 by omega]
theorem scA_word (hk : 0 ≤ k) : scA (k + 1) tx (-1) 0 = lnB tx (k + 1) := by
  have := scA_out (z := (tx.length : Int)) (w0 := k + 1) (f := lg tx) (by omega) tx.length tx.length 0 (-1) (by omega) (by omega) (by decide) (by omega)
  rw [show seg (lg tx) 0 tx.length = tx from seg_eq.mpr ⟨rfl, fun i a b => by rw [Int.zero_add]⟩, show (k + 1 - -1 - 1).toNat = (k + 1).toNat by omega] at this
  exact this
theorem FX_arg (h : FX S g fr) (h3 : fr.1 = 3) : S 2366 g = (fr.2.1.length : Int) ∧ ∀ j : Int, 0 ≤ j → j < fr.2.1.length → S 2365 (100 * g + j) = lg fr.2.1 j := by
  obtain ⟨-, ⟨a1, a2, a3, a4⟩, -⟩ := h
  rw [if_pos a1] at a3
  exact ⟨a3, fun j b1 b2 => a4 j b1 b2 (by omega)⟩
end MFR2
