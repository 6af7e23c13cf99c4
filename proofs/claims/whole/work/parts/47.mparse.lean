/-! How the reference reads a message: S is what the scratch rows were, S1 what they are, p where it stands (below 0: bad), st the strings that it has seen. -/
theorem av_le {z p n : Int} (hp : p ≤ z) (hz : 0 ≤ z) : av z p n ≤ z := by
  unfold av
  split <;> omega
theorem av_pos {z p n : Int} (h : 0 ≤ av z p n) : 0 ≤ p ∧ p + n ≤ z ∧ av z p n = p + n := by
  unfold av at *
  split at h <;> rename_i q
  · omega
  · rw [if_neg q]
    omega
theorem av_ok {z p n : Int} (h : 0 ≤ p ∧ p + n ≤ z) : av z p n = p + n := by
  unfold av
  rw [if_neg (by omega)]
theorem sE_cases {a : Int → Int} {z p : Int} (hb : ∀ j, 0 ≤ j → j < z → 0 ≤ a j ∧ a j ≤ 255) : sE a z p = -1 ∨ (0 ≤ p ∧ p + 2 ≤ z ∧ 0 ≤ nu a p 2 ∧ nu a p 2 ≤ 65535 ∧ p + 2 + nu a p 2 ≤ z ∧ sE a z p = p + 2 + nu a p 2) := by
  unfold sE
  split <;> rename_i q
  · exact Or.inl rfl
  · split <;> rename_i q2
    · exact Or.inl rfl
    · have h := nu_rng (f := a) (i := p) 2 (fun k hk => hb _ (by omega) (by omega))
      rw [show (256 : Int) ^ 2 = 65536 from rfl] at h
      exact Or.inr ⟨by omega, by omega, by omega, by omega, by omega, rfl⟩
theorem sE_neg {a : Int → Int} {z p : Int} (h : p < 0) : sE a z p = -1 := by
  unfold sE
  rw [if_pos (Or.inl h)]
/-- behind a number a string ends as if the number were jumped over -/
theorem sE_av {a : Int → Int} {z p n : Int} (hp : 0 ≤ p) (hn : 0 ≤ n) : sE a z (av z p n) = sE a z (p + n) := by
  unfold av
  split <;> rename_i q
  · rw [sE_neg (by decide)]
    unfold sE
    rw [if_pos (by omega)]
  · rfl
theorem nv_ok {a : Int → Int} {z p : Int} {n : Nat} (hn : n ≤ 7) (h : 0 ≤ p ∧ p + n ≤ z) (hb : ∀ j, 0 ≤ j → j < z → 0 ≤ a j ∧ a j ≤ 255) : nv a z p n = nu a p n ∧ 0 ≤ nu a p n ∧ nu a p n < 256 ^ n := by
  have hr := nu_rng (f := a) (i := p) n (fun k hk => hb _ (by omega) (by omega))
  refine ⟨?_, hr⟩
  unfold nv
  rw [if_neg (by omega)]
  have h1 : (256 : Int) ^ n ≤ 256 ^ 7 := pow256_le hn
  exact w64_id (by omega) (by have : (256 : Int) ^ 7 = 72057594037927936 := by decide
                              omega)
def RS (T U : Int) (S S1 : qR) (p : Int) (st : List (Int × Int)) : Prop := (∀ (f : Nat) (k : Int), f ≠ 2281 → f ≠ 2287 → f ≠ 2288 → S1 f k = S f k) ∧ (∀ k : Int, k ≠ 8 → k ≠ 9 → k ≠ 12 → S1 2281 k = S 2281 k) ∧ S1 2281 9 = (if p < 0 then 1 else 0) ∧ S1 2281 8 = (if p < 0 then S 2281 4 + 1 else p) ∧ p ≤ S 2281 4 ∧ IV true T U S1 ∧ S1 2281 12 = (st.length : Int) ∧ ∀ i : Nat, i < st.length → i < 8 → S1 2287 (i : Int) = (st.getD i (0, 0)).1 ∧ S1 2288 (i : Int) = (st.getD i (0, 0)).2
section MPARSE
variable {fb : Bool} {d : Nat} {σ0 σ : hM} {P S S1 : qR} {T U p : Int} {st : List (Int × Int)}
theorem RS.ask (h : RS T U S S1 p st) {k : Int} : S1 2285 k = S 2285 k := h.1 _ k (by decide) (by decide) (by decide)
theorem RS.sz (h : RS T U S S1 p st) : S1 2281 4 = S 2281 4 := h.2.1 4 (by decide) (by decide) (by decide)
theorem RS.sc (h : RS T U S S1 p st) {k : Int} (hk : k ≠ 8 ∧ k ≠ 9 ∧ k ≠ 12) : S1 2281 k = S 2281 k := h.2.1 k hk.1 hk.2.1 hk.2.2
theorem RS.self (h : RS T U S S1 p st) : pS S1 p = S1 := by
  unfold pS
  rw [show (if p < 0 then (1 : Int) else 0) = S1 2281 9 from h.2.2.1.symm, rU_self, h.sz, ← h.2.2.2.1, rU_self]
theorem RS.pb (h : RS T U S S1 p st) : 0 ≤ S 2281 4 ∧ S 2281 4 ≤ 512 ∧ ∀ j, 0 ≤ j → j < S 2281 4 → 0 ≤ S 2285 j ∧ S 2285 j ≤ 255 := by
  have hz : 0 ≤ S1 2281 4 ∧ S1 2281 4 ≤ 512 := IV.n h.2.2.2.2.2.1 4 4 rfl rfl (by decide)
  rw [h.sz] at hz
  refine ⟨hz.1, hz.2, fun j h1 h2 => ?_⟩
  have := IV.a h.2.2.2.2.2.1 2285 0 512 (k := j) rfl rfl rfl h1 (by omega)
  rw [h.ask] at this
  exact this
theorem IV_pS {q : Int} (h : IV true T U S1) (hq : q ≤ S1 2281 4) : IV true T U (pS S1 q) := by
  have hz : 0 ≤ S1 2281 4 ∧ S1 2281 4 ≤ 512 := IV.n h 4 4 rfl rfl (by decide)
  exact (h.uN 9 9 rfl (v := if q < 0 then 1 else 0) (by show 0 ≤ _ ∧ _ ≤ 1; split <;> decide)).uN 8 8 rfl (v := if q < 0 then S1 2281 4 + 1 else q) (by show 0 ≤ _ ∧ _ ≤ 513; split <;> omega)
theorem RS.move {q : Int} (h : RS T U S S1 p st) (hq : q ≤ S 2281 4) : RS T U S (pS S1 q) q st := by
  refine ⟨fun f k h1 h2 h3 => (pS_f h1).trans (h.1 f k h1 h2 h3), fun k h1 h2 h3 => (pS_k (by omega)).trans (h.2.1 k h1 h2 h3), pS_bad, ?_, hq, IV_pS h.2.2.2.2.2.1 (by rw [h.sz]; exact hq), (pS_k (by decide)).trans h.2.2.2.2.2.2.1, fun i h1 h2 => ?_⟩
  · rw [← h.sz]
    exact pS_at
  · rw [pS_f (by decide), pS_f (by decide)]
    exact h.2.2.2.2.2.2.2 i h1 h2
theorem r_number (n : Nat) {z : Int} (hz : (n : Int) = z) (hP : PM σ0 P S1 σ) (h : RS T U S S1 p st) (hn : n ≤ 8) : CL fb d 234 [vR (some 2281), vI z] σ (fun r σ' => r = some (vL (nv (S 2285) (S 2281 4) p n)) ∧ ∃ S2, PM σ0 P S2 σ' ∧ RS T U S S2 (av (S 2281 4) p n) st) := by
  obtain ⟨h1, h2, h3⟩ := h.pb
  have hf : S1 2285 = S 2285 := funext (fun k => h.ask)
  have hm := m_number (fb := fb) (d := d) (σ0 := σ0) (P := P) (S := S1) (p := p) n hz (by rw [h.self]; exact hP) hn (by rw [h.sz]; exact ⟨h1, h2⟩) (by rw [h.sz]; exact h.2.2.2.2.1) (by rw [h.sz, hf]; exact h3)
  refine CL.mono hm ?_
  rintro r σ1 ⟨e1, e2⟩
  rw [hf, h.sz] at e1
  rw [h.sz] at e2
  exact ⟨e1, _, e2, h.move (av_le h.2.2.2.2.1 h1)⟩
theorem r_string (hP : PM σ0 P S1 σ) (h : RS T U S S1 p st) (hl : st.length ≤ 500) : CL fb (d + 1) 240 [vR (some 2281)] σ (fun r σ' => r = none ∧ ∃ S2, PM σ0 P S2 σ' ∧ RS T U S S2 (sE (S 2285) (S 2281 4) p) (if sE (S 2285) (S 2281 4) p < 0 then st else st ++ [(p + 2, nu (S 2285) p 2)])) := by
  obtain ⟨h1, h2, h3⟩ := h.pb
  have hf : S1 2285 = S 2285 := funext (fun k => h.ask)
  have hm := m_string (fb := fb) (d := d) (σ0 := σ0) (P := P) (S := S1) (p := p) (i := (st.length : Int)) (T := T) (U := U) (by rw [h.self]; exact hP) h.2.2.2.2.2.1 h.2.2.2.2.2.2.1 (by omega) (by rw [h.sz]; exact h.2.2.2.2.1)
  rw [hf, h.sz] at hm
  refine CL.mono hm ?_
  rintro r σ1 ⟨e1, e2⟩
  refine ⟨e1, ?_⟩
  rcases sE_cases (a := S 2285) (z := S 2281 4) (p := p) h3 with hc | hc
  · rw [hc, if_pos (by decide)]
    rw [hc, if_pos (by decide)] at e2
    exact ⟨_, e2, h.move (by omega)⟩
  · rw [if_neg (by omega)]
    rw [if_neg (by omega)] at e2
    refine ⟨_, e2, ?_⟩
    have hk : RS T U S (sK S1 (st.length : Int) (p + 2) (nu (S 2285) p 2)) p (st ++ [(p + 2, nu (S 2285) p 2)]) := by
      have hg : ∀ i : Nat, i < st.length → (st ++ [(p + 2, nu (S 2285) p 2)]).getD i (0, 0) = st.getD i (0, 0) := fun i hi => by rw [List.getD_eq_getElem?_getD, List.getD_eq_getElem?_getD, List.getElem?_append_left hi]
      have hg2 : (st ++ [(p + 2, nu (S 2285) p 2)]).getD st.length (0, 0) = (p + 2, nu (S 2285) p 2) := by
        rw [List.getD_eq_getElem?_getD, List.getElem?_append_right (Nat.le_refl _), Nat.sub_self]
        rfl
      unfold sK
      by_cases h8 : (st.length : Int) < 8
      · rw [if_pos h8]
        refine ⟨fun f k a1 a2 a3 => ?_, fun k a1 a2 a3 => ?_, ?_, ?_, h.2.2.2.2.1, ?_, ?_, fun i a1 a2 => ?_⟩
        · rw [rU_f a1, rU_f a3, rU_f a2]
          exact h.1 f k a1 a2 a3
        · rw [rU_k a3, rU_f (by decide), rU_f (by decide)]
          exact h.2.1 k a1 a2 a3
        · rw [rU_k (by decide), rU_f (by decide), rU_f (by decide)]
          exact h.2.2.1
        · rw [rU_k (by decide), rU_f (by decide), rU_f (by decide)]
          exact h.2.2.2.1
        · exact ((h.2.2.2.2.2.1.uA 2287 rfl (by show 0 ≤ p + 2 ∧ p + 2 ≤ 512; omega)).uA 2288 rfl (by show 0 ≤ nu (S 2285) p 2 ∧ nu (S 2285) p 2 ≤ 512; omega)).uN 12 12 rfl (by show 0 ≤ (st.length : Int) + 1 ∧ (st.length : Int) + 1 ≤ 600; omega)
        · rw [rU_s, List.length_append]
          rfl
        · rw [List.length_append] at a1
          by_cases ei : i = st.length
          · subst ei
            rw [hg2]
            refine ⟨?_, ?_⟩
            · rw [rU_f (by decide), rU_f (by decide), rU_s]
            · rw [rU_f (by decide), rU_s]
          · have a3 : i < st.length := by
              have : i < st.length + 1 := a1
              omega
            rw [hg i a3]
            refine ⟨?_, ?_⟩
            · rw [rU_f (by decide), rU_f (by decide), rU_k (by omega)]
              exact (h.2.2.2.2.2.2.2 i a3 a2).1
            · rw [rU_f (by decide), rU_k (by omega), rU_f (by decide)]
              exact (h.2.2.2.2.2.2.2 i a3 a2).2
      · rw [if_neg h8]
        refine ⟨fun f k a1 a2 a3 => ?_, fun k a1 a2 a3 => ?_, ?_, ?_, h.2.2.2.2.1, ?_, ?_, fun i a1 a2 => ?_⟩
        · rw [rU_f a1]
          exact h.1 f k a1 a2 a3
        · rw [rU_k a3]
          exact h.2.1 k a1 a2 a3
        · rw [rU_k (by decide)]
          exact h.2.2.1
        · rw [rU_k (by decide)]
          exact h.2.2.2.1
        · exact h.2.2.2.2.2.1.uN 12 12 rfl (by show 0 ≤ (st.length : Int) + 1 ∧ (st.length : Int) + 1 ≤ 600; omega)
        · rw [rU_s, List.length_append]
          rfl
        · have a3 : i < st.length := by omega
          rw [hg i a3, rU_f (by decide), rU_f (by decide)]
          exact h.2.2.2.2.2.2.2 i a3 a2
    exact hk.move (by omega)
theorem r_isWhole (hP : PM σ0 P S1 σ) (h : RS T U S S1 p st) : CL fb (d + 3) 241 [vR (some 2281)] σ (rI (if p = S 2281 4 ∧ 0 ≤ p then 1 else 0) σ0 P (if p = S 2281 4 ∧ 0 ≤ p then S1 else rfs S1 14)) := by
  have hm := m_isWhole (fb := fb) (d := d) (σ0 := σ0) (P := P) (S := S1) (p := p) (by rw [h.self]; exact hP) (by rw [h.sz]; exact h.2.2.2.2.1)
  rw [h.sz, h.self] at hm
  exact hm
/-- the numbers at hand that an answer leaves as they are -/
def kS (S1 S : qR) : Prop := ∀ k : Int, k ≠ 6 → k ≠ 7 → k ≠ 8 → k ≠ 9 → k ≠ 12 → k ≠ 92 → S1 2281 k = S 2281 k
/-- what stands ready to be sent, but for its size: the error, the type, the rest -/
def RP (T U : Int) (S S1 : qR) (e t : Int) (l : List Int) : Prop := S1 2281 7 = e ∧ S1 2281 6 = 7 + (l.length : Int) ∧ (∀ i : Int, 0 ≤ i → i < 3 + l.length → S1 2286 (4 + i) = lg ([t % 256, S 2285 5, S 2285 6] ++ l) i) ∧ IV true T U S1 ∧ (∀ k : Int, S1 2285 k = S 2285 k) ∧ kS S1 S ∧ (∀ (f : Nat) (k : Int), scrR f = true → f ≠ 2286 → f ≠ 2287 → f ≠ 2288 → S1 f k = S f k) ∧ (l.length : Int) ≤ 400
def byt (l : List Int) : Prop := ∀ k : Int, 0 ≤ k → 0 ≤ lg l k ∧ lg l k ≤ 255
theorem byt_nil : byt [] := fun k _ => by
  rw [show lg [] k = 0 from rfl]
  decide
theorem byt_app {l1 l2 : List Int} (h1 : byt l1) (h2 : byt l2) : byt (l1 ++ l2) := fun k hk => by
  rw [lg_app hk]
  split
  · exact h1 k hk
  · exact h2 _ (by omega)
theorem byt_cons {x : Int} {l : List Int} (hx : 0 ≤ x ∧ x ≤ 255) (h : byt l) : byt (x :: l) := fun k hk => by
  rw [lg_cons hk]
  split
  · exact hx
  · exact h _ (by omega)
theorem byt_leb : ∀ (n : Nat) (v : Int), byt (leb n v)
  | 0, _ => byt_nil
  | n + 1, v => byt_cons ⟨Int.emod_nonneg _ (by decide), by have := Int.emod_lt_of_pos v (show (0 : Int) < 256 by decide); omega⟩ (byt_leb n _)
theorem byt_etx (a : Int) : ∀ m, byt (etx a m)
  | 0 => byt_nil
  | m + 1 => byt_app (byt_etx a m) (byt_leb 1 _)
theorem byt_errL (e : Int) : byt (errL e) := byt_app (byt_leb 2 _) (byt_etx _ _)
theorem IV_rA {l : List Int} (h : IV true T U S1) (hl : byt l) (hz : S1 2281 6 + l.length ≤ 512) : IV true T U (rA S1 l) := by
  have h0 : 0 ≤ S1 2281 6 ∧ S1 2281 6 ≤ 512 := IV.n h 6 6 rfl rfl (by decide)
  exact (h.wA 2286 rfl (fun k h1 h2 => hl _ (by omega))).uN 6 6 rfl (by show 0 ≤ S1 2281 6 + (l.length : Int) ∧ S1 2281 6 + (l.length : Int) ≤ 512; omega)
theorem IV_rpl {t : Int} (h : IV true T U S1) : IV true T U (rpl S1 t) := by
  have a5 := IV.a h 2285 0 512 (k := 5) rfl rfl rfl (by decide) (by decide)
  have a6 := IV.a h 2285 0 512 (k := 6) rfl rfl rfl (by decide) (by decide)
  have h4 : IV true T U (rU S1 2281 6 4) := h.uN 6 6 rfl (by show (0 : Int) ≤ 4 ∧ (4 : Int) ≤ 512; decide)
  have h5 : IV true T U (rA (rU S1 2281 6 4) (leb 1 t)) := IV_rA h4 (byt_leb 1 t) (by rw [rU_s, leb_len]; decide)
  exact ((h5.uA 2286 rfl (v := S1 2285 5) a5).uA 2286 rfl (v := S1 2285 6) a6).uN 6 6 rfl (by show (0 : Int) ≤ 7 ∧ (7 : Int) ≤ 512; decide)
theorem RP_mk0 {t e : Int} {l : List Int} (hA : ∀ (f : Nat) (k : Int), f ≠ 2281 → f ≠ 2286 → f ≠ 2287 → f ≠ 2288 → S1 f k = S f k) (hsz : kS S1 S) (hJ : IV true T U S1) (he : S1 2281 7 = e) (hl : byt l) (hz : (l.length : Int) ≤ 400) : RP T U S (rA (rpl S1 t) l) e t l := by
  refine ⟨?_, ?_, fun i h0 h1 => ?_, ?_, fun k => ?_, fun k h6 h7 h8 h9 h12 h92 => ?_, fun f k a1 a2 a3 a4 => ?_, hz⟩
  · rw [rA_o (by decide) (by decide), rpl_o (by decide) (by decide)]
    exact he
  · rw [rA_z, rpl_z]
  · have hask : ∀ k, rA (rU S1 2281 6 4) (leb 1 t) 2285 k = S 2285 k := fun k => by
      rw [rA_o (by decide) (fun e => absurd e.1 (by decide)), rU_f (by decide)]
      exact hA 2285 _ (by decide) (by decide) (by decide) (by decide)
    rw [lg_app h0]
    show rU (rW (rpl S1 t) 2286 (rpl S1 t 2281 6) l) 2281 6 _ 2286 (4 + i) = _
    rw [rU_f (by decide), rpl_z]
    split <;> rename_i hi
    · rw [rW_o (by simp only [List.length_cons, List.length_nil] at hi; omega)]
      unfold rpl
      rw [rU_f (by decide)]
      have hi3 : i = 0 ∨ i = 1 ∨ i = 2 := by simp only [List.length_cons, List.length_nil] at hi; omega
      rcases hi3 with rfl | rfl | rfl
      · rw [rU_k (by decide), rU_k (by decide)]
        show rU (rW (rU S1 2281 6 4) 2286 (rU S1 2281 6 4 2281 6) (leb 1 t)) 2281 6 _ 2286 4 = t % 256
        rw [rU_f (by decide), rU_s, rW_i (by rw [leb_len]; omega)]
        rfl
      · rw [rU_k (by decide), show (4 : Int) + 1 = 5 from rfl, rU_s]
        exact hA 2285 _ (by decide) (by decide) (by decide) (by decide)
      · rw [show (4 : Int) + 2 = 6 from rfl, rU_s]
        exact hA 2285 _ (by decide) (by decide) (by decide) (by decide)
    · simp only [List.length_cons, List.length_nil] at hi
      rw [rW_i (by omega)]
      congr 1
      simp only [List.length_cons, List.length_nil]
      omega
  · exact IV_rA (IV_rpl hJ) hl (by rw [rpl_z]; omega)
  · rw [rA_o (by decide) (fun e => absurd e.1 (by decide)), rpl_o (by decide) (fun e => absurd e.1 (by decide))]
    exact hA 2285 _ (by decide) (by decide) (by decide) (by decide)
  · rw [rA_o (by decide) (fun e => h6 e.2), rpl_o (by decide) (fun e => h6 e.2)]
    exact hsz k h6 h7 h8 h9 h12 h92
  · have a5 : f ≠ 2281 := fun e => by rw [e] at a1; exact absurd a1 (by decide)
    rw [rA_o a2 (fun e => a5 e.1), rpl_o a2 (fun e => a5 e.1)]
    exact hA f k a5 a2 a3 a4
theorem RP_mk {t e : Int} {l : List Int} (h : RS T U S S1 p st) (he : S1 2281 7 = e) (hl : byt l) (hz : (l.length : Int) ≤ 400) : RP T U S (rA (rpl S1 t) l) e t l := RP_mk0 (fun f k h1 _ h2 h3 => h.1 f k h1 h2 h3) (fun k _ _ h8 h9 h12 _ => h.2.1 k h8 h9 h12) h.2.2.2.2.2.1 he hl hz
theorem RP_rfs {e : Int} (h : RS T U S S1 p st) (he : 1 ≤ e ∧ e ≤ 16) : RP T U S (rfs S1 e) e 107 (errL e) :=
  RP_mk0 (S1 := rU S1 2281 7 e) (fun f k h1 _ h2 h3 => (rU_f h1).trans (h.1 f k h1 h2 h3)) (fun k _ h7 h8 h9 h12 _ => (rU_k h7).trans (h.2.1 k h8 h9 h12)) (h.2.2.2.2.2.1.uN 7 7 rfl (by show 0 ≤ e ∧ e ≤ 20; omega)) rU_s (byt_errL e) (by have := errL_len he; omega)
end MPARSE
