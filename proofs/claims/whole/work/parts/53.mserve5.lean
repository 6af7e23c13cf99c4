/-! What the reference's servers answer: walks. -/
theorem T_266_232 : hTab 266 232 = some ((3, 14, 0, []), 234) := rfl
theorem T_266_234 : hTab 266 234 = some ((3, 7, 0, []), 236) := rfl
theorem T_266_236 : hTab 266 236 = some ((19, 3, Int.ofNat 281, []), 239) := rfl
theorem T_266_239 : hTab 266 239 = some ((3, 15, 0, []), 241) := rfl
theorem T_266_241 : hTab 266 241 = some ((18, 1, Int.ofNat 281, []), 244) := rfl
theorem T_266_244 : hTab 266 244 = some ((3, 0, 2, []), 245) := rfl
theorem T_266_245 : hTab 266 245 = some ((3, 1, 0, []), 246) := rfl
theorem T_266_246 : hTab 266 246 = some ((3, 13, 0, []), 248) := rfl
theorem T_266_248 : hTab 266 248 = some ((3, 12, 0, []), 250) := rfl
theorem T_266_250 : hTab 266 250 = some ((3, 14, 0, []), 252) := rfl
theorem T_266_252 : hTab 266 252 = some ((31, 267, 0, []), 255) := rfl
theorem T_266_255 : hTab 266 255 = some ((4, 15, 0, []), 257) := rfl
theorem T_266_257 : hTab 266 257 = some ((3, 15, 0, []), 259) := rfl
theorem T_266_259 : hTab 266 259 = some ((18, 1, Int.ofNat 232, []), 262) := rfl
theorem T_266_262 : hTab 266 262 = some ((3, 0, 2, []), 263) := rfl
theorem T_266_263 : hTab 266 263 = some ((24, 17, Int.ofNat 92, []), 266) := rfl
theorem T_266_266 : hTab 266 266 = some ((4, 13, 0, []), 268) := rfl
theorem T_266_268 : hTab 266 268 = some ((3, 0, 2, []), 269) := rfl
theorem T_266_269 : hTab 266 269 = some ((3, 1, 0, []), 270) := rfl
theorem T_266_270 : hTab 266 270 = some ((3, 13, 0, []), 272) := rfl
theorem T_266_272 : hTab 266 272 = some ((31, 264, 0, []), 275) := rfl
theorem T_266_275 : hTab 266 275 = some ((5, 14, 1, []), 278) := rfl
theorem T_266_278 : hTab 266 278 = some ((22, 0, Int.ofNat 232, []), 281) := rfl
theorem mN_266 : hmN 266 = 3 := by decide +kernel
theorem mL_266 : hmL 266 = 16 := by decide +kernel
theorem mK_266 : hmK 266 = 1 := by decide +kernel
theorem mO_266 : hmO 266 = 17 := by decide +kernel
/-- names in a message: where they end, and what they are -/
def wkE (a : Int → Int) (z : Int) : Nat → Int → Int
  | 0, p => p
  | m + 1, p => wkE a z m (sE a z p)
def wkS (a : Int → Int) (z : Int) : Nat → Int → List (Int × Int)
  | 0, _ => []
  | m + 1, p => if sE a z p < 0 then [] else (p + 2, nu a p 2) :: wkS a z m (sE a z p)
theorem wkE_neg {a : Int → Int} {z p : Int} (h : p < 0) : ∀ m, wkE a z m p < 0
  | 0 => h
  | m + 1 => wkE_neg (by rw [sE_neg h]; decide) m
theorem wkS_neg {a : Int → Int} {z p : Int} (h : p < 0) : ∀ m, wkS a z m p = []
  | 0 => rfl
  | m + 1 => by unfold wkS; rw [sE_neg h]; rfl
theorem wkS_len {a : Int → Int} {z : Int} : ∀ (m : Nat) (p : Int), 0 ≤ wkE a z m p → (wkS a z m p).length = m
  | 0, _, _ => rfl
  | m + 1, p, h => by
    unfold wkS
    by_cases q : sE a z p < 0
    · exact absurd (wkE_neg q m) (by show ¬ wkE a z (m + 1) p < 0; omega)
    · rw [if_neg q, List.length_cons, wkS_len m (sE a z p) h]
/-- rows but for numbers of the reading, as S has them; strings seen -/
def RW (T U : Int) (S S1 : qR) (st : List (Int × Int)) : Prop := (∀ (f : Nat) (k : Int), f ≠ 2281 → f ≠ 2287 → f ≠ 2288 → S1 f k = S f k) ∧ kS S1 S ∧ IV true T U S1 ∧ S1 2281 7 = S 2281 7 ∧ ∀ i : Nat, i < st.length → i < 8 → S1 2287 (i : Int) = (st.getD i (0, 0)).1 ∧ S1 2288 (i : Int) = (st.getD i (0, 0)).2
/-- each string lies in the message -/
def okS (z : Int) (st : List (Int × Int)) : Prop := ∀ i : Nat, i < st.length → 0 ≤ (st.getD i (0, 0)).1 ∧ 0 ≤ (st.getD i (0, 0)).2 ∧ (st.getD i (0, 0)).1 + (st.getD i (0, 0)).2 ≤ z
/-- a walk from a file on: how many names, where to, why not, the QIDs -/
def wlk (P : qR) (s u : Int) : List (List Int) → Int → Nat × Int × Int × List Int
  | [], n => (0, n, 0, [])
  | nm :: r, n => if qSt P s n u nm = 0 then ((wlk P s u r (qTo P s n nm)).1 + 1, (wlk P s u r (qTo P s n nm)).2.1, (wlk P s u r (qTo P s n nm)).2.2.1, qidL P s (qTo P s n nm) ++ (wlk P s u r (qTo P s n nm)).2.2.2) else (0, n, qSt P s n u nm, [])
def nms (a : Int → Int) (st : List (Int × Int)) : List (List Int) := st.map (fun x => seg a x.1 x.2.toNat)
section MSERVE5
variable {fb : Bool} {d : Nat} {σ0 σ : hM} {P S S1 : qR} {T U s n u c t p z : Int} {st : List (Int × Int)}
theorem RS.rw (h : RS T U S S1 p st) : RW T U S S1 st := ⟨h.1, fun k _ _ h8 h9 h12 _ => h.2.1 k h8 h9 h12, h.iv, h.sc (by decide), h.2.2.2.2.2.2.2⟩
theorem RW.step {v : Int} (h : RW T U S S1 st) (hv : -1 ≤ v ∧ v ≤ 143) : RW T U S (rU S1 2281 92 v) st := ⟨fun f k h1 h2 h3 => (rU_f h1).trans (h.1 f k h1 h2 h3), fun k h6 h7 h8 h9 h12 h92 => (rU_k h92).trans (h.2.1 k h6 h7 h8 h9 h12 h92), h.2.2.1.uN 92 92 rfl hv, (rU_k (by decide)).trans h.2.2.2.1, fun i h1 h2 => by rw [rU_f (by decide), rU_f (by decide)]; exact h.2.2.2.2 i h1 h2⟩
theorem rW_rU {W : qR} {f g : Nat} {o k v : Int} {l : List Int} (h : f ≠ g) : rU (rW W f o l) g k v = rW (rU W g k v) f o l := by
  funext a j
  unfold rU rW
  by_cases h1 : a = g ∧ j = k
  · rw [if_pos h1, if_neg (fun e => h (e.1.symm.trans h1.1))]
    exact (if_pos h1).symm
  · rw [if_neg h1]
    by_cases h2 : a = f ∧ o ≤ j ∧ j < o + l.length
    · rw [if_pos h2, if_pos h2]
    · rw [if_neg h2, if_neg h2]
      exact (if_neg h1).symm
theorem rA_st {W : qR} {l : List Int} {v : Int} : rU (rA W l) 2281 92 v = rA (rU W 2281 92 v) l := by
  have e : rU W 2281 92 v 2281 6 = W 2281 6 := rU_k (by decide)
  unfold rA
  rw [e, rU_comm (Or.inr (by decide)), rW_rU (by decide)]
theorem rU_ans {l : List Int} {v : Int} : rU (rA (rpl S1 t) l) 2281 92 v = rA (rpl (rU S1 2281 92 v) t) l := by
  rw [rA_st]
  congr 1
  have e5 : rU S1 2281 92 v 2285 5 = S1 2285 5 := rU_f (by decide)
  have e6 : rU S1 2281 92 v 2285 6 = S1 2285 6 := rU_f (by decide)
  unfold rpl
  rw [e5, e6, rU_comm (f1 := 2281) (k1 := 6) (Or.inr (by decide)), rU_comm (f1 := 2286) (k1 := 6) (Or.inl (by decide)), rU_comm (f1 := 2286) (k1 := 5) (Or.inl (by decide)), rA_st, rU_comm (f1 := 2281) (k1 := 6) (v1 := 4) (Or.inr (by decide))]
theorem rA_set0 {W : qR} {x v w : Int} {l : List Int} (h : W 2281 6 = w) : rU (rA W (x :: l)) 2286 w v = rA W (v :: l) := by
  subst h
  funext g j
  show (if g = 2286 ∧ j = W 2281 6 then v else rU (rW W 2286 (W 2281 6) (x :: l)) 2281 6 (W 2281 6 + (x :: l).length) g j) = rU (rW W 2286 (W 2281 6) (v :: l)) 2281 6 (W 2281 6 + (v :: l).length) g j
  by_cases h1 : g = 2286 ∧ j = W 2281 6
  · rw [if_pos h1, h1.1, h1.2, rU_f (by decide), rW_i ⟨Int.le_refl _, by rw [List.length_cons]; omega⟩, Int.sub_self]
    rfl
  · rw [if_neg h1]
    by_cases h2 : g = 2281 ∧ j = 6
    · rw [h2.1, h2.2, rU_s, rU_s, List.length_cons, List.length_cons]
    · rw [show ∀ W : qR, ∀ y, rU W 2281 6 y g j = W g j from fun W y => if_neg h2, show ∀ W : qR, ∀ y, rU W 2281 6 y g j = W g j from fun W y => if_neg h2]
      unfold rW
      rw [List.length_cons, List.length_cons]
      split
      · rename_i h3
        rw [lg_cons (by omega), lg_cons (by omega), if_neg (fun e => h1 ⟨h3.1, by omega⟩), if_neg (fun e => h1 ⟨h3.1, by omega⟩)]
      · rfl
theorem qMode_dir2 (h : qMode P 2 n < 0) : n = 0 ∨ n % 16 = 0 := by
  unfold qMode at h
  rw [if_neg (by decide)] at h
  split at h
  · omega
  · split at h
    · assumption
    · split at h <;> omega
theorem fiF_rng (nm : List Int) : ∀ (m : Nat) (f : Int), f + m = 64 → 1 ≤ f → -1 ≤ fiF P s n nm m f ∧ fiF P s n nm m f < 64
  | 0, f, _, _ => ⟨Int.le_refl _, by show (-1 : Int) < 64; decide⟩
  | m + 1, f, h1, h2 => by
    unfold fiF
    split
    · omega
    · exact fiF_rng nm m (f + 1) (by omega) (by omega)
theorem fiE_ok (nm : List Int) (hn : 0 ≤ n ∧ n < 144 ∧ (0 < n → n % 16 = 0)) : ∀ (m : Nat) (k : Int), 0 ≤ k → -1 ≤ fiE P n nm m k ∧ fiE P n nm m k < 144
  | 0, k, _ => ⟨Int.le_refl _, by show (-1 : Int) < 144; decide⟩
  | m + 1, k, h => by
    have hq := qEnt_ok (P := P) (s := 2) (n := n) (k := k) (by omega) (fun _ => hn.2.2) h
    unfold fiE
    split
    · rename_i q
      have := hq.2 q.1
      omega
    · exact fiE_ok nm hn m (k + 1) (by omega)
theorem qTo_ok {nm : List Int} (hI : IV false T U P) (h : okN s n) (hd : qMode P s n < 0) : -1 ≤ qTo P s n nm ∧ (0 ≤ qTo P s n nm → okN s (qTo P s n nm)) := by
  have hu := qUp_ok hI h
  unfold qTo
  split
  · exact ⟨by omega, fun _ => hu⟩
  · unfold qFind
    split
    · have := fiF_rng (P := P) (s := s) (n := n) nm 63 1 (by omega) (by omega)
      omega
    · rename_i q
      obtain rfl : s = 2 := by omega
      have := fiE_ok (P := P) (n := n) nm ⟨by omega, by omega, fun h0 => by rcases qMode_dir2 hd with h1 | h1 <;> omega⟩ 9 0 (by omega)
      omega
theorem qSt_v (P : qR) (s n u : Int) (nm : List Int) : (qSt P s n u nm = 0 ∧ qMode P s n < 0 ∧ ¬ qMv P s n u 1 = 0 ∧ 0 ≤ qTo P s n nm) ∨ (1 ≤ qSt P s n u nm ∧ qSt P s n u nm ≤ 3) := by
  unfold qSt
  split
  · omega
  · split
    · omega
    · split <;> omega
theorem m_stepW {k o y : Int} {l : List Int} (hP : PM σ0 P (rA (rpl S1 t) l) σ) (hI : IV false T U P) (hW : RW T U S S1 st) (hl : byt l) (hz : (l.length : Int) ≤ 400) (h : okN s n) (hk : 0 ≤ k ∧ k < 8) (ho : S1 2287 k = o) (hy : S1 2288 k = y) (h0 : 0 ≤ o ∧ 0 ≤ y ∧ o + y ≤ 512) : CL fb (d + 5) 267 [vR (some 2281), vI s, vI n, vI u, vI k] σ (fun r σ' => r = some (vI (qSt P s n u (seg (S 2285) o y.toNat))) ∧ ∃ S2, PM σ0 P (rA (rpl S2 t) l) σ' ∧ RW T U S S2 st ∧ (qSt P s n u (seg (S 2285) o y.toNat) = 0 → S2 2281 92 = qTo P s n (seg (S 2285) o y.toNat))) := by
  have hask : rA (rpl S1 t) l 2285 = S 2285 := funext (fun k => (rA_o (by decide) (fun e => absurd e.1 (by decide))).trans ((rpl_o (by decide) (fun e => absurd e.1 (by decide))).trans (hW.1 _ k (by decide) (by decide) (by decide))))
  have hrd : ∀ (f : Nat) (k : Int), f ≠ 2286 → f ≠ 2281 → rA (rpl S1 t) l f k = S1 f k := fun f k h1 h2 => (rA_o h1 (fun e => h2 e.1)).trans (rpl_o h1 (fun e => h2 e.1))
  have hm := m_step (fb := fb) (d := d) (u := u) hP hI (IV_ans hW.2.2.1 hl (by omega)) h (fun q1 q2 q3 => by subst q1; rcases qMode_dir2 q2 with q4 | q4 <;> omega) hk ((hrd _ _ (by decide) (by decide)).trans ho) ((hrd _ _ (by decide) (by decide)).trans hy) h0
  rw [hask] at hm
  refine CL.mono hm ?_
  rintro r σ1 ⟨e1, e2⟩
  refine ⟨e1, ?_⟩
  by_cases hc : qMode P s n < 0 ∧ ¬ qMv P s n u 1 = 0
  · rw [if_pos hc, rU_ans] at e2
    have hto := qTo_ok (nm := seg (S 2285) o y.toNat) hI h hc.1
    exact ⟨_, e2, hW.step (by omega), fun _ => rU_s⟩
  · rw [if_neg hc] at e2
    refine ⟨_, e2, hW, fun q => ?_⟩
    rcases qSt_v P s n u (seg (S 2285) o y.toNat) with q2 | q2
    · exact absurd ⟨q2.2.1, q2.2.2.1⟩ hc
    · omega
theorem m_walk_loop {v w nn old same k e : Int} {Q : Option AV → hM → Prop} (hI : IV false T U P) (hst : okS 512 st) (h8 : st.length ≤ 8) (hnn : nn = st.length) : ∀ (m : Nat) (dn node : Int) (l : List Int) (σ : hM) (S1 : qR) (o7 o8 : Option AV), dn + m = nn → 0 ≤ dn → PM σ0 P (rA (rpl S1 111) l) σ → RW T U S S1 st → byt l → (l.length : Int) = 2 + 13 * dn → okN s node →
    (∀ σ S1 l', PM σ0 P (rA (rpl S1 111) (l ++ l')) σ → RW T U S S1 st → byt l' → (l'.length : Int) ≤ 13 * m → l' = (wlk P s u ((nms (S 2285) st).drop dn.toNat) node).2.2.2 → okN s (wlk P s u ((nms (S 2285) st).drop dn.toNat) node).2.1 → WP fb (d + 6) 266 281 [some (vR (some 2281)), some (vI s), some (vI c), some (vL v), none, some (vL w), none, some (vI nn), some (vI old), some (vI same), some (vI k), some (vI e), some (vI u), some (vI (wlk P s u ((nms (S 2285) st).drop dn.toNat) node).2.1), some (vI (dn + ((wlk P s u ((nms (S 2285) st).drop dn.toNat) node).1 : Nat))), some (vI (wlk P s u ((nms (S 2285) st).drop dn.toNat) node).2.2.1)] [] σ Q) →
    WP fb (d + 6) 266 232 [some (vR (some 2281)), some (vI s), some (vI c), some (vL v), none, some (vL w), none, some (vI nn), some (vI old), some (vI same), some (vI k), some (vI e), some (vI u), some (vI node), some (vI dn), some (vI 0)] [] σ Q := by
  intro m
  induction m with
  | zero =>
    intro dn node l σ S1 o7 o8 hd hd0 hP hW hl hz hn hQ
    have hnil : (nms (S 2285) st).drop dn.toNat = [] := List.drop_eq_nil_of_le (by unfold nms; rw [List.length_map]; omega)
    rw [hnil] at hQ
    have h2 := hQ σ S1 [] (by rw [List.append_nil]; exact hP) hW byt_nil (by decide) rfl hn
    rw [show dn + (((wlk P s u [] node).1 : Nat) : Int) = dn from Int.add_zero dn] at h2
    refine x_li (z := dn) T_266_232 rfl ?_
    refine x_li (z := nn) T_266_234 rfl ?_
    refine x_ic2 T_266_236 (fun _ => ?_) (fun h => absurd (show nn ≤ dn by omega) h)
    exact h2
  | succ m ih =>
    intro dn node l σ S1 o7 o8 hd hd0 hP hW hl hz hn hQ
    have hlt : dn.toNat < st.length := by omega
    have hcons : (nms (S 2285) st).drop dn.toNat = seg (S 2285) (st.getD dn.toNat (0, 0)).1 (st.getD dn.toNat (0, 0)).2.toNat :: (nms (S 2285) st).drop (dn + 1).toNat := by
      have hg : st.getD dn.toNat (0, 0) = st[dn.toNat] := by
        rw [List.getD_eq_getElem?_getD, List.getElem?_eq_getElem hlt]
        rfl
      rw [hg, show (dn + 1).toNat = dn.toNat + 1 by omega]
      show (st.map (fun x => seg (S 2285) x.1 x.2.toNat)).drop dn.toNat = _ :: (st.map (fun x => seg (S 2285) x.1 x.2.toNat)).drop (dn.toNat + 1)
      rw [← List.map_drop, ← List.map_drop, List.drop_eq_getElem_cons hlt, List.map_cons]
    rw [hcons] at hQ
    have hs8 := hW.2.2.2.2 dn.toNat hlt (by omega)
    rw [Int.toNat_of_nonneg hd0] at hs8
    have hos := hst dn.toNat hlt
    obtain ⟨o, ho⟩ : ∃ o, (st.getD dn.toNat (0, 0)).1 = o := ⟨_, rfl⟩
    obtain ⟨y, hy⟩ : ∃ y, (st.getD dn.toNat (0, 0)).2 = y := ⟨_, rfl⟩
    rw [ho, hy] at hs8 hos
    rw [ho, hy] at hQ
    obtain ⟨nm, hnm⟩ : ∃ nm, nm = seg (S 2285) o y.toNat := ⟨_, rfl⟩
    rw [← hnm] at hQ
    have hstep := m_stepW (fb := fb) (d := d) (u := u) (n := node) (k := dn) hP hI hW hl (by omega) hn (by omega) hs8.1 hs8.2 (by omega)
    rw [← hnm] at hstep
    obtain ⟨r, hr⟩ : ∃ r, qSt P s node u nm = r := ⟨_, rfl⟩
    have hv := qSt_v P s node u nm
    rw [hr] at hstep hv
    by_cases hr0 : r = 0
    · subst hr0
      have hv := hv.resolve_right (by omega)
      have hto := (qTo_ok (nm := nm) hI hn hv.2.1).2 hv.2.2.2
      have hw : wlk P s u (nm :: (nms (S 2285) st).drop (dn + 1).toNat) node = ((wlk P s u ((nms (S 2285) st).drop (dn + 1).toNat) (qTo P s node nm)).1 + 1, (wlk P s u ((nms (S 2285) st).drop (dn + 1).toNat) (qTo P s node nm)).2.1, (wlk P s u ((nms (S 2285) st).drop (dn + 1).toNat) (qTo P s node nm)).2.2.1, qidL P s (qTo P s node nm) ++ (wlk P s u ((nms (S 2285) st).drop (dn + 1).toNat) (qTo P s node nm)).2.2.2) := if_pos hr
      rw [hw] at hQ
      refine x_li (z := dn) T_266_232 rfl ?_
      refine x_li (z := nn) T_266_234 rfl ?_
      refine x_ic2 T_266_236 (fun h => absurd (show nn ≤ dn from h) (by omega)) (fun _ => ?_)
      refine x_li (z := 0) T_266_239 rfl ?_
      refine x_if T_266_241 (fun h => absurd (show ¬ (0 : Int) = 0 from h) (by decide)) (fun _ => ?_)
      refine x_lr (z := some 2281) T_266_244 rfl ?_
      refine x_li (z := s) T_266_245 rfl ?_
      refine x_li (z := node) T_266_246 rfl ?_
      refine x_li (z := u) T_266_248 rfl ?_
      refine x_li (z := dn) T_266_250 rfl ?_
      refine x_cv5 T_266_252 mN_267 mL_267 (Nat.le_of_ble_eq_true rfl) mO_267 (PM.t hP) (Nat.le_of_ble_eq_true rfl) (hstep) ?_
      rintro _ σ ⟨rfl, S1, hP, hW, hS⟩
      have hS := hS rfl
      have hz7 : rA (rpl S1 111) l 2281 6 = 7 + (2 + 13 * dn) := rA_zn hz rpl_z
      refine cI ?_
      refine x_si (ls1 := [some (vR (some 2281)), some (vI s), some (vI c), some (vL v), none, some (vL w), none, some (vI nn), some (vI old), some (vI same), some (vI k), some (vI e), some (vI u), some (vI node), some (vI dn), some (vI 0)]) T_266_255 rfl ?_
      refine x_li (z := 0) T_266_257 rfl ?_
      refine x_if T_266_259 (fun h => absurd (show ¬ (0 : Int) = 0 from h) (by decide)) (fun _ => ?_)
      refine x_lr (z := some 2281) T_266_262 rfl ?_
      refine x_gI (z := qTo P s node nm) T_266_263 (Or.inl F_17_92) (PM.t hP) ((PM.nS hP 2281 92 92 rfl rfl rfl).trans ((rA_o (Nat.ne_of_beq_eq_false rfl) (by decide)).trans ((rpl_o (Nat.ne_of_beq_eq_false rfl) (by decide)).trans hS))) ?_
      refine x_si (ls1 := [some (vR (some 2281)), some (vI s), some (vI c), some (vL v), none, some (vL w), none, some (vI nn), some (vI old), some (vI same), some (vI k), some (vI e), some (vI u), some (vI (qTo P s node nm)), some (vI dn), some (vI 0)]) T_266_266 rfl ?_
      refine x_lr (z := some 2281) T_266_268 rfl ?_
      refine x_li (z := s) T_266_269 rfl ?_
      refine x_li (z := qTo P s node nm) T_266_270 rfl ?_
      refine x_cv3 T_266_272 mN_264 mL_264 (Nat.le_of_ble_eq_true rfl) mO_264 (PM.t hP) (Nat.le_of_ble_eq_true rfl) (m_putQid hP hto hz7 (by omega)) ?_
      rintro _ σ ⟨rfl, hP⟩
      refine cV ?_
      refine x_inc (w := (dn + 1)) (ls1 := [some (vR (some 2281)), some (vI s), some (vI c), some (vL v), none, some (vL w), none, some (vI nn), some (vI old), some (vI same), some (vI k), some (vI e), some (vI u), some (vI (qTo P s node nm)), some (vI (dn + 1)), some (vI 0)]) T_266_275 rfl (w32_id (by omega) (by omega)) rfl ?_
      refine x_goto T_266_278 ?_
      rw [rA_rA] at hP
      refine ih (dn + 1) (qTo P s node nm) (l ++ qidL P s (qTo P s node nm)) σ S1 o7 o8 (by omega) (by omega) hP hW (byt_app hl (byt_qidL _ _ _)) (by rw [List.length_append]; have := qidL_len P s (qTo P s node nm); omega) hto (fun σ S1 l2 q1 q2 q3 q4 q5 q6 => ?_)
      have h3 := hQ σ S1 (qidL P s (qTo P s node nm) ++ l2) (by rw [← List.append_assoc]; exact q1) q2 (byt_app (byt_qidL _ _ _) q3) (by rw [List.length_append]; have := qidL_len P s (qTo P s node nm); omega) (by rw [q5]) q6
      rw [show dn + 1 + (((wlk P s u ((nms (S 2285) st).drop (dn + 1).toNat) (qTo P s node nm)).1 : Nat) : Int) = dn + (((wlk P s u ((nms (S 2285) st).drop (dn + 1).toNat) (qTo P s node nm)).1 + 1 : Nat) : Int) by omega]
      exact h3
    · have hw : wlk P s u (nm :: (nms (S 2285) st).drop (dn + 1).toNat) node = (0, node, r, []) := by
        unfold wlk
        rw [hr, if_neg hr0]
      rw [hw] at hQ
      refine x_li (z := dn) T_266_232 rfl ?_
      refine x_li (z := nn) T_266_234 rfl ?_
      refine x_ic2 T_266_236 (fun h => absurd (show nn ≤ dn from h) (by omega)) (fun _ => ?_)
      refine x_li (z := 0) T_266_239 rfl ?_
      refine x_if T_266_241 (fun h => absurd (show ¬ (0 : Int) = 0 from h) (by decide)) (fun _ => ?_)
      refine x_lr (z := some 2281) T_266_244 rfl ?_
      refine x_li (z := s) T_266_245 rfl ?_
      refine x_li (z := node) T_266_246 rfl ?_
      refine x_li (z := u) T_266_248 rfl ?_
      refine x_li (z := dn) T_266_250 rfl ?_
      refine x_cv5 T_266_252 mN_267 mL_267 (Nat.le_of_ble_eq_true rfl) mO_267 (PM.t hP) (Nat.le_of_ble_eq_true rfl) (hstep) ?_
      rintro _ σ ⟨rfl, S1, hP, hW, hS⟩
      refine cI ?_
      refine x_si (ls1 := [some (vR (some 2281)), some (vI s), some (vI c), some (vL v), none, some (vL w), none, some (vI nn), some (vI old), some (vI same), some (vI k), some (vI e), some (vI u), some (vI node), some (vI dn), some (vI r)]) T_266_255 rfl ?_
      refine x_li (z := r) T_266_257 rfl ?_
      refine x_if T_266_259 (fun _ => ?_) (fun h => absurd (show ¬ r = 0 by exact hr0) h)
      refine x_li (z := dn) T_266_232 rfl ?_
      refine x_li (z := nn) T_266_234 rfl ?_
      refine x_ic2 T_266_236 (fun h => absurd (show nn ≤ dn from h) (by omega)) (fun _ => ?_)
      refine x_li (z := r) T_266_239 rfl ?_
      refine x_if T_266_241 (fun _ => ?_) (fun h => absurd (show ¬ r = 0 by exact hr0) h)
      have h3 := hQ σ S1 [] (by rw [List.append_nil]; exact hP) hW byt_nil (by show (0 : Int) ≤ _; omega) rfl hn
      rw [show dn + (((0 : Nat)) : Int) = dn from Int.add_zero dn] at h3
      exact h3
end MSERVE5
