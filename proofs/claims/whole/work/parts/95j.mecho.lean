/-! echo: what the words say, told or written. -/
theorem T_354_138 : hTab 354 138 = some ((3, 5, 0, []), 140) := rfl
theorem T_354_140 : hTab 354 140 = some ((3, 4, 0, []), 142) := rfl
theorem T_354_142 : hTab 354 142 = some ((19, 3, Int.ofNat 200, []), 145) := rfl
theorem T_354_145 : hTab 354 145 = some ((0, 0, 0, []), 146) := rfl
theorem T_354_146 : hTab 354 146 = some ((4, 6, 0, []), 148) := rfl
theorem T_354_148 : hTab 354 148 = some ((3, 6, 0, []), 150) := rfl
theorem T_354_150 : hTab 354 150 = some ((3, 0, 2, []), 151) := rfl
theorem T_354_151 : hTab 354 151 = some ((3, 5, 0, []), 153) := rfl
theorem T_354_153 : hTab 354 153 = some ((31, 318, 0, []), 156) := rfl
theorem T_354_156 : hTab 354 156 = some ((19, 3, Int.ofNat 178, []), 159) := rfl
theorem T_354_159 : hTab 354 159 = some ((3, 0, 2, []), 160) := rfl
theorem T_354_160 : hTab 354 160 = some ((3, 1, 0, []), 161) := rfl
theorem T_354_161 : hTab 354 161 = some ((3, 0, 2, []), 162) := rfl
theorem T_354_162 : hTab 354 162 = some ((3, 5, 0, []), 164) := rfl
theorem T_354_164 : hTab 354 164 = some ((3, 6, 0, []), 166) := rfl
theorem T_354_166 : hTab 354 166 = some ((31, 319, 0, []), 169) := rfl
theorem T_354_169 : hTab 354 169 = some ((31, 351, 0, []), 172) := rfl
theorem T_354_172 : hTab 354 172 = some ((5, 6, 1, []), 175) := rfl
theorem T_354_175 : hTab 354 175 = some ((22, 0, Int.ofNat 148, []), 178) := rfl
theorem T_354_178 : hTab 354 178 = some ((3, 5, 0, []), 180) := rfl
theorem T_354_180 : hTab 354 180 = some ((0, 0, 1, []), 181) := rfl
theorem T_354_181 : hTab 354 181 = some ((10, 0, 0, []), 182) := rfl
theorem T_354_182 : hTab 354 182 = some ((3, 4, 0, []), 184) := rfl
theorem T_354_184 : hTab 354 184 = some ((19, 3, Int.ofNat 194, []), 187) := rfl
theorem T_354_187 : hTab 354 187 = some ((3, 0, 2, []), 188) := rfl
theorem T_354_188 : hTab 354 188 = some ((3, 1, 0, []), 189) := rfl
theorem T_354_189 : hTab 354 189 = some ((0, 0, 32, []), 191) := rfl
theorem T_354_191 : hTab 354 191 = some ((31, 351, 0, []), 194) := rfl
theorem T_354_194 : hTab 354 194 = some ((5, 5, 1, []), 197) := rfl
theorem T_354_197 : hTab 354 197 = some ((22, 0, Int.ofNat 138, []), 200) := rfl
theorem mN_354 : hmN 354 = 2 := by decide +kernel
theorem mL_354 : hmL 354 = 10 := by decide +kernel
theorem mK_354 : hmK 354 = 1 := by decide +kernel
theorem mO_354 : hmO 354 = 17 := by decide +kernel
def totW (ws : List (Int × Int)) : Int := ws.foldr (fun x t => x.2 - x.1 + 1 + t) 0
/-- the words from w on, m of them, end is behind the last -/
def ecT (l : List Int) (z : Int) (w : Int) : Nat → List Int
  | 0 => []
  | m + 1 => lnB l w ++ (if w + 1 < z then [32] else []) ++ ecT l z (w + 1) m
section MECHO
variable {fb : Bool} {d : Nat} {σ0 σ : hM} {P Q R S S1 S2 : qR} {T U s w g u p k e t z o thr pt off n : Int} {l l1 l2 nm wd A : List Int} {h : List Ch} {a f : Int → Int} {x : Int × Int} {c : Ch} {fr fd md n0 : Int}
theorem spE_stop {f : Int → Int} : ∀ (m : Nat) (e : Int), z ≤ e + m → e ≤ z → f (spE f z m e) = 32 ∨ spE f z m e = z
  | 0, e, h1, h2 => Or.inr (by show e = z; omega)
  | m + 1, e, h1, h2 => by
    unfold spE
    by_cases q : e < z ∧ ¬ f e = 32
    · rw [if_pos q]
      exact spE_stop m (e + 1) (by omega) (by omega)
    · rw [if_neg q]
      by_cases q2 : e < z
      · by_cases q3 : f e = 32
        · exact Or.inl q3
        · exact absurd ⟨q2, q3⟩ q
      · exact Or.inr (by omega)
theorem totW_sp {f : Int → Int} : ∀ (m : Nat) (k : Int), 0 ≤ k → k ≤ z → totW (spW f z m k) ≤ z - k + 1 ∧ ((f k = 32 ∨ k = z) → totW (spW f z m k) ≤ z - k)
  | 0, k, h0, h1 => by
    show (0 : Int) ≤ z - k + 1 ∧ (_ → (0 : Int) ≤ z - k)
    exact ⟨by omega, fun _ => by omega⟩
  | m + 1, k, h0, h1 => by
    unfold spW
    by_cases q : z ≤ k
    · rw [if_pos q]
      show (0 : Int) ≤ z - k + 1 ∧ (_ → (0 : Int) ≤ z - k)
      exact ⟨by omega, fun _ => by omega⟩
    · rw [if_neg q]
      by_cases q2 : f k = 32
      · rw [if_pos q2]
        have := (totW_sp (f := f) m (k + 1) (by omega) (by omega)).1
        exact ⟨by omega, fun _ => by omega⟩
      · rw [if_neg q2]
        have r1 := (spE_rng (f := f) (z := z) z.toNat k).2 h1
        have r0 := (spE_rng (f := f) (z := z) z.toNat k).1
        have r2 := spE_stop (f := f) z.toNat k (by omega) h1
        have r3 := (totW_sp (f := f) m (spE f z z.toNat k) (by omega) r1).2 r2
        show spE f z z.toNat k - k + 1 + totW (spW f z m (spE f z z.toNat k)) ≤ z - k + 1 ∧ (_ → spE f z z.toNat k - k + 1 + totW (spW f z m (spE f z z.toNat k)) ≤ z - k)
        refine ⟨by omega, fun q3 => ?_⟩
        rcases q3 with q3 | q3
        · exact absurd q3 q2
        · omega
theorem totW_nn : ∀ ws : List (Int × Int), (∀ x ∈ ws, x.1 < x.2) → 0 ≤ totW ws
  | [], _ => Int.le_refl _
  | x :: ws, h => by
    have := totW_nn ws (fun y hy => h y (List.mem_cons_of_mem _ hy))
    have := h x List.mem_cons_self
    show 0 ≤ x.2 - x.1 + 1 + totW ws
    omega
theorem ecT_len (hl : l.length ≤ 100) : ∀ (m : Nat) (w : Int), 0 ≤ w → w + m ≤ (lnW l).length → 0 ≤ totW ((lnW l).drop (w.toNat + m)) ∧ ((ecT l z w m).length : Int) + totW ((lnW l).drop (w.toNat + m)) ≤ totW ((lnW l).drop w.toNat)
  | 0, w, h0, h1 => by
    refine ⟨totW_nn _ (fun x hx => ?_), ?_⟩
    · obtain ⟨i, hi, he⟩ := List.getElem_of_mem (List.mem_of_mem_drop hx)
      have := ((lnW_ok hl).1 i hi).2.1
      rw [List.getD_eq_getElem?_getD, List.getElem?_eq_getElem hi] at this
      rw [← he]
      exact this
    · show ((0 : Nat) : Int) + totW ((lnW l).drop (w.toNat + 0)) ≤ totW ((lnW l).drop w.toNat)
      rw [Nat.add_zero]
      omega
  | m + 1, w, h0, h1 => by
    have hi : w.toNat < (lnW l).length := by omega
    obtain ⟨i1, i2⟩ := ecT_len hl m (w + 1) (by omega) (by omega)
    have e0 : (w + 1).toNat + m = w.toNat + (m + 1) := by omega
    rw [e0] at i1 i2
    refine ⟨i1, ?_⟩
    have hd : (lnW l).drop w.toNat = (lnW l)[w.toNat] :: (lnW l).drop (w.toNat + 1) := List.drop_eq_getElem_cons hi
    have hb := (lnW_ok hl).1 w.toNat hi
    have hlen : ((lnB l w).length : Int) = ((lnW l).getD w.toNat (0, 0)).2 - ((lnW l).getD w.toNat (0, 0)).1 := by
      unfold lnB
      rw [seg_len]
      omega
    have hg : (lnW l).getD w.toNat (0, 0) = (lnW l)[w.toNat] := by
      rw [List.getD_eq_getElem?_getD, List.getElem?_eq_getElem hi]
      rfl
    rw [hd]
    show _ ≤ (lnW l)[w.toNat].2 - (lnW l)[w.toNat].1 + 1 + totW ((lnW l).drop (w.toNat + 1))
    rw [show (w + 1).toNat = w.toNat + 1 by omega] at i2
    rw [hg] at hlen
    unfold ecT
    rw [List.length_append, List.length_append]
    have : ((if w + 1 < z then [(32 : Int)] else []).length : Int) ≤ 1 := by split <;> decide
    omega
theorem ecT_100 (hl : l.length ≤ 100) {m : Nat} (h0 : 0 ≤ w) (h1 : w + m ≤ (lnW l).length) : ((ecT l z w m).length : Int) ≤ 101 := by
  obtain ⟨i1, i2⟩ := ecT_len (z := z) hl m w h0 h1
  obtain ⟨j1, j2⟩ := ecT_len (z := z) hl w.toNat 0 (by decide) (by omega)
  have j3 := (totW_sp (f := lg l) (z := (l.length : Int)) l.length 0 (by decide) (by omega)).1
  rw [show (0 : Int).toNat + w.toNat = w.toNat by omega] at j2
  have e : totW ((lnW l).drop (0 : Int).toNat) ≤ (l.length : Int) - 0 + 1 := j3
  omega
theorem ecT_b (hL : LN S l) : ∀ (m : Nat) (w : Int), byt (ecT l z w m)
  | 0, w => byt_nil
  | m + 1, w => byt_app (byt_app (fun k hk => lnB_b hL hk) (by split; exact byt_cons (by decide) byt_nil; exact byt_nil)) (ecT_b hL m (w + 1))
theorem m_echo_in {v2 v3 : Int} (hL : LN S l) (hw : 0 ≤ w ∧ w < ((lnW l).length : Int)) (hp : 0 ≤ p ∧ p < 8) (hn : n = ((lnB l w).length : Int)) {Q : Option AV → hM → Prop} (hQ : ∀ σ : hM, PM σ0 (gOut P p (l1 ++ lnB l w)) S σ → GI T U (gOut P p (l1 ++ lnB l w)) → WP fb (d + 1) 354 178 [some (vR (some 2281)), some (vI p), some (vI v2), some (vI v3), some (vI z), some (vI w), some (vI n), none, none, none] [] σ Q) : ∀ (m : Nat) (k : Int) (σ : hM), k + m = n → 0 ≤ k → PM σ0 (gOut P p (l1 ++ (lnB l w).take k.toNat)) S σ → GI T U (gOut P p (l1 ++ (lnB l w).take k.toNat)) → WP fb (d + 1) 354 148 [some (vR (some 2281)), some (vI p), some (vI v2), some (vI v3), some (vI z), some (vI w), some (vI k), none, none, none] [] σ Q := by
  have h100 := lnB_len hL.2.1 hw
  intro m
  induction m with
  | zero =>
    intro k σ h1 h2 hP hG
    have hk : k = n := by omega
    rw [show (lnB l w).take k.toNat = lnB l w by rw [List.take_of_length_le (by omega)]] at hP hG
    subst hk
    have hgo := hQ σ hP hG
    have hsz := fun (σ : hM) (hP : PM σ0 (gOut P p (l1 ++ lnB l w)) S σ) => CL_val (m_size (fb := fb) (d := d) hP hL hw) hn.symm
    refine x_li (z := k) T_354_148 rfl ?_
    refine x_lr (z := some 2281) T_354_150 rfl ?_
    refine x_li (z := w) T_354_151 rfl ?_
    refine x_cv2 T_354_153 mN_318 mL_318 (Nat.le_of_ble_eq_true rfl) mO_318 (PM.t hP) (Nat.le_of_ble_eq_true rfl) (hsz σ hP) ?_
    rintro _ σ ⟨rfl, rfl⟩
    refine cI ?_
    refine x_ic2 T_354_156 (fun _ => ?_) (fun h => absurd (show k ≤ k by omega) h)
    exact hgo
  | succ m ih =>
    intro k σ h1 h2 hP hG
    have hx := lnB_b hL (w := w) (k := k) h2
    have e1 : (lnB l w).take (k + 1).toNat = (lnB l w).take k.toNat ++ [lg (lnB l w) k] := by
      rw [show (k + 1).toNat = k.toNat + 1 by omega, List.take_add_one, List.getElem?_eq_getElem (show k.toNat < (lnB l w).length by omega)]
      unfold lg
      rw [List.getD_eq_getElem?_getD, List.getElem?_eq_getElem (show k.toNat < (lnB l w).length by omega)]
      rfl
    have hsz := fun (σ : hM) (hP : PM σ0 (gOut P p (l1 ++ (lnB l w).take k.toNat)) S σ) => CL_val (m_size (fb := fb) (d := d) hP hL hw) hn.symm
    have hsg := fun (σ : hM) (hP : PM σ0 (gOut P p (l1 ++ (lnB l w).take k.toNat)) S σ) => m_sign (fb := fb) (d := d) (k := k) hP hL hw ⟨h2, by omega⟩
    have ht := fun (σ : hM) (hP : PM σ0 (gOut P p (l1 ++ (lnB l w).take k.toNat)) S σ) => m_tell (fb := fb) (d := d) (b := lg (lnB l w) k) hP hG.iv hp
    have hgo := fun (σ : hM) (hP : PM σ0 (gTell (gOut P p (l1 ++ (lnB l w).take k.toNat)) p (lg (lnB l w) k)) S σ) => ih (k + 1) σ (by omega) (by omega) (by rw [e1, ← List.append_assoc, gOut_snoc]; exact hP) (by rw [e1, ← List.append_assoc]; exact GO_snoc hG hp hx)
    refine x_li (z := k) T_354_148 rfl ?_
    refine x_lr (z := some 2281) T_354_150 rfl ?_
    refine x_li (z := w) T_354_151 rfl ?_
    refine x_cv2 T_354_153 mN_318 mL_318 (Nat.le_of_ble_eq_true rfl) mO_318 (PM.t hP) (Nat.le_of_ble_eq_true rfl) (hsz σ hP) ?_
    rintro _ σ ⟨rfl, rfl⟩
    refine cI ?_
    refine x_ic2 T_354_156 (fun h => absurd (show n ≤ k from h) (by omega)) (fun _ => ?_)
    refine x_lr (z := some 2281) T_354_159 rfl ?_
    refine x_li (z := p) T_354_160 rfl ?_
    refine x_lr (z := some 2281) T_354_161 rfl ?_
    refine x_li (z := w) T_354_162 rfl ?_
    refine x_li (z := k) T_354_164 rfl ?_
    refine x_cv3 T_354_166 mN_319 mL_319 (Nat.le_of_ble_eq_true rfl) mO_319 (PM.t hP) (Nat.le_of_ble_eq_true rfl) (hsg σ hP) ?_
    rintro _ σ ⟨rfl, rfl⟩
    refine cI ?_
    refine x_cv3 T_354_169 mN_351 mL_351 (Nat.le_of_ble_eq_true rfl) mO_351 (PM.t hP) (Nat.le_of_ble_eq_true rfl) (ht σ hP) ?_
    clear hP ht
    rintro _ σ ⟨rfl, hP⟩
    refine cV ?_
    refine x_inc (w := (k + 1)) (ls1 := [some (vR (some 2281)), some (vI p), some (vI v2), some (vI v3), some (vI z), some (vI w), some (vI (k + 1)), none, none, none]) T_354_172 rfl (w32_id (by omega) (by omega)) rfl ?_
    refine x_goto T_354_175 ?_
    exact hgo σ hP
theorem m_echo_out {v2 v3 : Int} (hL : LN S l) (hp : 0 ≤ p ∧ p < 8) (hz : z = ((lnW l).length : Int)) {Q : Option AV → hM → Prop} : ∀ (m : Nat) (w : Int) (l1 : List Int) (l6 : Option AV) (σ : hM), w + m = z → 0 ≤ w → PM σ0 (gOut P p l1) S σ → GI T U (gOut P p l1) → (∀ (l6 : Option AV) (σ : hM), PM σ0 (gOut P p (l1 ++ ecT l z w m)) S σ → GI T U (gOut P p (l1 ++ ecT l z w m)) → WP fb (d + 1) 354 200 [some (vR (some 2281)), some (vI p), some (vI v2), some (vI v3), some (vI z), some (vI z), l6, none, none, none] [] σ Q) → WP fb (d + 1) 354 138 [some (vR (some 2281)), some (vI p), some (vI v2), some (vI v3), some (vI z), some (vI w), l6, none, none, none] [] σ Q := by
  have h50 := (lnW_ok hL.2.1).2
  intro m
  induction m with
  | zero =>
    intro w l1 l6 σ h1 h2 hP hG hQ
    have hw : w = z := by omega
    subst hw
    have hgo := hQ l6 σ (by rw [show ecT l w w 0 = [] from rfl, List.append_nil]; exact hP) (by rw [show ecT l w w 0 = [] from rfl, List.append_nil]; exact hG)
    refine x_li (z := w) T_354_138 rfl ?_
    refine x_li (z := w) T_354_140 rfl ?_
    refine x_ic2 T_354_142 (fun _ => ?_) (fun h => absurd (show w ≤ w by omega) h)
    exact hgo
  | succ m ih =>
    intro w l1 l6 σ h1 h2 hP hG hQ
    obtain ⟨n, hn⟩ : ∃ n, n = ((lnB l w).length : Int) := ⟨_, rfl⟩
    refine x_li (z := w) T_354_138 rfl ?_
    refine x_li (z := z) T_354_140 rfl ?_
    refine x_ic2 T_354_142 (fun h => absurd (show z ≤ w from h) (by omega)) (fun _ => ?_)
    refine x_ic T_354_145 ?_
    refine x_si (ls1 := [some (vR (some 2281)), some (vI p), some (vI v2), some (vI v3), some (vI z), some (vI w), some (vI 0), none, none, none]) T_354_146 rfl ?_
    refine m_echo_in (d := d) hL (w := w) (by omega) hp hn ?_ n.toNat 0 σ (by omega) (by decide) (by rw [show (0 : Int).toNat = 0 from rfl, List.take_zero, List.append_nil]; exact hP) (by rw [show (0 : Int).toNat = 0 from rfl, List.take_zero, List.append_nil]; exact hG)
    clear hP
    intro σ hP hG1
    by_cases q : w + 1 < z
    · have e1 : l1 ++ ecT l z w (m + 1) = (l1 ++ lnB l w ++ [32]) ++ ecT l z (w + 1) m := by
        conv => lhs; unfold ecT
        rw [if_pos q]
        simp only [List.append_assoc]
      rw [e1] at hQ
      have ht := fun (σ : hM) (hP : PM σ0 (gOut P p (l1 ++ lnB l w)) S σ) => m_tell (fb := fb) (d := d) (b := 32) hP hG1.iv hp
      have hgo := fun (σ : hM) (l6 : Option AV) (hP : PM σ0 (gTell (gOut P p (l1 ++ lnB l w)) p 32) S σ) => ih (w + 1) (l1 ++ lnB l w ++ [32]) l6 σ (by omega) (by omega) (by rw [gOut_snoc]; exact hP) (GO_snoc hG1 hp (by decide)) hQ
      refine x_li (z := w) T_354_178 rfl ?_
      refine x_ic T_354_180 ?_
      refine x_ib (w := (w + 1)) T_354_181 (fun h => absurd h.1 (by decide)) (w32_id (by omega) (by omega)) ?_
      refine x_li (z := z) T_354_182 rfl ?_
      refine x_ic2 T_354_184 (fun h => absurd (show z ≤ (w + 1) from h) (by omega)) (fun _ => ?_)
      refine x_lr (z := some 2281) T_354_187 rfl ?_
      refine x_li (z := p) T_354_188 rfl ?_
      refine x_ic T_354_189 ?_
      refine x_cv3 T_354_191 mN_351 mL_351 (Nat.le_of_ble_eq_true rfl) mO_351 (PM.t hP) (Nat.le_of_ble_eq_true rfl) (ht σ hP) ?_
      clear hP ht
      rintro _ σ ⟨rfl, hP⟩
      refine cV ?_
      refine x_inc (w := (w + 1)) (ls1 := [some (vR (some 2281)), some (vI p), some (vI v2), some (vI v3), some (vI z), some (vI (w + 1)), some (vI n), none, none, none]) T_354_194 rfl (w32_id (by omega) (by omega)) rfl ?_
      refine x_goto T_354_197 ?_
      exact hgo σ _ hP
    · have e1 : l1 ++ ecT l z w (m + 1) = (l1 ++ lnB l w) ++ ecT l z (w + 1) m := by
        conv => lhs; unfold ecT
        rw [if_neg q]
        simp only [List.append_assoc, List.append_nil]
      rw [e1] at hQ
      have hgo := fun (σ : hM) (l6 : Option AV) (hP : PM σ0 (gOut P p (l1 ++ lnB l w)) S σ) => ih (w + 1) (l1 ++ lnB l w) l6 σ (by omega) (by omega) hP hG1 hQ
      refine x_li (z := w) T_354_178 rfl ?_
      refine x_ic T_354_180 ?_
      refine x_ib (w := (w + 1)) T_354_181 (fun h => absurd h.1 (by decide)) (w32_id (by omega) (by omega)) ?_
      refine x_li (z := z) T_354_182 rfl ?_
      refine x_ic2 T_354_184 (fun _ => ?_) (fun h => absurd (show z ≤ (w + 1) by omega) h)
      refine x_inc (w := (w + 1)) (ls1 := [some (vR (some 2281)), some (vI p), some (vI v2), some (vI v3), some (vI z), some (vI (w + 1)), some (vI n), none, none, none]) T_354_194 rfl (w32_id (by omega) (by omega)) rfl ?_
      refine x_goto T_354_197 ?_
      exact hgo σ _ hP
end MECHO
