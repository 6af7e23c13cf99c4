/-! The class's servers: a directory is read. -/
theorem T_68_151 : hTab 68 151 = some ((3, 9, 0, []), 153) := rfl
theorem T_68_153 : hTab 68 153 = some ((3, 0, 2, []), 154) := rfl
theorem T_68_154 : hTab 68 154 = some ((24, 7, Int.ofNat 6, []), 157) := rfl
theorem T_68_157 : hTab 68 157 = some ((19, 3, Int.ofNat 244, []), 160) := rfl
theorem T_68_160 : hTab 68 160 = some ((3, 0, 2, []), 161) := rfl
theorem T_68_161 : hTab 68 161 = some ((24, 7, Int.ofNat 2, []), 164) := rfl
theorem T_68_164 : hTab 68 164 = some ((3, 9, 0, []), 166) := rfl
theorem T_68_166 : hTab 68 166 = some ((26, 10, 0, []), 167) := rfl
theorem T_68_167 : hTab 68 167 = some ((24, 8, Int.ofNat 1, []), 170) := rfl
theorem T_68_170 : hTab 68 170 = some ((3, 2, 2, []), 171) := rfl
theorem T_68_171 : hTab 68 171 = some ((21, 0, Int.ofNat 177, []), 174) := rfl
theorem T_68_174 : hTab 68 174 = some ((22, 0, Int.ofNat 238, []), 177) := rfl
theorem T_68_177 : hTab 68 177 = some ((5, 8, 1, []), 180) := rfl
theorem T_68_180 : hTab 68 180 = some ((3, 8, 0, []), 182) := rfl
theorem T_68_182 : hTab 68 182 = some ((3, 7, 0, []), 184) := rfl
theorem T_68_184 : hTab 68 184 = some ((19, 5, Int.ofNat 238, []), 187) := rfl
theorem T_68_187 : hTab 68 187 = some ((3, 0, 2, []), 188) := rfl
theorem T_68_188 : hTab 68 188 = some ((24, 7, Int.ofNat 10, []), 191) := rfl
theorem T_68_191 : hTab 68 191 = some ((31, 28, 0, []), 194) := rfl
theorem T_68_194 : hTab 68 194 = some ((0, 0, 11, []), 196) := rfl
theorem T_68_196 : hTab 68 196 = some ((10, 1, 0, []), 197) := rfl
theorem T_68_197 : hTab 68 197 = some ((3, 0, 2, []), 198) := rfl
theorem T_68_198 : hTab 68 198 = some ((24, 7, Int.ofNat 2, []), 201) := rfl
theorem T_68_201 : hTab 68 201 = some ((3, 9, 0, []), 203) := rfl
theorem T_68_203 : hTab 68 203 = some ((26, 10, 0, []), 204) := rfl
theorem T_68_204 : hTab 68 204 = some ((31, 76, 0, []), 207) := rfl
theorem T_68_207 : hTab 68 207 = some ((10, 0, 0, []), 208) := rfl
theorem T_68_208 : hTab 68 208 = some ((14, 0, 0, []), 209) := rfl
theorem T_68_209 : hTab 68 209 = some ((3, 3, 1, []), 210) := rfl
theorem T_68_210 : hTab 68 210 = some ((17, 0, 0, []), 211) := rfl
theorem T_68_211 : hTab 68 211 = some ((18, 5, Int.ofNat 217, []), 214) := rfl
theorem T_68_214 : hTab 68 214 = some ((22, 0, Int.ofNat 244, []), 217) := rfl
theorem T_68_217 : hTab 68 217 = some ((3, 0, 2, []), 218) := rfl
theorem T_68_218 : hTab 68 218 = some ((3, 0, 2, []), 219) := rfl
theorem T_68_219 : hTab 68 219 = some ((24, 7, Int.ofNat 2, []), 222) := rfl
theorem T_68_222 : hTab 68 222 = some ((3, 9, 0, []), 224) := rfl
theorem T_68_224 : hTab 68 224 = some ((26, 10, 0, []), 225) := rfl
theorem T_68_225 : hTab 68 225 = some ((31, 77, 0, []), 228) := rfl
theorem T_68_228 : hTab 68 228 = some ((3, 1, 2, []), 229) := rfl
theorem T_68_229 : hTab 68 229 = some ((6, 0, 0, []), 230) := rfl
theorem T_68_230 : hTab 68 230 = some ((24, 9, Int.ofNat 8, []), 233) := rfl
theorem T_68_233 : hTab 68 233 = some ((0, 0, 1, []), 234) := rfl
theorem T_68_234 : hTab 68 234 = some ((10, 0, 0, []), 235) := rfl
theorem T_68_235 : hTab 68 235 = some ((25, 9, Int.ofNat 8, []), 238) := rfl
theorem T_68_238 : hTab 68 238 = some ((5, 9, 1, []), 241) := rfl
theorem T_68_241 : hTab 68 241 = some ((22, 0, Int.ofNat 151, []), 244) := rfl
theorem mN_68 : hmN 68 = 2 := by decide +kernel
theorem mL_68 : hmL 68 = 10 := by decide +kernel
theorem mK_68 : hmK 68 = 1 := by decide +kernel
theorem mO_68 : hmO 68 = 7 := by decide +kernel
/-- all but the reply and how many entries a fid has read -/
def FQ (rp fa : Nat) (W W2 : qR) : Prop := ∀ (x : Nat) (k : Int), ¬ (x = rp ∧ k = 2065) → ¬ (x = rp + 1 ∧ k < 2000) → ¬ (x = fa ∧ k = 2296) → W2 x k = W x k
section XRED
variable {fb : Bool} {d S a b c0 rp mb m0 N M fa : Nat} {σ0 σ : hM} {W W1 W2 P Q : qR} {R R1 R2 : rR} {i j k x z v s e w f u n p g ln K T U C c y : Int} {ord l l2 nm lo : List Int} {t : Nat → Nat} {r : Option Nat}
theorem FQ_rfl : FQ rp fa W W := fun _ _ _ _ _ => rfl
theorem FQ_fb (h : FQ rp fa W W1) (hF : FB rp W1 W2) : FQ rp fa W W2 := fun x k a b c => (hF x k a b).trans (h x k a b c)
theorem FQ_put (h : FQ rp fa W W1) : FQ rp fa W (rU W1 fa 2296 v) := fun x k a b c => (if_neg c).trans (h x k a b c)
theorem kids_cons (h : ¬ e = 0 ∧ qUp P s e = n) : kids P s n (e :: lo) = e :: kids P s n lo := List.filter_cons_of_pos (by rw [decide_eq_true_eq]; exact h)
theorem kids_skip (h : ¬ (¬ e = 0 ∧ qUp P s e = n)) : kids P s n (e :: lo) = kids P s n lo := List.filter_cons_of_neg (by rw [decide_eq_true_eq]; exact h)
theorem drop_lg (h0 : 0 ≤ i) (h1 : i < ord.length) : ord.drop i.toNat = lg ord i :: ord.drop (i + 1).toNat := by
  rw [List.drop_eq_getElem_cons (show i.toNat < ord.length by omega), show (i + 1).toNat = i.toNat + 1 by omega]
  congr 1
  unfold lg
  rw [List.getD_eq_getElem?_getD, List.getElem?_eq_getElem (by omega)]
  rfl
theorem drop_head {D : List Int} (h0 : 0 ≤ c) (h : D.drop c.toNat = e :: lo) : c < D.length ∧ lg D c = e ∧ D.drop (c + 1).toNat = lo := by
  have hl : c < D.length := by
    apply Decidable.byContradiction
    intro q
    rw [List.drop_eq_nil_of_le (by omega)] at h
    cases h
  rw [drop_lg h0 hl] at h
  obtain ⟨h1, h2⟩ := List.cons.inj h
  exact ⟨hl, h1, h2⟩
theorem x_read_loop (hS : VS S s) (hT0 : NT W R P S s ord t) (hG : GI T U P) (hR : TRX P s ord) (hd : dirN P s n) (hn : isN P s n) (hb : noA S ord t n = some b) (hbo : tX b = some (Sum.inl 8)) (hrp : R S 2234 = some rp) (hro : rp + 1 < S ∨ S + 294 ≤ rp) (hfa : S + 198 ≤ fa ∧ fa < S + 294) (hfo : tX fa = some (Sum.inl 9)) (hC : (ord.length : Int) = C) (hmo : 0 ≤ w ∧ w ≤ 289) {v x0 X Lf : Int} {LL : List Int} (hx0 : 0 ≤ x0 ∧ x0 ≤ 64) {Q : Option AV → hM → Prop} (hQ : ∀ (σ : hM) (W2 : qR) (x8 x9 : Option AV), PX σ0 W2 R σ → BY W2 rp 300 LL → W2 fa 2296 = X → FQ rp fa W W2 → (LL.length : Int) - 11 + Lf = w → WP fb (d + 3) 68 244 [some (vR (some S)), some (vR (some fa)), some (vR (some b)), some (vL w), none, some (vL v), none, some (vI x0), x8, x9] [] σ Q) : ∀ (m : Nat) (i c er : Int) (mf : Nat) (L : List Int) (le : Int) (W1 : qR) (σ : hM), i + m = C → 0 ≤ i → 0 ≤ c → c ≤ i → kids P s n (ord.drop i.toNat) = (kids P s n ord).drop c.toNat → er = (if c ≤ x0 then x0 else c) → PX σ0 W1 R σ → BY W1 rp 300 L → W1 fa 2296 = er → FQ rp fa W W1 → (L.length : Int) - 11 + le = w → 0 ≤ le → le < 58 * mf → rdE P s n mf er le = (X, Lf, LL.drop L.length) → LL = L ++ LL.drop L.length → WP fb (d + 3) 68 151 [some (vR (some S)), some (vR (some fa)), some (vR (some b)), some (vL w), none, some (vL v), none, some (vI x0), some (vI c), some (vI i)] [] σ Q := by
  have hO := hS.o
  have hA := hS.an
  have hsr := hS.1
  have hrg := hS.rng
  have hle := hT0.1.2.1
  have hcn : ∀ W1, FQ rp fa W W1 → W1 S 2230 = C := fun W1 h => (h _ _ (by omega) (by omega) (by omega)).trans (hT0.1.2.2.1.trans hC)
  intro m
  induction m with
  | zero =>
    intro i c er mf L le W1 σ h1 h2 h3 h4 hk he hP hB hw hF hl hl0 hlm hrd hLL
    have h1 : i + ((0 : Nat) : Int) = C := h1
    have hnil : (kids P s n ord).drop c.toNat = [] := by
      rw [← hk, List.drop_eq_nil_of_le (by omega)]
      rfl
    have hcl : ((kids P s n ord).length : Int) ≤ c := by
      have := List.drop_eq_nil_iff.mp hnil
      omega
    obtain ⟨mf, rfl⟩ : ∃ q, mf = q + 1 := ⟨mf - 1, by omega⟩
    have hq := qEnt_kids (n := n) (k := er) hT0 hG hsr hd (by split at he <;> omega)
    rw [if_neg (by split at he <;> omega)] at hq
    have e1 : rdE P s n (mf + 1) er le = (er, le, []) := if_neg (fun q => by omega)
    rw [e1] at hrd
    obtain ⟨r1, r2⟩ := Prod.mk.inj hrd
    obtain ⟨r2, r3⟩ := Prod.mk.inj r2
    rw [← r3, List.append_nil] at hLL
    have hcw := hcn W1 hF
    have hgo := hQ σ W1 (some (vI c)) (some (vI i)) hP (by rw [hLL]; exact hB) (by rw [hw, r1]) hF (by rw [hLL, ← r2]; exact hl)
    refine x_li (z := i) T_68_151 rfl ?_
    refine x_lr (z := some S) T_68_153 rfl ?_
    refine x_gI (z := C) T_68_154 (Or.inl F_7_6) (hP.o hO) (Eq.trans (hP.gi hO (key := 2230) rfl) hcw) ?_
    refine x_ic2 T_68_157 (fun _ => ?_) (fun h => absurd (show C ≤ i by omega) h)
    exact hgo
  | succ m ih =>
    intro i c er mf L le W1 σ h1 h2 h3 h4 hk he hP hB hw hF hl hl0 hlm hrd hLL
    have hcw := hcn W1 hF
    have hti := hT0.2.1.1 i.toNat (by omega)
    have hnd := hT0.2.2.1 i h2 (by omega)
    have hno := hS.nd (j := t i.toNat) hti
    have hui := up_iff hT0 hR.2.2.1 ((hT0.1.1 n).mpr hn) h2 (show i < ord.length by omega)
    rw [hb] at hui
    have hpr0 := hT0.2.2.2.2 i h2 (by omega)
    have hNW := hT0.2.2.2.1 i h2 (by omega)
    have hND : ND W1 P (S + 6 + 3 * t i.toNat) s (lg ord i) := hNW.wr (fun k _ _ => hF _ _ (by omega) (by omega) (by omega)) (hF _ _ (by omega) (by omega) (by omega)) (fun k _ _ => hF _ _ (by omega) (by omega) (by omega))
    rw [drop_lg h2 (by omega)] at hk
    obtain ⟨en, hen⟩ : ∃ en, lg ord i = en := ⟨_, rfl⟩
    rw [hen] at hui hk hND hpr0
    obtain ⟨na, hna⟩ : ∃ na, S + 6 + 3 * t i.toNat = na := ⟨_, rfl⟩
    rw [hna] at hnd hno hui hND hpr0
    obtain ⟨pr, hpr⟩ : ∃ pr, R na 2257 = pr := ⟨_, rfl⟩
    rw [hpr] at hui hpr0
    have hprg : hK ≤ pr.getD hK := by
      rw [hpr0]
      split
      · exact Nat.le_refl _
      · unfold noA
        split
        · show 128 ≤ S + 6 + _
          omega
        · exact Nat.le_refl _
    by_cases q1 : ¬ en = 0 ∧ qUp P s en = n
    · have q2 := hui.mpr q1
      subst q2
      rw [kids_cons q1] at hk
      obtain ⟨c1, c2, c3⟩ := drop_head h3 hk.symm
      by_cases q3 : c + 1 ≤ x0
      · have hgo := fun (σ : hM) (hP : PX σ0 W1 R σ) => ih (i + 1) (c + 1) er mf L le W1 σ (by omega) (by omega) (by omega) (by omega) c3.symm (by rw [he, if_pos (by omega), if_pos q3]) hP hB hw hF hl hl0 hlm hrd hLL
        refine x_li (z := i) T_68_151 rfl ?_
        refine x_lr (z := some S) T_68_153 rfl ?_
        refine x_gI (z := C) T_68_154 (Or.inl F_7_6) (hP.o hO) (Eq.trans (hP.gi hO (key := 2230) rfl) hcw) ?_
        refine x_ic2 T_68_157 (fun h => absurd (show C ≤ i from h) (by omega)) (fun _ => ?_)
        refine x_lr (z := some S) T_68_160 rfl ?_
        refine x_gR (z := some (S + 1)) T_68_161 F_7_2 (hP.o hO) (hP.rc hO rfl rfl) ?_
        refine x_li (z := i) T_68_164 rfl ?_
        refine x_alR (z := some na) T_68_166 (hP.ta hA) (by decide) (by omega) (by omega) (Eq.trans (hP.arm hA rfl (by omega)) hnd) ?_
        refine x_gR (z := some b) T_68_167 F_8_1 (hP.o hno) (Eq.trans (hP.rm hno rfl (key := 2257) rfl) hpr) ?_
        refine x_lr (z := some b) T_68_170 rfl ?_
        refine x_aeq T_68_171 (tX_o hbo).1 (tX_o hbo).1 (fun _ => ?_) (fun h0 => absurd h0 (by exact fun c => c rfl))
        refine x_inc (w := (c + 1)) (ls1 := [some (vR (some S)), some (vR (some fa)), some (vR (some b)), some (vL w), none, some (vL v), none, some (vI x0), some (vI (c + 1)), some (vI i)]) T_68_177 rfl (w32_id (by omega) (by omega)) rfl ?_
        refine x_li (z := (c + 1)) T_68_180 rfl ?_
        refine x_li (z := x0) T_68_182 rfl ?_
        refine x_ic2 T_68_184 (fun _ => ?_) (fun h => absurd (show (c + 1) ≤ x0 by omega) h)
        refine x_inc (w := (i + 1)) (ls1 := [some (vR (some S)), some (vR (some fa)), some (vR (some b)), some (vL w), none, some (vL v), none, some (vI x0), some (vI (c + 1)), some (vI (i + 1))]) T_68_238 rfl (w32_id (by omega) (by omega)) rfl ?_
        refine x_goto T_68_241 ?_
        exact hgo σ hP
      · have hec : er = c := by rw [he]; split <;> omega
        have hq := qEnt_kids (n := n) (k := er) hT0 hG hsr hd (by omega)
        rw [hec, if_pos c1, c2] at hq
        rw [hec] at hw hrd
        obtain ⟨mf, rfl⟩ : ∃ q, mf = q + 1 := ⟨mf - 1, by omega⟩
        obtain ⟨ns, hns⟩ : ∃ ns, qNs P s en = ns := ⟨_, rfl⟩
        have hNm := hND.2.2.2.2.2.2.2.2.1
        have hNl := hND.2.2.2.2.2.2.2.2.2.trans hns
        have hnsr : 0 ≤ ns ∧ ns ≤ 12 := by have := hNm.2.2.2.2.1; omega
        have hss := x_statSize (fb := fb) (d := d + 1) hP hno hNm hNl
        have hbr := hB.1
        obtain ⟨z, hz⟩ : ∃ z : Int, (L.length : Int) = z := ⟨_, rfl⟩
        have hzl := hB.2.2.2.2.1
        have hsz := x_size (fb := fb) (d := d + 2) hP hB hz
        have e1 : rdE P s n (mf + 1) c le = if 0 ≤ qEnt P s n c ∧ 58 + qNs P s (qEnt P s n c) ≤ le then ((rdE P s n mf (c + 1) (le - (58 + qNs P s (qEnt P s n c)))).1, (rdE P s n mf (c + 1) (le - (58 + qNs P s (qEnt P s n c)))).2.1, statL P s (qEnt P s n c) ++ (rdE P s n mf (c + 1) (le - (58 + qNs P s (qEnt P s n c)))).2.2) else (c, le, []) := rfl
        have hen0 : 0 ≤ en := by
          have hm := (hT0.1.1 en).mp (by rw [← hen]; exact lg_mem h2 (by omega))
          rcases hm with q | q <;> omega
        rw [e1, hq, hns] at hrd
        by_cases q4 : 58 + ns ≤ le
        · rw [if_pos ⟨hen0, q4⟩] at hrd
          obtain ⟨r1, r2⟩ := Prod.mk.inj hrd
          obtain ⟨r2, r3⟩ := Prod.mk.inj r2
          have hps := x_putStat (fb := fb) (d := d + 1) hP hS hrp hB hND (by omega) (by rw [hns]; omega)
          have hsl := statL_len (P := P) (s := s) (n := en) (by omega)
          rw [hns] at hsl
          have hgo := fun (σ : hM) (W2 : qR) (hP : PX σ0 (rU W2 fa 2296 (c + 1)) R σ) (hB2 : BY W2 rp 300 (L ++ statL P s en)) (hF2 : FB rp W1 W2) => ih (i + 1) (c + 1) (c + 1) mf (L ++ statL P s en) (le - (58 + ns)) (rU W2 fa 2296 (c + 1)) σ (by omega) (by omega) (by omega) (by omega) c3.symm (by rw [if_neg q3]) hP (hB2.key (by decide) (by decide)) rU_s (FQ_put (FQ_fb hF hF2)) (by rw [List.length_append]; omega) (by omega) (by omega) (by
            rw [List.length_append, ← List.drop_drop, ← r3, show (statL P s en ++ (rdE P s n mf (c + 1) (le - (58 + ns))).2.2).drop (statL P s en).length = (rdE P s n mf (c + 1) (le - (58 + ns))).2.2 from List.drop_left, ← r1, ← r2]) (by
            rw [List.length_append, ← List.drop_drop, ← r3, show (statL P s en ++ (rdE P s n mf (c + 1) (le - (58 + ns))).2.2).drop (statL P s en).length = (rdE P s n mf (c + 1) (le - (58 + ns))).2.2 from List.drop_left, List.append_assoc, r3]
            exact hLL)
          have hw2 : ∀ W2, FB rp W1 W2 → W2 fa 2296 = c := fun W2 h => (h.o (by decide) (by decide)).trans hw
          refine x_li (z := i) T_68_151 rfl ?_
          refine x_lr (z := some S) T_68_153 rfl ?_
          refine x_gI (z := C) T_68_154 (Or.inl F_7_6) (hP.o hO) (Eq.trans (hP.gi hO (key := 2230) rfl) hcw) ?_
          refine x_ic2 T_68_157 (fun h => absurd (show C ≤ i from h) (by omega)) (fun _ => ?_)
          refine x_lr (z := some S) T_68_160 rfl ?_
          refine x_gR (z := some (S + 1)) T_68_161 F_7_2 (hP.o hO) (hP.rc hO rfl rfl) ?_
          refine x_li (z := i) T_68_164 rfl ?_
          refine x_alR (z := some na) T_68_166 (hP.ta hA) (by decide) (by omega) (by omega) (Eq.trans (hP.arm hA rfl (by omega)) hnd) ?_
          refine x_gR (z := some b) T_68_167 F_8_1 (hP.o hno) (Eq.trans (hP.rm hno rfl (key := 2257) rfl) hpr) ?_
          refine x_lr (z := some b) T_68_170 rfl ?_
          refine x_aeq T_68_171 (tX_o hbo).1 (tX_o hbo).1 (fun _ => ?_) (fun h0 => absurd h0 (by exact fun c => c rfl))
          refine x_inc (w := (c + 1)) (ls1 := [some (vR (some S)), some (vR (some fa)), some (vR (some b)), some (vL w), none, some (vL v), none, some (vI x0), some (vI (c + 1)), some (vI i)]) T_68_177 rfl (w32_id (by omega) (by omega)) rfl ?_
          refine x_li (z := (c + 1)) T_68_180 rfl ?_
          refine x_li (z := x0) T_68_182 rfl ?_
          refine x_ic2 T_68_184 (fun h => absurd (show (c + 1) ≤ x0 from h) (by omega)) (fun _ => ?_)
          refine x_lr (z := some S) T_68_187 rfl ?_
          refine x_gR (z := some rp) T_68_188 F_7_10 (hP.o hO) (Eq.trans (hP.rm hO rfl (key := 2234) rfl) hrp) ?_
          refine x_cv1 T_68_191 mN_28 mL_28 (Nat.le_of_ble_eq_true rfl) mO_28 (hP.o hbr) (Nat.le_of_ble_eq_true rfl) (hsz) ?_
          rintro _ σ ⟨rfl, rfl⟩
          refine cI ?_
          refine x_ic T_68_194 ?_
          refine x_ib (w := (z - 11)) T_68_196 (fun h => absurd h.1 (by decide)) (w32_id (by omega) (by omega)) ?_
          refine x_lr (z := some S) T_68_197 rfl ?_
          refine x_gR (z := some (S + 1)) T_68_198 F_7_2 (hP.o hO) (hP.rc hO rfl rfl) ?_
          refine x_li (z := i) T_68_201 rfl ?_
          refine x_alR (z := some na) T_68_203 (hP.ta hA) (by decide) (by omega) (by omega) (Eq.trans (hP.arm hA rfl (by omega)) hnd) ?_
          refine x_cv1 T_68_204 mN_76 mL_76 (Nat.le_of_ble_eq_true rfl) mO_76 (hP.o hno) (Nat.le_of_ble_eq_true rfl) (hss) ?_
          rintro _ σ ⟨rfl, rfl⟩
          refine cI ?_
          refine x_ib (w := ((z - 11) + (58 + ns))) T_68_207 (fun h => absurd h.1 (by decide)) (w32_id (by omega) (by omega)) ?_
          refine x_i2l T_68_208 ?_
          refine x_ll (z := w) T_68_209 rfl ?_
          refine x_lif T_68_210 T_68_211 (fun _ => ?_) (fun h => absurd (show ((z - 11) + (58 + ns)) ≤ w by omega) h)
          refine x_lr (z := some S) T_68_217 rfl ?_
          refine x_lr (z := some S) T_68_218 rfl ?_
          refine x_gR (z := some (S + 1)) T_68_219 F_7_2 (hP.o hO) (hP.rc hO rfl rfl) ?_
          refine x_li (z := i) T_68_222 rfl ?_
          refine x_alR (z := some na) T_68_224 (hP.ta hA) (by decide) (by omega) (by omega) (Eq.trans (hP.arm hA rfl (by omega)) hnd) ?_
          refine x_cv2 T_68_225 mN_77 mL_77 (Nat.le_of_ble_eq_true rfl) mO_77 (hP.o hO) (Nat.le_of_ble_eq_true rfl) (hps) ?_
          clear hP hps hss hsz
          rintro _ σ ⟨rfl, W2, hP, hB2, hF2⟩
          have hw3 := hw2 W2 hF2
          refine cV ?_
          refine x_lr (z := some fa) T_68_228 rfl ?_
          refine x_dupR T_68_229 ?_
          refine x_gI (z := c) T_68_230 (Or.inl F_9_8) (hP.o hfo) (Eq.trans (hP.gi hfo (key := 2296) rfl) hw3) ?_
          refine x_ic T_68_233 ?_
          refine x_ib (w := (c + 1)) T_68_234 (fun h => absurd h.1 (by decide)) (w32_id (by omega) (by omega)) ?_
          refine z_pI hP T_68_235 F_9_8 hfo (key := 2296) rfl (fun σ hP => ?_)
          refine x_inc (w := (i + 1)) (ls1 := [some (vR (some S)), some (vR (some fa)), some (vR (some b)), some (vL w), none, some (vL v), none, some (vI x0), some (vI (c + 1)), some (vI (i + 1))]) T_68_238 rfl (w32_id (by omega) (by omega)) rfl ?_
          refine x_goto T_68_241 ?_
          exact hgo σ W2 hP hB2 hF2
        · rw [if_neg (fun q => q4 q.2)] at hrd
          obtain ⟨r1, r2⟩ := Prod.mk.inj hrd
          obtain ⟨r2, r3⟩ := Prod.mk.inj r2
          rw [← r3, List.append_nil] at hLL
          have hgo := hQ σ W1 (some (vI (c + 1))) (some (vI i)) hP (by rw [hLL]; exact hB) (by rw [hw, r1]) hF (by rw [hLL, ← r2]; exact hl)
          refine x_li (z := i) T_68_151 rfl ?_
          refine x_lr (z := some S) T_68_153 rfl ?_
          refine x_gI (z := C) T_68_154 (Or.inl F_7_6) (hP.o hO) (Eq.trans (hP.gi hO (key := 2230) rfl) hcw) ?_
          refine x_ic2 T_68_157 (fun h => absurd (show C ≤ i from h) (by omega)) (fun _ => ?_)
          refine x_lr (z := some S) T_68_160 rfl ?_
          refine x_gR (z := some (S + 1)) T_68_161 F_7_2 (hP.o hO) (hP.rc hO rfl rfl) ?_
          refine x_li (z := i) T_68_164 rfl ?_
          refine x_alR (z := some na) T_68_166 (hP.ta hA) (by decide) (by omega) (by omega) (Eq.trans (hP.arm hA rfl (by omega)) hnd) ?_
          refine x_gR (z := some b) T_68_167 F_8_1 (hP.o hno) (Eq.trans (hP.rm hno rfl (key := 2257) rfl) hpr) ?_
          refine x_lr (z := some b) T_68_170 rfl ?_
          refine x_aeq T_68_171 (tX_o hbo).1 (tX_o hbo).1 (fun _ => ?_) (fun h0 => absurd h0 (by exact fun c => c rfl))
          refine x_inc (w := (c + 1)) (ls1 := [some (vR (some S)), some (vR (some fa)), some (vR (some b)), some (vL w), none, some (vL v), none, some (vI x0), some (vI (c + 1)), some (vI i)]) T_68_177 rfl (w32_id (by omega) (by omega)) rfl ?_
          refine x_li (z := (c + 1)) T_68_180 rfl ?_
          refine x_li (z := x0) T_68_182 rfl ?_
          refine x_ic2 T_68_184 (fun h => absurd (show (c + 1) ≤ x0 from h) (by omega)) (fun _ => ?_)
          refine x_lr (z := some S) T_68_187 rfl ?_
          refine x_gR (z := some rp) T_68_188 F_7_10 (hP.o hO) (Eq.trans (hP.rm hO rfl (key := 2234) rfl) hrp) ?_
          refine x_cv1 T_68_191 mN_28 mL_28 (Nat.le_of_ble_eq_true rfl) mO_28 (hP.o hbr) (Nat.le_of_ble_eq_true rfl) (hsz) ?_
          rintro _ σ ⟨rfl, rfl⟩
          refine cI ?_
          refine x_ic T_68_194 ?_
          refine x_ib (w := (z - 11)) T_68_196 (fun h => absurd h.1 (by decide)) (w32_id (by omega) (by omega)) ?_
          refine x_lr (z := some S) T_68_197 rfl ?_
          refine x_gR (z := some (S + 1)) T_68_198 F_7_2 (hP.o hO) (hP.rc hO rfl rfl) ?_
          refine x_li (z := i) T_68_201 rfl ?_
          refine x_alR (z := some na) T_68_203 (hP.ta hA) (by decide) (by omega) (by omega) (Eq.trans (hP.arm hA rfl (by omega)) hnd) ?_
          refine x_cv1 T_68_204 mN_76 mL_76 (Nat.le_of_ble_eq_true rfl) mO_76 (hP.o hno) (Nat.le_of_ble_eq_true rfl) (hss) ?_
          rintro _ σ ⟨rfl, rfl⟩
          refine cI ?_
          refine x_ib (w := ((z - 11) + (58 + ns))) T_68_207 (fun h => absurd h.1 (by decide)) (w32_id (by omega) (by omega)) ?_
          refine x_i2l T_68_208 ?_
          refine x_ll (z := w) T_68_209 rfl ?_
          refine x_lif T_68_210 T_68_211 (fun h => absurd (show ((z - 11) + (58 + ns)) ≤ w from h) (by omega)) (fun _ => ?_)
          refine x_goto T_68_214 ?_
          exact hgo
    · have q2 : pr ≠ some b := fun c => q1 (hui.mp c)
      rw [kids_skip q1] at hk
      have hgo := fun (σ : hM) (hP : PX σ0 W1 R σ) => ih (i + 1) c er mf L le W1 σ (by omega) (by omega) h3 (by omega) hk he hP hB hw hF hl hl0 hlm hrd hLL
      refine x_li (z := i) T_68_151 rfl ?_
      refine x_lr (z := some S) T_68_153 rfl ?_
      refine x_gI (z := C) T_68_154 (Or.inl F_7_6) (hP.o hO) (Eq.trans (hP.gi hO (key := 2230) rfl) hcw) ?_
      refine x_ic2 T_68_157 (fun h => absurd (show C ≤ i from h) (by omega)) (fun _ => ?_)
      refine x_lr (z := some S) T_68_160 rfl ?_
      refine x_gR (z := some (S + 1)) T_68_161 F_7_2 (hP.o hO) (hP.rc hO rfl rfl) ?_
      refine x_li (z := i) T_68_164 rfl ?_
      refine x_alR (z := some na) T_68_166 (hP.ta hA) (by decide) (by omega) (by omega) (Eq.trans (hP.arm hA rfl (by omega)) hnd) ?_
      refine x_gR (z := pr) T_68_167 F_8_1 (hP.o hno) (Eq.trans (hP.rm hno rfl (key := 2257) rfl) hpr) ?_
      refine x_lr (z := some b) T_68_170 rfl ?_
      refine x_aeq T_68_171 (tX_o hbo).1 hprg (fun h0 => absurd h0 (by exact q2)) (fun _ => ?_)
      refine x_goto T_68_174 ?_
      refine x_inc (w := (i + 1)) (ls1 := [some (vR (some S)), some (vR (some fa)), some (vR (some b)), some (vL w), none, some (vL v), none, some (vI x0), some (vI c), some (vI (i + 1))]) T_68_238 rfl (w32_id (by omega) (by omega)) rfl ?_
      refine x_goto T_68_241 ?_
      exact hgo σ hP
end XRED
