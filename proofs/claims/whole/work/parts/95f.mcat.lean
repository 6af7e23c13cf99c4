/-! cat: what a file holds, told to the process or kept as a script. -/
theorem T_326_117 : hTab 326 117 = some ((3, 8, 0, []), 119) := rfl
theorem T_326_119 : hTab 326 119 = some ((3, 7, 0, []), 121) := rfl
theorem T_326_121 : hTab 326 121 = some ((19, 3, Int.ofNat 201, []), 124) := rfl
theorem T_326_124 : hTab 326 124 = some ((3, 2, 0, []), 125) := rfl
theorem T_326_125 : hTab 326 125 = some ((18, 3, Int.ofNat 146, []), 128) := rfl
theorem T_326_128 : hTab 326 128 = some ((3, 0, 2, []), 129) := rfl
theorem T_326_129 : hTab 326 129 = some ((3, 1, 0, []), 130) := rfl
theorem T_326_130 : hTab 326 130 = some ((3, 0, 2, []), 131) := rfl
theorem T_326_131 : hTab 326 131 = some ((24, 17, Int.ofNat 5, []), 134) := rfl
theorem T_326_134 : hTab 326 134 = some ((0, 0, 11, []), 136) := rfl
theorem T_326_136 : hTab 326 136 = some ((3, 8, 0, []), 138) := rfl
theorem T_326_138 : hTab 326 138 = some ((10, 0, 0, []), 139) := rfl
theorem T_326_139 : hTab 326 139 = some ((26, 0, 0, []), 140) := rfl
theorem T_326_140 : hTab 326 140 = some ((31, 351, 0, []), 143) := rfl
theorem T_326_143 : hTab 326 143 = some ((22, 0, Int.ofNat 195, []), 146) := rfl
theorem T_326_146 : hTab 326 146 = some ((3, 0, 2, []), 147) := rfl
theorem T_326_147 : hTab 326 147 = some ((24, 17, Int.ofNat 112, []), 150) := rfl
theorem T_326_150 : hTab 326 150 = some ((3, 2, 0, []), 151) := rfl
theorem T_326_151 : hTab 326 151 = some ((26, 0, 0, []), 152) := rfl
theorem T_326_152 : hTab 326 152 = some ((0, 0, 600, []), 155) := rfl
theorem T_326_155 : hTab 326 155 = some ((19, 3, Int.ofNat 195, []), 158) := rfl
theorem T_326_158 : hTab 326 158 = some ((3, 0, 2, []), 159) := rfl
theorem T_326_159 : hTab 326 159 = some ((24, 17, Int.ofNat 111, []), 162) := rfl
theorem T_326_162 : hTab 326 162 = some ((0, 0, 600, []), 165) := rfl
theorem T_326_165 : hTab 326 165 = some ((3, 2, 0, []), 166) := rfl
theorem T_326_166 : hTab 326 166 = some ((10, 2, 0, []), 167) := rfl
theorem T_326_167 : hTab 326 167 = some ((3, 0, 2, []), 168) := rfl
theorem T_326_168 : hTab 326 168 = some ((24, 17, Int.ofNat 112, []), 171) := rfl
theorem T_326_171 : hTab 326 171 = some ((3, 2, 0, []), 172) := rfl
theorem T_326_172 : hTab 326 172 = some ((26, 0, 0, []), 173) := rfl
theorem T_326_173 : hTab 326 173 = some ((10, 0, 0, []), 174) := rfl
theorem T_326_174 : hTab 326 174 = some ((3, 0, 2, []), 175) := rfl
theorem T_326_175 : hTab 326 175 = some ((24, 17, Int.ofNat 5, []), 178) := rfl
theorem T_326_178 : hTab 326 178 = some ((0, 0, 11, []), 180) := rfl
theorem T_326_180 : hTab 326 180 = some ((3, 8, 0, []), 182) := rfl
theorem T_326_182 : hTab 326 182 = some ((10, 0, 0, []), 183) := rfl
theorem T_326_183 : hTab 326 183 = some ((26, 0, 0, []), 184) := rfl
theorem T_326_184 : hTab 326 184 = some ((27, 0, 0, []), 185) := rfl
theorem T_326_185 : hTab 326 185 = some ((3, 0, 2, []), 186) := rfl
theorem T_326_186 : hTab 326 186 = some ((24, 17, Int.ofNat 112, []), 189) := rfl
theorem T_326_189 : hTab 326 189 = some ((3, 2, 0, []), 190) := rfl
theorem T_326_190 : hTab 326 190 = some ((8, 0, 0, []), 191) := rfl
theorem T_326_191 : hTab 326 191 = some ((26, 0, 0, []), 192) := rfl
theorem T_326_192 : hTab 326 192 = some ((0, 0, 1, []), 193) := rfl
theorem T_326_193 : hTab 326 193 = some ((10, 0, 0, []), 194) := rfl
theorem T_326_194 : hTab 326 194 = some ((27, 0, 0, []), 195) := rfl
theorem T_326_195 : hTab 326 195 = some ((5, 8, 1, []), 198) := rfl
theorem T_326_198 : hTab 326 198 = some ((22, 0, Int.ofNat 117, []), 201) := rfl
theorem F_17_111 : (hFd 17 111).2.2.1 = 4 := rfl
theorem F_17_112 : (hFd 17 112).2.2.1 = 4 := rfl
theorem mN_326 : hmN 326 = 3 := by decide +kernel
theorem mL_326 : hmL 326 = 9 := by decide +kernel
theorem mK_326 : hmK 326 = 1 := by decide +kernel
theorem mO_326 : hmO 326 = 17 := by decide +kernel
def oC (fr p : Int) (P : qR) (l : List Int) : qR := if fr < 0 then gOut P p l else P
/-- the script of a frame -/
def SCL (S : qR) (fr : Int) (l : List Int) : Prop := S 2371 fr = (l.length : Int) ∧ l.length ≤ 600 ∧ ∀ i : Int, 0 ≤ i → i < l.length → S 2370 (600 * fr + i) = lg l i
def scC : List Nat := [2370, 2371, 2285, 2286, 2287, 2288, 2350, 2351, 2352, 2353, 2354, 2346, 2347, 2348, 2349, 2355, 2356, 2357, 2358, 2359, 2360]
/-- the bytes have gone where the frame says -/
def SO (fr : Int) (S S1 : qR) (l : List Int) : Prop := SX scC scN S S1 ∧ (∀ j : Int, j ≠ fr → S1 2371 j = S 2371 j ∧ ∀ i, 0 ≤ i → i < 600 → S1 2370 (600 * j + i) = S 2370 (600 * j + i)) ∧ ∀ l0, 0 ≤ fr → SCL S fr l0 → SCL S1 fr ((l0 ++ l).take 600)
section MCAT
variable {fb : Bool} {d : Nat} {σ0 σ : hM} {P Q R S S1 S2 : qR} {T U s w g u p k e t z o thr pt : Int} {l l1 l2 nm wd A : List Int} {h : List Ch} {a f : Int → Int} {x : Int × Int} {c : Ch} {fr : Int}
theorem SO_sc (hX : SX scR scN S S1) : SO fr S S1 [] := ⟨hX.mono (fun _ => elem_sub (by decide)) (fun _ => elem_sub (by decide)), fun j _ => ⟨hX.2 _ _ rfl rfl, fun i _ _ => hX.2 _ _ rfl rfl⟩, fun l0 _ h => by
  rw [List.append_nil, List.take_of_length_le h.2.1]
  exact ⟨(hX.2 _ _ rfl rfl).trans h.1, h.2.1, fun i a b => (hX.2 _ _ rfl rfl).trans (h.2.2 i a b)⟩⟩
theorem SO_neg (hf : fr < 0) (h : SO fr S S1 l1) : SO fr S S1 l2 := ⟨h.1, h.2.1, fun l0 q => absurd q (by omega)⟩
theorem SO_tr (h1 : SO fr S S1 l1) (h2 : SO fr S1 S2 l2) : SO fr S S2 (l1 ++ l2) := ⟨SX_tr h1.1 h2.1, fun j hj => ⟨(h2.2.1 j hj).1.trans (h1.2.1 j hj).1, fun i a b => ((h2.2.1 j hj).2 i a b).trans ((h1.2.1 j hj).2 i a b)⟩, fun l0 q h => by
  have g := h2.2.2 _ q (h1.2.2 l0 q h)
  have e : ((l0 ++ l1).take 600 ++ l2).take 600 = (l0 ++ (l1 ++ l2)).take 600 := by
    rw [← List.append_assoc, List.take_append, List.take_append (l₁ := l0 ++ l1), List.take_take, List.length_take]
    rw [Nat.min_self, show 600 - min 600 (l0 ++ l1).length = 600 - (l0 ++ l1).length by omega]
  rw [e] at g
  exact g⟩
theorem SO_full (h6 : S 2371 fr = 600) {b : Int} : SO fr S S [b] := ⟨SX_rfl, fun j _ => ⟨rfl, fun i _ _ => rfl⟩, fun l0 q h => by
  have h1 := h.1
  have h2 := h.2.1
  rw [h6] at h1
  rw [List.take_append_of_le_length (by omega), List.take_of_length_le (by omega)]
  exact h⟩
theorem SO_one {b : Int} (hz : S 2371 fr = z) (h0 : 0 ≤ z ∧ z < 600) (hf : 0 ≤ fr ∧ fr ≤ 12) : SO fr S (rU (rU S 2370 (600 * fr + z) b) 2371 fr (z + 1)) [b] := ⟨SX_up (SX_up SX_rfl rfl rfl) rfl rfl, fun j hj => ⟨(rU_k hj).trans (rU_f (by decide)), fun i a b => (rU_f (by decide)).trans (rU_k (by omega))⟩, fun l0 q h => by
  have h1 := h.1
  rw [hz] at h1
  have h2 : (l0 ++ [b]).length = l0.length + 1 := by rw [List.length_append]; rfl
  rw [List.take_of_length_le (by omega)]
  refine ⟨by rw [rU_s, h2]; omega, by omega, fun i a c => ?_⟩
  rw [h2] at c
  rw [rU_f (by decide), lg_app a]
  by_cases q2 : i < l0.length
  · rw [if_pos q2, rU_k (by omega)]
    exact h.2.2 i a q2
  · rw [if_neg q2, show i = z by omega, rU_s, show z - (l0.length : Int) = 0 by omega]
    rfl⟩
theorem KS.scr (hK : KS T U P S l h) (hf : 0 ≤ fr ∧ fr ≤ 12) (h0 : 0 ≤ z ∧ z < 600) {b : Int} (hb : 0 ≤ b ∧ b ≤ 255) : KS T U P (rU (rU S 2370 (600 * fr + z) b) 2371 fr (z + 1)) l h := by
  have hg : ∀ f : Nat, f ≠ 2370 → f ≠ 2371 → ∀ k, rU (rU S 2370 (600 * fr + z) b) 2371 fr (z + 1) f k = S f k := fun f h1 h2 k => (rU_f h2).trans (rU_f h1)
  obtain ⟨a1, a2, a3, a4, a5⟩ := hK
  refine ⟨a1, a2, (a3.uA 2370 rfl hb).uA 2371 rfl (by show 0 ≤ z + 1 ∧ z + 1 ≤ 600; omega), ⟨(hg _ (by decide) (by decide) _).trans a4.1, a4.2.1, fun i hi => ?_⟩, a5.of (hg _ (by decide) (by decide) _) (hg _ (by decide) (by decide) _) (fun _ => hg _ (by decide) (by decide) _) (fun _ => hg _ (by decide) (by decide) _) (fun _ => hg _ (by decide) (by decide) _)⟩
  rw [hg _ (by decide) (by decide), hg _ (by decide) (by decide), hg _ (by decide) (by decide), hg _ (by decide) (by decide), hg _ (by decide) (by decide)]
  exact a4.2.2 i hi
theorem KS.tell (hK : KS T U P S l h) (hp : 0 ≤ p ∧ p < 8) {b : Int} (hb : 0 ≤ b ∧ b ≤ 255) : KS T U (gTell P p b) S l h := ⟨GI_tell hK.1 hp hb, hK.2.1.row (fun _ => gTell_f (by decide) (by decide)) (fun _ => gTell_f (by decide) (by decide)), hK.2.2⟩
theorem m_cat_in {e0 hh off fl n : Int} (hp : 0 ≤ p ∧ p < 8) (hf : -1 ≤ fr ∧ fr ≤ 12) (hn : n ≤ 400) {Q : Option AV → hM → Prop} : ∀ (r : List Int) (i : Int) (σ : hM) (P S : qR), i + (r.length : Int) = n → 0 ≤ i → (∀ b ∈ r, 0 ≤ b ∧ b ≤ 255) → (∀ k : Nat, k < r.length → S 2286 (11 + i + (k : Int)) = r.getD k 0) → PM σ0 P S σ → KS T U P S l h → (∀ (σ : hM) (S1 : qR), PM σ0 (oC fr p P r) S1 σ → KS T U (oC fr p P r) S1 l h → SO fr S S1 r → WP fb (d + 1) 326 201 [some (vR (some 2281)), some (vI p), some (vI fr), some (vI e0), some (vI hh), some (vI off), some (vI fl), some (vI n), some (vI n)] [] σ Q) → WP fb (d + 1) 326 117 [some (vR (some 2281)), some (vI p), some (vI fr), some (vI e0), some (vI hh), some (vI off), some (vI fl), some (vI n), some (vI i)] [] σ Q := by
  intro r
  induction r with
  | nil =>
    intro i σ P S h1 h2 hb ha hP hK hQ
    have h1 : i + ((0 : Nat) : Int) = n := h1
    have hi : i = n := by omega
    subst hi
    have e1 : oC fr p P [] = P := by unfold oC; split <;> rfl
    rw [e1] at hQ
    have hgo := hQ σ S hP hK (SO_sc SX_rfl)
    refine x_li (z := i) T_326_117 rfl ?_
    refine x_li (z := i) T_326_119 rfl ?_
    refine x_ic2 T_326_121 (fun _ => ?_) (fun h => absurd (show i ≤ i by omega) h)
    exact hgo
  | cons b r ih =>
    intro i σ P S h1 h2 hb ha hP hK hQ
    have h1 : i + ((r.length + 1 : Nat) : Int) = n := h1
    have hx : S 2286 (11 + i) = b := by
      have := ha 0 (Nat.succ_pos _)
      rw [show 11 + i + ((0 : Nat) : Int) = 11 + i by omega] at this
      exact this
    have hb0 := hb b List.mem_cons_self
    have ha2 : ∀ k : Nat, k < r.length → S 2286 (11 + (i + 1) + (k : Int)) = r.getD k 0 := fun k hk => by
      have := ha (k + 1) (Nat.succ_lt_succ hk)
      rw [show 11 + i + ((k + 1 : Nat) : Int) = 11 + (i + 1) + (k : Int) by omega] at this
      exact this
    by_cases q : fr < 0
    · have ht := m_tell (fb := fb) (d := d) (b := b) hP hK.1.iv hp
      have e1 : oC fr p P (b :: r) = oC fr p (gTell P p b) r := by
        unfold oC
        rw [if_pos q, if_pos q]
        rfl
      rw [e1] at hQ
      have hgo := fun (σ : hM) (hP : PM σ0 (gTell P p b) S σ) => ih (i + 1) σ (gTell P p b) S (by omega) (by omega) (fun b hm => hb b (List.mem_cons_of_mem _ hm)) ha2 hP (hK.tell hp hb0) (fun σ S1 g1 g2 g3 => hQ σ S1 g1 g2 (SO_neg q g3))
      refine x_li (z := i) T_326_117 rfl ?_
      refine x_li (z := n) T_326_119 rfl ?_
      refine x_ic2 T_326_121 (fun h => absurd (show n ≤ i from h) (by omega)) (fun _ => ?_)
      refine x_li (z := fr) T_326_124 rfl ?_
      refine x_if T_326_125 (fun h => absurd (show 0 ≤ fr from h) (by omega)) (fun _ => ?_)
      refine x_lr (z := some 2281) T_326_128 rfl ?_
      refine x_li (z := p) T_326_129 rfl ?_
      refine x_lr (z := some 2281) T_326_130 rfl ?_
      refine x_gR (z := some 2286) T_326_131 F_17_5 (PM.t hP) (PM.r hP 5 2286 rfl) ?_
      refine x_ic T_326_134 ?_
      refine x_li (z := i) T_326_136 rfl ?_
      refine x_ib (w := (11 + i)) T_326_138 (fun h => absurd h.1 (by decide)) (w32_id (by omega) (by omega)) ?_
      refine x_alI (z := b) T_326_139 (by decide) (PM.ta hP 2286 0 512 rfl rfl) (by omega) (by omega) (Eq.trans (PM.aS hP 2286 rfl rfl (by omega)) hx) ?_
      refine x_cv3 T_326_140 mN_351 mL_351 (Nat.le_of_ble_eq_true rfl) mO_351 (PM.t hP) (Nat.le_of_ble_eq_true rfl) (ht) ?_
      clear hP ht
      rintro _ σ ⟨rfl, hP⟩
      refine cV ?_
      refine x_goto T_326_143 ?_
      refine x_inc (w := (i + 1)) (ls1 := [some (vR (some 2281)), some (vI p), some (vI fr), some (vI e0), some (vI hh), some (vI off), some (vI fl), some (vI n), some (vI (i + 1))]) T_326_195 rfl (w32_id (by omega) (by omega)) rfl ?_
      refine x_goto T_326_198 ?_
      exact hgo σ hP
    · have e1 : ∀ r, oC fr p P r = P := fun r => by
        unfold oC
        rw [if_neg q]
      rw [e1] at hQ
      have bz : 0 ≤ S 2371 fr ∧ S 2371 fr ≤ 600 := IV.a hK.2.2.1 2371 0 13 rfl rfl rfl (by omega) (by omega)
      obtain ⟨z, hz⟩ : ∃ z, S 2371 fr = z := ⟨_, rfl⟩
      rw [hz] at bz
      by_cases q2 : z < 600
      · have hgo := fun (σ : hM) (hP : PM σ0 P (rU (rU S 2370 (600 * fr + z) b) 2371 fr (z + 1)) σ) => ih (i + 1) σ P _ (by omega) (by omega) (fun b hm => hb b (List.mem_cons_of_mem _ hm)) (fun k hk => (rU_f (by decide)).trans ((rU_f (by decide)).trans (ha2 k hk))) hP (hK.scr (by omega) (by omega) hb0) (fun σ S1 g1 g2 g3 => hQ σ S1 (by rw [e1] at g1; exact g1) (by rw [e1] at g2; exact g2) (SO_tr (SO_one hz (by omega) (by omega)) g3))
        refine x_li (z := i) T_326_117 rfl ?_
        refine x_li (z := n) T_326_119 rfl ?_
        refine x_ic2 T_326_121 (fun h => absurd (show n ≤ i from h) (by omega)) (fun _ => ?_)
        refine x_li (z := fr) T_326_124 rfl ?_
        refine x_if T_326_125 (fun _ => ?_) (fun h => absurd (show 0 ≤ fr by omega) h)
        refine x_lr (z := some 2281) T_326_146 rfl ?_
        refine x_gR (z := some 2371) T_326_147 F_17_112 (PM.t hP) (PM.r hP 112 2371 rfl) ?_
        refine x_li (z := fr) T_326_150 rfl ?_
        refine x_alI (z := z) T_326_151 (by decide) (PM.ta hP 2371 0 13 rfl rfl) (by omega) (by omega) (Eq.trans (PM.aS hP 2371 rfl rfl (by omega)) hz) ?_
        refine x_ic T_326_152 ?_
        refine x_ic2 T_326_155 (fun h => absurd (show 600 ≤ z from h) (by omega)) (fun _ => ?_)
        refine x_lr (z := some 2281) T_326_158 rfl ?_
        refine x_gR (z := some 2370) T_326_159 F_17_111 (PM.t hP) (PM.r hP 111 2370 rfl) ?_
        refine x_ic T_326_162 ?_
        refine x_li (z := fr) T_326_165 rfl ?_
        refine x_ib (w := (600 * fr)) T_326_166 (fun h => absurd h.1 (by decide)) (w32_id (by omega) (by omega)) ?_
        refine x_lr (z := some 2281) T_326_167 rfl ?_
        refine x_gR (z := some 2371) T_326_168 F_17_112 (PM.t hP) (PM.r hP 112 2371 rfl) ?_
        refine x_li (z := fr) T_326_171 rfl ?_
        refine x_alI (z := z) T_326_172 (by decide) (PM.ta hP 2371 0 13 rfl rfl) (by omega) (by omega) (Eq.trans (PM.aS hP 2371 rfl rfl (by omega)) hz) ?_
        refine x_ib (w := ((600 * fr) + z)) T_326_173 (fun h => absurd h.1 (by decide)) (w32_id (by omega) (by omega)) ?_
        refine x_lr (z := some 2281) T_326_174 rfl ?_
        refine x_gR (z := some 2286) T_326_175 F_17_5 (PM.t hP) (PM.r hP 5 2286 rfl) ?_
        refine x_ic T_326_178 ?_
        refine x_li (z := i) T_326_180 rfl ?_
        refine x_ib (w := (11 + i)) T_326_182 (fun h => absurd h.1 (by decide)) (w32_id (by omega) (by omega)) ?_
        refine x_alI (z := b) T_326_183 (by decide) (PM.ta hP 2286 0 512 rfl rfl) (by omega) (by omega) (Eq.trans (PM.aS hP 2286 rfl rfl (by omega)) hx) ?_
        refine y_aIS hP T_326_184 2370 7800 rfl rfl rfl (by omega) (by omega) (fun σ hP => ?_)
        refine x_lr (z := some 2281) T_326_185 rfl ?_
        refine x_gR (z := some 2371) T_326_186 F_17_112 (PM.t hP) (PM.r hP 112 2371 rfl) ?_
        refine x_li (z := fr) T_326_189 rfl ?_
        refine x_dup2 T_326_190 ?_
        refine x_alI (z := z) T_326_191 (by decide) (PM.ta hP 2371 0 13 rfl rfl) (by omega) (by omega) (Eq.trans (Eq.trans (PM.aS hP 2371 rfl rfl (by omega)) (rU_f (Nat.ne_of_beq_eq_false rfl))) hz) ?_
        refine x_ic T_326_192 ?_
        refine x_ib (w := (z + 1)) T_326_193 (fun h => absurd h.1 (by decide)) (w32_id (by omega) (by omega)) ?_
        refine y_aIS hP T_326_194 2371 13 rfl rfl rfl (by omega) (by omega) (fun σ hP => ?_)
        refine x_inc (w := (i + 1)) (ls1 := [some (vR (some 2281)), some (vI p), some (vI fr), some (vI e0), some (vI hh), some (vI off), some (vI fl), some (vI n), some (vI (i + 1))]) T_326_195 rfl (w32_id (by omega) (by omega)) rfl ?_
        refine x_goto T_326_198 ?_
        exact hgo σ hP
      · have hgo := ih (i + 1) σ P S (by omega) (by omega) (fun b hm => hb b (List.mem_cons_of_mem _ hm)) ha2 hP hK (fun σ S1 g1 g2 g3 => hQ σ S1 (by rw [e1] at g1; exact g1) (by rw [e1] at g2; exact g2) (SO_tr (SO_full (by omega)) g3))
        refine x_li (z := i) T_326_117 rfl ?_
        refine x_li (z := n) T_326_119 rfl ?_
        refine x_ic2 T_326_121 (fun h => absurd (show n ≤ i from h) (by omega)) (fun _ => ?_)
        refine x_li (z := fr) T_326_124 rfl ?_
        refine x_if T_326_125 (fun _ => ?_) (fun h => absurd (show 0 ≤ fr by omega) h)
        refine x_lr (z := some 2281) T_326_146 rfl ?_
        refine x_gR (z := some 2371) T_326_147 F_17_112 (PM.t hP) (PM.r hP 112 2371 rfl) ?_
        refine x_li (z := fr) T_326_150 rfl ?_
        refine x_alI (z := z) T_326_151 (by decide) (PM.ta hP 2371 0 13 rfl rfl) (by omega) (by omega) (Eq.trans (PM.aS hP 2371 rfl rfl (by omega)) hz) ?_
        refine x_ic T_326_152 ?_
        refine x_ic2 T_326_155 (fun _ => ?_) (fun h => absurd (show 600 ≤ z by omega) h)
        refine x_inc (w := (i + 1)) (ls1 := [some (vR (some 2281)), some (vI p), some (vI fr), some (vI e0), some (vI hh), some (vI off), some (vI fl), some (vI n), some (vI (i + 1))]) T_326_195 rfl (w32_id (by omega) (by omega)) rfl ?_
        refine x_goto T_326_198 ?_
        exact hgo
end MCAT
