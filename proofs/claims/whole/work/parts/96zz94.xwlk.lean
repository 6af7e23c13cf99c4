/-! The class's kernel: a path is walked. -/
theorem T_121_183 : hTab 121 183 = some ((3, 0, 2, []), 184) := rfl
theorem T_121_184 : hTab 121 184 = some ((3, 13, 2, []), 186) := rfl
theorem T_121_186 : hTab 121 186 = some ((24, 5, Int.ofNat 0, []), 189) := rfl
theorem T_121_189 : hTab 121 189 = some ((31, 122, 0, []), 192) := rfl
theorem T_121_192 : hTab 121 192 = some ((0, 0, 0, []), 193) := rfl
theorem T_121_193 : hTab 121 193 = some ((3, 0, 2, []), 194) := rfl
theorem T_121_194 : hTab 121 194 = some ((3, 13, 2, []), 196) := rfl
theorem T_121_196 : hTab 121 196 = some ((24, 5, Int.ofNat 0, []), 199) := rfl
theorem T_121_199 : hTab 121 199 = some ((3, 13, 2, []), 201) := rfl
theorem T_121_201 : hTab 121 201 = some ((24, 5, Int.ofNat 1, []), 204) := rfl
theorem T_121_204 : hTab 121 204 = some ((3, 7, 0, []), 206) := rfl
theorem T_121_206 : hTab 121 206 = some ((31, 123, 0, []), 209) := rfl
theorem T_121_209 : hTab 121 209 = some ((3, 0, 2, []), 210) := rfl
theorem T_121_210 : hTab 121 210 = some ((24, 1, Int.ofNat 2, []), 213) := rfl
theorem T_121_213 : hTab 121 213 = some ((31, 26, 0, []), 216) := rfl
theorem T_121_216 : hTab 121 216 = some ((4, 6, 0, []), 218) := rfl
theorem T_121_218 : hTab 121 218 = some ((3, 6, 0, []), 220) := rfl
theorem T_121_220 : hTab 121 220 = some ((18, 1, Int.ofNat 267, []), 223) := rfl
theorem T_121_223 : hTab 121 223 = some ((3, 2, 2, []), 224) := rfl
theorem T_121_224 : hTab 121 224 = some ((3, 13, 2, []), 226) := rfl
theorem T_121_226 : hTab 121 226 = some ((24, 5, Int.ofNat 0, []), 229) := rfl
theorem T_121_229 : hTab 121 229 = some ((3, 0, 2, []), 230) := rfl
theorem T_121_230 : hTab 121 230 = some ((24, 1, Int.ofNat 5, []), 233) := rfl
theorem T_121_233 : hTab 121 233 = some ((3, 0, 2, []), 234) := rfl
theorem T_121_234 : hTab 121 234 = some ((24, 1, Int.ofNat 2, []), 237) := rfl
theorem T_121_237 : hTab 121 237 = some ((0, 0, 14, []), 239) := rfl
theorem T_121_239 : hTab 121 239 = some ((0, 0, 4, []), 240) := rfl
theorem T_121_240 : hTab 121 240 = some ((31, 29, 0, []), 243) := rfl
theorem T_121_243 : hTab 121 243 = some ((15, 0, 0, []), 244) := rfl
theorem T_121_244 : hTab 121 244 = some ((3, 0, 2, []), 245) := rfl
theorem T_121_245 : hTab 121 245 = some ((24, 1, Int.ofNat 2, []), 248) := rfl
theorem T_121_248 : hTab 121 248 = some ((0, 0, 9, []), 250) := rfl
theorem T_121_250 : hTab 121 250 = some ((31, 33, 0, []), 253) := rfl
theorem T_121_253 : hTab 121 253 = some ((0, 0, 128, []), 256) := rfl
theorem T_121_256 : hTab 121 256 = some ((19, 1, Int.ofNat 263, []), 259) := rfl
theorem T_121_259 : hTab 121 259 = some ((0, 0, 1, []), 260) := rfl
theorem T_121_260 : hTab 121 260 = some ((22, 0, Int.ofNat 264, []), 263) := rfl
theorem T_121_263 : hTab 121 263 = some ((0, 0, 0, []), 264) := rfl
theorem T_121_264 : hTab 121 264 = some ((31, 128, 0, []), 267) := rfl
theorem mN_121 : hmN 121 = 5 := by decide +kernel
theorem mL_121 : hmL 121 = 14 := by decide +kernel
theorem mK_121 : hmK 121 = 1 := by decide +kernel
theorem mO_121 : hmO 121 = 1 := by decide +kernel
/-- what stays but for one channel -/
def FC (c : Nat) (W W2 : qR) (R R2 : rR) : Prop := (∀ (x : Nat) (k : Int), x ≠ c → 128 ≤ x → (x < 1293 ∨ 2175 ≤ x) → x < 2372 → ¬ (x = 134 ∧ k = 2065) → ¬ (x = 135 ∧ k < 2000) → ¬ (x = 138 ∧ k = 2065) → ¬ (x = 139 ∧ k < 2000) → ¬ (x = 129 ∧ (k = 2035 ∨ k = 2036 ∨ k = 2037)) → ¬ ioP x k → ¬ (149 ≤ x ∧ x < 229) → W2 x k = W x k) ∧ ∀ (x : Nat) (k : Int), x ≠ c → (x < 1293 ∨ 2175 ≤ x) → R2 x k = R x k
/-- a channel that is held -/
def chR (x : Ch) : Prop := (0 ≤ x.1 ∧ x.1 < 3) ∧ (0 ≤ x.2.1 ∧ x.2.1 ≤ 47) ∧ x.2.2.2.2 < 64
/-- what a walk comes to -/
abbrev XK (σ0 : hM) (K T U : Int) (W : qR) (R : rR) (c : Nat) (a : Int × qR × Ch) : Option AV → hM → Prop := fun r σ' => r = some (vI a.1) ∧ ∃ W2 R2, PX σ0 W2 R2 σ' ∧ XW K T U W2 R2 a.2.1 ∧ (a.1 = 0 → CHX W2 R2 c a.2.2 ∧ chR a.2.2) ∧ FC c W W2 R R2
/-- names, one behind another -/
def NMs (W : qR) (lo : List Int) (i : Int) (nms : List (List Int)) : Prop := ∀ j : Nat, j < nms.length → NMX W lo (i + (j : Int)) (nms.getD j []) ∧ (nms.getD j []).length ≤ 200 ∧ byt (nms.getD j [])
section XWLK
variable {fb : Bool} {d S b c q m fr pr y0 : Nat} {σ0 σ : hM} {W W0 W1 W2 W3 P Q : qR} {R R0 R1 R2 R3 : rR} {i j k x z v s e w f g u p n K T U t TE most thr at5 path : Int} {l l0 lo nm M A : List Int} {nms : List (List Int)} {r : Option Nat} {ch : Ch} {x6 x7 x8 x9 x10 x11 x12 x13 : Option AV}
theorem FC_fa (h : FA W W2 R R2) : FC c W W2 R R2 := ⟨fun x k _ => h.1 x k, fun x k _ => h.2 x k⟩
theorem FC_tr (h1 : FC c W W1 R R1) (h2 : FC c W1 W2 R1 R2) : FC c W W2 R R2 := ⟨fun x k y a b c d e f g h i j => (h2.1 x k y a b c d e f g h i j).trans (h1.1 x k y a b c d e f g h i j), fun x k y a => (h2.2 x k y a).trans (h1.2 x k y a)⟩
/-- only the channel is written -/
theorem FC_own (hW : ∀ (x : Nat) (k : Int), x ≠ c → W2 x k = W x k) (hR : ∀ (x : Nat) (k : Int), x ≠ c → R2 x k = R x k) : FC c W W2 R R2 := ⟨fun x k y _ _ _ _ _ _ _ _ _ _ => hW x k y, fun x k y _ => hR x k y⟩
theorem FC.by (h : FC c W W2 R R2) (hB : BY W b m l) (hc : 2175 ≤ c) (hb : b + 1 < 1293) (h1 : b ≠ 134 ∧ b ≠ 138 ∧ b ≠ 130 ∧ b ≠ 132) (h2 : b < 148 ∨ 229 ≤ b) : BY W2 b m l := by
  obtain ⟨a1, a2, a3, a4, a5, a6, a7⟩ := hB
  have h0 := tX_o a1
  exact ⟨a1, a2, a3, (h.1 _ _ (by omega) h0.1 (by omega) (by omega) (by omega) (by omega) (by omega) (by omega) (by omega) (fun c => by unfold ioP at c; omega) (by omega)).trans a4, a5, a6, fun i i0 i1 => (h.1 _ _ (by omega) (by omega) (by omega) (by omega) (by omega) (by omega) (by omega) (by omega) (by omega) (fun c => by unfold ioP at c; omega) (by omega)).trans (a7 i i0 i1)⟩
theorem FC.ns (h : FC c W W2 R R2) (hc : 2175 ≤ c) : (∀ (x : Nat) (k : Int), 229 ≤ x → x < 1293 → k ≠ 2198 → W2 x k = W x k) ∧ ∀ (x : Nat) (k : Int), 229 ≤ x → x < 1293 → R2 x k = R x k := ⟨fun x k x0 x1 hk => h.1 x k (by omega) (by omega) (Or.inl x1) (by omega) (by omega) (by omega) (by omega) (by omega) (by omega) (fun c => by unfold ioP at c; omega) (by omega), fun x k _ x1 => h.2 x k (by omega) (Or.inl x1)⟩
/-- the kernel's own places -/
theorem FC.kn (h : FC c W W2 R R2) (hc : 2175 ≤ c) : W2 129 2038 = W 129 2038 ∧ W2 129 2049 = W 129 2049 ∧ ∀ k : Int, k < 2000 → W2 147 k = W 147 k ∧ W2 148 k = W 148 k := ⟨h.1 _ _ (by omega) (by decide) (Or.inl (by decide)) (by decide) (by decide) (by decide) (by decide) (by decide) (by decide) (fun c => by unfold ioP at c; omega) (by decide), h.1 _ _ (by omega) (by decide) (Or.inl (by decide)) (by decide) (by decide) (by decide) (by decide) (by decide) (by decide) (fun c => by unfold ioP at c; omega) (by decide), fun k hk => ⟨h.1 _ _ (by omega) (by decide) (Or.inl (by decide)) (by decide) (by omega) (by omega) (by omega) (by omega) (by omega) (fun c => by unfold ioP at c; omega) (by omega), h.1 _ _ (by omega) (by decide) (Or.inl (by decide)) (by decide) (by omega) (by omega) (by omega) (by omega) (by omega) (fun c => by unfold ioP at c; omega) (by omega)⟩⟩
theorem NMs.fc (h : NMs W lo i nms) (hF : FC c W W2 R R2) (hc : 2175 ≤ c) (hi : 0 ≤ i ∧ i + nms.length ≤ 110) : NMs W2 lo i nms := fun j hj => by
  obtain ⟨a1, a2, a3⟩ := h j hj
  obtain ⟨k1, k2⟩ := (hF.kn hc).2.2 (i + (j : Int)) (by omega)
  refine ⟨?_, a2, a3⟩
  unfold NMX at a1 ⊢
  rw [k1, k2]
  exact a1
theorem NMs.hd (h : NMs W lo i (nm :: nms)) : NMX W lo i nm ∧ nm.length ≤ 200 ∧ byt nm := by
  have := h 0 (by rw [List.length_cons]; omega)
  rw [show i + ((0 : Nat) : Int) = i by omega] at this
  exact this
theorem NMs.tl (h : NMs W lo i (nm :: nms)) : NMs W lo (i + 1) nms := fun j hj => by
  have := h (j + 1) (by rw [List.length_cons]; omega)
  rw [show i + ((j + 1 : Nat) : Int) = i + 1 + (j : Int) by omega] at this
  exact this
/-- writes to the commands' objects -/
theorem XW.out (h : XW K T U W R P) (hW : ∀ (x : Nat) (k : Int), (x < 2175 ∨ 2372 ≤ x) → W2 x k = W x k) (hR : ∀ (x : Nat) (k : Int), (x < 2175 ∨ k = 2267) → R2 x k = R x k) : XW K T U W2 R2 P := by
  obtain ⟨⟨⟨a1, a2, a3⟩, x2, x3, x4, x5, x6, x7⟩, l0, h0⟩ := h
  have h6 := XQ.len7 ⟨a1, a2, a3⟩ x5.1
  have by1 : ∀ {b n : Nat} {l : List Int}, BY W b n l → b + 1 < 2175 → BY W2 b n l := fun {b n l} h hb => by
    obtain ⟨y1, y2, y3, y4, y5, y6, y7⟩ := h
    exact ⟨y1, y2, y3, (hW _ _ (by omega)).trans y4, y5, y6, fun i i0 i1 => (hW _ _ (by omega)).trans (y7 i i0 i1)⟩
  refine ⟨⟨⟨fun s s0 s1 => ?_, a2.fv (hW 0 0 (by omega)) (hW 0 1 (by omega)) (fun x => hR x _ (Or.inr rfl)), ?_⟩, ?_, x3.fr x4.iv (fun x k x0 x1 _ => hW x k (by omega)) (fun x k _ x1 => hR x k (by omega)) (fun _ _ _ => rfl), x4, x5, x6, x7⟩, l0, by1 h0 (by decide)⟩
  · obtain ⟨o, t, h⟩ := a1 s s0 s1
    exact ⟨o, t, h.fr (fun x k _ x1 => hW x k (by omega)) (fun x k _ x1 => hR x k (by omega)) (fun _ c k _ _ _ q => hW c k (by omega)) (fun n q => h6 s n s0 q)⟩
  · obtain ⟨b1, b2, b3⟩ := a3
    exact ⟨by1 b1 (by decide), by1 b2 (by decide), fun p p0 p1 => (hW _ _ (by omega)).trans (b3 p p0 p1)⟩
  · obtain ⟨b1, b2, b3⟩ := x2
    exact ⟨(hW _ _ (by omega)).trans b1, (hW _ _ (by omega)).trans b2, fun i i0 i1 => ⟨(b3 i i0 i1).1, by1 (b3 i i0 i1).2 (by omega)⟩⟩
theorem chW_o {y : Nat} {p2 f2 : Int} (h : y ≠ c) : chW W c s f2 p2 e y k = W y k := by
  unfold chW
  rw [rU_f h, rU_f h, rU_f h, rU_f h, rU_f h, rU_f h, rU_f h]
theorem chW_at {p2 f2 : Int} : chW W c s f2 p2 e c 2160 = s ∧ chW W c s f2 p2 e c 2161 = f2 ∧ chW W c s f2 p2 e c 2162 = p2 ∧ chW W c s f2 p2 e c 2163 = e ∧ chW W c s f2 p2 e c 2165 = 0 ∧ chW W c s f2 p2 e c 2166 = 0 ∧ chW W c s f2 p2 e c 2167 = 0 := by
  unfold chW
  refine ⟨?_, ?_, ?_, ?_, ?_, ?_, rU_s⟩
  · rw [rU_j (by decide), rU_j (by decide), rU_j (by decide), rU_j (by decide), rU_j (by decide), rU_j (by decide), rU_s]
  · rw [rU_j (by decide), rU_j (by decide), rU_j (by decide), rU_j (by decide), rU_j (by decide), rU_s]
  · rw [rU_j (by decide), rU_j (by decide), rU_j (by decide), rU_j (by decide), rU_s]
  · rw [rU_j (by decide), rU_j (by decide), rU_j (by decide), rU_s]
  · rw [rU_j (by decide), rU_j (by decide), rU_s]
  · rw [rU_j (by decide), rU_s]
/-- a channel becomes what was walked to -/
theorem CHX_new {p2 f2 kd : Int} (h : (if kd = 128 then 1 else 0) = e) : CHX (chW W c s f2 p2 e) (oU R c 2164 none) c (s, f2, p2, kd, -1) := by
  obtain ⟨a1, a2, a3, a4, -⟩ := chW_at (W := W) (c := c) (s := s) (f2 := f2) (p2 := p2) (e := e)
  exact ⟨a1, a2, a3, a4.trans h.symm, oU_s⟩
theorem XW.chn {p2 f2 : Int} (h : XW K T U W R P) (hc : 2175 ≤ c) (hc2 : c < 2281) : XW K T U (chW W c s f2 p2 e) (oU R c 2164 none) P := h.out (fun x k hx => chW_o (by omega)) (fun x k hx => by
  rcases hx with hx | hx
  · exact oU_f (by omega)
  · exact oU_j (by omega))
theorem srv_o (hs : 0 ≤ s ∧ s < 3) : tX (1293 + 294 * s.toNat) = some (Sum.inl 7) := VS.o (S := 1293 + 294 * s.toNat) (s := s) ⟨hs, rfl⟩
/-- a walk of one name from a channel's fid -/
theorem wk_try {Post : Option AV → hM → Prop} (hP : PX σ0 W R σ) (hX : XW K T U W R P) (hT : T + 320 ≤ 2147483000) (hfr : tX fr = some (Sum.inl 5)) (hfs0 : 2175 ≤ fr ∨ (229 ≤ fr ∧ fr < 1293)) (hs0 : W fr 2160 = s) (hf0 : W fr 2161 = f) (hs : 0 ≤ s ∧ s < 3) (hf : 0 ≤ f ∧ f ≤ 47) (hc : tX c = some (Sum.inl 5)) (hc2 : 2175 ≤ c) (hC : BY W 145 161 lo) (hnn : W 129 2038 = n) (hi : 0 ≤ i ∧ i < n ∧ i < 100) (hN : NMX W lo i nm) (hnl : nm.length ≤ 200) (hnb : byt nm) (hno : ¬ kStE P s f nm = 0 → ∀ (σ : hM) (W2 : qR) (R2 : rR), PX σ0 W2 R2 σ → XW K (T + 4) U W2 R2 (kStP P s f nm) → FA W W2 R R2 → WP fb (d + 8) 121 267 [some (vR (some 129)), some (vR (some pr)), some (vR (some c)), some (vI most), some (vI thr), some (vI at5), some (vI (kStE P s f nm)), some (vI i), x8, x9, x10, x11, x12, some (vR (some fr))] [] σ Post) (hyes : kStE P s f nm = 0 → ∀ (σ : hM) (W2 : qR) (R2 : rR), PX σ0 W2 R2 σ → XW K (T + 4) U W2 R2 (kStP P s f nm) → CHX W2 R2 c (kStC P s f nm) → FC c W W2 R R2 → WP fb (d + 8) 121 267 [some (vR (some 129)), some (vR (some pr)), some (vR (some c)), some (vI most), some (vI thr), some (vI at5), some (vI 0), some (vI i), x8, x9, x10, x11, x12, some (vR (some fr))] [] σ Post) : WP fb (d + 8) 121 183 [some (vR (some 129)), some (vR (some pr)), some (vR (some c)), some (vI most), some (vI thr), some (vI at5), x6, some (vI i), x8, x9, x10, x11, x12, some (vR (some fr))] [] σ Post := by
  have hIV := hX.1.2.2.2.1.iv
  have hGI := hX.1.2.2.2.1
  have hcl := (tX_o hc).2
  have hO := srv_o hs
  obtain ⟨ord, tt, hXs⟩ := hX.1.1.1 s hs.1 hs.2
  have hho := x_host (fb := fb) (d := d + 7) (s := s) hP hs
  have hwk := x_walking1 (fb := fb) (d := d + 4) hP ⟨hs, rfl⟩ hXs hIV hf hC hnn hi hN hnl
  obtain ⟨g, hg⟩ : ∃ q, qNewF P s = q := ⟨_, rfl⟩
  have hgr : g = -1 ∨ (0 ≤ g ∧ g ≤ 47) := by rw [← hg]; exact qNewF_rng
  have eE : kStE P s f nm = if g < 0 then 12 else tE P s (mWalk f g nm) := by unfold kStE; rw [hg]
  have eP : kStP P s f nm = if g < 0 then P else tP P s (mWalk f g nm) := by unfold kStP; rw [hg]
  have eC : kStC P s f nm = (s, g, kPath (tA P s (mWalk f g nm)), kKind (tA P s (mWalk f g nm)), -1) := by unfold kStC; rw [hg]
  rw [hg] at hwk
  have hml := mWalk_len (f := f) (g := g) (nm := nm)
  have hak := fun (σ : hM) (W2 : qR) (hP : PX σ0 W2 R σ) (hF : FR1 W W2) (hB : BY W2 138 300 (mFr (mWalk f g nm))) => x_askN (fb := fb) (d := d) (g := g) hP (hX.fr1 hF) (by omega) hs hB ⟨by omega, by omega⟩ (by rw [mWalk_0]; decide) (fun q => ⟨fun c => by rw [mWalk_0] at c; exact absurd c (by decide), fun _ => by rw [mWalk_g ⟨by omega, by omega⟩]; omega⟩)
  rw [← eE, ← eP] at hak
  obtain ⟨sv, hsv⟩ : ∃ q, 1293 + 294 * s.toNat = q := ⟨_, rfl⟩
  simp only [hsv] at hho hO hak
  by_cases qe : kStE P s f nm = 0
  rotate_left
  · have hno := hno qe
    obtain ⟨e, he⟩ : ∃ q, kStE P s f nm = q := ⟨_, rfl⟩
    rw [he] at qe hno hak
    refine x_lr (z := some 129) T_121_183 rfl ?_
    refine x_lr (z := some fr) T_121_184 rfl ?_
    refine x_gI (z := s) T_121_186 (Or.inl F_5_0) (hP.o hfr) (Eq.trans (hP.gi hfr (key := 2160) rfl) hs0) ?_
    refine x_cv2 T_121_189 mN_122 mL_122 (Nat.le_of_ble_eq_true rfl) mO_122 (hP.o xo_129) (Nat.le_of_ble_eq_true rfl) (hho) ?_
    rintro _ σ ⟨rfl, rfl⟩
    refine cR ?_
    refine x_ic T_121_192 ?_
    refine x_lr (z := some 129) T_121_193 rfl ?_
    refine x_lr (z := some fr) T_121_194 rfl ?_
    refine x_gI (z := s) T_121_196 (Or.inl F_5_0) (hP.o hfr) (Eq.trans (hP.gi hfr (key := 2160) rfl) hs0) ?_
    refine x_lr (z := some fr) T_121_199 rfl ?_
    refine x_gI (z := f) T_121_201 (Or.inl F_5_1) (hP.o hfr) (Eq.trans (hP.gi hfr (key := 2161) rfl) hf0) ?_
    refine x_li (z := i) T_121_204 rfl ?_
    refine x_cv4 T_121_206 mN_123 mL_123 (Nat.le_of_ble_eq_true rfl) mO_123 (hP.o xo_129) (Nat.le_of_ble_eq_true rfl) (hwk) ?_
    clear hP hwk
    rintro _ σ ⟨rfl, W2, hP, hB2, hF2, hg2⟩
    refine cR ?_
    refine x_lr (z := some 129) T_121_209 rfl ?_
    refine x_gR (z := some 134) T_121_210 F_1_2 (hP.o xo_129) (hP.rc xo_129 rfl rfl) ?_
    refine x_cv4 T_121_213 mN_26 mL_26 (Nat.le_of_ble_eq_true rfl) mO_26 (hP.o hO) (Nat.le_of_ble_eq_true rfl) (hak σ W2 hP hF2 hB2) ?_
    clear hP hak
    rintro _ σ ⟨rfl, W3, R3, hP, hX3, hB3, hF3⟩
    refine cI ?_
    refine x_si (ls1 := [some (vR (some 129)), some (vR (some pr)), some (vR (some c)), some (vI most), some (vI thr), some (vI at5), some (vI e), some (vI i), x8, x9, x10, x11, x12, some (vR (some fr))]) T_121_216 rfl ?_
    refine x_li (z := e) T_121_218 rfl ?_
    refine x_if T_121_220 (fun _ => ?_) (fun h => absurd (show ¬ e = 0 by omega) h)
    exact hno σ W3 R3 hP hX3 (FA_tr (FA_fr hF2) (FA_fs hF3))
  · have hg0 : ¬ g < 0 := fun c => by rw [eE, if_pos c] at qe; omega
    have hyes := hyes qe
    rw [qe] at hak
    have h0 : tE P s (mWalk f g nm) = 0 := by rw [eE, if_neg hg0] at qe; exact qe
    obtain ⟨nn, -, w2, w3, w4, w5, w6, w7⟩ := walk_ok hGI (by have : 0 ≤ P 2281 42 ∧ P 2281 42 ≤ T := IV.n hIV 42 42 rfl rfl (by decide); omega) (by omega) hs hnb (by omega) ⟨by omega, by omega⟩ h0
    obtain ⟨A, hA⟩ : ∃ A, tA P s (mWalk f g nm) = A := ⟨_, rfl⟩
    rw [hA] at eC w2 w3 w4 w5 hak
    obtain ⟨pa, hpa⟩ : ∃ q, nu (lg A) 14 4 = q := ⟨_, rfl⟩
    have hpk : kPath A = pa := by rw [w2, ← w3, hpa]
    have hpr : 0 ≤ pa ∧ pa ≤ T + 201 := by rw [← hpa, w3]; exact ⟨w6, w7⟩
    obtain ⟨kd, hkd⟩ : ∃ q, kKind A = q := ⟨_, rfl⟩
    rw [hpk, hkd] at eC
    have hnum := fun (σ : hM) (V : qR) (V3 : rR) (hP : PX σ0 V V3 σ) (hB : BY V 134 300 A) => x_num (fb := fb) (d := d + 7) (s := 14) (k := 4) 4 hP hB w5 rfl (by decide) (by decide) (by decide) hpa
    have hat := fun (σ : hM) (V : qR) (V3 : rR) (hP : PX σ0 V V3 σ) (hB : BY V 134 300 A) => x_at (fb := fb) (d := d + 7) (i := 9) hP hB
    have hk9 : ∀ (V : qR), BY V 134 300 A → lg A 9 = kd := fun V hB => by
      rw [← hkd]
      exact (lg_one (by decide) hB.2.2.2.2.2.1).symm
    rw [if_pos (by omega)] at hat
    have hfin : ∀ (σ : hM) (V : qR) (V3 : rR) (dr : Int), (if kd = 128 then 1 else 0) = dr → PX σ0 (chW V c s g pa dr) (oU V3 c 2164 none) σ → XW K (T + 4) U V V3 (kStP P s f nm) → FA W V R V3 → WP fb (d + 8) 121 267 [some (vR (some 129)), some (vR (some pr)), some (vR (some c)), some (vI most), some (vI thr), some (vI at5), some (vI 0), some (vI i), x8, x9, x10, x11, x12, some (vR (some fr))] [] σ Post := fun σ V V3 dr hdr hP hX3 hF => hyes σ _ _ hP (hX3.chn hc2 hcl) (by rw [eC]; exact CHX_new hdr) (FC_tr (FC_fa hF) (FC_own (fun x k hx => chW_o hx) (fun x k hx => oU_f hx)))
    have hfs : ∀ (V V2 : qR) (V3 : rR), FVS 134 V V2 R V3 → V2 129 2037 = V 129 2037 ∧ (2175 ≤ fr ∨ (229 ≤ fr ∧ fr < 1293) → V2 fr 2160 = V fr 2160) := fun V V2 V3 h => ⟨h.1 _ _ (by decide) (Or.inl (by decide)) (by decide) (by decide) (by decide) (fun c => by unfold ioP at c; omega) (by decide) (by decide), fun q => h.1 _ _ (by omega) (by omega) (by have := (tX_o hfr).2; omega) (by omega) (by omega) (fun c => by unfold ioP at c; omega) (by omega) (by omega)⟩
    by_cases qk : kd = 128
    · have hbc := fun (σ : hM) (V : qR) (V3 : rR) (hP : PX σ0 V V3 σ) => x_become (fb := fb) (d := d + 7) (s := s) (f2 := g) (p := pa) (e := 1) hP hc (Or.inr rfl)
      refine x_lr (z := some 129) T_121_183 rfl ?_
      refine x_lr (z := some fr) T_121_184 rfl ?_
      refine x_gI (z := s) T_121_186 (Or.inl F_5_0) (hP.o hfr) (Eq.trans (hP.gi hfr (key := 2160) rfl) hs0) ?_
      refine x_cv2 T_121_189 mN_122 mL_122 (Nat.le_of_ble_eq_true rfl) mO_122 (hP.o xo_129) (Nat.le_of_ble_eq_true rfl) (hho) ?_
      rintro _ σ ⟨rfl, rfl⟩
      refine cR ?_
      refine x_ic T_121_192 ?_
      refine x_lr (z := some 129) T_121_193 rfl ?_
      refine x_lr (z := some fr) T_121_194 rfl ?_
      refine x_gI (z := s) T_121_196 (Or.inl F_5_0) (hP.o hfr) (Eq.trans (hP.gi hfr (key := 2160) rfl) hs0) ?_
      refine x_lr (z := some fr) T_121_199 rfl ?_
      refine x_gI (z := f) T_121_201 (Or.inl F_5_1) (hP.o hfr) (Eq.trans (hP.gi hfr (key := 2161) rfl) hf0) ?_
      refine x_li (z := i) T_121_204 rfl ?_
      refine x_cv4 T_121_206 mN_123 mL_123 (Nat.le_of_ble_eq_true rfl) mO_123 (hP.o xo_129) (Nat.le_of_ble_eq_true rfl) (hwk) ?_
      clear hP hwk
      rintro _ σ ⟨rfl, W2, hP, hB2, hF2, hg2⟩
      refine cR ?_
      refine x_lr (z := some 129) T_121_209 rfl ?_
      refine x_gR (z := some 134) T_121_210 F_1_2 (hP.o xo_129) (hP.rc xo_129 rfl rfl) ?_
      refine x_cv4 T_121_213 mN_26 mL_26 (Nat.le_of_ble_eq_true rfl) mO_26 (hP.o hO) (Nat.le_of_ble_eq_true rfl) (hak σ W2 hP hF2 hB2) ?_
      clear hP hak
      rintro _ σ ⟨rfl, W3, R3, hP, hX3, hB3, hF3⟩
      have hB3 := hB3 hg0
      have hl9 := hk9 W3 hB3
      obtain ⟨z1, z2⟩ := hfs W2 W3 R3 hF3
      have hg3 := z1.trans hg2
      have hs3 := (z2 hfs0).trans ((hF2 fr 2160 (by omega) (by omega) (by omega)).trans hs0)
      refine cI ?_
      refine x_si (ls1 := [some (vR (some 129)), some (vR (some pr)), some (vR (some c)), some (vI most), some (vI thr), some (vI at5), some (vI 0), some (vI i), x8, x9, x10, x11, x12, some (vR (some fr))]) T_121_216 rfl ?_
      refine x_li (z := 0) T_121_218 rfl ?_
      refine x_if T_121_220 (fun h => absurd (show ¬ (0 : Int) = 0 from h) (by decide)) (fun _ => ?_)
      refine x_lr (z := some c) T_121_223 rfl ?_
      refine x_lr (z := some fr) T_121_224 rfl ?_
      refine x_gI (z := s) T_121_226 (Or.inl F_5_0) (hP.o hfr) (Eq.trans (hP.gi hfr (key := 2160) rfl) hs3) ?_
      refine x_lr (z := some 129) T_121_229 rfl ?_
      refine x_gI (z := g) T_121_230 (Or.inl F_1_5) (hP.o xo_129) (Eq.trans (hP.gi xo_129 (key := 2037) rfl) hg3) ?_
      refine x_lr (z := some 129) T_121_233 rfl ?_
      refine x_gR (z := some 134) T_121_234 F_1_2 (hP.o xo_129) (hP.rc xo_129 rfl rfl) ?_
      refine x_ic T_121_237 ?_
      refine x_ic T_121_239 ?_
      refine x_cv3 T_121_240 mN_29 mL_29 (Nat.le_of_ble_eq_true rfl) mO_29 (hP.o xo_134) (Nat.le_of_ble_eq_true rfl) (hnum σ W3 R3 hP hB3) ?_
      rintro _ σ ⟨rfl, rfl⟩
      refine cL ?_
      refine x_l2i (w := pa) T_121_243 (w32_id (by omega) (by omega)) ?_
      refine x_lr (z := some 129) T_121_244 rfl ?_
      refine x_gR (z := some 134) T_121_245 F_1_2 (hP.o xo_129) (hP.rc xo_129 rfl rfl) ?_
      refine x_ic T_121_248 ?_
      refine x_cv2 T_121_250 mN_33 mL_33 (Nat.le_of_ble_eq_true rfl) mO_33 (hP.o xo_134) (Nat.le_of_ble_eq_true rfl) (hat σ W3 R3 hP hB3) ?_
      rintro _ σ ⟨rfl, rfl⟩
      refine cI ?_
      refine x_ic T_121_253 ?_
      refine x_ic2 T_121_256 (fun h => absurd (show ¬ (lg A 9) = 128 from h) (by omega)) (fun _ => ?_)
      refine x_ic T_121_259 ?_
      refine x_goto T_121_260 ?_
      refine x_cv5 T_121_264 mN_128 mL_128 (Nat.le_of_ble_eq_true rfl) mO_128 (hP.o hc) (Nat.le_of_ble_eq_true rfl) (hbc σ W3 R3 hP) ?_
      clear hP hbc
      rintro _ σ ⟨rfl, hP⟩
      refine cV ?_
      exact hfin σ W3 R3 1 (if_pos qk) hP hX3 (FA_tr (FA_fr hF2) (FA_fs hF3))
    · have hbc := fun (σ : hM) (V : qR) (V3 : rR) (hP : PX σ0 V V3 σ) => x_become (fb := fb) (d := d + 7) (s := s) (f2 := g) (p := pa) (e := 0) hP hc (Or.inl rfl)
      refine x_lr (z := some 129) T_121_183 rfl ?_
      refine x_lr (z := some fr) T_121_184 rfl ?_
      refine x_gI (z := s) T_121_186 (Or.inl F_5_0) (hP.o hfr) (Eq.trans (hP.gi hfr (key := 2160) rfl) hs0) ?_
      refine x_cv2 T_121_189 mN_122 mL_122 (Nat.le_of_ble_eq_true rfl) mO_122 (hP.o xo_129) (Nat.le_of_ble_eq_true rfl) (hho) ?_
      rintro _ σ ⟨rfl, rfl⟩
      refine cR ?_
      refine x_ic T_121_192 ?_
      refine x_lr (z := some 129) T_121_193 rfl ?_
      refine x_lr (z := some fr) T_121_194 rfl ?_
      refine x_gI (z := s) T_121_196 (Or.inl F_5_0) (hP.o hfr) (Eq.trans (hP.gi hfr (key := 2160) rfl) hs0) ?_
      refine x_lr (z := some fr) T_121_199 rfl ?_
      refine x_gI (z := f) T_121_201 (Or.inl F_5_1) (hP.o hfr) (Eq.trans (hP.gi hfr (key := 2161) rfl) hf0) ?_
      refine x_li (z := i) T_121_204 rfl ?_
      refine x_cv4 T_121_206 mN_123 mL_123 (Nat.le_of_ble_eq_true rfl) mO_123 (hP.o xo_129) (Nat.le_of_ble_eq_true rfl) (hwk) ?_
      clear hP hwk
      rintro _ σ ⟨rfl, W2, hP, hB2, hF2, hg2⟩
      refine cR ?_
      refine x_lr (z := some 129) T_121_209 rfl ?_
      refine x_gR (z := some 134) T_121_210 F_1_2 (hP.o xo_129) (hP.rc xo_129 rfl rfl) ?_
      refine x_cv4 T_121_213 mN_26 mL_26 (Nat.le_of_ble_eq_true rfl) mO_26 (hP.o hO) (Nat.le_of_ble_eq_true rfl) (hak σ W2 hP hF2 hB2) ?_
      clear hP hak
      rintro _ σ ⟨rfl, W3, R3, hP, hX3, hB3, hF3⟩
      have hB3 := hB3 hg0
      have hl9 := hk9 W3 hB3
      obtain ⟨z1, z2⟩ := hfs W2 W3 R3 hF3
      have hg3 := z1.trans hg2
      have hs3 := (z2 hfs0).trans ((hF2 fr 2160 (by omega) (by omega) (by omega)).trans hs0)
      refine cI ?_
      refine x_si (ls1 := [some (vR (some 129)), some (vR (some pr)), some (vR (some c)), some (vI most), some (vI thr), some (vI at5), some (vI 0), some (vI i), x8, x9, x10, x11, x12, some (vR (some fr))]) T_121_216 rfl ?_
      refine x_li (z := 0) T_121_218 rfl ?_
      refine x_if T_121_220 (fun h => absurd (show ¬ (0 : Int) = 0 from h) (by decide)) (fun _ => ?_)
      refine x_lr (z := some c) T_121_223 rfl ?_
      refine x_lr (z := some fr) T_121_224 rfl ?_
      refine x_gI (z := s) T_121_226 (Or.inl F_5_0) (hP.o hfr) (Eq.trans (hP.gi hfr (key := 2160) rfl) hs3) ?_
      refine x_lr (z := some 129) T_121_229 rfl ?_
      refine x_gI (z := g) T_121_230 (Or.inl F_1_5) (hP.o xo_129) (Eq.trans (hP.gi xo_129 (key := 2037) rfl) hg3) ?_
      refine x_lr (z := some 129) T_121_233 rfl ?_
      refine x_gR (z := some 134) T_121_234 F_1_2 (hP.o xo_129) (hP.rc xo_129 rfl rfl) ?_
      refine x_ic T_121_237 ?_
      refine x_ic T_121_239 ?_
      refine x_cv3 T_121_240 mN_29 mL_29 (Nat.le_of_ble_eq_true rfl) mO_29 (hP.o xo_134) (Nat.le_of_ble_eq_true rfl) (hnum σ W3 R3 hP hB3) ?_
      rintro _ σ ⟨rfl, rfl⟩
      refine cL ?_
      refine x_l2i (w := pa) T_121_243 (w32_id (by omega) (by omega)) ?_
      refine x_lr (z := some 129) T_121_244 rfl ?_
      refine x_gR (z := some 134) T_121_245 F_1_2 (hP.o xo_129) (hP.rc xo_129 rfl rfl) ?_
      refine x_ic T_121_248 ?_
      refine x_cv2 T_121_250 mN_33 mL_33 (Nat.le_of_ble_eq_true rfl) mO_33 (hP.o xo_134) (Nat.le_of_ble_eq_true rfl) (hat σ W3 R3 hP hB3) ?_
      rintro _ σ ⟨rfl, rfl⟩
      refine cI ?_
      refine x_ic T_121_253 ?_
      refine x_ic2 T_121_256 (fun _ => ?_) (fun h => absurd (show ¬ (lg A 9) = 128 by omega) h)
      refine x_ic T_121_263 ?_
      refine x_cv5 T_121_264 mN_128 mL_128 (Nat.le_of_ble_eq_true rfl) mO_128 (hP.o hc) (Nat.le_of_ble_eq_true rfl) (hbc σ W3 R3 hP) ?_
      clear hP hbc
      rintro _ σ ⟨rfl, hP⟩
      refine cV ?_
      exact hfin σ W3 R3 0 (if_neg qk) hP hX3 (FA_tr (FA_fr hF2) (FA_fs hF3))
/-- what holds where a point's members are tried -/
def PTM (W : qR) (R : rR) (y0 : Nat) (P : qR) (q : Int) : Prop := tX y0 = some (Sum.inl 4) ∧ isA (y0 + 1) 15 6 ∧ (229 ≤ y0 ∧ y0 + 1 < 1293) ∧ W y0 2131 = P 2337 q ∧ ∀ j : Int, 0 ≤ j → j < P 2337 q → ∃ cc : Nat, R (y0 + 1) j = some cc ∧ tX cc = some (Sum.inl 5) ∧ (229 ≤ cc ∧ cc < 1293) ∧ MBC W P cc (6 * q + j)
theorem PTM_of (hX : XGR W R P g) (hg : 0 ≤ g ∧ g < 8) (hI : IV false T U P) (hk : 0 ≤ k ∧ k < P 2334 g) : ∃ y0 : Nat, R (grO g + 1) k = some y0 ∧ PTM W R y0 P (8 * g + k) := by
  have hpb : 0 ≤ P 2334 g ∧ P 2334 g ≤ 8 := IV.a hI 2334 0 8 rfl rfl rfl (by omega) (by omega)
  have hmb : 0 ≤ P 2337 (8 * g + k) ∧ P 2337 (8 * g + k) ≤ 6 := IV.a hI 2337 0 64 rfl rfl rfl (by omega) (by omega)
  have hr := grO_rng hg
  obtain ⟨i, hi, hrow⟩ := hX.pt (k := k) ⟨hk.1, by omega⟩
  obtain ⟨y, h0, h1, h2, h3, h4⟩ := hX.2.2.2.2 k hk.1 hk.2
  have ey : y = grO g + 2 + 8 * i := Option.some.inj (h0.symm.trans hrow)
  refine ⟨y, h0, ?_, ?_, ?_, h3, fun j j0 j1 => ?_⟩
  · rw [ey]; exact ptO_o hg hi
  · rw [ey, show grO g + 2 + 8 * i + 1 = grO g + 3 + 8 * i by omega]; exact ptO_a hg hi
  · omega
  · obtain ⟨cc, c0, c1⟩ := h4 j j0 j1
    obtain ⟨y2, y3, y4⟩ := hX.mb hi (j := j) ⟨j0, by omega⟩
    have ec : cc = grO g + 4 + 8 * i + y2 := by
      rw [ey, show grO g + 2 + 8 * i + 1 = grO g + 3 + 8 * i by omega] at c0
      exact Option.some.inj (c0.symm.trans y4)
    exact ⟨cc, c0, by rw [ec]; exact mbO_o hg hi y3, by omega, c1⟩
theorem PTM.frn (h : PTM W R y0 P x) (hW : ∀ (x : Nat) (k : Int), 229 ≤ x → x < 1293 → k ≠ 2198 → W2 x k = W x k) (hR : ∀ (x : Nat) (k : Int), 229 ≤ x → x < 1293 → R2 x k = R x k) (hQ : ∀ (f : Nat) (k : Int), nsR.elem f = true → Q f k = P f k) : PTM W2 R2 y0 Q x := by
  obtain ⟨a1, a2, a3, a4, a5⟩ := h
  refine ⟨a1, a2, a3, ?_, fun j j0 j1 => ?_⟩
  · rw [hW _ _ (by omega) (by omega) (by decide), hQ 2337 _ rfl]
    exact a4
  · rw [hQ 2337 _ rfl] at j1
    obtain ⟨cc, c0, c1, c2, c3⟩ := a5 j j0 j1
    exact ⟨cc, (hR _ _ (by omega) (by omega)).trans c0, c1, c2, c3.fr c2 hW hQ⟩
theorem nsR_kf (h : KF Q P) : ∀ (f : Nat) (k : Int), nsR.elem f = true → Q f k = P f k := fun f k hf => by
  obtain ⟨q1, q2, q3, q4⟩ := nsR_srv hf
  exact h f k q1 q2 q3 q4
end XWLK
