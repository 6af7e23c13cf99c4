/-! join2: the point is made. -/
theorem T_363_185 : hTab 363 185 = some ((3, 10, 0, []), 187) := rfl
theorem T_363_187 : hTab 363 187 = some ((3, 0, 2, []), 188) := rfl
theorem T_363_188 : hTab 363 188 = some ((24, 17, Int.ofNat 99, []), 191) := rfl
theorem T_363_191 : hTab 363 191 = some ((19, 3, Int.ofNat 280, []), 194) := rfl
theorem T_363_194 : hTab 363 194 = some ((0, 0, 6, []), 196) := rfl
theorem T_363_196 : hTab 363 196 = some ((3, 9, 0, []), 198) := rfl
theorem T_363_198 : hTab 363 198 = some ((10, 2, 0, []), 199) := rfl
theorem T_363_199 : hTab 363 199 = some ((3, 10, 0, []), 201) := rfl
theorem T_363_201 : hTab 363 201 = some ((10, 0, 0, []), 202) := rfl
theorem T_363_202 : hTab 363 202 = some ((4, 11, 0, []), 204) := rfl
theorem T_363_204 : hTab 363 204 = some ((3, 0, 2, []), 205) := rfl
theorem T_363_205 : hTab 363 205 = some ((24, 17, Int.ofNat 68, []), 208) := rfl
theorem T_363_208 : hTab 363 208 = some ((3, 11, 0, []), 210) := rfl
theorem T_363_210 : hTab 363 210 = some ((3, 0, 2, []), 211) := rfl
theorem T_363_211 : hTab 363 211 = some ((24, 17, Int.ofNat 94, []), 214) := rfl
theorem T_363_214 : hTab 363 214 = some ((3, 10, 0, []), 216) := rfl
theorem T_363_216 : hTab 363 216 = some ((26, 0, 0, []), 217) := rfl
theorem T_363_217 : hTab 363 217 = some ((27, 0, 0, []), 218) := rfl
theorem T_363_218 : hTab 363 218 = some ((3, 0, 2, []), 219) := rfl
theorem T_363_219 : hTab 363 219 = some ((24, 17, Int.ofNat 69, []), 222) := rfl
theorem T_363_222 : hTab 363 222 = some ((3, 11, 0, []), 224) := rfl
theorem T_363_224 : hTab 363 224 = some ((3, 0, 2, []), 225) := rfl
theorem T_363_225 : hTab 363 225 = some ((24, 17, Int.ofNat 95, []), 228) := rfl
theorem T_363_228 : hTab 363 228 = some ((3, 10, 0, []), 230) := rfl
theorem T_363_230 : hTab 363 230 = some ((26, 0, 0, []), 231) := rfl
theorem T_363_231 : hTab 363 231 = some ((27, 0, 0, []), 232) := rfl
theorem T_363_232 : hTab 363 232 = some ((3, 0, 2, []), 233) := rfl
theorem T_363_233 : hTab 363 233 = some ((24, 17, Int.ofNat 70, []), 236) := rfl
theorem T_363_236 : hTab 363 236 = some ((3, 11, 0, []), 238) := rfl
theorem T_363_238 : hTab 363 238 = some ((3, 0, 2, []), 239) := rfl
theorem T_363_239 : hTab 363 239 = some ((24, 17, Int.ofNat 96, []), 242) := rfl
theorem T_363_242 : hTab 363 242 = some ((3, 10, 0, []), 244) := rfl
theorem T_363_244 : hTab 363 244 = some ((26, 0, 0, []), 245) := rfl
theorem T_363_245 : hTab 363 245 = some ((27, 0, 0, []), 246) := rfl
theorem T_363_246 : hTab 363 246 = some ((3, 0, 2, []), 247) := rfl
theorem T_363_247 : hTab 363 247 = some ((24, 17, Int.ofNat 71, []), 250) := rfl
theorem T_363_250 : hTab 363 250 = some ((3, 11, 0, []), 252) := rfl
theorem T_363_252 : hTab 363 252 = some ((3, 0, 2, []), 253) := rfl
theorem T_363_253 : hTab 363 253 = some ((24, 17, Int.ofNat 97, []), 256) := rfl
theorem T_363_256 : hTab 363 256 = some ((3, 10, 0, []), 258) := rfl
theorem T_363_258 : hTab 363 258 = some ((26, 0, 0, []), 259) := rfl
theorem T_363_259 : hTab 363 259 = some ((27, 0, 0, []), 260) := rfl
theorem T_363_260 : hTab 363 260 = some ((3, 0, 2, []), 261) := rfl
theorem T_363_261 : hTab 363 261 = some ((24, 17, Int.ofNat 72, []), 264) := rfl
theorem T_363_264 : hTab 363 264 = some ((3, 11, 0, []), 266) := rfl
theorem T_363_266 : hTab 363 266 = some ((3, 0, 2, []), 267) := rfl
theorem T_363_267 : hTab 363 267 = some ((24, 17, Int.ofNat 98, []), 270) := rfl
theorem T_363_270 : hTab 363 270 = some ((3, 10, 0, []), 272) := rfl
theorem T_363_272 : hTab 363 272 = some ((26, 2, 0, []), 273) := rfl
theorem T_363_273 : hTab 363 273 = some ((27, 2, 0, []), 274) := rfl
theorem T_363_274 : hTab 363 274 = some ((5, 10, 1, []), 277) := rfl
theorem T_363_277 : hTab 363 277 = some ((22, 0, Int.ofNat 185, []), 280) := rfl
def gS5 (P : qR) (b : Int) (x : Nw) : qR := rU (rU (rU (rU (rU P 2338 b x.1) 2339 b x.2.1) 2340 b x.2.2.1) 2341 b x.2.2.2.1) 2342 b x.2.2.2.2
def gSt (pt : Int) : List Nw → Int → qR → qR
  | [], _, P => P
  | x :: r, j, P => gSt pt r (j + 1) (gS5 P (6 * pt + j) x)
def jnQ (P : qR) (g old bf bh : Int) (c1 : Ch) : qR := if old < 0 then rU (rU (rU P 2334 g (P 2334 g + 1)) 2335 (8 * g + P 2334 g) c1.1) 2336 (8 * g + P 2334 g) c1.2.2.1 else if bf = 0 ∧ bh = 0 then kDrM old (P 2337 old).toNat 0 P else P
def jnPt (P : qR) (g old : Int) : Int := if old < 0 then 8 * g + P 2334 g else old
def jnP (P : qR) (pt : Int) (ns : List Nw) : qR := gSt pt ns 0 (rU P 2337 pt (ns.length : Int))
def cJn (P : qR) (pt : Int) (ns : List Nw) (c1 : Ch) (w : Int) : qR := if w = 1 then jnP P pt ns else tP (jnP P pt ns) c1.1 (mOne 120 c1.2.1)
section MJOIN2
variable {fb : Bool} {d : Nat} {σ0 σ : hM} {P Q R S S1 S2 : qR} {T U s w g u p k e t z o thr pt off n N v mk fr bf bh old : Int} {l l1 l2 nm wd A : List Int} {h : List Ch} {f : Int → Int} {x : Nw} {c c1 : Ch} {ns : List Nw}
theorem gS5_rf {b : Int} : RF mbR (gS5 P b x) P := RF_up (RF_up (RF_up (RF_up (RF_up RF_rfl rfl) rfl) rfl) rfl) rfl
theorem gSt_rf : ∀ (r : List Nw) (j : Int) (P : qR), RF mbR (gSt pt r j P) P
  | [], _, _ => RF_rfl
  | x :: r, j, P => RF_tr (gSt_rf r (j + 1) _) gS5_rf
theorem GI_gS5 {b : Int} (h : GI T U P) (hb : 0 ≤ b ∧ b < 384) (hx : (0 ≤ x.1 ∧ x.1 ≤ 2) ∧ (0 ≤ x.2.1 ∧ x.2.1 ≤ 47) ∧ (0 ≤ x.2.2.1 ∧ x.2.2.1 ≤ T + 200) ∧ (0 ≤ x.2.2.2.1 ∧ x.2.2.2.1 ≤ 255) ∧ (0 ≤ x.2.2.2.2 ∧ x.2.2.2.2 ≤ 1)) : GI T U (gS5 P b x) := by
  have h1 := GI_one (f := 2338) (j := b) (v := x.1) (ty := 0) (len := 384) h rfl hx.1 rfl rfl rfl rfl rfl rfl rfl rfl rfl (by decide) (by decide)
  have h2 := GI_one (f := 2339) (j := b) (v := x.2.1) (ty := 0) (len := 384) h1 rfl hx.2.1 rfl rfl rfl rfl rfl rfl rfl rfl rfl (by decide) (by decide)
  have h3 := GI_one (f := 2340) (j := b) (v := x.2.2.1) (ty := 0) (len := 384) h2 rfl hx.2.2.1 rfl rfl rfl rfl rfl rfl rfl rfl rfl (by decide) (by decide)
  have h4 := GI_one (f := 2341) (j := b) (v := x.2.2.2.1) (ty := 0) (len := 384) h3 rfl hx.2.2.2.1 rfl rfl rfl rfl rfl rfl rfl rfl rfl (by decide) (by decide)
  exact GI_one (f := 2342) (j := b) (v := x.2.2.2.2) (ty := 2) (len := 384) h4 rfl hx.2.2.2.2 rfl rfl rfl rfl rfl rfl rfl rfl rfl (by decide) (by decide)
theorem m_join_st {v0 v8 : Int} (hJ : IV true T U S) (hN : NW S ns) (hpt : 0 ≤ pt ∧ pt < 64) {Q : Option AV → hM → Prop} : ∀ (r : List Nw) (j : Nat) (P : qR) (σ : hM) (l11 : Option AV), j + r.length = ns.length → (∀ i : Nat, i < r.length → ns.getD (j + i) nw0 = r.getD i nw0) → PM σ0 P S σ → GI T U P → (∀ (σ : hM) (l11 : Option AV), GI T U (gSt pt r (j : Int) P) → PM σ0 (gSt pt r (j : Int) P) S σ → WP fb d 363 280 [some (vR (some 2281)), some (vI p), some (vI old), some (vI fr), some (vI bf), some (vI bh), some (vI mk), some (vI v0), some (vI v8), some (vI pt), some (vI (ns.length : Int)), l11] [] σ Q) → WP fb d 363 185 [some (vR (some 2281)), some (vI p), some (vI old), some (vI fr), some (vI bf), some (vI bh), some (vI mk), some (vI v0), some (vI v8), some (vI pt), some (vI (j : Int)), l11] [] σ Q := by
  have h99 := hN.1
  have h6 := hN.2.1
  intro r
  induction r with
  | nil =>
    intro j P σ l11 h1 h2 hP hG hQ
    have h1 : j + 0 = ns.length := h1
    have hgo := hQ σ l11 hG hP
    have hj : (ns.length : Int) = (j : Int) := by omega
    rw [hj] at h99 hgo
    obtain ⟨y, hy⟩ : ∃ y : Int, (j : Int) = y := ⟨_, rfl⟩
    rw [hy] at h99 hgo ⊢
    have hgo : WP fb d 363 280 [some (vR (some 2281)), some (vI p), some (vI old), some (vI fr), some (vI bf), some (vI bh), some (vI mk), some (vI v0), some (vI v8), some (vI pt), some (vI y), l11] [] σ Q := hgo
    refine x_li (z := y) T_363_185 rfl ?_
    refine x_lr (z := some 2281) T_363_187 rfl ?_
    refine x_gI (z := y) T_363_188 (Or.inl F_17_99) (PM.t hP) (Eq.trans (PM.nS hP 2281 99 99 rfl rfl rfl) h99) ?_
    refine x_ic2 T_363_191 (fun _ => ?_) (fun h => absurd (show y ≤ y by omega) h)
    exact hgo
  | cons x r ih =>
    intro j P σ l11 h1 h2 hP hG hQ
    have h1 : j + (r.length + 1) = ns.length := h1
    have hx0 : ns.getD j nw0 = x := h2 0 (Nat.succ_pos _)
    obtain ⟨e1, e2, e3, e4, e5⟩ := hN.2.2 j (by omega)
    rw [hx0] at e1 e2 e3 e4 e5
    have b1 : 0 ≤ S 2356 (j : Int) ∧ S 2356 (j : Int) ≤ 2 := IV.a hJ 2356 0 6 rfl rfl rfl (by omega) (by omega)
    have b2 : 0 ≤ S 2357 (j : Int) ∧ S 2357 (j : Int) ≤ 47 := IV.a hJ 2357 0 6 rfl rfl rfl (by omega) (by omega)
    have b3 : 0 ≤ S 2358 (j : Int) ∧ S 2358 (j : Int) ≤ T + 200 := IV.a hJ 2358 0 6 rfl rfl rfl (by omega) (by omega)
    have b4 : 0 ≤ S 2359 (j : Int) ∧ S 2359 (j : Int) ≤ 255 := IV.a hJ 2359 0 6 rfl rfl rfl (by omega) (by omega)
    have b5 : 0 ≤ S 2360 (j : Int) ∧ S 2360 (j : Int) ≤ 1 := IV.a hJ 2360 2 6 rfl rfl rfl (by omega) (by omega)
    rw [e1] at b1
    rw [e2] at b2
    rw [e3] at b3
    rw [e4] at b4
    rw [e5] at b5
    have hG2 := GI_gS5 (b := 6 * pt + (j : Int)) hG ⟨by omega, by omega⟩ ⟨b1, b2, b3, b4, b5⟩
    have h2' : ∀ i : Nat, i < r.length → ns.getD (j + 1 + i) nw0 = r.getD i nw0 := fun i hi => by
      have := h2 (i + 1) (Nat.succ_lt_succ hi)
      rw [show j + (i + 1) = j + 1 + i by omega] at this
      exact this
    have hgo := fun (σ : hM) (l11 : Option AV) (hP : PM σ0 (gS5 P (6 * pt + (j : Int)) x) S σ) => ih (j + 1) _ σ l11 (by omega) h2' hP hG2
    rw [show ((j + 1 : Nat) : Int) = (j : Int) + 1 by omega] at hgo
    have hQ2 := hQ
    obtain ⟨n, hn⟩ : ∃ n : Int, (ns.length : Int) = n := ⟨_, rfl⟩
    rw [hn] at h99 hgo hQ
    obtain ⟨y, hy⟩ : ∃ y : Int, (j : Int) = y := ⟨_, rfl⟩
    rw [hy] at e1 e2 e3 e4 e5 hgo hQ ⊢
    obtain ⟨x1, x2, x3, x4, x5⟩ := x
    dsimp only at e1 e2 e3 e4 e5 b5
    refine x_li (z := y) T_363_185 rfl ?_
    refine x_lr (z := some 2281) T_363_187 rfl ?_
    refine x_gI (z := n) T_363_188 (Or.inl F_17_99) (PM.t hP) (Eq.trans (PM.nS hP 2281 99 99 rfl rfl rfl) h99) ?_
    refine x_ic2 T_363_191 (fun h => absurd (show n ≤ y from h) (by omega)) (fun _ => ?_)
    refine x_ic T_363_194 ?_
    refine x_li (z := pt) T_363_196 rfl ?_
    refine x_ib (w := (6 * pt)) T_363_198 (fun h => absurd h.1 (by decide)) (w32_id (by omega) (by omega)) ?_
    refine x_li (z := y) T_363_199 rfl ?_
    refine x_ib (w := ((6 * pt) + y)) T_363_201 (fun h => absurd h.1 (by decide)) (w32_id (by omega) (by omega)) ?_
    refine x_si (ls1 := [some (vR (some 2281)), some (vI p), some (vI old), some (vI fr), some (vI bf), some (vI bh), some (vI mk), some (vI v0), some (vI v8), some (vI pt), some (vI y), some (vI ((6 * pt) + y))]) T_363_202 rfl ?_
    refine x_lr (z := some 2281) T_363_204 rfl ?_
    refine x_gR (z := some 2338) T_363_205 F_17_68 (PM.t hP) (PM.r hP 68 2338 rfl) ?_
    refine x_li (z := ((6 * pt) + y)) T_363_208 rfl ?_
    refine x_lr (z := some 2281) T_363_210 rfl ?_
    refine x_gR (z := some 2356) T_363_211 F_17_94 (PM.t hP) (PM.r hP 94 2356 rfl) ?_
    refine x_li (z := y) T_363_214 rfl ?_
    refine x_alI (z := x1) T_363_216 (by decide) (PM.ta hP 2356 0 6 rfl rfl) (by omega) (by omega) (Eq.trans (PM.aS hP 2356 rfl rfl (by omega)) e1) ?_
    refine y_aIP hP T_363_217 2338 384 rfl rfl rfl (by omega) (by omega) (fun σ hP => ?_)
    refine x_lr (z := some 2281) T_363_218 rfl ?_
    refine x_gR (z := some 2339) T_363_219 F_17_69 (PM.t hP) (PM.r hP 69 2339 rfl) ?_
    refine x_li (z := ((6 * pt) + y)) T_363_222 rfl ?_
    refine x_lr (z := some 2281) T_363_224 rfl ?_
    refine x_gR (z := some 2357) T_363_225 F_17_95 (PM.t hP) (PM.r hP 95 2357 rfl) ?_
    refine x_li (z := y) T_363_228 rfl ?_
    refine x_alI (z := x2) T_363_230 (by decide) (PM.ta hP 2357 0 6 rfl rfl) (by omega) (by omega) (Eq.trans (PM.aS hP 2357 rfl rfl (by omega)) e2) ?_
    refine y_aIP hP T_363_231 2339 384 rfl rfl rfl (by omega) (by omega) (fun σ hP => ?_)
    refine x_lr (z := some 2281) T_363_232 rfl ?_
    refine x_gR (z := some 2340) T_363_233 F_17_70 (PM.t hP) (PM.r hP 70 2340 rfl) ?_
    refine x_li (z := ((6 * pt) + y)) T_363_236 rfl ?_
    refine x_lr (z := some 2281) T_363_238 rfl ?_
    refine x_gR (z := some 2358) T_363_239 F_17_96 (PM.t hP) (PM.r hP 96 2358 rfl) ?_
    refine x_li (z := y) T_363_242 rfl ?_
    refine x_alI (z := x3) T_363_244 (by decide) (PM.ta hP 2358 0 6 rfl rfl) (by omega) (by omega) (Eq.trans (PM.aS hP 2358 rfl rfl (by omega)) e3) ?_
    refine y_aIP hP T_363_245 2340 384 rfl rfl rfl (by omega) (by omega) (fun σ hP => ?_)
    refine x_lr (z := some 2281) T_363_246 rfl ?_
    refine x_gR (z := some 2341) T_363_247 F_17_71 (PM.t hP) (PM.r hP 71 2341 rfl) ?_
    refine x_li (z := ((6 * pt) + y)) T_363_250 rfl ?_
    refine x_lr (z := some 2281) T_363_252 rfl ?_
    refine x_gR (z := some 2359) T_363_253 F_17_97 (PM.t hP) (PM.r hP 97 2359 rfl) ?_
    refine x_li (z := y) T_363_256 rfl ?_
    refine x_alI (z := x4) T_363_258 (by decide) (PM.ta hP 2359 0 6 rfl rfl) (by omega) (by omega) (Eq.trans (PM.aS hP 2359 rfl rfl (by omega)) e4) ?_
    refine y_aIP hP T_363_259 2341 384 rfl rfl rfl (by omega) (by omega) (fun σ hP => ?_)
    refine x_lr (z := some 2281) T_363_260 rfl ?_
    refine x_gR (z := some 2342) T_363_261 F_17_72 (PM.t hP) (PM.r hP 72 2342 rfl) ?_
    refine x_li (z := ((6 * pt) + y)) T_363_264 rfl ?_
    refine x_lr (z := some 2281) T_363_266 rfl ?_
    refine x_gR (z := some 2360) T_363_267 F_17_98 (PM.t hP) (PM.r hP 98 2360 rfl) ?_
    refine x_li (z := y) T_363_270 rfl ?_
    refine x_alI (z := x5) T_363_272 (by decide) (PM.ta hP 2360 2 6 rfl rfl) (by omega) (by omega) (Eq.trans (PM.aS hP 2360 rfl rfl (by omega)) e5) ?_
    refine y_aZP hP T_363_273 (by rcases (show x5 = 0 ∨ x5 = 1 by omega) with q | q <;> rw [q] <;> rfl) 2342 384 rfl rfl rfl (by omega) (by omega) (fun σ hP => ?_)
    refine x_inc (w := (y + 1)) (ls1 := [some (vR (some 2281)), some (vI p), some (vI old), some (vI fr), some (vI bf), some (vI bh), some (vI mk), some (vI v0), some (vI v8), some (vI pt), some (vI (y + 1)), some (vI ((6 * pt) + y))]) T_363_274 rfl (w32_id (by omega) (by omega)) rfl ?_
    refine x_goto T_363_277 ?_
    exact hgo σ _ hP hQ
end MJOIN2
