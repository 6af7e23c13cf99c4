/-! The class's place: the members come. -/
theorem T_174_195 : hTab 174 195 = some ((3, 7, 0, []), 197) := rfl
theorem T_174_197 : hTab 174 197 = some ((18, 0, Int.ofNat 217, []), 200) := rfl
theorem T_174_200 : hTab 174 200 = some ((3, 3, 2, []), 201) := rfl
theorem T_174_201 : hTab 174 201 = some ((0, 0, 0, []), 202) := rfl
theorem T_174_202 : hTab 174 202 = some ((3, 0, 2, []), 203) := rfl
theorem T_174_203 : hTab 174 203 = some ((24, 14, Int.ofNat 3, []), 206) := rfl
theorem T_174_206 : hTab 174 206 = some ((3, 0, 2, []), 207) := rfl
theorem T_174_207 : hTab 174 207 = some ((24, 14, Int.ofNat 3, []), 210) := rfl
theorem T_174_210 : hTab 174 210 = some ((24, 5, Int.ofNat 1, []), 213) := rfl
theorem T_174_213 : hTab 174 213 = some ((0, 0, 0, []), 214) := rfl
theorem T_174_214 : hTab 174 214 = some ((31, 179, 0, []), 217) := rfl
theorem T_174_217 : hTab 174 217 = some ((3, 2, 0, []), 218) := rfl
theorem T_174_218 : hTab 174 218 = some ((0, 0, 1, []), 219) := rfl
theorem T_174_219 : hTab 174 219 = some ((10, 5, 0, []), 220) := rfl
theorem T_174_220 : hTab 174 220 = some ((18, 0, Int.ofNat 227, []), 223) := rfl
theorem T_174_223 : hTab 174 223 = some ((0, 0, 0, []), 224) := rfl
theorem T_174_224 : hTab 174 224 = some ((22, 0, Int.ofNat 231, []), 227) := rfl
theorem T_174_227 : hTab 174 227 = some ((3, 3, 2, []), 228) := rfl
theorem T_174_228 : hTab 174 228 = some ((24, 4, Int.ofNat 3, []), 231) := rfl
theorem T_174_231 : hTab 174 231 = some ((4, 8, 0, []), 233) := rfl
theorem T_174_233 : hTab 174 233 = some ((0, 0, 0, []), 234) := rfl
theorem T_174_234 : hTab 174 234 = some ((4, 9, 0, []), 236) := rfl
theorem T_174_236 : hTab 174 236 = some ((3, 9, 0, []), 238) := rfl
theorem T_174_238 : hTab 174 238 = some ((3, 0, 2, []), 239) := rfl
theorem T_174_239 : hTab 174 239 = some ((24, 14, Int.ofNat 5, []), 242) := rfl
theorem T_174_242 : hTab 174 242 = some ((19, 3, Int.ofNat 294, []), 245) := rfl
theorem T_174_245 : hTab 174 245 = some ((3, 9, 0, []), 247) := rfl
theorem T_174_247 : hTab 174 247 = some ((0, 0, 6, []), 249) := rfl
theorem T_174_249 : hTab 174 249 = some ((19, 3, Int.ofNat 294, []), 252) := rfl
theorem T_174_252 : hTab 174 252 = some ((3, 3, 2, []), 253) := rfl
theorem T_174_253 : hTab 174 253 = some ((3, 8, 0, []), 255) := rfl
theorem T_174_255 : hTab 174 255 = some ((3, 9, 0, []), 257) := rfl
theorem T_174_257 : hTab 174 257 = some ((10, 0, 0, []), 258) := rfl
theorem T_174_258 : hTab 174 258 = some ((3, 0, 2, []), 259) := rfl
theorem T_174_259 : hTab 174 259 = some ((24, 14, Int.ofNat 4, []), 262) := rfl
theorem T_174_262 : hTab 174 262 = some ((3, 9, 0, []), 264) := rfl
theorem T_174_264 : hTab 174 264 = some ((26, 10, 0, []), 265) := rfl
theorem T_174_265 : hTab 174 265 = some ((3, 0, 2, []), 266) := rfl
theorem T_174_266 : hTab 174 266 = some ((24, 14, Int.ofNat 4, []), 269) := rfl
theorem T_174_269 : hTab 174 269 = some ((3, 9, 0, []), 271) := rfl
theorem T_174_271 : hTab 174 271 = some ((26, 10, 0, []), 272) := rfl
theorem T_174_272 : hTab 174 272 = some ((24, 5, Int.ofNat 1, []), 275) := rfl
theorem T_174_275 : hTab 174 275 = some ((3, 0, 2, []), 276) := rfl
theorem T_174_276 : hTab 174 276 = some ((24, 14, Int.ofNat 4, []), 279) := rfl
theorem T_174_279 : hTab 174 279 = some ((3, 9, 0, []), 281) := rfl
theorem T_174_281 : hTab 174 281 = some ((26, 10, 0, []), 282) := rfl
theorem T_174_282 : hTab 174 282 = some ((24, 5, Int.ofNat 5, []), 285) := rfl
theorem T_174_285 : hTab 174 285 = some ((31, 179, 0, []), 288) := rfl
theorem T_174_288 : hTab 174 288 = some ((5, 9, 1, []), 291) := rfl
theorem T_174_291 : hTab 174 291 = some ((22, 0, Int.ofNat 236, []), 294) := rfl
theorem T_174_294 : hTab 174 294 = some ((3, 7, 0, []), 296) := rfl
theorem T_174_296 : hTab 174 296 = some ((18, 1, Int.ofNat 311, []), 299) := rfl
theorem T_174_299 : hTab 174 299 = some ((3, 0, 2, []), 300) := rfl
theorem T_174_300 : hTab 174 300 = some ((24, 14, Int.ofNat 0, []), 303) := rfl
theorem T_174_303 : hTab 174 303 = some ((3, 0, 2, []), 304) := rfl
theorem T_174_304 : hTab 174 304 = some ((24, 14, Int.ofNat 3, []), 307) := rfl
theorem T_174_307 : hTab 174 307 = some ((31, 132, 0, []), 310) := rfl
theorem T_174_310 : hTab 174 310 = some ((7, 0, 0, []), 311) := rfl
theorem T_174_311 : hTab 174 311 = some ((0, 0, 0, []), 312) := rfl
theorem T_174_312 : hTab 174 312 = some ((33, 1, 0, []), 313) := rfl
theorem mN_174 : hmN 174 = 3 := by decide +kernel
theorem mL_174 : hmL 174 = 10 := by decide +kernel
theorem mK_174 : hmK 174 = 1 := by decide +kernel
theorem mO_174 : hmO 174 = 14 := by decide +kernel
/-- where a place's point stands ready for its members -/
def PLC (K T U : Int) (W0 : qR) (R0 : rR) (Q0 W3 : qR) (R3 : rR) (Q3 : qR) (g C k : Int) (y : Nat) : Prop := XM K T U W3 R3 Q3 ∧ GMD W3 R3 Q3 g C k y ∧ (Q3 2334 g = C ∧ C ≤ 8 ∧ 0 ≤ k ∧ k < C) ∧ (∀ (f : Nat) (i : Int), nsR.elem f = true → (2334 :: ptR).elem f = false → Q3 f i = Q0 f i) ∧ (∀ g2 : Int, 0 ≤ g2 → g2 < 8 → g2 ≠ g → grQ Q0 Q3 g2) ∧ (∀ (x : Nat) (i : Int), 229 ≤ x → x < 1293 → ¬ (grO g ≤ x ∧ x < grO g + 66) → i ≠ 2198 → W3 x i = W0 x i) ∧ (∀ (x : Nat) (i : Int), 229 ≤ x → x < 1293 → ¬ (grO g ≤ x ∧ x < grO g + 66) → R3 x i = R0 x i) ∧ ∀ g2 k2 : Int, 0 ≤ g2 → g2 < 8 → 0 ≤ k2 → k2 < Q3 2334 g2 → ¬ 8 * g2 + k2 = 8 * g + k → 1 ≤ Q3 2337 (8 * g2 + k2)
section XBNG
variable {fb : Bool} {d b c n a0 y ga : Nat} {σ0 σ : hM} {W W0 W1 W2 W3 W5 V P P0 Q Q0 Q3 : qR} {R R0 R1 R2 R3 R5 : rR} {i j k z v s e w f g u p pt pa dr sv K T U t N C F v1 st b0 fs T0 : Int} {x : Nw} {ns A B L nws : List Nw} {y1 : Option Nat} {c2 : Ch}
theorem pl_fin (hX0 : XW K T0 U W0 R0 Q0) (h : PLC K T U W0 R0 Q0 W3 R3 Q3 g C k y) (hg : 0 ≤ g ∧ g < 8) (hP : PTL W5 R5 y ns) (hF : PTF y W3 W5 R3 R5) (hn : 1 ≤ ns.length ∧ ns.length ≤ 6) (hx : ∀ x ∈ ns, nwK T x) : XW K T U W5 R5 (jnP Q3 (8 * g + k) ns) := by
  obtain ⟨hM, hD, ⟨hC, hC8, hk0, hk1⟩, q1, q2, f1, f2, hPT⟩ := h
  have hI := hM.2.2.1.iv
  have hrg := grO_rng hg
  have hXG := hD.fin hI hg hC hC8 ⟨hk0, hk1⟩ hF hP hn.2
  obtain ⟨iy, hiy, hy2⟩ := hD.2.2.1.1 k hk0 (by omega)
  have ey : y = grO g + 2 + 8 * iy := Option.some.inj (hD.2.2.2.2.1.symm.trans hy2)
  have hGF : GRF g W3 W5 R3 R5 := GRF_ptf ⟨by omega, by omega⟩ hF
  have hGI : GI T U (jnP Q3 (8 * g + k) ns) := GI_jnP ⟨by omega, by omega⟩ hn.2 hx hM.2.2.1
  have hoth : ∀ g2 : Int, 0 ≤ g2 → g2 < 8 → g2 ≠ g → grQ Q3 (jnP Q3 (8 * g + k) ns) g2 := fun g2 _ _ hne => jnP_oth ⟨by omega, by omega⟩ hn.2 hne
  have hMG := hM.grf (Q := jnP Q3 (8 * g + k) ns) (fun p p0 p1 hl => by
    rw [q1 2320 _ rfl rfl] at hl
    have hrp := prO_rng (p := p) ⟨p0, p1⟩
    have epp : prO p = 295 + 125 * p.toNat := rfl
    have egg : grO g = 229 + 125 * g.toNat := rfl
    rw [q1 2323 _ rfl rfl, f2 _ _ (by omega) (by omega) (by omega)]
    exact ((hX0.1.2.2.1.1 p p0 p1).2.2.2 hl).2.2.1) hg jnP_rf hGI hGF hXG.1 (fun g2 g0 g1 hne => (hoth g2 g0 g1 hne).1)
  have hN := hX0.1.2.2.1.grf (Q := jnP Q3 (8 * g + k) ns) hX0.1.2.2.2.1.iv hg (fun f k hf hf2 => (jnP_rf f k hf2).trans (q1 f k hf hf2)) (fun x k a b c e => (hGF.1 x k (Or.inl c)).trans (f1 x k a b c e)) (fun x k a b c => (hGF.2 x k (Or.inl c)).trans (f2 x k a b c)) (fun g2 g0 g1 hne => grQ_tr (q2 g2 g0 g1 hne) (hoth g2 g0 g1 hne)) hXG
  exact hMG.xw hN (hX0.1.2.2.2.2.2.1.fr (fun k => (jnP_rf 2320 k rfl).trans (q1 _ _ rfl rfl)) (fun k => (jnP_rf 2327 k rfl).trans (q1 _ _ rfl rfl)) (fun k => (jnP_rf 2330 k rfl).trans (q1 _ _ rfl rfl))) (jnP_pts hPT hn.1)
theorem ins_loop (hY : PYO y) (hga : tX ga = some (Sum.inl 3)) (hCP : CPS W3 nws) (hn6 : A.length + B.length + nws.length ≤ 6) (hx : ∀ x ∈ nws, nwK T x) (hfs : fs = (A.length : Int)) {Qf : Option AV → hM → Prop} (hQ : ∀ (σ : hM) (W : qR) (R : rR) (i : Int), PX σ0 W R σ → PTL W R y ((A ++ nws) ++ B) → PTF y W3 W R3 R → WP fb (d + 10) 174 294 [some (vR (some 2175)), some (vR (some ga)), some (vI F), some (vR (some y)), some (vR y1), some (vI b0), some (vI 0), some (vI st), some (vI fs), some (vI i)] [] σ Qf) : ∀ (m : Nat) (i : Int) (σ : hM) (W : qR) (R : rR), i + m = (nws.length : Int) → 0 ≤ i → PX σ0 W R σ → PTL W R y ((A ++ nws.take i.toNat) ++ B) → PTF y W3 W R3 R → WP fb (d + 10) 174 236 [some (vR (some 2175)), some (vR (some ga)), some (vI F), some (vR (some y)), some (vR y1), some (vI b0), some (vI 0), some (vI st), some (vI fs), some (vI i)] [] σ Qf := by
  have hyo := hY.1
  have hyr := hY.2.2.1
  intro m
  induction m with
  | zero =>
    intro i σ W R h1 h2 hP hL hF
    have h1 : i + ((0 : Nat) : Int) = (nws.length : Int) := h1
    have hcn : W 2175 2453 = i := (hF.1 _ _ (by omega)).trans (hCP.1.trans (by omega))
    rw [List.take_of_length_le (by omega)] at hL
    have hgo := hQ σ W R i hP hL hF
    refine x_li (z := i) T_174_236 rfl ?_
    refine x_lr (z := some 2175) T_174_238 rfl ?_
    refine x_gI (z := i) T_174_239 (Or.inl F_14_5) (hP.o xo_2175) (Eq.trans (hP.gi xo_2175 (key := 2453) rfl) hcn) ?_
    refine x_ic2 T_174_242 (fun _ => ?_) (fun h => absurd (show i ≤ i by omega) h)
    exact hgo
  | succ m ih =>
    intro i σ W R h1 h2 hP hL hF
    have hil : i.toNat < nws.length := by omega
    have hlt : (A ++ nws.take i.toNat).length = A.length + i.toNat := by rw [List.length_append, List.length_take]; omega
    have hln : (A ++ nws.take i.toNat ++ B).length < 6 := by rw [List.length_append, hlt]; omega
    obtain ⟨cn, hcc⟩ : ∃ q : Int, (nws.length : Int) = q := ⟨_, rfl⟩
    have hcn : W 2175 2453 = cn := (hF.1 _ _ (by omega)).trans (hCP.1.trans hcc)
    obtain ⟨cj, hcj⟩ : ∃ cj, 2181 + i.toNat = cj := ⟨_, rfl⟩
    have hco := cp_o (j := i) ⟨h2, by omega⟩
    have hrc := rA_cp (j := i) ⟨h2, by omega⟩
    rw [hcj] at hco hrc
    obtain ⟨m1, m2, m3, m4, m5⟩ := (hCP.2 i h2 (by omega)).eqv (W2 := W) (fun k hk => hF.1 _ _ (by omega))
    rw [hcj] at m1 m2 m3 m4 m5
    have hmem : nws.getD i.toNat nw0 ∈ nws := by
      rw [List.getD_eq_getElem?_getD, List.getElem?_eq_getElem hil]
      exact List.getElem_mem hil
    have hxr := hx _ hmem
    have hst : nws.take (i + 1).toNat = nws.take i.toNat ++ [nws.getD i.toNat nw0] := by
      rw [show (i + 1).toNat = i.toNat + 1 by omega, List.take_succ, List.getD_eq_getElem?_getD, List.getElem?_eq_getElem hil]
      rfl
    obtain ⟨x, hxx⟩ : ∃ x, nws.getD i.toNat nw0 = x := ⟨_, rfl⟩
    rw [hxx] at m1 m2 m3 m4 m5 hxr hst
    have hin := fun (σ : hM) (hP : PX σ0 W R σ) => x_insertP (fb := fb) (d := d + 8) (a := cj) (x := x) (f := x.2.1) (mk := x.2.2.2.2) (j := fs + i) hP hY hL hln ⟨by omega, by rw [List.length_append, hlt]; omega⟩ hco (by omega) m1 rfl m3 m4 rfl (by have := hxr.2.2.2.2; omega)
    rw [insL_app (by rw [hlt]; omega)] at hin
    have eL : (A ++ nws.take i.toNat) ++ x :: B = (A ++ nws.take (i + 1).toNat) ++ B := by
      rw [hst, ← List.append_assoc A, List.append_assoc (A ++ nws.take i.toNat) [x] B]
      rfl
    rw [eL] at hin
    have hgo := fun (σ : hM) (W2 : qR) (R2 : rR) (hP : PX σ0 W2 R2 σ) (hL : PTL W2 R2 y ((A ++ nws.take (i + 1).toNat) ++ B)) (hF2 : PTF y W W2 R R2) => ih (i + 1) σ W2 R2 (by omega) (by omega) hP hL (PTF_tr hF hF2)
    obtain ⟨xf, hxf⟩ : ∃ q, x.2.1 = q := ⟨_, rfl⟩
    obtain ⟨xm, hxm⟩ : ∃ q, x.2.2.2.2 = q := ⟨_, rfl⟩
    rw [hxf] at m2
    rw [hxm] at m5
    simp only [hxf, hxm] at hin
    have hfs0 : 0 ≤ fs ∧ fs ≤ 6 := by omega
    clear hcj
    refine x_li (z := i) T_174_236 rfl ?_
    refine x_lr (z := some 2175) T_174_238 rfl ?_
    refine x_gI (z := cn) T_174_239 (Or.inl F_14_5) (hP.o xo_2175) (Eq.trans (hP.gi xo_2175 (key := 2453) rfl) hcn) ?_
    refine x_ic2 T_174_242 (fun h => absurd (show cn ≤ i from h) (by omega)) (fun _ => ?_)
    refine x_li (z := i) T_174_245 rfl ?_
    refine x_ic T_174_247 ?_
    refine x_ic2 T_174_249 (fun h => absurd (show 6 ≤ i from h) (by omega)) (fun _ => ?_)
    refine x_lr (z := some y) T_174_252 rfl ?_
    refine x_li (z := fs) T_174_253 rfl ?_
    refine x_li (z := i) T_174_255 rfl ?_
    refine x_ib (w := (fs + i)) T_174_257 (fun h => absurd h.1 (by decide)) (w32_id (by omega) (by omega)) ?_
    refine x_lr (z := some 2175) T_174_258 rfl ?_
    refine x_gR (z := some 2180) T_174_259 F_14_4 (hP.o xo_2175) (hP.rc xo_2175 rfl rfl) ?_
    refine x_li (z := i) T_174_262 rfl ?_
    refine x_alR (z := some cj) T_174_264 (hP.ta xa_2180) (by decide) (by omega) (by omega) (hP.arc xa_2180 rfl hrc) ?_
    refine x_lr (z := some 2175) T_174_265 rfl ?_
    refine x_gR (z := some 2180) T_174_266 F_14_4 (hP.o xo_2175) (hP.rc xo_2175 rfl rfl) ?_
    refine x_li (z := i) T_174_269 rfl ?_
    refine x_alR (z := some cj) T_174_271 (hP.ta xa_2180) (by decide) (by omega) (by omega) (hP.arc xa_2180 rfl hrc) ?_
    refine x_gI (z := xf) T_174_272 (Or.inl F_5_1) (hP.o hco) (Eq.trans (hP.gi hco (key := 2161) rfl) m2) ?_
    refine x_lr (z := some 2175) T_174_275 rfl ?_
    refine x_gR (z := some 2180) T_174_276 F_14_4 (hP.o xo_2175) (hP.rc xo_2175 rfl rfl) ?_
    refine x_li (z := i) T_174_279 rfl ?_
    refine x_alR (z := some cj) T_174_281 (hP.ta xa_2180) (by decide) (by omega) (by omega) (hP.arc xa_2180 rfl hrc) ?_
    refine x_gI (z := xm) T_174_282 (Or.inr (Or.inl F_5_5)) (hP.o hco) (Eq.trans (hP.gi hco (key := 2165) rfl) m5) ?_
    refine x_cv5 T_174_285 mN_179 mL_179 (Nat.le_of_ble_eq_true rfl) mO_179 (hP.o hyo) (Nat.le_of_ble_eq_true rfl) (hin σ hP) ?_
    clear hP hin
    rintro _ σ ⟨rfl, W2, R2, hP, hL2, hF2⟩
    refine cV ?_
    refine x_inc (w := (i + 1)) (ls1 := [some (vR (some 2175)), some (vR (some ga)), some (vI F), some (vR (some y)), some (vR y1), some (vI b0), some (vI 0), some (vI st), some (vI fs), some (vI (i + 1))]) T_174_288 rfl (w32_id (by omega) (by omega)) rfl ?_
    refine x_goto T_174_291 ?_
    exact hgo σ W2 R2 hP hL2 hF2
/-- the members at their place, then channel two goes, if it hasn't become one of them -/
theorem pl_217 (hP : PX σ0 W R σ) (hX0 : XW K T0 U W0 R0 Q0) (h : PLC K T U W0 R0 Q0 W3 R3 Q3 g C k y) (hg : 0 ≤ g ∧ g < 8) (hT : T + 150 ≤ 2147483000) (hY : PYO y) (hga : tX ga = some (Sum.inl 3)) (hF3 : PTF y W3 W R3 R) (hL : PTL W R y L) (hCP : CPS W3 nws) (hn6 : L.length + nws.length ≤ 6) (hn1 : 1 ≤ nws.length) (hx : ∀ x ∈ nws, nwK T x) (hxL : ∀ x ∈ L, nwK T x) (h1 : W3 2179 2160 = c2.1) (h2 : W3 2179 2161 = c2.2.1) (hr2 : chR c2) (hF1 : and32 F 1 = v1) (hst : st = 0 ∨ st = 1) : WP fb (d + 10) 174 217 [some (vR (some 2175)), some (vR (some ga)), some (vI F), some (vR (some y)), some (vR y1), some (vI b0), some (vI 0), some (vI st), none, none] [] σ (XCM σ0 K (T + 4) U W3 R3 (0, (if st = 1 then jnP Q3 (8 * g + k) (if v1 = 0 then L ++ nws else nws ++ L) else kDrop (jnP Q3 (8 * g + k) (if v1 = 0 then L ++ nws else nws ++ L)) c2), [])) := by
  have hyo := hY.1
  have hyr := hY.2.2.1
  obtain ⟨s, hs⟩ : ∃ q, c2.1 = q := ⟨_, rfl⟩
  obtain ⟨f, hf⟩ : ∃ q, c2.2.1 = q := ⟨_, rfl⟩
  rw [hs] at h1
  rw [hf] at h2
  have hsr : 0 ≤ s ∧ s < 3 := by rw [← hs]; exact hr2.1
  have hfr : 0 ≤ f ∧ f ≤ 47 := by rw [← hf]; exact hr2.2.1
  unfold kDrop
  rw [hs, hf]
  -- behind the loop
  have h294 : ∀ (A B : List Nw), A.length + B.length + nws.length ≤ 6 → (∀ x ∈ A, nwK T x) → (∀ x ∈ B, nwK T x) → ∀ (σ : hM) (W5 : qR) (R5 : rR) (fs i : Int), PX σ0 W5 R5 σ → PTL W5 R5 y ((A ++ nws) ++ B) → PTF y W3 W5 R3 R5 → WP fb (d + 10) 174 294 [some (vR (some 2175)), some (vR (some ga)), some (vI F), some (vR (some y)), some (vR y1), some (vI b0), some (vI 0), some (vI st), some (vI fs), some (vI i)] [] σ (XCM σ0 K (T + 4) U W3 R3 (0, (if st = 1 then jnP Q3 (8 * g + k) ((A ++ nws) ++ B) else tP (jnP Q3 (8 * g + k) ((A ++ nws) ++ B)) s (mOne 120 f)), [])) := fun A B hAB hA hB σ W5 R5 fs i hP hL hF => by
    have hXF := pl_fin hX0 h hg hL hF ⟨by rw [List.length_append, List.length_append]; omega, by rw [List.length_append, List.length_append]; omega⟩ (fun x hm => by
      rcases List.mem_append.mp hm with q | q
      · rcases List.mem_append.mp q with q | q
        · exact hA x q
        · exact hx x q
      · exact hB x q)
    have hFC : FCM W3 W5 R3 R5 := ⟨fun x k a b c => hF.1 x k (by omega), fun x k a => hF.2.2.2.1 x k (by omega)⟩
    obtain ⟨ns, hns⟩ : ∃ q, (A ++ nws) ++ B = q := ⟨_, rfl⟩
    rw [hns] at hXF ⊢
    obtain ⟨QF, hQF⟩ : ∃ q, jnP Q3 (8 * g + k) ns = q := ⟨_, rfl⟩
    rw [hQF] at hXF ⊢
    rcases hst with rfl | rfl
    · rw [if_neg (by decide)]
      have z1 : W5 2179 2160 = s := (hF.1 _ _ (by omega)).trans h1
      have z2 : W5 2179 2161 = f := (hF.1 _ _ (by omega)).trans h2
      have hck := x_clunkK (fb := fb) (d := d + 1) hP hXF (by omega) two_o z1 z2 hsr hfr
      obtain ⟨e1, he1⟩ : ∃ q, tE QF s (mOne 120 f) = q := ⟨_, rfl⟩
      unfold XE at hck
      rw [he1] at hck
      refine x_li (z := 0) T_174_294 rfl ?_
      refine x_if T_174_296 (fun h => absurd (show ¬ (0 : Int) = 0 from h) (by decide)) (fun _ => ?_)
      refine x_lr (z := some 2175) T_174_299 rfl ?_
      refine x_gR (z := some 129) T_174_300 F_14_0 (hP.o xo_2175) (hP.rc xo_2175 rfl rfl) ?_
      refine x_lr (z := some 2175) T_174_303 rfl ?_
      refine x_gR (z := some 2179) T_174_304 F_14_3 (hP.o xo_2175) (hP.rc xo_2175 rfl rfl) ?_
      refine x_cv2 T_174_307 mN_132 mL_132 (Nat.le_of_ble_eq_true rfl) mO_132 (hP.o xo_129) (Nat.le_of_ble_eq_true rfl) (hck) ?_
      clear hP hck
      rintro _ σ ⟨rfl, V, V4, hP, hX2, hA2⟩
      refine cI ?_
      refine x_popI T_174_310 ?_
      refine x_ic T_174_311 ?_
      refine x_ri T_174_312 ?_
      exact ⟨rfl, V, V4, hP, hX2, FCM_tr hFC (FCM_fa hA2)⟩
    · rw [if_pos rfl]
      refine x_li (z := 1) T_174_294 rfl ?_
      refine x_if T_174_296 (fun _ => ?_) (fun h => absurd (show ¬ (1 : Int) = 0 by decide) h)
      refine x_ic T_174_311 ?_
      refine x_ri T_174_312 ?_
      exact ⟨rfl, W5, R5, hP, XW.mono hXF (by omega), hFC⟩
  obtain ⟨cn, hcn⟩ : ∃ q : Int, (L.length : Int) = q := ⟨_, rfl⟩
  have p1 := hL.1
  rw [hcn] at p1
  by_cases q : v1 = 0
  · rw [if_pos q]
    have h9 := h294 L [] (by show L.length + 0 + nws.length ≤ 6; omega) hxL (fun x hx => absurd hx List.not_mem_nil)
    have hlo := fun (σ : hM) (hP : PX σ0 W R σ) => ins_loop (fb := fb) (d := d) (σ0 := σ0) (W3 := W3) (R3 := R3) (A := L) (B := []) (F := F) (y1 := y1) (b0 := b0) (st := st) (fs := cn) hY hga hCP (by show L.length + 0 + nws.length ≤ 6; omega) hx hcn.symm (fun σ W R i a1 a2 a3 => h9 σ W R cn i a1 a2 a3) nws.length 0 σ W R (by omega) (by decide) hP (by
      rw [show nws.take (0 : Int).toNat = [] from rfl, List.append_nil, List.append_nil]
      exact hL) hF3
    rw [List.append_nil] at hlo
    refine x_li (z := F) T_174_217 rfl ?_
    refine x_ic T_174_218 ?_
    refine x_ib (w := v1) T_174_219 (fun h => absurd h.1 (by decide)) hF1 ?_
    refine x_if T_174_220 (fun _ => ?_) (fun h => absurd (show v1 = 0 by omega) h)
    refine x_lr (z := some y) T_174_227 rfl ?_
    refine x_gI (z := cn) T_174_228 (Or.inl F_4_3) (hP.o hyo) (Eq.trans (hP.gi hyo (key := 2131) rfl) p1) ?_
    refine x_si (ls1 := [some (vR (some 2175)), some (vR (some ga)), some (vI F), some (vR (some y)), some (vR y1), some (vI b0), some (vI 0), some (vI st), some (vI cn), none]) T_174_231 rfl ?_
    refine x_ic T_174_233 ?_
    refine x_si (ls1 := [some (vR (some 2175)), some (vR (some ga)), some (vI F), some (vR (some y)), some (vR y1), some (vI b0), some (vI 0), some (vI st), some (vI cn), some (vI 0)]) T_174_234 rfl ?_
    exact hlo σ hP
  · rw [if_neg q]
    have h9 := h294 [] L (by show 0 + L.length + nws.length ≤ 6; omega) (fun x hx => absurd hx List.not_mem_nil) hxL
    have hlo := fun (σ : hM) (hP : PX σ0 W R σ) => ins_loop (fb := fb) (d := d) (σ0 := σ0) (W3 := W3) (R3 := R3) (A := []) (B := L) (F := F) (y1 := y1) (b0 := b0) (st := st) (fs := 0) hY hga hCP (by show 0 + L.length + nws.length ≤ 6; omega) hx rfl (fun σ W R i a1 a2 a3 => h9 σ W R 0 i a1 a2 a3) nws.length 0 σ W R (by omega) (by decide) hP (by
      rw [show nws.take (0 : Int).toNat = [] from rfl, List.append_nil, List.nil_append]
      exact hL) hF3
    rw [List.nil_append] at hlo
    refine x_li (z := F) T_174_217 rfl ?_
    refine x_ic T_174_218 ?_
    refine x_ib (w := v1) T_174_219 (fun h => absurd h.1 (by decide)) hF1 ?_
    refine x_if T_174_220 (fun h => absurd (show v1 = 0 from h) (by omega)) (fun _ => ?_)
    refine x_ic T_174_223 ?_
    refine x_goto T_174_224 ?_
    refine x_si (ls1 := [some (vR (some 2175)), some (vR (some ga)), some (vI F), some (vR (some y)), some (vR y1), some (vI b0), some (vI 0), some (vI st), some (vI 0), none]) T_174_231 rfl ?_
    refine x_ic T_174_233 ?_
    refine x_si (ls1 := [some (vR (some 2175)), some (vR (some ga)), some (vI F), some (vR (some y)), some (vR y1), some (vI b0), some (vI 0), some (vI st), some (vI 0), some (vI 0)]) T_174_234 rfl ?_
    exact hlo σ hP
theorem pl_195 (hP : PX σ0 W3 R3 σ) (hX0 : XW K T0 U W0 R0 Q0) (h : PLC K T U W0 R0 Q0 W3 R3 Q3 g C k y) (hg : 0 ≤ g ∧ g < 8) (hT : T + 150 ≤ 2147483000) (hY : PYO y) (hga : tX ga = some (Sum.inl 3)) (hL : PTL W3 R3 y L) (hCP : CPS W3 nws) (hst : st = 0 ∨ (st = 1 ∧ L = [])) (hn6 : st + L.length + nws.length ≤ 6) (hn1 : 1 ≤ nws.length) (hx : ∀ x ∈ nws, nwK T x) (hxL : ∀ x ∈ L, nwK T x) (hx2 : nwK T (chN c2 0)) (h1 : W3 2179 2160 = c2.1) (h2 : W3 2179 2161 = c2.2.1) (h3 : W3 2179 2162 = c2.2.2.1) (h4 : W3 2179 2163 = if c2.2.2.2.1 = 128 then 1 else 0) (hr2 : chR c2) (hF1 : and32 F 1 = v1) : WP fb (d + 10) 174 195 [some (vR (some 2175)), some (vR (some ga)), some (vI F), some (vR (some y)), some (vR y1), some (vI b0), some (vI 0), some (vI st), none, none] [] σ (XCM σ0 K (T + 4) U W3 R3 (0, (if st = 1 then jnP Q3 (8 * g + k) (if v1 = 0 then (if st = 1 then [chN c2 0] else L) ++ nws else nws ++ (if st = 1 then [chN c2 0] else L)) else kDrop (jnP Q3 (8 * g + k) (if v1 = 0 then (if st = 1 then [chN c2 0] else L) ++ nws else nws ++ (if st = 1 then [chN c2 0] else L))) c2), [])) := by
  have hyo := hY.1
  have hyr := hY.2.2.1
  rcases hst with rfl | ⟨rfl, rfl⟩
  · rw [if_neg (show ¬ (0 : Int) = 1 by decide)]
    have hgo := pl_217 (fb := fb) (d := d) (y1 := y1) (b0 := b0) (st := 0) hP hX0 h hg hT hY hga PTF_rfl hL hCP (by omega) hn1 hx hxL h1 h2 hr2 hF1 (Or.inl rfl)
    refine x_li (z := 0) T_174_195 rfl ?_
    refine x_if T_174_197 (fun _ => ?_) (fun h => absurd (show (0 : Int) = 0 by decide) h)
    exact hgo
  · rw [if_pos rfl]
    have hin := x_insertP (fb := fb) (d := d + 8) (a := 2179) (x := chN c2 0) (f := c2.2.1) (mk := 0) (j := 0) hP hY hL (by decide) ⟨Int.le_refl 0, Int.le_refl 0⟩ two_o (by omega) h1 rfl h3 h4 rfl (Or.inl rfl)
    rw [show insL [] 0 (chN c2 0) = [chN c2 0] from rfl] at hin
    have hgo := fun (σ : hM) (W : qR) (R : rR) (hP : PX σ0 W R σ) (hL2 : PTL W R y [chN c2 0]) (hF2 : PTF y W3 W R3 R) => pl_217 (fb := fb) (d := d) (y1 := y1) (b0 := b0) (st := 1) hP hX0 h hg hT hY hga hF2 hL2 hCP (by have h0 : 1 + (((0 : Nat) : Int)) + nws.length ≤ 6 := hn6; show 1 + nws.length ≤ 6; omega) hn1 hx (fun x hm => by rw [List.mem_singleton.mp hm]; exact hx2) h1 h2 hr2 hF1 (Or.inr rfl)
    obtain ⟨f2, hf2⟩ : ∃ q, c2.2.1 = q := ⟨_, rfl⟩
    rw [hf2] at hin h2
    refine x_li (z := 1) T_174_195 rfl ?_
    refine x_if T_174_197 (fun h => absurd (show (1 : Int) = 0 from h) (by decide)) (fun _ => ?_)
    refine x_lr (z := some y) T_174_200 rfl ?_
    refine x_ic T_174_201 ?_
    refine x_lr (z := some 2175) T_174_202 rfl ?_
    refine x_gR (z := some 2179) T_174_203 F_14_3 (hP.o xo_2175) (hP.rc xo_2175 rfl rfl) ?_
    refine x_lr (z := some 2175) T_174_206 rfl ?_
    refine x_gR (z := some 2179) T_174_207 F_14_3 (hP.o xo_2175) (hP.rc xo_2175 rfl rfl) ?_
    refine x_gI (z := f2) T_174_210 (Or.inl F_5_1) (hP.o xo_2179) (Eq.trans (hP.gi xo_2179 (key := 2161) rfl) h2) ?_
    refine x_ic T_174_213 ?_
    refine x_cv5 T_174_214 mN_179 mL_179 (Nat.le_of_ble_eq_true rfl) mO_179 (hP.o hyo) (Nat.le_of_ble_eq_true rfl) (hin) ?_
    clear hP hin
    rintro _ σ ⟨rfl, W2, R2, hP, hL2, hF2⟩
    refine cV ?_
    exact hgo σ W2 R2 hP hL2 hF2
end XBNG
