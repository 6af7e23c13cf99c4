/-! The class's fork: the new process. -/
theorem T_185_199 : hTab 185 199 = some ((3, 5, 2, []), 201) := rfl
theorem T_185_201 : hTab 185 201 = some ((3, 1, 2, []), 202) := rfl
theorem T_185_202 : hTab 185 202 = some ((24, 6, Int.ofNat 7, []), 205) := rfl
theorem T_185_205 : hTab 185 205 = some ((3, 8, 0, []), 207) := rfl
theorem T_185_207 : hTab 185 207 = some ((3, 9, 2, []), 209) := rfl
theorem T_185_209 : hTab 185 209 = some ((31, 191, 0, []), 212) := rfl
theorem T_185_212 : hTab 185 212 = some ((3, 5, 2, []), 214) := rfl
theorem T_185_214 : hTab 185 214 = some ((3, 1, 2, []), 215) := rfl
theorem T_185_215 : hTab 185 215 = some ((31, 192, 0, []), 218) := rfl
theorem T_185_218 : hTab 185 218 = some ((3, 0, 2, []), 219) := rfl
theorem T_185_219 : hTab 185 219 = some ((24, 14, Int.ofNat 0, []), 222) := rfl
theorem T_185_222 : hTab 185 222 = some ((0, 0, 2, []), 223) := rfl
theorem T_185_223 : hTab 185 223 = some ((31, 122, 0, []), 226) := rfl
theorem T_185_226 : hTab 185 226 = some ((3, 5, 2, []), 228) := rfl
theorem T_185_228 : hTab 185 228 = some ((31, 193, 0, []), 231) := rfl
theorem T_185_231 : hTab 185 231 = some ((3, 1, 2, []), 232) := rfl
theorem T_185_232 : hTab 185 232 = some ((24, 6, Int.ofNat 2, []), 235) := rfl
theorem T_185_235 : hTab 185 235 = some ((3, 5, 2, []), 237) := rfl
theorem T_185_237 : hTab 185 237 = some ((24, 6, Int.ofNat 0, []), 240) := rfl
theorem T_185_240 : hTab 185 240 = some ((14, 0, 0, []), 241) := rfl
theorem T_185_241 : hTab 185 241 = some ((31, 75, 0, []), 244) := rfl
theorem T_185_244 : hTab 185 244 = some ((3, 1, 2, []), 245) := rfl
theorem T_185_245 : hTab 185 245 = some ((24, 6, Int.ofNat 2, []), 248) := rfl
theorem T_185_248 : hTab 185 248 = some ((0, 0, 10, []), 250) := rfl
theorem T_185_250 : hTab 185 250 = some ((31, 73, 0, []), 253) := rfl
theorem T_185_253 : hTab 185 253 = some ((7, 0, 0, []), 254) := rfl
theorem T_185_254 : hTab 185 254 = some ((0, 0, 0, []), 255) := rfl
theorem T_185_255 : hTab 185 255 = some ((33, 1, 0, []), 256) := rfl
theorem mN_185 : hmN 185 = 3 := by decide +kernel
theorem mL_185 : hmL 185 = 10 := by decide +kernel
theorem mK_185 : hmK 185 = 1 := by decide +kernel
theorem mO_185 : hmO 185 = 14 := by decide +kernel
section XFK8
variable {fb : Bool} {d b c n a0 a1 a : Nat} {σ0 σ : hM} {W W0 W1 W2 V P P0 Q A B X Y : qR} {R R0 R1 R2 V3 : rR} {i j k x y t z v s e w g u p q r pt o K T U N C to gg nf v3 v4 : Int} {l l0 lo dl dq : List Int} {vl : Int → List Int} {kk : Nat}
theorem dcq (hq : 0 ≤ q ∧ q < 8) : decL q = [48 + q] := by
  have h8 : q = 0 ∨ q = 1 ∨ q = 2 ∨ q = 3 ∨ q = 4 ∨ q = 5 ∨ q = 6 ∨ q = 7 := by omega
  rcases h8 with rfl | rfl | rfl | rfl | rfl | rfl | rfl | rfl <;> decide +kernel
/-- begun, it follows, and is shown -/
theorem fk_show (hX : XW K T U W R Y) (hp : 0 ≤ p ∧ p < 8) (hq : 0 ≤ q ∧ q < 8) (hpq : p ≠ q) (hlp : ¬ Y 2320 p = 0) (hdq : Y 2320 q = 0) (hgg : 0 ≤ gg ∧ gg < 8) (hu : 0 ≤ u ∧ u ≤ 3) (hnf : 0 ≤ nf ∧ nf ≤ 47) (hB : BGN W (prO q) (grO gg) u nf W1) (hP : PX σ0 W2 R2 σ) (hdl : dl = seg (gBg Y q u gg nf 2325) (60 * p) (gBg Y q u gg nf 2326 p).toNat) (hvl : ∀ x, vl x = seg (gBg Y q u gg nf 2361) (20 * (26 * p + x)) (gBg Y q u gg nf 2362 (26 * p + x)).toNat) (f1 : BY W2 (prO q + 1) 60 dl) (f2 : ∀ x : Int, 0 ≤ x → x < 26 → BY W2 (prO q + 7 + 2 * x.toNat) 20 (vl x)) (f3 : ∀ k : Int, 0 ≤ k → k < 8 → R2 (prO q + 6) k = oU R (prO q) 2201 (some (grO gg)) (prO p + 6) k) (f4 : ∀ (x : Nat) (k : Int), ¬ (x = prO q + 6 ∧ 0 ≤ k ∧ k < 8) → R2 x k = oU R (prO q) 2201 (some (grO gg)) x k) (f5 : ∀ o : Int, 0 ≤ o → o < 64 → W2 (1229 + o.toNat) 2167 = qUsers (gFo2 (gBg Y q u gg nf) p q) o) (f6 : ∀ (x : Nat) (k : Int), ¬ (1229 ≤ x ∧ x < 1293 ∧ k = 2167) → ¬ (prO q + 7 ≤ x ∧ x < prO q + 59) → ¬ (prO q + 1 ≤ x ∧ x < prO q + 3) → W2 x k = W1 x k) : CL fb (d + 7) 193 [vR (some 1881), vR (some (prO q))] σ (fun r σ' => r = none ∧ ∃ W7 R7, PX σ0 W7 R7 σ' ∧ XW K T U W7 R7 (gFol (gBg Y q u gg nf) p q) ∧ W7 (prO q) 2192 = q ∧ FCM W W7 R R7) := by
  have hrp := prO_rng hq
  have hrg := grO_rng hgg
  have epq : prO q = 295 + 125 * q.toNat := rfl
  have epg : grO gg = 229 + 125 * gg.toNat := rfl
  have hIY := hX.1.2.2.2.1.iv
  obtain ⟨b1, b2, b3, b4, b5, b6, b7, b8, b9, b10⟩ := id hB
  obtain ⟨X, hXX⟩ : ∃ X, gBg Y q u gg nf = X := ⟨_, rfl⟩
  have hN1 := hX.1.2.2.1.bgn hIY hq hdq hgg hB
  have hGX : GI T U X := by rw [← hXX]; exact GI_gBg hX.1.2.2.2.1 hq hu ⟨hgg.1, by omega⟩ hnf
  have hlX : ∀ k, X 2320 k = if k = q then 1 else Y 2320 k := fun k => by rw [← hXX]; exact gB_is
  have hlp2 : ¬ X 2320 p = 0 := by rw [hlX, if_neg hpq]; exact hlp
  have hlq2 : ¬ X 2320 q = 0 := by rw [hlX, if_pos rfl]; decide
  have hm1 : ∀ k : Int, 0 ≤ k → k < 8 → X 2327 (8 * q + k) = -1 := fun k k0 k1 => by rw [← hXX, gB_op, if_pos ⟨by omega, by omega⟩]
  have hGO : GO X := by rw [← hXX]; exact GO_gBg hX.1.2.2.2.2.2.1 hq hdq
  have hdy : ∀ k, X 2321 k = if k = q then 0 else Y 2321 k := fun k => by rw [← hXX]; exact gB_dy
  have hus : ∀ k, X 2322 k = if k = q then u else Y 2322 k := fun k => by rw [← hXX]; exact gB_us
  have hXf : ∀ (f : Nat) (k : Int), bgR.elem f = false → X f k = Y f k := fun f k h => by rw [← hXX]; exact gB_f h
  rw [hXX] at hN1 hdl f5 ⊢
  simp only [hXX] at hvl
  have hN2 := hN1.fol hGX.iv hp hq hpq hlp2 hlq2 hdl hvl f1 f2 f3 f4 f5 f6
  have hW : ∀ (x : Nat) (k : Int), (x < 229 ∨ 1293 ≤ x) → W2 x k = W x k := fun x k hx => (f6 x k (by omega) (by omega) (by omega)).trans (b9 x k (by omega) (by omega))
  have hR : ∀ (x : Nat) (k : Int), (x < 229 ∨ 1293 ≤ x ∨ k = 2267) → R2 x k = R x k := fun x k hx => by
    exact (f4 x k (by omega)).trans (if_neg (by omega))
  obtain ⟨⟨od, tt, hx2⟩, hct⟩ := hX.sv2 hW hR
  have hnum : W2 (prO q) 2192 = q := (f6 _ _ (by omega) (by omega) (by omega)).trans (b10.trans (hX.1.2.2.1.1 q hq.1 hq.2).1)
  have hb3 : W2 (prO q) 2199 = u := (f6 _ _ (by omega) (by omega) (by omega)).trans b3
  refine (x_show (fb := fb) (d := d) (S := 1881) (u := u) (Q := gFol X p q) hP ⟨by decide, rfl⟩ hx2 hct hX.1.2.2.2.1 hX.1.2.2.2.2.1.1 hq hdq rfl hnum hb3 hu (by rw [gF_f rfl, hus, if_pos rfl]) (fun k => ?_) (fun k hk => by rw [gF_f rfl, hus, if_neg hk]) (fun f k hf => (gF_f (hf.elim (fun h => el_dj rfl h) (fun h => by rw [h]; rfl))).trans (hXf f k (hf.elim (fun h => el_dj rfl h) (fun h => by rw [h]; rfl))))).mono ?_
  · rw [gF_f rfl, hlX]
    by_cases c : k = q
    · rw [if_pos c]
      exact ⟨fun _ => Or.inl c, fun _ => by decide⟩
    · rw [if_neg c]
      exact ⟨fun h => Or.inr h, fun h => h.resolve_left c⟩
  · rintro r σ' ⟨rfl, W7, R7, od2, t2, g1, g2, g3, g4⟩
    have hXW : XW K T U W7 R7 (gFol X p q) := hX.shw hq hN2 hW hR (fun p2 p0 p1 => by
      rw [gF_f rfl, hdy]
      by_cases c : p2 = q
      · rw [if_pos c, c]
        exact (f6 _ _ (by omega) (by omega) (by omega)).trans b2
      · rw [if_neg c]
        have hdis : prO q + 59 ≤ 295 + 125 * p2.toNat ∨ 295 + 125 * p2.toNat + 59 ≤ prO q := by
          rcases Nat.lt_trichotomy q.toNat p2.toNat with e | e | e
          · exact Or.inl (by omega)
          · exact absurd (show p2 = q by omega) c
          · exact Or.inr (by omega)
        rw [f6 _ _ (by omega) (by omega) (by omega), b9 _ _ (by omega) (by omega)]
        exact hX.1.1.2.2.2.2 p2 p0 p1) (fun f k hf => (gF_f (elem_sub (l1 := foR) (l2 := npB) (by decide) hf)).trans (hXf f k (elem_sub (l1 := bgR) (l2 := npB) (by decide) hf))) (fun k hk => by
        rw [gF_f rfl, hlX]
        split
        · decide
        · exact hk) (GI_gFol hGX hp hq) (GO_gFol hGO hp hq hlp2 hm1) (hX.1.2.2.2.2.2.2.row (fun _ => (gF_f rfl).trans (hXf _ _ rfl)) (fun _ => (gF_f rfl).trans (hXf _ _ rfl))) g2 g3 g4
    obtain ⟨z1, z2, -⟩ := g4
    exact ⟨rfl, W7, R7, g1, hXW, (z1 _ _ (by omega) (by omega) (by omega) (by omega) (by omega)).trans hnum, fun x k x0 x1 _ => (z1 _ _ (by omega) (by omega) x1 (by omega) (by omega)).trans (hW _ _ (by omega)), fun x k x0 => (z2 _ _ (by omega)).trans (hR _ _ (by omega))⟩
theorem fk_199 {so : Nat} (hP : PX σ0 W R σ) (hX : XW K T U W R Y) (hp : 0 ≤ p ∧ p < 8) (hq : 0 ≤ q ∧ q < 8) (hlp : ¬ Y 2320 p = 0) (hdq : Y 2320 q = 0) (hgg : 0 ≤ gg ∧ gg < 8) (hus : Y 2322 p = u) (hnf : 0 ≤ nf ∧ nf ≤ 47) (hko : tX kk = some (Sum.inl 16)) (hso : tX so = some (Sum.inl 7)) : WP fb (d + 9) 185 199 [some (vR (some 2175)), some (vR (some (prO p))), some (vR (some kk)), some (vI v3), some (vI v4), some (vR (some (prO q))), some (vR (some so)), some (vI 0), some (vI nf), some (vR (some (grO gg)))] [] σ (XCM σ0 K T U W R (0, gTell (gTell (gFol (gBg Y q u gg nf) p q) p (48 + q)) p 10, [])) := by
  have hIY := hX.1.2.2.2.1.iv
  have hpq : p ≠ q := fun c => hlp (by rw [c]; exact hdq)
  have hpo := prO_o hp
  have hqo := prO_o hq
  have hgo := grO_o hgg
  have hrp := prO_rng hp
  have hrq := prO_rng hq
  have hrg := grO_rng hgg
  have epp : prO p = 295 + 125 * p.toNat := rfl
  have epq : prO q = 295 + 125 * q.toNat := rfl
  have epg : grO gg = 229 + 125 * gg.toNat := rfl
  have hur : 0 ≤ Y 2322 p ∧ Y 2322 p ≤ 3 := IV.a hIY 2322 0 8 rfl rfl rfl (by omega) (by omega)
  rw [hus] at hur
  have l1 := ((hX.1.2.2.1.1 p hp.1 hp.2).2.2.2 hlp).1.trans hus
  have hqn := qPn_rng (P := Y) (g := gg) 8 0
  have hgq : ¬ (prO q ≤ grO gg ∧ grO gg < prO q + 59) := by
    rcases Nat.lt_or_ge q.toNat gg.toNat with c | c <;> omega
  have hbg := x_begin (fb := fb) (d := d + 7) (p := q) (u := u) (r := nf) (ga := grO gg) (h0 := qPn Y gg 8 0) hP hq hgo hgq (hX.1.2.2.1.2.1 gg hgg.1 hgg.2).2.1 ⟨hqn.1, by have h8 : ((8 : Nat) : Int) = 8 := rfl; omega⟩
  obtain ⟨X, hXX⟩ : ∃ X, gBg Y q u gg nf = X := ⟨_, rfl⟩
  have hfo := fun (σ : hM) (W1 : qR) (hP : PX σ0 W1 (oU R (prO q) 2201 (some (grO gg))) σ) (hB : BGN W (prO q) (grO gg) u nf W1) => by
    have hN1 := hX.1.2.2.1.bgn hIY hq hdq hgg hB
    rw [hXX] at hN1
    have hlX : ∀ k, X 2320 k = if k = q then 1 else Y 2320 k := fun k => by rw [← hXX]; exact gB_is
    have hlp2 : ¬ X 2320 p = 0 := by rw [hlX, if_neg hpq]; exact hlp
    have hlq2 : ¬ X 2320 q = 0 := by rw [hlX, if_pos rfl]; decide
    have hGX : GI T U X := by rw [← hXX]; exact GI_gBg hX.1.2.2.2.1 hq hur ⟨hgg.1, by omega⟩ hnf
    obtain ⟨y1, y2, y3, y4⟩ := hN1.1 p hp.1 hp.2
    obtain ⟨z1, z2, z3, z4, z5, z6⟩ := y4 hlp2
    obtain ⟨b1, b2, b3, b4, b5, b6, b7, b8, b9, b10⟩ := id hB
    exact x_follow (fb := fb) (d := d + 6) (Q := X) (dl := seg (X 2325) (60 * p) (X 2326 p).toNat) (vl := fun x => seg (X 2361) (20 * (26 * p + x)) (X 2362 (26 * p + x)).toNat) hP hp hq hpq z4 b6 z6 b8 hlq2 (fun k k0 k1 => by rw [← hXX, gB_op, if_pos ⟨by omega, by omega⟩]) (fun k k0 k1 => ⟨by
      rw [y3 k k0 k1]
      by_cases c : X 2327 (8 * p + k) < 0
      · rw [if_pos (Or.inr c), if_pos c]
      · rw [if_neg (fun c2 => by rcases c2 with c2 | c2; exact hlp2 c2; exact c c2), if_neg c], (IV.a hGX.iv 2327 0 64 rfl rfl rfl (by omega) (by omega) : -1 ≤ X 2327 (8 * p + k) ∧ X 2327 (8 * p + k) ≤ 63)⟩) (fun o o0 o1 => (hN1.2.2 o o0 o1).1)
  have hsh := fun (σ : hM) (W1 W2 : qR) (R2 : rR) (hB : BGN W (prO q) (grO gg) u nf W1) (hP : PX σ0 W2 R2 σ) => fk_show (fb := fb) (d := d + 1) (dl := seg (X 2325) (60 * p) (X 2326 p).toNat) (vl := fun x => seg (X 2361) (20 * (26 * p + x)) (X 2362 (26 * p + x)).toNat) hX hp hq hpq hlp hdq hgg hur hnf hB hP (by rw [hXX]) (fun x => by rw [hXX])
  have hho2 := fun (σ : hM) (V : qR) (V3 : rR) (hP : PX σ0 V V3 σ) => x_host (fb := fb) (d := d + 8) (s := 2) hP (by decide)
  have e2 : 1293 + 294 * (2 : Int).toNat = 1881 := rfl
  simp only [e2] at hho2
  have hs2 : tX 1881 = some (Sum.inl 7) := rfl
  rw [hXX]
  simp only [hXX] at hsh
  have hlZ : ¬ gFol X p q 2320 p = 0 := by
    rw [gF_f rfl, ← hXX, gB_is, if_neg hpq]
    exact hlp
  obtain ⟨Z, hZ⟩ : ∃ Z, gFol X p q = Z := ⟨_, rfl⟩
  rw [hZ] at hlZ ⊢
  simp only [hZ] at hsh
  have hou := fun (σ : hM) (V : qR) (V3 : rR) (hP : PX σ0 V V3 σ) (hX7 : XW K T U V V3 Z) => x_outNum (fb := fb) (d := d + 8) (v := q) hP hX7 hp hlZ ⟨hq.1, by omega⟩
  rw [show gTell (gTell Z p (48 + q)) p 10 = gOut (gOut Z p [48 + q]) p [10] from rfl]
  simp only [dcq hq] at hou
  have hlZ2 : ¬ gOut Z p [48 + q] 2320 p = 0 := by
    rw [gOut_f (by decide) (by decide)]
    exact hlZ
  have hou2 := fun (σ : hM) (V : qR) (V3 : rR) (hP : PX σ0 V V3 σ) (hX8 : XW K T U V V3 (gOut Z p [48 + q])) => x_outAdd (fb := fb) (d := d + 8) (x := 10) hP hX8 hp hlZ2 (by decide)
  have hfb : ∀ (V V5 : qR) (V3 : rR), FB (prO p + 3) V V5 → FCM V V5 V3 V3 := fun V V5 V3 h => ⟨fun x k x0 x1 _ => h x k (by omega) (by omega), fun _ _ _ => rfl⟩
  have hpo3 : tX (prO p + 3) = some (Sum.inl 2) := ((prO_sh hp).2.1).1
  obtain ⟨pq, hpqe⟩ : ∃ y, prO q = y := ⟨_, rfl⟩
  obtain ⟨pr, hpr⟩ : ∃ y, prO p = y := ⟨_, rfl⟩
  obtain ⟨ga, hga⟩ : ∃ y, grO gg = y := ⟨_, rfl⟩
  simp only [hpqe, hga] at hqo hgo hbg hfo hsh
  simp only [hpr] at hpo hpo3 l1 hfo hsh hou hou2
  simp only [hpqe, hpr, hga]
  refine x_lr (z := some pq) T_185_199 rfl ?_
  refine x_lr (z := some pr) T_185_201 rfl ?_
  refine x_gI (z := u) T_185_202 (Or.inl F_6_7) (hP.o hpo) (Eq.trans (hP.gi hpo (key := 2199) rfl) l1) ?_
  refine x_li (z := nf) T_185_205 rfl ?_
  refine x_lr (z := some ga) T_185_207 rfl ?_
  refine x_cv4 T_185_209 mN_191 mL_191 (Nat.le_of_ble_eq_true rfl) mO_191 (hP.o hqo) (Nat.le_of_ble_eq_true rfl) (hbg) ?_
  clear hP hbg
  rintro _ σ ⟨rfl, W1, hP, hB⟩
  have hfo := hfo σ W1 hP hB
  refine cV ?_
  refine x_lr (z := some pq) T_185_212 rfl ?_
  refine x_lr (z := some pr) T_185_214 rfl ?_
  refine x_cv2 T_185_215 mN_192 mL_192 (Nat.le_of_ble_eq_true rfl) mO_192 (hP.o hqo) (Nat.le_of_ble_eq_true rfl) (hfo) ?_
  clear hP hfo
  rintro _ σ ⟨rfl, W2, R2, hP, f1, f2, f3, f4, f5, f6⟩
  have hsh := hsh σ W1 W2 R2 hB hP f1 f2 f3 f4 f5 f6
  refine cV ?_
  refine x_lr (z := some 2175) T_185_218 rfl ?_
  refine x_gR (z := some 129) T_185_219 F_14_0 (hP.o xo_2175) (hP.rc xo_2175 rfl rfl) ?_
  refine x_ic T_185_222 ?_
  refine x_cv2 T_185_223 mN_122 mL_122 (Nat.le_of_ble_eq_true rfl) mO_122 (hP.o xo_129) (Nat.le_of_ble_eq_true rfl) (hho2 σ _ _ hP) ?_
  rintro _ σ ⟨rfl, rfl⟩
  refine cR ?_
  refine x_lr (z := some pq) T_185_226 rfl ?_
  refine x_cv2 T_185_228 mN_193 mL_193 (Nat.le_of_ble_eq_true rfl) mO_193 (hP.o hs2) (Nat.le_of_ble_eq_true rfl) (hsh) ?_
  clear hP hsh
  rintro _ σ ⟨rfl, W7, R7, hP, hX7, hn7, hF7⟩
  have hou := hou σ W7 R7 hP hX7
  refine cV ?_
  refine x_lr (z := some pr) T_185_231 rfl ?_
  refine x_gR (z := some (pr + 3)) T_185_232 F_6_2 (hP.o hpo) (hP.rc hpo rfl rfl) ?_
  refine x_lr (z := some pq) T_185_235 rfl ?_
  refine x_gI (z := q) T_185_237 (Or.inl F_6_0) (hP.o hqo) (Eq.trans (hP.gi hqo (key := 2192) rfl) hn7) ?_
  refine x_i2l T_185_240 ?_
  refine x_cv2 T_185_241 mN_75 mL_75 (Nat.le_of_ble_eq_true rfl) mO_75 (hP.o hpo3) (Nat.le_of_ble_eq_true rfl) (hou) ?_
  clear hP hou
  rintro _ σ ⟨rfl, W8, hP, hX8, hF8⟩
  have hou2 := hou2 σ W8 R7 hP hX8
  refine cV ?_
  refine x_lr (z := some pr) T_185_244 rfl ?_
  refine x_gR (z := some (pr + 3)) T_185_245 F_6_2 (hP.o hpo) (hP.rc hpo rfl rfl) ?_
  refine x_ic T_185_248 ?_
  refine x_cv2 T_185_250 mN_73 mL_73 (Nat.le_of_ble_eq_true rfl) mO_73 (hP.o hpo3) (Nat.le_of_ble_eq_true rfl) (hou2) ?_
  clear hP hou2
  rintro _ σ ⟨e9, rfl, W9, hP, hX9, hF9⟩
  refine cI ?_
  refine x_popI T_185_253 ?_
  refine x_ic T_185_254 ?_
  refine x_ri T_185_255 ?_
  exact ⟨rfl, W9, R7, hP, hX9, FCM_tr hF7 (FCM_tr (hfb _ _ _ hF8) (hfb _ _ _ hF9))⟩
end XFK8
