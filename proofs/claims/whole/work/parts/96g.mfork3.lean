/-! fork: from its words on. -/
theorem T_382_0 : hTab 382 0 = some ((3, 0, 2, []), 1) := rfl
theorem T_382_1 : hTab 382 1 = some ((0, 0, 1, []), 2) := rfl
theorem T_382_2 : hTab 382 2 = some ((31, 318, 0, []), 5) := rfl
theorem T_382_5 : hTab 382 5 = some ((0, 0, 1, []), 6) := rfl
theorem T_382_6 : hTab 382 6 = some ((19, 1, Int.ofNat 18, []), 9) := rfl
theorem T_382_9 : hTab 382 9 = some ((3, 0, 2, []), 10) := rfl
theorem T_382_10 : hTab 382 10 = some ((0, 0, 1, []), 11) := rfl
theorem T_382_11 : hTab 382 11 = some ((0, 0, 0, []), 12) := rfl
theorem T_382_12 : hTab 382 12 = some ((31, 319, 0, []), 15) := rfl
theorem T_382_15 : hTab 382 15 = some ((22, 0, Int.ofNat 19, []), 18) := rfl
theorem T_382_18 : hTab 382 18 = some ((0, 0, (-1), []), 19) := rfl
theorem T_382_19 : hTab 382 19 = some ((4, 2, 0, []), 20) := rfl
theorem T_382_20 : hTab 382 20 = some ((3, 2, 0, []), 21) := rfl
theorem T_382_21 : hTab 382 21 = some ((0, 0, 115, []), 23) := rfl
theorem T_382_23 : hTab 382 23 = some ((19, 0, Int.ofNat 41, []), 26) := rfl
theorem T_382_26 : hTab 382 26 = some ((3, 2, 0, []), 27) := rfl
theorem T_382_27 : hTab 382 27 = some ((0, 0, 99, []), 29) := rfl
theorem T_382_29 : hTab 382 29 = some ((19, 0, Int.ofNat 41, []), 32) := rfl
theorem T_382_32 : hTab 382 32 = some ((3, 2, 0, []), 33) := rfl
theorem T_382_33 : hTab 382 33 = some ((0, 0, 101, []), 35) := rfl
theorem T_382_35 : hTab 382 35 = some ((19, 0, Int.ofNat 41, []), 38) := rfl
theorem T_382_38 : hTab 382 38 = some ((0, 0, 18, []), 40) := rfl
theorem T_382_40 : hTab 382 40 = some ((33, 1, 0, []), 41) := rfl
theorem T_382_41 : hTab 382 41 = some ((3, 0, 2, []), 42) := rfl
theorem T_382_42 : hTab 382 42 = some ((31, 383, 0, []), 45) := rfl
theorem T_382_45 : hTab 382 45 = some ((4, 3, 0, []), 46) := rfl
theorem T_382_46 : hTab 382 46 = some ((3, 3, 0, []), 47) := rfl
theorem T_382_47 : hTab 382 47 = some ((18, 3, Int.ofNat 53, []), 50) := rfl
theorem T_382_50 : hTab 382 50 = some ((0, 0, 20, []), 52) := rfl
theorem T_382_52 : hTab 382 52 = some ((33, 1, 0, []), 53) := rfl
theorem T_382_53 : hTab 382 53 = some ((3, 0, 2, []), 54) := rfl
theorem T_382_54 : hTab 382 54 = some ((0, 0, 0, []), 55) := rfl
theorem T_382_55 : hTab 382 55 = some ((3, 0, 2, []), 56) := rfl
theorem T_382_56 : hTab 382 56 = some ((24, 17, Int.ofNat 54, []), 59) := rfl
theorem T_382_59 : hTab 382 59 = some ((3, 1, 0, []), 60) := rfl
theorem T_382_60 : hTab 382 60 = some ((26, 0, 0, []), 61) := rfl
theorem T_382_61 : hTab 382 61 = some ((0, 0, 0, []), 62) := rfl
theorem T_382_62 : hTab 382 62 = some ((0, 0, 128, []), 65) := rfl
theorem T_382_65 : hTab 382 65 = some ((31, 333, 0, []), 68) := rfl
theorem T_382_68 : hTab 382 68 = some ((4, 4, 0, []), 70) := rfl
theorem T_382_70 : hTab 382 70 = some ((3, 0, 2, []), 71) := rfl
theorem T_382_71 : hTab 382 71 = some ((24, 17, Int.ofNat 53, []), 74) := rfl
theorem T_382_74 : hTab 382 74 = some ((3, 1, 0, []), 75) := rfl
theorem T_382_75 : hTab 382 75 = some ((26, 0, 0, []), 76) := rfl
theorem T_382_76 : hTab 382 76 = some ((4, 5, 0, []), 78) := rfl
theorem T_382_78 : hTab 382 78 = some ((0, 0, 0, []), 79) := rfl
theorem T_382_79 : hTab 382 79 = some ((4, 6, 0, []), 81) := rfl
theorem T_382_187 : hTab 382 187 = some ((3, 4, 0, []), 189) := rfl
theorem T_382_189 : hTab 382 189 = some ((18, 5, Int.ofNat 195, []), 192) := rfl
theorem T_382_192 : hTab 382 192 = some ((3, 4, 0, []), 194) := rfl
theorem T_382_194 : hTab 382 194 = some ((33, 1, 0, []), 195) := rfl
theorem T_382_195 : hTab 382 195 = some ((3, 2, 0, []), 196) := rfl
theorem T_382_196 : hTab 382 196 = some ((0, 0, 115, []), 198) := rfl
theorem T_382_198 : hTab 382 198 = some ((19, 1, Int.ofNat 206, []), 201) := rfl
theorem T_382_201 : hTab 382 201 = some ((3, 5, 0, []), 203) := rfl
theorem T_382_203 : hTab 382 203 = some ((22, 0, Int.ofNat 210, []), 206) := rfl
theorem T_382_206 : hTab 382 206 = some ((3, 0, 2, []), 207) := rfl
theorem T_382_207 : hTab 382 207 = some ((31, 384, 0, []), 210) := rfl
theorem T_382_210 : hTab 382 210 = some ((4, 6, 0, []), 212) := rfl
theorem T_382_212 : hTab 382 212 = some ((3, 0, 2, []), 213) := rfl
theorem T_382_213 : hTab 382 213 = some ((3, 3, 0, []), 214) := rfl
theorem T_382_214 : hTab 382 214 = some ((3, 0, 2, []), 215) := rfl
theorem T_382_215 : hTab 382 215 = some ((24, 17, Int.ofNat 52, []), 218) := rfl
theorem T_382_218 : hTab 382 218 = some ((3, 1, 0, []), 219) := rfl
theorem T_382_219 : hTab 382 219 = some ((26, 0, 0, []), 220) := rfl
theorem T_382_220 : hTab 382 220 = some ((3, 6, 0, []), 222) := rfl
theorem T_382_222 : hTab 382 222 = some ((3, 0, 2, []), 223) := rfl
theorem T_382_223 : hTab 382 223 = some ((24, 17, Int.ofNat 87, []), 226) := rfl
theorem T_382_226 : hTab 382 226 = some ((0, 0, 0, []), 227) := rfl
theorem T_382_227 : hTab 382 227 = some ((26, 0, 0, []), 228) := rfl
theorem T_382_228 : hTab 382 228 = some ((31, 386, 0, []), 231) := rfl
theorem T_382_231 : hTab 382 231 = some ((3, 2, 0, []), 232) := rfl
theorem T_382_232 : hTab 382 232 = some ((0, 0, 99, []), 234) := rfl
theorem T_382_234 : hTab 382 234 = some ((19, 1, Int.ofNat 245, []), 237) := rfl
theorem T_382_237 : hTab 382 237 = some ((3, 0, 2, []), 238) := rfl
theorem T_382_238 : hTab 382 238 = some ((3, 5, 0, []), 240) := rfl
theorem T_382_240 : hTab 382 240 = some ((3, 6, 0, []), 242) := rfl
theorem T_382_242 : hTab 382 242 = some ((31, 387, 0, []), 245) := rfl
section MFORK3
variable {fb : Bool} {d : Nat} {σ0 σ : hM} {P Q R S S1 S2 : qR} {T U s w g u p k e t z o q r pt off n N v to how gr np y : Int} {l l1 l2 nm wd A : List Int} {h : List Ch} {hf F : Int → Int} {x : Nw} {c c1 c2 : Ch} {ns : List Nw} {l7 l8 : Option AV}
theorem PTS_pt0 (h : PTS P) : PTS (rU P 2334 g 0) := fun g1 k a b c e => by
  rw [rU_f (by decide)]
  by_cases q : g1 = g
  · rw [q, rU_s] at e
    omega
  · rw [rU_k q] at e
    exact h g1 k a b c e
theorem PTS_rf {l : List Nat} (h : PTS P) (hr : RF l Q P) (h1 : l.elem 2334 = false) (h2 : l.elem 2337 = false) : PTS Q := h.row (fun k => hr _ k h1) (fun k => hr _ k h2)
theorem fkG_rng (hI : IV false T U P) (hp : 0 ≤ p ∧ p < 8) (hq : 0 ≤ q ∧ q < 8) (hqf : P 2320 q = 0) : 0 ≤ fkG P p how ∧ fkG P p how ≤ 7 := by
  unfold fkG
  split
  · exact IV.a hI 2323 0 8 rfl rfl rfl (by omega) (by omega)
  · have := qFg_ok (P := P) hq hqf
    omega
theorem fkB_ok (h : GI T U P) (hPT : PTS P) (hp : 0 ≤ p ∧ p < 8) (hq : 0 ≤ q ∧ q < 8) (hqf : P 2320 q = 0) {hd : List Ch} (hfd : 0 ≤ hfL hd 0 ∧ hfL hd 0 ≤ 47) : GI T U (fkB P p q how hd) ∧ PTS (fkB P p q how hd) := by
  have bu : 0 ≤ P 2322 p ∧ P 2322 p ≤ 3 := IV.a h.iv 2322 0 8 rfl rfl rfl (by omega) (by omega)
  have bg := fkG_rng (how := how) h.iv hp hq hqf
  unfold fkB
  split
  · exact ⟨GI_gBg h hq bu bg hfd, PTS_rf hPT gBg_rf rfl rfl⟩
  · have hqg := qFg_ok (P := P) hq hqf
    have h1 : GI T U (rU P 2334 (qFg P) 0) := GI_one (f := 2334) (ty := 0) (len := 8) h rfl (show (0 : Int) ≤ 0 ∧ (0 : Int) ≤ 8 by decide) rfl rfl rfl rfl rfl rfl rfl rfl rfl (by decide) (by decide)
    exact ⟨GI_gBg h1 hq bu bg hfd, PTS_rf (PTS_pt0 hPT) gBg_rf rfl rfl⟩
theorem hfL_rng (hJ : IV true T U S) (hh : HS S h) {i : Int} (h0 : 0 ≤ i) (h1 : i < (h.length : Int)) : S 2351 i = hfL h i ∧ 0 ≤ hfL h i ∧ hfL h i ≤ 47 := by
  have := (hh.2.2 i.toNat (by omega)).2.1
  rw [Int.toNat_of_nonneg h0] at this
  have b : 0 ≤ S 2351 i ∧ S 2351 i ≤ 47 := IV.a hJ 2351 0 64 rfl rfl rfl h0 (by have := hh.2.1; omega)
  have e : hfL h i = S 2351 i := this.symm
  rw [e]
  exact ⟨rfl, b⟩
theorem GI_T0 (h : GI T U P) : 0 ≤ T + 200 := by
  have b : 0 ≤ P 2340 0 ∧ P 2340 0 ≤ T + 200 := IV.a h.iv 2340 0 384 rfl rfl rfl (by decide) (by decide)
  omega
/-- from the group on -/
theorem m_fork_mid (hP : PM σ0 P S σ) (hK : KS T U P S l h) (hp : 0 ≤ p ∧ p < 8) (hq : 0 ≤ q ∧ q < 8) (hqf : P 2320 q = 0) (hlv : ¬ P 2320 p = 0) (hg : P 2323 p = g) (hhow : how = 115 ∨ how = 99 ∨ how = 101) (h1 : 1 ≤ h.length) (hc : how = 99 → 1 + sm (fun k => P 2337 (8 * g + k)) 0 (P 2334 g).toNat ≤ (h.length : Int)) : WP fb (d + 13) 382 187 [some (vR (some 2281)), some (vI p), some (vI how), some (vI q), some (vI 0), some (vI g), some (vI y), l7, l8] [] σ (KC T U σ0 S l 0 (fkE P p q how h) []) := by
  have hpq : ¬ p = q := fun c => hlv (by rw [c]; exact hqf)
  obtain ⟨hf0, hf1⟩ := hfL_rng hK.2.2.1 hK.2.2.2.1 (i := 0) (by decide) (by omega)
  have hbg := fkG_rng (how := how) hK.1.iv hp hq hqf
  have hok := fkB_ok (how := how) hK.1 hK.2.1 hp hq hqf hf1
  have bg : 0 ≤ P 2323 p ∧ P 2323 p ≤ 7 := IV.a hK.1.iv 2323 0 8 rfl rfl rfl (by omega) (by omega)
  rw [hg] at bg
  have bp : 0 ≤ P 2334 g ∧ P 2334 g ≤ 8 := IV.a hK.1.iv 2334 0 8 rfl rfl rfl (by omega) (by omega)
  have hfin : ∀ (Z : qR) (gr : Int) (l7 l8 : Option AV) (σ : hM), PM σ0 Z S σ → GI T U Z → PTS Z → fkC P p q how h = Z → WP fb (d + 13) 382 245 [some (vR (some 2281)), some (vI p), some (vI how), some (vI q), some (vI 0), some (vI g), some (vI gr), l7, l8] [] σ (KC T U σ0 S l 0 (fkE P p q how h) []) := fun Z gr l7 l8 σ a1 a2 a3 a4 => by
    refine WP.mono (m_fork_tail (fb := fb) (d := d + 12) (how := how) (g := g) (gr := gr) (l7 := l7) (l8 := l8) a1 a2 hp hq hpq) ?_
    rintro r σ1 ⟨rfl, b1⟩
    have b3 := GI_gFol a2 hp hq
    have b4 : GI T U (gTell (gFol Z p q) p (48 + q)) := GI_tell b3 hp (by omega)
    have b5 : GI T U (gTell (gTell (gFol Z p q) p (48 + q)) p 10) := GI_tell b4 hp (by decide)
    have c1 : PTS (gFol Z p q) := PTS_rf a3 gFol_rf rfl rfl
    have c2 : PTS (gTell (gTell (gFol Z p q) p (48 + q)) p 10) := c1.row (fun _ => (gTell_f (by decide) (by decide)).trans (gTell_f (by decide) (by decide))) (fun _ => (gTell_f (by decide) (by decide)).trans (gTell_f (by decide) (by decide)))
    have hh3 := hK.2.2.2.1.less (j := 0) (Nat.zero_le _)
    have hJ3 : IV true T U (rU S 2281 91 0) := hK.2.2.1.uN 91 91 rfl (by show (0 : Int) ≤ 0 ∧ (0 : Int) ≤ 64; decide)
    have hL3 : LN (rU S 2281 91 0) l := hK.2.2.2.2.of (rU_k (by decide)) (rU_k (by decide)) (fun _ => rU_f (by decide)) (fun _ => rU_f (by decide)) (fun _ => rU_f (by decide))
    unfold fkE
    rw [a4]
    exact ⟨_, rfl, b1, ⟨b5, c2, hJ3, hh3, hL3⟩, SX_un SX_rfl rfl⟩
  obtain ⟨us, hus⟩ : ∃ us, P 2322 p = us := ⟨_, rfl⟩
  obtain ⟨rt, hrt⟩ : ∃ rt, hfL h 0 = rt := ⟨_, rfl⟩
  rw [hrt] at hf0
  have hfg := fun (σ : hM) (hP : PM σ0 P S σ) => m_freeGroup (fb := fb) (d := d + 11) hP hq hqf
  obtain ⟨gr, hgr⟩ : ∃ gr, qFg P = gr := ⟨_, rfl⟩
  rw [hgr] at hfg
  rcases hhow with rfl | rfl | rfl
  · have e : fkC P p q 115 h = gBg P q us g rt := by
      unfold fkC fkB fkG
      rw [if_neg (by decide), if_pos rfl, if_pos rfl, hus, hg, hrt]
    have e2 : fkB P p q 115 h = gBg P q us g rt := by
      unfold fkB fkG
      rw [if_pos rfl, if_pos rfl, hus, hg, hrt]
    rw [e2] at hok
    have hst := fun (σ : hM) (hP : PM σ0 P S σ) => m_start (fb := fb) (d := d + 12) (q := q) (u := us) (g := g) (r := rt) hP hq
    have hgo := fun (σ : hM) (hP : PM σ0 (gBg P q us g rt) S σ) => hfin _ g l7 l8 σ hP hok.1 hok.2 e
    refine x_li (z := 0) T_382_187 rfl ?_
    refine x_if T_382_189 (fun _ => ?_) (fun h => absurd (show (0 : Int) ≤ 0 by decide) h)
    refine x_li (z := 115) T_382_195 rfl ?_
    refine x_ic T_382_196 ?_
    refine x_ic2 T_382_198 (fun h => absurd (show ¬ (115 : Int) = 115 from h) (by decide)) (fun _ => ?_)
    refine x_li (z := g) T_382_201 rfl ?_
    refine x_goto T_382_203 ?_
    refine x_si (ls1 := [some (vR (some 2281)), some (vI p), some (vI 115), some (vI q), some (vI 0), some (vI g), some (vI g), l7, l8]) T_382_210 rfl ?_
    refine x_lr (z := some 2281) T_382_212 rfl ?_
    refine x_li (z := q) T_382_213 rfl ?_
    refine x_lr (z := some 2281) T_382_214 rfl ?_
    refine x_gR (z := some 2322) T_382_215 F_17_52 (PM.t hP) (PM.r hP 52 2322 rfl) ?_
    refine x_li (z := p) T_382_218 rfl ?_
    refine x_alI (z := us) T_382_219 (by decide) (PM.ta hP 2322 0 8 rfl rfl) (by omega) (by omega) (Eq.trans (PM.aP hP 2322 rfl rfl (by omega)) hus) ?_
    refine x_li (z := g) T_382_220 rfl ?_
    refine x_lr (z := some 2281) T_382_222 rfl ?_
    refine x_gR (z := some 2351) T_382_223 F_17_87 (PM.t hP) (PM.r hP 87 2351 rfl) ?_
    refine x_ic T_382_226 ?_
    refine x_alI (z := rt) T_382_227 (by decide) (PM.ta hP 2351 0 64 rfl rfl) (by omega) (by omega) (Eq.trans (PM.aS hP 2351 rfl rfl (by omega)) hf0) ?_
    refine x_cv5 T_382_228 mN_386 mL_386 (Nat.le_of_ble_eq_true rfl) mO_386 (PM.t hP) (Nat.le_of_ble_eq_true rfl) (hst σ hP) ?_
    clear hP hst
    rintro _ σ ⟨rfl, hP⟩
    refine cV ?_
    refine x_li (z := 115) T_382_231 rfl ?_
    refine x_ic T_382_232 ?_
    refine x_ic2 T_382_234 (fun _ => ?_) (fun h => absurd (show ¬ (115 : Int) = 99 by decide) h)
    exact hgo σ hP
  · have hne : ¬ gr = g := fun c => by
      have := (qFg_ok (P := P) hq hqf).2.2
      rw [hgr, c] at this
      exact qPn_0 8 0 this p (by omega) (by omega) ⟨hlv, hg⟩
    have e2 : fkB P p q 99 h = gBg (rU P 2334 gr 0) q us gr rt := by
      unfold fkB fkG
      rw [if_neg (by decide), if_neg (by decide), hus, hgr, hrt]
    have e : fkC P p q 99 h = gCpG (hfL h) (gBg (rU P 2334 gr 0) q us gr rt) g gr := by
      unfold fkC
      rw [if_pos rfl, e2, hg]
      unfold fkG
      rw [if_neg (by decide), hgr]
    rw [e2] at hok
    have bgr : 0 ≤ gr ∧ gr ≤ 7 := by
      unfold fkG at hbg
      rw [if_neg (by decide), hgr] at hbg
      exact hbg
    obtain ⟨Z, hZ⟩ : ∃ Z, gBg (rU P 2334 gr 0) q us gr rt = Z := ⟨_, rfl⟩
    rw [hZ] at hok e
    have z1 : Z 2334 g = P 2334 g := by
      rw [← hZ, gBg_rf 2334 g rfl]
      exact rU_k (fun c => hne c.symm)
    have z2 : ∀ i, Z 2337 i = P 2337 i := fun i => by
      rw [← hZ, gBg_rf 2337 i rfl]
      exact rU_f (by decide)
    have hsm : 1 + sm (fun k => Z 2337 (8 * g + k)) 0 (Z 2334 g).toNat ≤ (h.length : Int) := by
      rw [z1, sm_congr (g := fun k => P 2337 (8 * g + k)) _ _ (fun i _ _ => z2 _)]
      exact hc rfl
    have h60 := hK.2.2.2.1.2.1
    have hco := gCpG_ok (hf := hfL h) hok.1 (show 0 ≤ g ∧ g < 8 by omega) (show 0 ≤ gr ∧ gr < 8 by omega) (fun c => hne c.symm) (fun i a b => (hfL_rng hK.2.2.1 hK.2.2.2.1 a b).2) hsm hok.2
    have hcg := fun (σ : hM) (hP : PM σ0 Z S σ) => m_copyGroup (fb := fb) (d := d + 11) (hf := hfL h) hP hok.1 (show 0 ≤ g ∧ g < 8 by omega) (show 0 ≤ gr ∧ gr < 8 by omega) (fun c => hne c.symm) (by omega) (fun i a b => (hfL_rng hK.2.2.1 hK.2.2.2.1 a b).1) (fun i a b => (hfL_rng hK.2.2.1 hK.2.2.2.1 a b).2) hsm
    have hst := fun (σ : hM) (hP : PM σ0 (rU P 2334 gr 0) S σ) => m_start (fb := fb) (d := d + 12) (q := q) (u := us) (g := gr) (r := rt) hP hq
    rw [hZ] at hst
    have hgo := fun (σ : hM) (hP : PM σ0 (gCpG (hfL h) Z g gr) S σ) => hfin _ gr l7 l8 σ hP hco.1 hco.2.1 e
    have hus2 : rU P 2334 gr 0 2322 p = us := (rU_f (by decide)).trans hus
    refine x_li (z := 0) T_382_187 rfl ?_
    refine x_if T_382_189 (fun _ => ?_) (fun h => absurd (show (0 : Int) ≤ 0 by decide) h)
    refine x_li (z := 99) T_382_195 rfl ?_
    refine x_ic T_382_196 ?_
    refine x_ic2 T_382_198 (fun _ => ?_) (fun h => absurd (show ¬ (99 : Int) = 115 by decide) h)
    refine x_lr (z := some 2281) T_382_206 rfl ?_
    refine x_cv1 T_382_207 mN_384 mL_384 (Nat.le_of_ble_eq_true rfl) mO_384 (PM.t hP) (Nat.le_of_ble_eq_true rfl) (hfg σ hP) ?_
    clear hP hfg
    rintro _ σ ⟨rfl, hP⟩
    refine cI ?_
    refine x_si (ls1 := [some (vR (some 2281)), some (vI p), some (vI 99), some (vI q), some (vI 0), some (vI g), some (vI gr), l7, l8]) T_382_210 rfl ?_
    refine x_lr (z := some 2281) T_382_212 rfl ?_
    refine x_li (z := q) T_382_213 rfl ?_
    refine x_lr (z := some 2281) T_382_214 rfl ?_
    refine x_gR (z := some 2322) T_382_215 F_17_52 (PM.t hP) (PM.r hP 52 2322 rfl) ?_
    refine x_li (z := p) T_382_218 rfl ?_
    refine x_alI (z := us) T_382_219 (by decide) (PM.ta hP 2322 0 8 rfl rfl) (by omega) (by omega) (Eq.trans (PM.aP hP 2322 rfl rfl (by omega)) hus2) ?_
    refine x_li (z := gr) T_382_220 rfl ?_
    refine x_lr (z := some 2281) T_382_222 rfl ?_
    refine x_gR (z := some 2351) T_382_223 F_17_87 (PM.t hP) (PM.r hP 87 2351 rfl) ?_
    refine x_ic T_382_226 ?_
    refine x_alI (z := rt) T_382_227 (by decide) (PM.ta hP 2351 0 64 rfl rfl) (by omega) (by omega) (Eq.trans (PM.aS hP 2351 rfl rfl (by omega)) hf0) ?_
    refine x_cv5 T_382_228 mN_386 mL_386 (Nat.le_of_ble_eq_true rfl) mO_386 (PM.t hP) (Nat.le_of_ble_eq_true rfl) (hst σ hP) ?_
    clear hP hst
    rintro _ σ ⟨rfl, hP⟩
    refine cV ?_
    refine x_li (z := 99) T_382_231 rfl ?_
    refine x_ic T_382_232 ?_
    refine x_ic2 T_382_234 (fun h => absurd (show ¬ (99 : Int) = 99 from h) (by decide)) (fun _ => ?_)
    refine x_lr (z := some 2281) T_382_237 rfl ?_
    refine x_li (z := g) T_382_238 rfl ?_
    refine x_li (z := gr) T_382_240 rfl ?_
    refine x_cv3 T_382_242 mN_387 mL_387 (Nat.le_of_ble_eq_true rfl) mO_387 (PM.t hP) (Nat.le_of_ble_eq_true rfl) (hcg σ hP) ?_
    clear hP hcg
    rintro _ σ ⟨rfl, hP⟩
    refine cV ?_
    exact hgo σ hP
  · have e2 : fkB P p q 101 h = gBg (rU P 2334 gr 0) q us gr rt := by
      unfold fkB fkG
      rw [if_neg (by decide), if_neg (by decide), hus, hgr, hrt]
    have e : fkC P p q 101 h = gBg (rU P 2334 gr 0) q us gr rt := by
      unfold fkC
      rw [if_neg (by decide), e2]
    rw [e2] at hok
    have hst := fun (σ : hM) (hP : PM σ0 (rU P 2334 gr 0) S σ) => m_start (fb := fb) (d := d + 12) (q := q) (u := us) (g := gr) (r := rt) hP hq
    have hgo := fun (σ : hM) (hP : PM σ0 (gBg (rU P 2334 gr 0) q us gr rt) S σ) => hfin _ gr l7 l8 σ hP hok.1 hok.2 e
    have hus2 : rU P 2334 gr 0 2322 p = us := (rU_f (by decide)).trans hus
    refine x_li (z := 0) T_382_187 rfl ?_
    refine x_if T_382_189 (fun _ => ?_) (fun h => absurd (show (0 : Int) ≤ 0 by decide) h)
    refine x_li (z := 101) T_382_195 rfl ?_
    refine x_ic T_382_196 ?_
    refine x_ic2 T_382_198 (fun _ => ?_) (fun h => absurd (show ¬ (101 : Int) = 115 by decide) h)
    refine x_lr (z := some 2281) T_382_206 rfl ?_
    refine x_cv1 T_382_207 mN_384 mL_384 (Nat.le_of_ble_eq_true rfl) mO_384 (PM.t hP) (Nat.le_of_ble_eq_true rfl) (hfg σ hP) ?_
    clear hP hfg
    rintro _ σ ⟨rfl, hP⟩
    refine cI ?_
    refine x_si (ls1 := [some (vR (some 2281)), some (vI p), some (vI 101), some (vI q), some (vI 0), some (vI g), some (vI gr), l7, l8]) T_382_210 rfl ?_
    refine x_lr (z := some 2281) T_382_212 rfl ?_
    refine x_li (z := q) T_382_213 rfl ?_
    refine x_lr (z := some 2281) T_382_214 rfl ?_
    refine x_gR (z := some 2322) T_382_215 F_17_52 (PM.t hP) (PM.r hP 52 2322 rfl) ?_
    refine x_li (z := p) T_382_218 rfl ?_
    refine x_alI (z := us) T_382_219 (by decide) (PM.ta hP 2322 0 8 rfl rfl) (by omega) (by omega) (Eq.trans (PM.aP hP 2322 rfl rfl (by omega)) hus2) ?_
    refine x_li (z := gr) T_382_220 rfl ?_
    refine x_lr (z := some 2281) T_382_222 rfl ?_
    refine x_gR (z := some 2351) T_382_223 F_17_87 (PM.t hP) (PM.r hP 87 2351 rfl) ?_
    refine x_ic T_382_226 ?_
    refine x_alI (z := rt) T_382_227 (by decide) (PM.ta hP 2351 0 64 rfl rfl) (by omega) (by omega) (Eq.trans (PM.aS hP 2351 rfl rfl (by omega)) hf0) ?_
    refine x_cv5 T_382_228 mN_386 mL_386 (Nat.le_of_ble_eq_true rfl) mO_386 (PM.t hP) (Nat.le_of_ble_eq_true rfl) (hst σ hP) ?_
    clear hP hst
    rintro _ σ ⟨rfl, hP⟩
    refine cV ?_
    refine x_li (z := 101) T_382_231 rfl ?_
    refine x_ic T_382_232 ?_
    refine x_ic2 T_382_234 (fun _ => ?_) (fun h => absurd (show ¬ (101 : Int) = 99 by decide) h)
    exact hgo σ hP
theorem qFp_rng : qFp P = -1 ∨ (0 ≤ qFp P ∧ qFp P < 8 ∧ P 2320 (qFp P) = 0) := by
  have key : ∀ (m : Nat) (k : Int), 0 ≤ k → fpR P m k = -1 ∨ (k ≤ fpR P m k ∧ fpR P m k < k + m ∧ P 2320 (fpR P m k) = 0) := by
    intro m
    induction m with
    | zero => intro k _; exact Or.inl rfl
    | succ m ih =>
      intro k hk
      unfold fpR
      split
      · rename_i q
        exact Or.inr ⟨by omega, by omega, q⟩
      · rcases ih (k + 1) (by omega) with q | q
        · exact Or.inl q
        · exact Or.inr ⟨by omega, by omega, q.2.2⟩
  rcases key 8 0 (by decide) with q | q
  · exact Or.inl q
  · exact Or.inr ⟨q.1, by have := q.2.1; unfold qFp; omega, q.2.2⟩
theorem m_fork (hP : PM σ0 P S σ) (hK : KS T U P S l []) (hp : 0 ≤ p ∧ p < 8) (hlv : ¬ P 2320 p = 0) (hw : 1 < ((lnW l).length : Int)) (hT : T + 600 ≤ 2147483000) : CL fb (d + 13) 382 [vR (some 2281), vI p] σ (KC (T + 204) U σ0 S l (cFork P p (lnB l 1)).1 (cFork P p (lnB l 1)).2.1 (cFork P p (lnB l 1)).2.2) := by
  have hL := hK.2.2.2.2
  have hsz := m_size (fb := fb) (d := d + 12) (w := 1) hP hL ⟨by decide, hw⟩
  have hsg := fun (q : (1 : Int) = ((lnB l 1).length : Int)) => m_sign (fb := fb) (d := d + 12) (w := 1) (k := 0) hP hL ⟨by decide, hw⟩ ⟨by decide, by omega⟩
  have hfp := m_freeProcess (fb := fb) (d := d + 12) hP
  have hqr := qFp_rng (P := P)
  have bg : 0 ≤ P 2323 p ∧ P 2323 p ≤ 7 := IV.a hK.1.iv 2323 0 8 rfl rfl rfl (by omega) (by omega)
  unfold cFork
  -- from the choice on
  have key : ∀ (how : Int) (R : Int × qR × List Ch), (if ¬ (how = 115 ∨ how = 99 ∨ how = 101) then ((18 : Int), P, ([] : List Ch)) else if qFp P < 0 then (20, P, []) else if 0 < (fkK P p how).1 then fkK P p how else ((0 : Int), fkE (fkK P p how).2.1 p (qFp P) how (fkK P p how).2.2, ([] : List Ch))) = R → WP fb (d + 13) 382 20 [some (vR (some 2281)), some (vI p), some (vI how), none, none, none, none, none, none] [] σ (KC (T + 204) U σ0 S l R.1 R.2.1 R.2.2) := fun how R hR => by
    by_cases qh : how = 115 ∨ how = 99 ∨ how = 101
    · rw [if_neg (fun c => c qh)] at hR
      obtain ⟨q, hq⟩ : ∃ q, qFp P = q := ⟨_, rfl⟩
      rw [hq] at hqr hfp hR
      by_cases q0 : q < 0
      · rw [if_pos q0] at hR
        subst hR
        rcases qh with rfl | rfl | rfl
        · skip
          refine x_li (z := 115) T_382_20 rfl ?_
          refine x_ic T_382_21 ?_
          refine x_ic2 T_382_23 (fun _ => ?_) (fun h => absurd (show (115 : Int) = 115 by decide) h)
          refine x_lr (z := some 2281) T_382_41 rfl ?_
          refine x_cv1 T_382_42 mN_383 mL_383 (Nat.le_of_ble_eq_true rfl) mO_383 (PM.t hP) (Nat.le_of_ble_eq_true rfl) (hfp) ?_
          rintro _ σ ⟨rfl, rfl⟩
          refine cI ?_
          refine x_si (ls1 := [some (vR (some 2281)), some (vI p), some (vI 115), some (vI q), none, none, none, none, none]) T_382_45 rfl ?_
          refine x_li (z := q) T_382_46 rfl ?_
          refine x_if T_382_47 (fun h => absurd (show 0 ≤ q from h) (by omega)) (fun _ => ?_)
          refine x_ic T_382_50 ?_
          refine x_ri T_382_52 ?_
          exact ⟨S, rfl, hP, hK.mono (by omega), SX_rfl⟩
        · skip
          refine x_li (z := 99) T_382_20 rfl ?_
          refine x_ic T_382_21 ?_
          refine x_ic2 T_382_23 (fun h => absurd (show (99 : Int) = 115 from h) (by decide)) (fun _ => ?_)
          refine x_li (z := 99) T_382_26 rfl ?_
          refine x_ic T_382_27 ?_
          refine x_ic2 T_382_29 (fun _ => ?_) (fun h => absurd (show (99 : Int) = 99 by decide) h)
          refine x_lr (z := some 2281) T_382_41 rfl ?_
          refine x_cv1 T_382_42 mN_383 mL_383 (Nat.le_of_ble_eq_true rfl) mO_383 (PM.t hP) (Nat.le_of_ble_eq_true rfl) (hfp) ?_
          rintro _ σ ⟨rfl, rfl⟩
          refine cI ?_
          refine x_si (ls1 := [some (vR (some 2281)), some (vI p), some (vI 99), some (vI q), none, none, none, none, none]) T_382_45 rfl ?_
          refine x_li (z := q) T_382_46 rfl ?_
          refine x_if T_382_47 (fun h => absurd (show 0 ≤ q from h) (by omega)) (fun _ => ?_)
          refine x_ic T_382_50 ?_
          refine x_ri T_382_52 ?_
          exact ⟨S, rfl, hP, hK.mono (by omega), SX_rfl⟩
        · skip
          refine x_li (z := 101) T_382_20 rfl ?_
          refine x_ic T_382_21 ?_
          refine x_ic2 T_382_23 (fun h => absurd (show (101 : Int) = 115 from h) (by decide)) (fun _ => ?_)
          refine x_li (z := 101) T_382_26 rfl ?_
          refine x_ic T_382_27 ?_
          refine x_ic2 T_382_29 (fun h => absurd (show (101 : Int) = 99 from h) (by decide)) (fun _ => ?_)
          refine x_li (z := 101) T_382_32 rfl ?_
          refine x_ic T_382_33 ?_
          refine x_ic2 T_382_35 (fun _ => ?_) (fun h => absurd (show (101 : Int) = 101 by decide) h)
          refine x_lr (z := some 2281) T_382_41 rfl ?_
          refine x_cv1 T_382_42 mN_383 mL_383 (Nat.le_of_ble_eq_true rfl) mO_383 (PM.t hP) (Nat.le_of_ble_eq_true rfl) (hfp) ?_
          rintro _ σ ⟨rfl, rfl⟩
          refine cI ?_
          refine x_si (ls1 := [some (vR (some 2281)), some (vI p), some (vI 101), some (vI q), none, none, none, none, none]) T_382_45 rfl ?_
          refine x_li (z := q) T_382_46 rfl ?_
          refine x_if T_382_47 (fun h => absurd (show 0 ≤ q from h) (by omega)) (fun _ => ?_)
          refine x_ic T_382_50 ?_
          refine x_ri T_382_52 ?_
          exact ⟨S, rfl, hP, hK.mono (by omega), SX_rfl⟩
      rw [if_neg q0] at hR
      obtain ⟨hq0, hq8, hqf⟩ := hqr.resolve_left (by omega)
      have her := kCpE_rng (P := P) (s := 0) (f := P 2324 p)
      have hkf : KF (kCpP P 0 (P 2324 p)) P := KF_cp
      have hcp := fun (σ : hM) (hP : PM σ0 P S σ) => m_copy (fb := fb) (d := d) (s := 0) (f := P 2324 p) (g := 0) (k := 128) hP hK.2.2.1 hK.1 (by omega) ⟨by decide, by decide⟩ hK.2.2.2.1 (show 0 < 60 by decide) ⟨by decide, GI_T0 hK.1⟩ (by decide)
      have hcK : ∀ (r : Option AV) (σ1 : hM), KR (T + 4) U σ0 S (kCpE P 0 (P 2324 p)) (kCpP P 0 (P 2324 p)) (kHold (kCpE P 0 (P 2324 p)) [] (0, qNewF P 0, 0, 128, -1)) r σ1 → ∃ S2 : qR, r = some (vI (kCpE P 0 (P 2324 p))) ∧ PM σ0 (kCpP P 0 (P 2324 p)) S2 σ1 ∧ KS (T + 4) U (kCpP P 0 (P 2324 p)) S2 l (kHold (kCpE P 0 (P 2324 p)) [] (0, qNewF P 0, 0, 128, -1)) ∧ SX scR scN S S2 := fun r σ1 hr => hK.copy hkf hr
      unfold fkK at hR
      obtain ⟨rt, hrt⟩ : ∃ rt, P 2324 p = rt := ⟨_, rfl⟩
      rw [hrt] at her hkf hcp hcK hR
      obtain ⟨e, he⟩ : ∃ e, kCpE P 0 rt = e := ⟨_, rfl⟩
      obtain ⟨P1, hP1⟩ : ∃ P1, kCpP P 0 rt = P1 := ⟨_, rfl⟩
      rw [he] at her
      rw [hP1] at hkf
      rw [he, hP1] at hcp hcK hR
      obtain ⟨g, hg⟩ : ∃ g, P 2323 p = g := ⟨_, rfl⟩
      rw [hg] at bg hR
      have hg1 : P1 2323 p = g := (hkf _ _ rfl (by decide) (by decide) (by decide)).trans hg
      have hlv1 : ¬ P1 2320 p = 0 := by rw [hkf 2320 p rfl (by decide) (by decide) (by decide)]; exact hlv
      have hqf1 : P1 2320 q = 0 := (hkf 2320 q rfl (by decide) (by decide) (by decide)).trans hqf
      have bp : 0 ≤ P 2334 g ∧ P 2334 g ≤ 8 := IV.a hK.1.iv 2334 0 8 rfl rfl rfl (by omega) (by omega)
      obtain ⟨np, hnp⟩ : ∃ np, P 2334 g = np := ⟨_, rfl⟩
      have hnp1 : P1 2334 g = np := (hkf _ _ rfl (by decide) (by decide) (by decide)).trans hnp
      rw [hnp] at bp hR
      obtain ⟨cc, hcc⟩ : ∃ c : Ch, ((0 : Int), qNewF P 0, (0 : Int), (128 : Int), (-1 : Int)) = c := ⟨_, rfl⟩
      rw [hcc] at hcp hcK hR
      obtain ⟨K, hK0⟩ : ∃ K, (if 0 < e then (e, P1, ([] : List Ch)) else if how = 99 then fkP g np.toNat 0 P1 [cc] else (0, P1, [cc])) = K := ⟨_, rfl⟩
      rw [hK0] at hR
      -- what comes behind the copies
      have h81 : ∀ (σ : hM) (S2 : qR), PM σ0 P1 S2 σ → KS (T + 4) U P1 S2 l (kHold e [] cc) → SX scR scN S S2 → WP fb (d + 13) 382 81 [some (vR (some 2281)), some (vI p), some (vI how), some (vI q), some (vI e), some (vI g), some (vI 0), none, none] [] σ (KC (T + 204) U σ0 S l R.1 R.2.1 R.2.2) := fun σ S2 a1 a2 a3 => by
        by_cases q1 : 0 < e
        · rw [if_pos q1] at hK0
          subst hK0
          dsimp only at hR
          rw [if_pos q1] at hR
          subst hR
          rw [kHoldn (by omega)] at a2
          refine m_fork_err (fb := fb) (d := d + 13) (how := how) (q := q) a2.1 q1 (by omega) hnp1 bp.2 a1 (fun y l7 l8 => ?_) np.toNat 0 none none (by omega) (by decide)
          refine x_li (z := e) T_382_187 rfl ?_
          refine x_if T_382_189 (fun h => absurd (show e ≤ 0 from h) (by omega)) (fun _ => ?_)
          refine x_li (z := e) T_382_192 rfl ?_
          refine x_ri T_382_194 ?_
          exact ⟨S2, rfl, a1, a2.mono (by omega), a3⟩
        rw [if_neg q1] at hK0
        have q2 : e = 0 := by omega
        subst q2
        rw [kHold0] at a2
        have hfn : ∀ (Z : qR) (hz : List Ch) (T2 : Int) (y : Int) (l7 l8 : Option AV) (σ : hM) (S3 : qR), PM σ0 Z S3 σ → KS T2 U Z S3 l hz → SX scR scN S S3 → KF Z P1 → T2 ≤ T + 204 → 1 ≤ hz.length → (how = 99 → 1 + sm (fun k => Z 2337 (8 * g + k)) 0 (Z 2334 g).toNat ≤ (hz.length : Int)) → WP fb (d + 13) 382 187 [some (vR (some 2281)), some (vI p), some (vI how), some (vI q), some (vI 0), some (vI g), some (vI y), l7, l8] [] σ (KC (T + 204) U σ0 S l 0 (fkE Z p q how hz) []) := fun Z hz T2 y l7 l8 σ S3 b1 b2 b3 b4 b5 b6 b7 => by
          refine WP.mono (m_fork_mid (fb := fb) (d := d) (y := y) (l7 := l7) (l8 := l8) b1 b2 hp ⟨hq0, hq8⟩ ((b4 2320 q rfl (by decide) (by decide) (by decide)).trans hqf1) (by rw [b4 2320 p rfl (by decide) (by decide) (by decide)]; exact hlv1) ((b4 _ _ rfl (by decide) (by decide) (by decide)).trans hg1) qh b6 b7) ?_
          rintro r σ1 ⟨S4, r1, r2, r3, r4⟩
          exact ⟨S4, r1, r2, r3.mono b5, SX_tr b3 r4⟩
        by_cases q3 : how = 99
        · rw [if_pos q3] at hK0
          subst q3
          have hout := fun {Q : Option AV → hM → Prop} => m_fork_out (fb := fb) (d := d) (σ0 := σ0) (U := U) (l := l) (p := p) (q := q) (g := g) (np := np) (by omega) bp.2 (Q := Q) np.toNat 0 (T + 4) P1 S2 [cc] σ none none (by omega) (by decide) hnp1 (show 1 + 6 * np.toNat < 60 by omega) (by omega) a1 a2
          have hkf2 := fkP_kf (g := g) np.toNat 0 P1 [cc]
          obtain ⟨t, b1, b2, b3⟩ := fkP_app (g := g) (mm := fun k => P1 2337 (8 * g + k)) (fun i c1 c2 => (IV.a a2.1.iv 2337 0 64 rfl rfl rfl (by omega) (by omega) : 0 ≤ P1 2337 (8 * g + i) ∧ _).1) np.toNat 0 P1 [cc] (by decide) (by omega) (fun y _ _ => rfl)
          rw [hK0] at hout hkf2 b1 b2 b3
          clear hK0
          obtain ⟨e2, Z, hz⟩ := K
          dsimp only at hout hkf2 b1 b2 b3 hR
          refine hout (fun σ S3 y l7 l8 d1 d2 d3 => ?_)
          by_cases q4 : 0 < e2
          · rw [if_pos q4] at hR
            subst hR
            refine x_li (z := e2) T_382_187 rfl ?_
            refine x_if T_382_189 (fun h => absurd (show e2 ≤ 0 from h) (by omega)) (fun _ => ?_)
            refine x_li (z := e2) T_382_192 rfl ?_
            refine x_ri T_382_194 ?_
            exact ⟨S3, rfl, d1, d2.mono (by omega), SX_tr a3 d3⟩
          · rw [if_neg q4] at hR
            subst hR
            have q5 : e2 = 0 := by omega
            subst q5
            have b2 := b2 rfl
            have z1 : Z 2334 g = np := (hkf2 _ _ rfl (by decide) (by decide) (by decide)).trans hnp1
            refine hfn Z hz _ y l7 l8 σ S3 d1 d2 (SX_tr a3 d3) hkf2 (by omega) (by rw [b1, List.length_append]; show 1 ≤ 1 + t.length; omega) (fun _ => ?_)
            rw [z1, sm_congr (g := fun k => P1 2337 (8 * g + k)) _ _ (fun i _ _ => hkf2 _ _ rfl (by decide) (by decide) (by decide)), b1, List.length_append, ← b2]
            show 1 + (t.length : Int) ≤ ((1 + t.length : Nat) : Int)
            omega
        · rw [if_neg q3] at hK0
          subst hK0
          dsimp only at hR
          rw [if_neg (by decide)] at hR
          subst hR
          have hgo := fun (y : Int) => hfn P1 [cc] (T + 4) y none none σ S2 a1 a2 a3 KF_rfl (by omega) (show 1 ≤ 1 by omega) (fun c => absurd c q3)
          have hP := a1
          by_cases q4 : np = 0
          · skip
            refine x_li (z := 0) T_382_81 rfl ?_
            refine x_lr (z := some 2281) T_382_83 rfl ?_
            refine x_gR (z := some 2334) T_382_84 F_17_64 (PM.t hP) (PM.r hP 64 2334 rfl) ?_
            refine x_li (z := g) T_382_87 rfl ?_
            refine x_alI (z := np) T_382_89 (by decide) (PM.ta hP 2334 0 8 rfl rfl) (by omega) (by omega) (Eq.trans (PM.aP hP 2334 rfl rfl (by omega)) hnp1) ?_
            refine x_ic2 T_382_90 (fun _ => ?_) (fun h => absurd (show np ≤ 0 by omega) h)
            exact hgo _
          · skip
            refine x_li (z := 0) T_382_81 rfl ?_
            refine x_lr (z := some 2281) T_382_83 rfl ?_
            refine x_gR (z := some 2334) T_382_84 F_17_64 (PM.t hP) (PM.r hP 64 2334 rfl) ?_
            refine x_li (z := g) T_382_87 rfl ?_
            refine x_alI (z := np) T_382_89 (by decide) (PM.ta hP 2334 0 8 rfl rfl) (by omega) (by omega) (Eq.trans (PM.aP hP 2334 rfl rfl (by omega)) hnp1) ?_
            refine x_ic2 T_382_90 (fun h => absurd (show np ≤ 0 from h) (by omega)) (fun _ => ?_)
            refine x_li (z := how) T_382_93 rfl ?_
            refine x_ic T_382_94 ?_
            refine x_ic2 T_382_96 (fun _ => ?_) (fun h => absurd (show ¬ how = 99 by omega) h)
            exact hgo _
      have h41 : WP fb (d + 13) 382 41 [some (vR (some 2281)), some (vI p), some (vI how), none, none, none, none, none, none] [] σ (KC (T + 204) U σ0 S l R.1 R.2.1 R.2.2) := by
        refine x_lr (z := some 2281) T_382_41 rfl ?_
        refine x_cv1 T_382_42 mN_383 mL_383 (Nat.le_of_ble_eq_true rfl) mO_383 (PM.t hP) (Nat.le_of_ble_eq_true rfl) (hfp) ?_
        rintro _ σ ⟨rfl, rfl⟩
        refine cI ?_
        refine x_si (ls1 := [some (vR (some 2281)), some (vI p), some (vI how), some (vI q), none, none, none, none, none]) T_382_45 rfl ?_
        refine x_li (z := q) T_382_46 rfl ?_
        refine x_if T_382_47 (fun _ => ?_) (fun h => absurd (show 0 ≤ q by omega) h)
        refine x_lr (z := some 2281) T_382_53 rfl ?_
        refine x_ic T_382_54 ?_
        refine x_lr (z := some 2281) T_382_55 rfl ?_
        refine x_gR (z := some 2324) T_382_56 F_17_54 (PM.t hP) (PM.r hP 54 2324 rfl) ?_
        refine x_li (z := p) T_382_59 rfl ?_
        refine x_alI (z := rt) T_382_60 (by decide) (PM.ta hP 2324 0 8 rfl rfl) (by omega) (by omega) (Eq.trans (PM.aP hP 2324 rfl rfl (by omega)) hrt) ?_
        refine x_ic T_382_61 ?_
        refine x_ic T_382_62 ?_
        refine x_cv5 T_382_65 mN_333 mL_333 (Nat.le_of_ble_eq_true rfl) mO_333 (PM.t hP) (Nat.le_of_ble_eq_true rfl) (hcp σ hP) ?_
        clear hP hcp
        intro r σ hr
        obtain ⟨S2, rfl, hP, hK2, hX2⟩ := hcK _ _ hr
        refine cI ?_
        refine x_si (ls1 := [some (vR (some 2281)), some (vI p), some (vI how), some (vI q), some (vI e), none, none, none, none]) T_382_68 rfl ?_
        refine x_lr (z := some 2281) T_382_70 rfl ?_
        refine x_gR (z := some 2323) T_382_71 F_17_53 (PM.t hP) (PM.r hP 53 2323 rfl) ?_
        refine x_li (z := p) T_382_74 rfl ?_
        refine x_alI (z := g) T_382_75 (by decide) (PM.ta hP 2323 0 8 rfl rfl) (by omega) (by omega) (Eq.trans (PM.aP hP 2323 rfl rfl (by omega)) hg1) ?_
        refine x_si (ls1 := [some (vR (some 2281)), some (vI p), some (vI how), some (vI q), some (vI e), some (vI g), none, none, none]) T_382_76 rfl ?_
        refine x_ic T_382_78 ?_
        refine x_si (ls1 := [some (vR (some 2281)), some (vI p), some (vI how), some (vI q), some (vI e), some (vI g), some (vI 0), none, none]) T_382_79 rfl ?_
        exact h81 σ S2 hP hK2 hX2
      by_cases q5 : how = 115
      · skip
        refine x_li (z := how) T_382_20 rfl ?_
        refine x_ic T_382_21 ?_
        refine x_ic2 T_382_23 (fun _ => ?_) (fun h => absurd (show how = 115 by omega) h)
        exact h41
      · by_cases q6 : how = 99
        · skip
          refine x_li (z := how) T_382_20 rfl ?_
          refine x_ic T_382_21 ?_
          refine x_ic2 T_382_23 (fun h => absurd (show how = 115 from h) (by omega)) (fun _ => ?_)
          refine x_li (z := how) T_382_26 rfl ?_
          refine x_ic T_382_27 ?_
          refine x_ic2 T_382_29 (fun _ => ?_) (fun h => absurd (show how = 99 by omega) h)
          exact h41
        · skip
          refine x_li (z := how) T_382_20 rfl ?_
          refine x_ic T_382_21 ?_
          refine x_ic2 T_382_23 (fun h => absurd (show how = 115 from h) (by omega)) (fun _ => ?_)
          refine x_li (z := how) T_382_26 rfl ?_
          refine x_ic T_382_27 ?_
          refine x_ic2 T_382_29 (fun h => absurd (show how = 99 from h) (by omega)) (fun _ => ?_)
          refine x_li (z := how) T_382_32 rfl ?_
          refine x_ic T_382_33 ?_
          refine x_ic2 T_382_35 (fun _ => ?_) (fun h => absurd (show how = 101 by omega) h)
          exact h41
    · rw [if_pos qh] at hR
      subst hR
      refine x_li (z := how) T_382_20 rfl ?_
      refine x_ic T_382_21 ?_
      refine x_ic2 T_382_23 (fun h => absurd (show how = 115 from h) (by omega)) (fun _ => ?_)
      refine x_li (z := how) T_382_26 rfl ?_
      refine x_ic T_382_27 ?_
      refine x_ic2 T_382_29 (fun h => absurd (show how = 99 from h) (by omega)) (fun _ => ?_)
      refine x_li (z := how) T_382_32 rfl ?_
      refine x_ic T_382_33 ?_
      refine x_ic2 T_382_35 (fun h => absurd (show how = 101 from h) (by omega)) (fun _ => ?_)
      refine x_ic T_382_38 ?_
      refine x_ri T_382_40 ?_
      exact ⟨S, rfl, hP, hK.mono (by omega), SX_rfl⟩
  unfold fkHow
  obtain ⟨n, hn⟩ : ∃ n : Int, ((lnB l 1).length : Int) = n := ⟨_, rfl⟩
  rw [hn] at hsz hsg ⊢
  refine CL_in mL_382 rfl ?_
  show WP fb _ 382 0 [some (vR (some 2281)), some (vI p), none, none, none, none, none, none, none] [] σ _
  by_cases q : n = 1
  · rw [if_pos q]
    have hgo := key (lg (lnB l 1) 0) _ rfl
    refine x_lr (z := some 2281) T_382_0 rfl ?_
    refine x_ic T_382_1 ?_
    refine x_cv2 T_382_2 mN_318 mL_318 (Nat.le_of_ble_eq_true rfl) mO_318 (PM.t hP) (Nat.le_of_ble_eq_true rfl) (hsz) ?_
    rintro _ σ ⟨rfl, rfl⟩
    refine cI ?_
    refine x_ic T_382_5 ?_
    refine x_ic2 T_382_6 (fun h => absurd (show ¬ n = 1 from h) (by omega)) (fun _ => ?_)
    refine x_lr (z := some 2281) T_382_9 rfl ?_
    refine x_ic T_382_10 ?_
    refine x_ic T_382_11 ?_
    refine x_cv3 T_382_12 mN_319 mL_319 (Nat.le_of_ble_eq_true rfl) mO_319 (PM.t hP) (Nat.le_of_ble_eq_true rfl) (hsg (by omega)) ?_
    rintro _ σ ⟨rfl, rfl⟩
    refine cI ?_
    refine x_goto T_382_15 ?_
    refine x_si (ls1 := [some (vR (some 2281)), some (vI p), some (vI (lg (lnB l 1) 0)), none, none, none, none, none, none]) T_382_19 rfl ?_
    exact hgo
  · rw [if_neg q]
    have hgo := key (-1) _ rfl
    refine x_lr (z := some 2281) T_382_0 rfl ?_
    refine x_ic T_382_1 ?_
    refine x_cv2 T_382_2 mN_318 mL_318 (Nat.le_of_ble_eq_true rfl) mO_318 (PM.t hP) (Nat.le_of_ble_eq_true rfl) (hsz) ?_
    rintro _ σ ⟨rfl, rfl⟩
    refine cI ?_
    refine x_ic T_382_5 ?_
    refine x_ic2 T_382_6 (fun _ => ?_) (fun h => absurd (show ¬ n = 1 by omega) h)
    refine x_ic T_382_18 ?_
    refine x_si (ls1 := [some (vR (some 2281)), some (vI p), some (vI (-1)), none, none, none, none, none, none]) T_382_19 rfl ?_
    exact hgo
end MFORK3
