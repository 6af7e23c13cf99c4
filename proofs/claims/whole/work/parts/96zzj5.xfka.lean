/-! The class's fork, whole. -/
theorem T_185_0 : hTab 185 0 = some ((3, 2, 2, []), 1) := rfl
theorem T_185_1 : hTab 185 1 = some ((0, 0, 1, []), 2) := rfl
theorem T_185_2 : hTab 185 2 = some ((34, 53, 0, []), 5) := rfl
theorem T_185_5 : hTab 185 5 = some ((31, 115, 0, []), 8) := rfl
theorem T_185_8 : hTab 185 8 = some ((4, 3, 0, []), 9) := rfl
theorem T_185_9 : hTab 185 9 = some ((3, 2, 2, []), 10) := rfl
theorem T_185_10 : hTab 185 10 = some ((0, 0, 1, []), 11) := rfl
theorem T_185_11 : hTab 185 11 = some ((34, 54, 0, []), 14) := rfl
theorem T_185_14 : hTab 185 14 = some ((31, 115, 0, []), 17) := rfl
theorem T_185_17 : hTab 185 17 = some ((4, 4, 0, []), 19) := rfl
theorem T_185_19 : hTab 185 19 = some ((3, 2, 2, []), 20) := rfl
theorem T_185_20 : hTab 185 20 = some ((24, 16, Int.ofNat 4, []), 23) := rfl
theorem T_185_23 : hTab 185 23 = some ((0, 0, 2, []), 24) := rfl
theorem T_185_24 : hTab 185 24 = some ((19, 1, Int.ofNat 47, []), 27) := rfl
theorem T_185_27 : hTab 185 27 = some ((3, 3, 0, []), 28) := rfl
theorem T_185_28 : hTab 185 28 = some ((18, 1, Int.ofNat 50, []), 31) := rfl
theorem T_185_31 : hTab 185 31 = some ((3, 4, 0, []), 33) := rfl
theorem T_185_33 : hTab 185 33 = some ((18, 1, Int.ofNat 50, []), 36) := rfl
theorem T_185_36 : hTab 185 36 = some ((3, 2, 2, []), 37) := rfl
theorem T_185_37 : hTab 185 37 = some ((0, 0, 1, []), 38) := rfl
theorem T_185_38 : hTab 185 38 = some ((34, 55, 0, []), 41) := rfl
theorem T_185_41 : hTab 185 41 = some ((31, 115, 0, []), 44) := rfl
theorem T_185_44 : hTab 185 44 = some ((18, 1, Int.ofNat 50, []), 47) := rfl
theorem T_185_47 : hTab 185 47 = some ((0, 0, 18, []), 49) := rfl
theorem T_185_49 : hTab 185 49 = some ((33, 1, 0, []), 50) := rfl
theorem T_185_50 : hTab 185 50 = some ((3, 0, 2, []), 51) := rfl
theorem T_185_51 : hTab 185 51 = some ((24, 14, Int.ofNat 0, []), 54) := rfl
theorem T_185_54 : hTab 185 54 = some ((31, 186, 0, []), 57) := rfl
theorem T_185_57 : hTab 185 57 = some ((4, 5, 2, []), 59) := rfl
theorem T_185_59 : hTab 185 59 = some ((3, 5, 2, []), 61) := rfl
theorem T_185_61 : hTab 185 61 = some ((20, 1, Int.ofNat 67, []), 64) := rfl
theorem T_185_64 : hTab 185 64 = some ((0, 0, 20, []), 66) := rfl
theorem T_185_66 : hTab 185 66 = some ((33, 1, 0, []), 67) := rfl
theorem T_185_67 : hTab 185 67 = some ((3, 0, 2, []), 68) := rfl
theorem T_185_68 : hTab 185 68 = some ((24, 14, Int.ofNat 0, []), 71) := rfl
theorem T_185_71 : hTab 185 71 = some ((0, 0, 0, []), 72) := rfl
theorem T_185_72 : hTab 185 72 = some ((31, 122, 0, []), 75) := rfl
theorem T_185_75 : hTab 185 75 = some ((4, 6, 2, []), 77) := rfl
theorem T_185_77 : hTab 185 77 = some ((3, 6, 2, []), 79) := rfl
theorem T_185_79 : hTab 185 79 = some ((0, 0, 0, []), 80) := rfl
theorem T_185_80 : hTab 185 80 = some ((3, 0, 2, []), 81) := rfl
theorem T_185_81 : hTab 185 81 = some ((24, 14, Int.ofNat 0, []), 84) := rfl
theorem T_185_84 : hTab 185 84 = some ((0, 0, 0, []), 85) := rfl
theorem T_185_85 : hTab 185 85 = some ((3, 1, 2, []), 86) := rfl
theorem T_185_86 : hTab 185 86 = some ((24, 6, Int.ofNat 8, []), 89) := rfl
theorem T_185_89 : hTab 185 89 = some ((0, 0, (-1), []), 90) := rfl
theorem T_185_90 : hTab 185 90 = some ((31, 123, 0, []), 93) := rfl
theorem T_185_93 : hTab 185 93 = some ((3, 0, 2, []), 94) := rfl
theorem T_185_94 : hTab 185 94 = some ((24, 14, Int.ofNat 0, []), 97) := rfl
theorem T_185_97 : hTab 185 97 = some ((24, 1, Int.ofNat 2, []), 100) := rfl
theorem T_185_100 : hTab 185 100 = some ((31, 26, 0, []), 103) := rfl
theorem T_185_103 : hTab 185 103 = some ((4, 7, 0, []), 105) := rfl
theorem T_185_105 : hTab 185 105 = some ((3, 7, 0, []), 107) := rfl
theorem T_185_107 : hTab 185 107 = some ((18, 0, Int.ofNat 113, []), 110) := rfl
theorem T_185_110 : hTab 185 110 = some ((3, 7, 0, []), 112) := rfl
theorem T_185_112 : hTab 185 112 = some ((33, 1, 0, []), 113) := rfl
theorem T_185_113 : hTab 185 113 = some ((3, 0, 2, []), 114) := rfl
theorem T_185_114 : hTab 185 114 = some ((24, 14, Int.ofNat 0, []), 117) := rfl
theorem T_185_117 : hTab 185 117 = some ((24, 1, Int.ofNat 5, []), 120) := rfl
theorem T_185_120 : hTab 185 120 = some ((4, 8, 0, []), 122) := rfl
theorem T_185_122 : hTab 185 122 = some ((3, 3, 0, []), 123) := rfl
theorem T_185_123 : hTab 185 123 = some ((18, 0, Int.ofNat 133, []), 126) := rfl
theorem T_185_126 : hTab 185 126 = some ((3, 1, 2, []), 127) := rfl
theorem T_185_127 : hTab 185 127 = some ((24, 6, Int.ofNat 9, []), 130) := rfl
theorem T_185_130 : hTab 185 130 = some ((22, 0, Int.ofNat 140, []), 133) := rfl
theorem T_185_133 : hTab 185 133 = some ((3, 0, 2, []), 134) := rfl
theorem T_185_134 : hTab 185 134 = some ((24, 14, Int.ofNat 0, []), 137) := rfl
theorem T_185_137 : hTab 185 137 = some ((31, 187, 0, []), 140) := rfl
theorem T_185_140 : hTab 185 140 = some ((4, 9, 2, []), 142) := rfl
theorem T_185_142 : hTab 185 142 = some ((3, 4, 0, []), 144) := rfl
theorem T_185_144 : hTab 185 144 = some ((18, 0, Int.ofNat 163, []), 147) := rfl
theorem T_185_147 : hTab 185 147 = some ((3, 0, 2, []), 148) := rfl
theorem T_185_148 : hTab 185 148 = some ((24, 14, Int.ofNat 0, []), 151) := rfl
theorem T_185_151 : hTab 185 151 = some ((3, 1, 2, []), 152) := rfl
theorem T_185_152 : hTab 185 152 = some ((24, 6, Int.ofNat 9, []), 155) := rfl
theorem T_185_155 : hTab 185 155 = some ((3, 9, 2, []), 157) := rfl
theorem T_185_157 : hTab 185 157 = some ((31, 188, 0, []), 160) := rfl
theorem T_185_160 : hTab 185 160 = some ((22, 0, Int.ofNat 164, []), 163) := rfl
theorem T_185_163 : hTab 185 163 = some ((0, 0, 0, []), 164) := rfl
theorem T_185_164 : hTab 185 164 = some ((4, 7, 0, []), 166) := rfl
theorem T_185_166 : hTab 185 166 = some ((3, 7, 0, []), 168) := rfl
theorem T_185_168 : hTab 185 168 = some ((18, 0, Int.ofNat 199, []), 171) := rfl
theorem T_185_171 : hTab 185 171 = some ((3, 6, 2, []), 173) := rfl
theorem T_185_173 : hTab 185 173 = some ((0, 0, 0, []), 174) := rfl
theorem T_185_174 : hTab 185 174 = some ((3, 0, 2, []), 175) := rfl
theorem T_185_175 : hTab 185 175 = some ((24, 14, Int.ofNat 0, []), 178) := rfl
theorem T_185_178 : hTab 185 178 = some ((0, 0, 120, []), 180) := rfl
theorem T_185_180 : hTab 185 180 = some ((3, 8, 0, []), 182) := rfl
theorem T_185_182 : hTab 185 182 = some ((31, 131, 0, []), 185) := rfl
theorem T_185_185 : hTab 185 185 = some ((3, 0, 2, []), 186) := rfl
theorem T_185_186 : hTab 185 186 = some ((24, 14, Int.ofNat 0, []), 189) := rfl
theorem T_185_189 : hTab 185 189 = some ((24, 1, Int.ofNat 2, []), 192) := rfl
theorem T_185_192 : hTab 185 192 = some ((31, 26, 0, []), 195) := rfl
theorem T_185_195 : hTab 185 195 = some ((7, 0, 0, []), 196) := rfl
theorem T_185_196 : hTab 185 196 = some ((3, 7, 0, []), 198) := rfl
theorem T_185_198 : hTab 185 198 = some ((33, 1, 0, []), 199) := rfl
section XFKA
variable {fb : Bool} {d b c n a0 a1 a : Nat} {σ0 σ : hM} {W W0 W1 W2 V P P0 Q A B X Y : qR} {R R0 R1 R2 V3 : rR} {i j k x y t z v s e w g u p q r pt o K T U N C to gg nf v3 v4 rt how : Int} {l l0 lo dl dq wd : List Int} {vl : Int → List Int} {kk : Nat} {sg : List (List Ch)} {h : List Ch}
/-- what is held, the root first -/
abbrev fkA (P : qR) (p how nf : Int) : Int × qR × List Ch := if how = 99 then fkP (P 2323 p) (P 2334 (P 2323 p)).toNat 0 P [(0, nf, 0, 128, -1)] else (0, P, [(0, nf, 0, 128, -1)])
theorem fk_122 (hP : PX σ0 W R σ) (hX : XW K T U W R P) (hT : T + 1200 ≤ 2147483000) (hp : 0 ≤ p ∧ p < 8) (hq : 0 ≤ q ∧ q < 8) (hlp : ¬ P 2320 p = 0) (hdq : P 2320 q = 0) (hnf : 0 ≤ nf ∧ nf ≤ 47) (hPG : P 2334 (qFg P) = 0) (hko : tX kk = some (Sum.inl 16)) (hw : (how = 115 ∧ v3 = 1 ∧ v4 = 0) ∨ (how = 99 ∧ v3 = 0 ∧ v4 = 1) ∨ (how = 101 ∧ v3 = 0 ∧ v4 = 0)) : WP fb (d + 10) 185 122 [some (vR (some 2175)), some (vR (some (prO p))), some (vR (some kk)), some (vI v3), some (vI v4), some (vR (some (prO q))), some (vR (some 1293)), some (vI 0), some (vI nf), none] [] σ (XCM σ0 K (T + 410) U W R (if 0 < (fkA P p how nf).1 then fkA P p how nf else (0, fkE (fkA P p how nf).2.1 p q how (fkA P p how nf).2.2, []))) := by
  have hI := hX.1.2.2.2.1.iv
  have hpq : p ≠ q := fun c => hlp (by rw [c]; exact hdq)
  have hpo := prO_o hp
  have hqo := prO_o hq
  have hrp := prO_rng hp
  have hso : tX 1293 = some (Sum.inl 7) := rfl
  have l3 := ((hX.1.2.2.1.1 p hp.1 hp.2).2.2.2 hlp).2.2.1
  have hgR : 0 ≤ P 2323 p ∧ P 2323 p ≤ 7 := IV.a hI 2323 0 8 rfl rfl rfl (by omega) (by omega)
  obtain ⟨g, hg⟩ : ∃ g, P 2323 p = g := ⟨_, rfl⟩
  rw [hg] at hgR l3
  have hg8 : 0 ≤ g ∧ g < 8 := ⟨hgR.1, by omega⟩
  have hgo3 := grO_o hg8
  obtain ⟨k1, k2, k3⟩ := qFg_ok (P := P) (p := q) hq hdq
  have hsg := x_spareGroup (fb := fb) (d := d + 9) hP hX.1.2.2.1 k2
  obtain ⟨to, hto⟩ : ∃ y, qFg P = y := ⟨_, rfl⟩
  rw [hto] at k1 k2 k3 hsg hPG
  have hto8 : 0 ≤ to ∧ to < 8 := ⟨k1, k2⟩
  have hgt3 := grO_o hto8
  have hrt := grO_rng hto8
  have hqn : qPn P to 8 0 = 0 := by have := qPn_pos (P := P) (g := to) 8 0; omega
  have hne : g ≠ to := fun c => by
    have := qPn_0 (P := P) (g := to) 8 0 k3 p hp.1 (by show p < 0 + ((8 : Nat) : Int); omega)
    exact this ⟨hlp, hg.trans c⟩
  have hX4 : XW K T U (rU W (grO to) 2097 0) R (rU P 2334 to 0) := hX.gr0 hto8 k3
  have hFg : ∀ (V : qR) (V3 : rR), FCM V (rU V (grO to) 2097 0) V3 V3 := fun V V3 => ⟨fun x k x0 x1 _ => if_neg (by omega), fun _ _ _ => rfl⟩
  have hus : ∀ x : qR, (∀ k, x 2322 k = P 2322 k) → x 2322 p = P 2322 p := fun x h => h p
  rcases hw with ⟨rfl, rfl, rfl⟩ | ⟨rfl, rfl, rfl⟩ | ⟨rfl, rfl, rfl⟩
  · -- shared
    have eA : fkA P p 115 nf = (0, P, [(0, nf, 0, 128, -1)]) := if_neg (by decide)
    rw [eA, if_neg (show ¬ (0 : Int) < 0 by decide)]
    have eE : fkE P p q 115 [(0, nf, 0, 128, -1)] = gTell (gTell (gFol (gBg P q (P 2322 p) g nf) p q) p (48 + q)) p 10 := by
      show gTell (gTell (gFol (gBg P q (P 2322 p) (fkG P p 115) nf) p q) p (48 + q)) p 10 = _
      rw [show fkG P p 115 = P 2323 p from if_pos rfl, hg]
    dsimp only
    rw [eE]
    have hgo := WP.mono (fk_199 (fb := fb) (d := d + 1) (so := 1293) (v3 := 1) (v4 := 0) hP hX hp hq hlp hdq hg8 rfl hnf hko hso) (fun r σ1 hr => XCM.base (T0 := T + 410) FCM_rfl (by omega) hr)
    obtain ⟨pq, hpqe⟩ : ∃ y, prO q = y := ⟨_, rfl⟩
    obtain ⟨pr, hpr⟩ : ∃ y, prO p = y := ⟨_, rfl⟩
    obtain ⟨ga, hga⟩ : ∃ y, grO g = y := ⟨_, rfl⟩
    rw [hpqe] at hqo
    rw [hpr] at hpo l3
    rw [hga] at hgo3 l3
    simp only [hpqe, hpr, hga] at hgo ⊢
    refine x_li (z := 1) T_185_122 rfl ?_
    refine x_if T_185_123 (fun h => absurd (show (1 : Int) = 0 from h) (by decide)) (fun _ => ?_)
    refine x_lr (z := some pr) T_185_126 rfl ?_
    refine x_gR (z := some ga) T_185_127 F_6_9 (hP.o hpo) (Eq.trans (hP.rm hpo rfl (key := 2201) rfl) l3) ?_
    refine x_goto T_185_130 ?_
    refine x_sr (ls1 := [some (vR (some 2175)), some (vR (some pr)), some (vR (some kk)), some (vI 1), some (vI 0), some (vR (some pq)), some (vR (some 1293)), some (vI 0), some (vI nf), some (vR (some ga))]) T_185_140 rfl ?_
    refine x_li (z := 0) T_185_142 rfl ?_
    refine x_if T_185_144 (fun _ => ?_) (fun h => absurd (show (0 : Int) = 0 by decide) h)
    refine x_ic T_185_163 ?_
    refine x_si (ls1 := [some (vR (some 2175)), some (vR (some pr)), some (vR (some kk)), some (vI 1), some (vI 0), some (vR (some pq)), some (vR (some 1293)), some (vI 0), some (vI nf), some (vR (some ga))]) T_185_164 rfl ?_
    refine x_li (z := 0) T_185_166 rfl ?_
    refine x_if T_185_168 (fun _ => ?_) (fun h => absurd (show (0 : Int) = 0 by decide) h)
    exact hgo
  · -- copied
    have eA : fkA P p 99 nf = fkP g (P 2334 g).toNat 0 P [(0, nf, 0, 128, -1)] := by
      rw [← hg]
      exact if_pos rfl
    rw [eA]
    have h0 : rU P 2334 to 0 = P := rU_same hPG
    rw [h0] at hX4
    have hgr4 := hX4.1.2.2.1.2.1 g hg8.1 hg8.2
    have hgt4 := hX4.1.2.2.1.2.1 to hto8.1 hto8.2
    have hD0 : CGD (rU W (grO to) 2097 0) R P g to [] := ⟨⟨rU_s, hgt4.2.1.trans hqn⟩, hgt4.2.2.1, hgt4.2.2.2.1, fun k k0 k1 => absurd k1 (by show ¬ k < ((0 : Nat) : Int); omega)⟩
    have hNL : ∀ p : Int, 0 ≤ p → p < 8 → ¬ P 2320 p = 0 → R (295 + 125 * p.toNat) 2201 ≠ some (grO to) := fun p2 p0 p1 hl c => by
      have h3 := ((hX.1.2.2.1.1 p2 p0 p1).2.2.2 hl).2.2.1
      have h4 := Option.some.inj (h3.symm.trans c)
      have h5 : 0 ≤ P 2323 p2 ∧ P 2323 p2 ≤ 7 := IV.a hI 2323 0 8 rfl rfl rfl (by omega) (by omega)
      have h6 : P 2323 p2 = to := by unfold grO at h4; omega
      exact qPn_0 (P := P) (g := to) 8 0 k3 p2 p0 (by show p2 < 0 + ((8 : Nat) : Int); omega) ⟨hl, h6⟩
    have hcg := fun (σ : hM) (hP : PX σ0 (rU W (grO to) 2097 0) R σ) => x_copyGroup (fb := fb) (d := d) (h0 := [(0, nf, 0, 128, -1)]) hP hX4.mid (by omega) hg8 hto8 hne hgr4 hNL hD0
    have hkf := fkP_kf (g := g) (P 2334 g).toNat 0 P [(0, nf, 0, 128, -1)]
    obtain ⟨-, -, -, hr0⟩ := fkP_app (g := g) (mm := fun y => P 2337 (8 * g + y)) (fun i i0 i1 => (IV.a hI 2337 0 64 rfl rfl rfl (by omega) (by omega)).1) (P 2334 g).toNat 0 P [(0, nf, 0, 128, -1)] (by decide) (by have hpb : 0 ≤ P 2334 g ∧ P 2334 g ≤ 8 := IV.a hI 2334 0 8 rfl rfl rfl (by omega) (by omega); omega) (fun y _ _ => rfl)
    obtain ⟨A, hA⟩ : ∃ A, fkP g (P 2334 g).toNat 0 P [(0, nf, 0, 128, -1)] = A := ⟨_, rfl⟩
    rw [hA] at hkf hr0 ⊢
    simp only [hA] at hcg
    obtain ⟨e2, Q5, hh⟩ := A
    dsimp only at hkf hr0 hcg ⊢
    by_cases qe : e2 = 0
    · subst qe
      rw [if_neg (show ¬ (0 : Int) < 0 by decide)]
      have hgo := fun (σ : hM) (W5 : qR) (R5 : rR) (sg : List (List Ch)) (hE : hh = [(0, nf, 0, 128, -1)] ++ sg.flatten) (hP : PX σ0 W5 R5 σ) (hF : FCY (grO to) 66 (rU W (grO to) 2097 0) W5 R R5) (hM : XM K (T + 192) U W5 R5 Q5) (hD : CGD W5 R5 P g to sg) (hl : (sg.length : Int) = P 2334 g) (hS : SGK P g sg) => (show WP fb (d + 10) 185 199 [some (vR (some 2175)), some (vR (some (prO p))), some (vR (some kk)), some (vI 0), some (vI 1), some (vR (some (prO q))), some (vR (some 1293)), some (vI 0), some (vI nf), some (vR (some (grO to)))] [] σ (XCM σ0 K (T + 410) U W R (0, fkE Q5 p q 99 hh, [])) from by
        have hXY := fk_cpg (nf := nf) (hm := []) hX4 hg8 hto8 hne hqn hkf (by omega) hM hF hD hl hS hnf
        rw [← hE] at hXY
        have hns := fun (f : Nat) (k : Int) (hf : nsR.elem f = true) => nsR_kf hkf f k hf
        have hYf : ∀ (f : Nat) (k : Int), nsR.elem f = true → (2334 :: ptR).elem f = false → gCpG (hfL hh) Q5 g to f k = P f k := fun f k h1 h2 => (gCpG_rf f k h2).trans (hns f k h1)
        have e199 := fk_199 (fb := fb) (d := d + 1) (u := P 2322 p) (so := 1293) (v3 := 0) (v4 := 1) hP hXY hp hq (by rw [hYf _ _ rfl rfl]; exact hlp) (by rw [hYf _ _ rfl rfl]; exact hdq) hto8 (hYf _ _ rfl rfl) hnf hko hso
        have eE : fkE Q5 p q 99 hh = gTell (gTell (gFol (gBg (gCpG (hfL hh) Q5 g to) q (P 2322 p) to nf) p q) p (48 + q)) p 10 := by
          have e1 : fkC Q5 p q 99 hh = gCpG (hfL hh) (gBg (rU Q5 2334 (qFg Q5) 0) q (Q5 2322 p) (qFg Q5) (hfL hh 0)) (Q5 2323 p) (qFg Q5) := rfl
          have e2 : qFg Q5 = to := (qFg_kf hkf).trans hto
          have e3 : hfL hh 0 = nf := by rw [hE]; rfl
          unfold fkE
          rw [e1, e2, e3, hns 2322 _ rfl, hns 2323 _ rfl, hg, gCpG_gBg, gCpG_pt0 hne]
        rw [eE]
        exact WP.mono e199 (fun r σ1 hr => XCM.base (T0 := T + 410) (FCM_tr (hFg W R) (FCY_fcm hF (by omega))) (by omega) hr))
      obtain ⟨pq, hpqe⟩ : ∃ y, prO q = y := ⟨_, rfl⟩
      obtain ⟨pr, hpr⟩ : ∃ y, prO p = y := ⟨_, rfl⟩
      obtain ⟨ga, hga⟩ : ∃ y, grO g = y := ⟨_, rfl⟩
      obtain ⟨gt, hgt⟩ : ∃ y, grO to = y := ⟨_, rfl⟩
      rw [hpqe] at hqo
      rw [hpr] at hpo l3
      rw [hga] at hgo3 l3
      rw [hgt] at hgt3 hsg
      simp only [hga, hgt] at hcg
      simp only [hpqe, hpr, hgt] at hgo ⊢
      refine x_li (z := 0) T_185_122 rfl ?_
      refine x_if T_185_123 (fun _ => ?_) (fun h => absurd (show (0 : Int) = 0 by decide) h)
      refine x_lr (z := some 2175) T_185_133 rfl ?_
      refine x_gR (z := some 129) T_185_134 F_14_0 (hP.o xo_2175) (hP.rc xo_2175 rfl rfl) ?_
      refine x_cv1 T_185_137 mN_187 mL_187 (Nat.le_of_ble_eq_true rfl) mO_187 (hP.o xo_129) (Nat.le_of_ble_eq_true rfl) (hsg) ?_
      clear hP hsg
      rintro _ σ ⟨rfl, hP⟩
      refine cR ?_
      refine x_sr (ls1 := [some (vR (some 2175)), some (vR (some pr)), some (vR (some kk)), some (vI 0), some (vI 1), some (vR (some pq)), some (vR (some 1293)), some (vI 0), some (vI nf), some (vR (some gt))]) T_185_140 rfl ?_
      refine x_li (z := 1) T_185_142 rfl ?_
      refine x_if T_185_144 (fun h => absurd (show (1 : Int) = 0 from h) (by decide)) (fun _ => ?_)
      refine x_lr (z := some 2175) T_185_147 rfl ?_
      refine x_gR (z := some 129) T_185_148 F_14_0 (hP.o xo_2175) (hP.rc xo_2175 rfl rfl) ?_
      refine x_lr (z := some pr) T_185_151 rfl ?_
      refine x_gR (z := some ga) T_185_152 F_6_9 (hP.o hpo) (Eq.trans (hP.rm hpo rfl (key := 2201) rfl) l3) ?_
      refine x_lr (z := some gt) T_185_155 rfl ?_
      refine x_cv3 T_185_157 mN_188 mL_188 (Nat.le_of_ble_eq_true rfl) mO_188 (hP.o xo_129) (Nat.le_of_ble_eq_true rfl) (hcg σ hP) ?_
      clear hP hcg
      rintro _ σ ⟨rfl, W5, R5, sg, hP, hE, hF5, h5, -⟩
      obtain ⟨h5, h6, h7, h8⟩ := h5 (by trivial)
      refine cI ?_
      refine x_goto T_185_160 ?_
      refine x_si (ls1 := [some (vR (some 2175)), some (vR (some pr)), some (vR (some kk)), some (vI 0), some (vI 1), some (vR (some pq)), some (vR (some 1293)), some (vI 0), some (vI nf), some (vR (some gt))]) T_185_164 rfl ?_
      refine x_li (z := 0) T_185_166 rfl ?_
      refine x_if T_185_168 (fun _ => ?_) (fun h => absurd (show (0 : Int) = 0 by decide) h)
      exact hgo σ W5 R5 sg hE hP hF5 h5 h6 h7 h8
    · rw [if_pos (show 0 < e2 by omega)]
      have hso2 : (0 : Int) ≤ 0 ∧ (0 : Int) < 3 := by decide
      obtain ⟨m1, m2, m3, m4⟩ := mOne_ok (t := 120) (f := nf) (Or.inl rfl)
      have hab := fun (σ : hM) (V : qR) (V3 : rR) (hP : PX σ0 V V3 σ) => x_about (fb := fb) (d := d + 6) (t := 120) (f := nf) hP (by decide) ⟨by omega, by omega⟩
      have hxw := fun (W5 : qR) (R5 : rR) (sg : List (List Ch)) (hF : FCY (grO to) 66 (rU W (grO to) 2097 0) W5 R R5) (hM : XM K (T + 400) U W5 R5 (kDrops Q5 sg.flatten)) (hD : CGD W5 R5 P g to []) => fk_non hX4 hto8 hqn hPG (KF_tr (KF_drops sg.flatten Q5) hkf) (by omega) hM hF hD
      have hak := fun (σ : hM) (V V5 : qR) (V3 : rR) (sg : List (List Ch)) (hX5 : XW K (T + 400) U V V3 (kDrops Q5 sg.flatten)) (hP : PX σ0 V5 V3 σ) (hF : FR1 V V5) (hB : BY V5 138 300 (mFr (mOne 120 nf))) => x_askM (fb := fb) (d := d + 2) (s := 0) hP (hX5.fr1 hF) (by omega) (by decide) hB m1 m2 m3 m4
      have e0 : 1293 + 294 * (0 : Int).toNat = 1293 := rfl
      simp only [e0] at hak
      have hfcm : ∀ (W5 : qR) (R5 : rR), FCY (grO to) 66 (rU W (grO to) 2097 0) W5 R R5 → FCM W W5 R R5 := fun W5 R5 hF => FCM_tr (hFg W R) (FCY_fcm hF (by omega))
      obtain ⟨pq, hpqe⟩ : ∃ y, prO q = y := ⟨_, rfl⟩
      obtain ⟨pr, hpr⟩ : ∃ y, prO p = y := ⟨_, rfl⟩
      obtain ⟨ga, hga⟩ : ∃ y, grO g = y := ⟨_, rfl⟩
      obtain ⟨gt, hgt⟩ : ∃ y, grO to = y := ⟨_, rfl⟩
      rw [hpqe] at hqo
      rw [hpr] at hpo l3
      rw [hga] at hgo3 l3
      rw [hgt] at hgt3 hsg
      simp only [hga, hgt] at hcg hxw hfcm
      simp only [hpqe, hpr]
      refine x_li (z := 0) T_185_122 rfl ?_
      refine x_if T_185_123 (fun _ => ?_) (fun h => absurd (show (0 : Int) = 0 by decide) h)
      refine x_lr (z := some 2175) T_185_133 rfl ?_
      refine x_gR (z := some 129) T_185_134 F_14_0 (hP.o xo_2175) (hP.rc xo_2175 rfl rfl) ?_
      refine x_cv1 T_185_137 mN_187 mL_187 (Nat.le_of_ble_eq_true rfl) mO_187 (hP.o xo_129) (Nat.le_of_ble_eq_true rfl) (hsg) ?_
      clear hP hsg
      rintro _ σ ⟨rfl, hP⟩
      refine cR ?_
      refine x_sr (ls1 := [some (vR (some 2175)), some (vR (some pr)), some (vR (some kk)), some (vI 0), some (vI 1), some (vR (some pq)), some (vR (some 1293)), some (vI 0), some (vI nf), some (vR (some gt))]) T_185_140 rfl ?_
      refine x_li (z := 1) T_185_142 rfl ?_
      refine x_if T_185_144 (fun h => absurd (show (1 : Int) = 0 from h) (by decide)) (fun _ => ?_)
      refine x_lr (z := some 2175) T_185_147 rfl ?_
      refine x_gR (z := some 129) T_185_148 F_14_0 (hP.o xo_2175) (hP.rc xo_2175 rfl rfl) ?_
      refine x_lr (z := some pr) T_185_151 rfl ?_
      refine x_gR (z := some ga) T_185_152 F_6_9 (hP.o hpo) (Eq.trans (hP.rm hpo rfl (key := 2201) rfl) l3) ?_
      refine x_lr (z := some gt) T_185_155 rfl ?_
      refine x_cv3 T_185_157 mN_188 mL_188 (Nat.le_of_ble_eq_true rfl) mO_188 (hP.o xo_129) (Nat.le_of_ble_eq_true rfl) (hcg σ hP) ?_
      clear hP hcg
      rintro _ σ ⟨rfl, W5, R5, sg, hP, hE, hF5, -, h5⟩
      obtain ⟨h5, h6⟩ := h5 qe
      have hX5 := hxw W5 R5 sg hF5 h5 h6
      have hab := hab σ W5 R5 hP
      refine cI ?_
      refine x_goto T_185_160 ?_
      refine x_si (ls1 := [some (vR (some 2175)), some (vR (some pr)), some (vR (some kk)), some (vI 0), some (vI 1), some (vR (some pq)), some (vR (some 1293)), some (vI e2), some (vI nf), some (vR (some gt))]) T_185_164 rfl ?_
      refine x_li (z := e2) T_185_166 rfl ?_
      refine x_if T_185_168 (fun h => absurd (show e2 = 0 from h) (by omega)) (fun _ => ?_)
      refine x_lr (z := some 1293) T_185_171 rfl ?_
      refine x_ic T_185_173 ?_
      refine x_lr (z := some 2175) T_185_174 rfl ?_
      refine x_gR (z := some 129) T_185_175 F_14_0 (hP.o xo_2175) (hP.rc xo_2175 rfl rfl) ?_
      refine x_ic T_185_178 ?_
      refine x_li (z := nf) T_185_180 rfl ?_
      refine x_cv3 T_185_182 mN_131 mL_131 (Nat.le_of_ble_eq_true rfl) mO_131 (hP.o xo_129) (Nat.le_of_ble_eq_true rfl) (hab) ?_
      clear hP hab
      rintro _ σ ⟨rfl, W6, hP, hB6, hF6⟩
      have hak := hak σ W5 W6 R5 sg hX5 hP hF6 hB6
      obtain ⟨e9, he9⟩ : ∃ q, tE (kDrops Q5 sg.flatten) 0 (mOne 120 nf) = q := ⟨_, rfl⟩
      rw [he9] at hak
      refine cR ?_
      refine x_lr (z := some 2175) T_185_185 rfl ?_
      refine x_gR (z := some 129) T_185_186 F_14_0 (hP.o xo_2175) (hP.rc xo_2175 rfl rfl) ?_
      refine x_gR (z := some 134) T_185_189 F_1_2 (hP.o xo_129) (hP.rc xo_129 rfl rfl) ?_
      refine x_cv4 T_185_192 mN_26 mL_26 (Nat.le_of_ble_eq_true rfl) mO_26 (hP.o hso) (Nat.le_of_ble_eq_true rfl) (hak) ?_
      clear hP hak
      rintro _ σ ⟨rfl, W7, R7, hP, hX7, hB7, hF7⟩
      have e7 : kDrops Q5 hh = tP (kDrops Q5 sg.flatten) 0 (mOne 120 nf) := by rw [hE]; rfl
      rw [← e7] at hX7
      refine cI ?_
      refine x_popI T_185_195 ?_
      refine x_li (z := e2) T_185_196 rfl ?_
      refine x_ri T_185_198 ?_
      exact ⟨rfl, W7, R7, hP, XW.mono hX7 (by omega), FCM_tr (hfcm _ _ hF5) (FCM_tr (FCM_fr hF6) (FCM_fs hF7))⟩
  · -- empty
    have eA : fkA P p 101 nf = (0, P, [(0, nf, 0, 128, -1)]) := if_neg (by decide)
    rw [eA, if_neg (show ¬ (0 : Int) < 0 by decide)]
    have eE : fkE P p q 101 [(0, nf, 0, 128, -1)] = gTell (gTell (gFol (gBg (rU P 2334 to 0) q (P 2322 p) to nf) p q) p (48 + q)) p 10 := by
      show gTell (gTell (gFol (gBg (rU P 2334 (qFg P) 0) q (P 2322 p) (fkG P p 101) nf) p q) p (48 + q)) p 10 = _
      rw [show fkG P p 101 = qFg P from if_neg (by decide), hto]
    dsimp only
    rw [eE]
    have hgo := fun (σ : hM) (hP : PX σ0 (rU W (grO to) 2097 0) R σ) => WP.mono (fk_199 (fb := fb) (d := d + 1) (u := P 2322 p) (so := 1293) (v3 := 0) (v4 := 0) hP hX4 hp hq (by rw [rU_f (by decide)]; exact hlp) (by rw [rU_f (by decide)]; exact hdq) hto8 (rU_f (by decide)) hnf hko hso) (fun r σ1 hr => XCM.base (T0 := T + 410) (hFg W R) (by omega) hr)
    obtain ⟨pq, hpqe⟩ : ∃ y, prO q = y := ⟨_, rfl⟩
    obtain ⟨pr, hpr⟩ : ∃ y, prO p = y := ⟨_, rfl⟩
    obtain ⟨gt, hgt⟩ : ∃ y, grO to = y := ⟨_, rfl⟩
    rw [hpqe] at hqo
    rw [hpr] at hpo
    rw [hgt] at hgt3 hsg
    simp only [hpqe, hpr, hgt] at hgo ⊢
    refine x_li (z := 0) T_185_122 rfl ?_
    refine x_if T_185_123 (fun _ => ?_) (fun h => absurd (show (0 : Int) = 0 by decide) h)
    refine x_lr (z := some 2175) T_185_133 rfl ?_
    refine x_gR (z := some 129) T_185_134 F_14_0 (hP.o xo_2175) (hP.rc xo_2175 rfl rfl) ?_
    refine x_cv1 T_185_137 mN_187 mL_187 (Nat.le_of_ble_eq_true rfl) mO_187 (hP.o xo_129) (Nat.le_of_ble_eq_true rfl) (hsg) ?_
    clear hP hsg
    rintro _ σ ⟨rfl, hP⟩
    refine cR ?_
    refine x_sr (ls1 := [some (vR (some 2175)), some (vR (some pr)), some (vR (some kk)), some (vI 0), some (vI 0), some (vR (some pq)), some (vR (some 1293)), some (vI 0), some (vI nf), some (vR (some gt))]) T_185_140 rfl ?_
    refine x_li (z := 0) T_185_142 rfl ?_
    refine x_if T_185_144 (fun _ => ?_) (fun h => absurd (show (0 : Int) = 0 by decide) h)
    refine x_ic T_185_163 ?_
    refine x_si (ls1 := [some (vR (some 2175)), some (vR (some pr)), some (vR (some kk)), some (vI 0), some (vI 0), some (vR (some pq)), some (vR (some 1293)), some (vI 0), some (vI nf), some (vR (some gt))]) T_185_164 rfl ?_
    refine x_li (z := 0) T_185_166 rfl ?_
    refine x_if T_185_168 (fun _ => ?_) (fun h => absurd (show (0 : Int) = 0 by decide) h)
    exact hgo σ hP
theorem fk_50 (hP : PX σ0 W R σ) (hX : XW K T U W R P) (hT : T + 1300 ≤ 2147483000) (hp : 0 ≤ p ∧ p < 8) (hlp : ¬ P 2320 p = 0) (hPG : P 2334 (qFg P) = 0) (hko : tX kk = some (Sum.inl 16)) (hw : (how = 115 ∧ v3 = 1 ∧ v4 = 0) ∨ (how = 99 ∧ v3 = 0 ∧ v4 = 1) ∨ (how = 101 ∧ v3 = 0 ∧ v4 = 0)) : WP fb (d + 10) 185 50 [some (vR (some 2175)), some (vR (some (prO p))), some (vR (some kk)), some (vI v3), some (vI v4), none, none, none, none, none] [] σ (XCM σ0 K (T + 420) U W R (if qFp P < 0 then (20, P, []) else if 0 < (fkK P p how).1 then fkK P p how else (0, fkE (fkK P p how).2.1 p (qFp P) how (fkK P p how).2.2, []))) := by
  have hI := hX.1.2.2.2.1.iv
  have hpo := prO_o hp
  have hrp := prO_rng hp
  have hso : tX 1293 = some (Sum.inl 7) := rfl
  have hsp := x_spareProcess (fb := fb) (d := d + 9) hP hX.1.2.2.1
  have hqr := qFp_rng (P := P)
  obtain ⟨q, hq⟩ : ∃ q, qFp P = q := ⟨_, rfl⟩
  rw [hq] at hsp hqr ⊢
  by_cases q0 : q < 0
  · rw [if_pos q0] at hsp ⊢
    obtain ⟨pr, hpr⟩ : ∃ y, prO p = y := ⟨_, rfl⟩
    rw [hpr] at hpo ⊢
    refine x_lr (z := some 2175) T_185_50 rfl ?_
    refine x_gR (z := some 129) T_185_51 F_14_0 (hP.o xo_2175) (hP.rc xo_2175 rfl rfl) ?_
    refine x_cv1 T_185_54 mN_186 mL_186 (Nat.le_of_ble_eq_true rfl) mO_186 (hP.o xo_129) (Nat.le_of_ble_eq_true rfl) (hsp) ?_
    rintro _ σ ⟨rfl, rfl⟩
    refine cR ?_
    refine x_sr (ls1 := [some (vR (some 2175)), some (vR (some pr)), some (vR (some kk)), some (vI v3), some (vI v4), some (vR none), none, none, none, none]) T_185_57 rfl ?_
    refine x_lr (z := none) T_185_59 rfl ?_
    refine x_nnul T_185_61 (fun a0 h0 => absurd h0 (by simp)) (fun _ => ?_)
    refine x_ic T_185_64 ?_
    refine x_ri T_185_66 ?_
    exact ⟨rfl, W, R, hP, XW.mono hX (by omega), FCM_rfl⟩
  rw [if_neg q0] at hsp ⊢
  obtain ⟨hq0, hq8, hqd⟩ : 0 ≤ q ∧ q < 8 ∧ P 2320 q = 0 := by
    rcases hqr with c | c
    · omega
    · exact c
  have hqo := prO_o (p := q) ⟨hq0, hq8⟩
  have l2 := ((hX.1.2.2.1.1 p hp.1 hp.2).2.2.2 hlp).2.1
  have hrr : 0 ≤ P 2324 p ∧ P 2324 p ≤ 47 := IV.a hI 2324 0 8 rfl rfl rfl (by omega) (by omega)
  obtain ⟨rt, hrt⟩ : ∃ rt, P 2324 p = rt := ⟨_, rfl⟩
  rw [hrt] at l2 hrr
  obtain ⟨ord, tt, hXs⟩ := hX.1.1.1 0 (by decide) (by decide)
  have hho := x_host (fb := fb) (d := d + 9) (s := 0) hP (by decide)
  have hwk := x_walking0 (fb := fb) (d := d + 6) hP ⟨by decide, rfl⟩ hXs hI hrr
  obtain ⟨nf, hg⟩ : ∃ q, qNewF P 0 = q := ⟨_, rfl⟩
  have hgr2 : nf = -1 ∨ (0 ≤ nf ∧ nf ≤ 47) := by rw [← hg]; exact qNewF_rng
  have eE : kCpE P 0 rt = if nf < 0 then 12 else tE P 0 (mCopy rt nf) := by unfold kCpE; rw [hg]
  have eP : kCpP P 0 rt = if nf < 0 then P else tP P 0 (mCopy rt nf) := by unfold kCpP; rw [hg]
  rw [hg] at hwk
  have hak := fun (σ : hM) (W2 : qR) (hP : PX σ0 W2 R σ) (hF : FR1 W W2) (hB : BY W2 138 300 (mFr (mCopy rt nf))) => x_askN (fb := fb) (d := d + 2) (g := nf) (s := 0) hP (hX.fr1 hF) (by omega) (by decide) hB (by rw [mCopy_len]; decide) (by rw [mCopy_0]; decide) (fun q => ⟨fun c => by rw [mCopy_0] at c; exact absurd c (by decide), fun _ => by rw [mCopy_g ⟨by omega, by omega⟩]; omega⟩)
  rw [← eE, ← eP] at hak
  have e0 : 1293 + 294 * (0 : Int).toNat = 1293 := rfl
  simp only [e0] at hak hho
  have hE0 : kCpE P 0 rt = 0 → ¬ nf < 0 := fun q c => by rw [eE, if_pos c] at q; omega
  have hEr := (kCpE_rng (P := P) (s := 0) (f := rt)).1
  have hkf : KF (kCpP P 0 rt) P := KF_cp
  have eK : fkK P p how = if 0 < kCpE P 0 rt then (kCpE P 0 rt, kCpP P 0 rt, []) else fkA (kCpP P 0 rt) p how nf := by
    unfold fkK fkA
    rw [hrt, hg, nsR_kf hkf 2323 _ rfl, nsR_kf hkf 2334 _ rfl]
  obtain ⟨e, he⟩ : ∃ q, kCpE P 0 rt = q := ⟨_, rfl⟩
  obtain ⟨Q, hQ⟩ : ∃ q, kCpP P 0 rt = q := ⟨_, rfl⟩
  rw [he, hQ] at eK
  rw [he] at hak hE0 hEr
  rw [hQ] at hak hkf
  rw [eK]
  have hgp : ∀ V : qR, FR1 W V → V 129 2037 = nf → ∀ (V2 : qR) (V3 : rR), FVS 134 V V2 R V3 → V2 129 2037 = nf := fun V _ hg V2 V3 h => (h.1 _ _ (by decide) (Or.inl (by decide)) (by decide) (by decide) (by decide) (fun c => by unfold ioP at c; omega) (by decide) (by decide)).trans hg
  by_cases qe : e = 0
  · subst qe
    rw [if_neg (show ¬ (0 : Int) < 0 by decide)]
    have hnf := hE0 rfl
    have h122 := fun (σ : hM) (V : qR) (V3 : rR) (hP : PX σ0 V V3 σ) (hX3 : XW K (T + 4) U V V3 Q) (hF : FCM W V R V3) => WP.mono (fk_122 (fb := fb) (d := d) (q := q) (nf := nf) (how := how) (v3 := v3) (v4 := v4) (kk := kk) hP hX3 (by omega) hp ⟨hq0, hq8⟩ (XW.lv hkf hlp) ((nsR_kf hkf 2320 _ rfl).trans hqd) ⟨by omega, by omega⟩ (by rw [qFg_kf hkf, nsR_kf hkf 2334 _ rfl]; exact hPG) hko hw) (fun r σ1 hr => XCM.base (T0 := T + 420) hF (by omega) hr)
    obtain ⟨B, hB⟩ : ∃ B, (if 0 < (fkA Q p how nf).1 then fkA Q p how nf else (0, fkE (fkA Q p how nf).2.1 p q how (fkA Q p how nf).2.2, [])) = B := ⟨_, rfl⟩
    rw [hB]
    simp only [hB] at h122
    obtain ⟨pq, hpqe⟩ : ∃ y, prO q = y := ⟨_, rfl⟩
    obtain ⟨pr, hpr⟩ : ∃ y, prO p = y := ⟨_, rfl⟩
    rw [hpqe] at hqo hsp
    rw [hpr] at hpo l2
    simp only [hpqe, hpr] at h122 ⊢
    refine x_lr (z := some 2175) T_185_50 rfl ?_
    refine x_gR (z := some 129) T_185_51 F_14_0 (hP.o xo_2175) (hP.rc xo_2175 rfl rfl) ?_
    refine x_cv1 T_185_54 mN_186 mL_186 (Nat.le_of_ble_eq_true rfl) mO_186 (hP.o xo_129) (Nat.le_of_ble_eq_true rfl) (hsp) ?_
    rintro _ σ ⟨rfl, rfl⟩
    refine cR ?_
    refine x_sr (ls1 := [some (vR (some 2175)), some (vR (some pr)), some (vR (some kk)), some (vI v3), some (vI v4), some (vR (some pq)), none, none, none, none]) T_185_57 rfl ?_
    refine x_lr (z := some pq) T_185_59 rfl ?_
    refine x_nnul T_185_61 (fun _ _ => ?_) (fun h0 => absurd h0 (by simp))
    refine x_lr (z := some 2175) T_185_67 rfl ?_
    refine x_gR (z := some 129) T_185_68 F_14_0 (hP.o xo_2175) (hP.rc xo_2175 rfl rfl) ?_
    refine x_ic T_185_71 ?_
    refine x_cv2 T_185_72 mN_122 mL_122 (Nat.le_of_ble_eq_true rfl) mO_122 (hP.o xo_129) (Nat.le_of_ble_eq_true rfl) (hho) ?_
    rintro _ σ ⟨rfl, rfl⟩
    refine cR ?_
    refine x_sr (ls1 := [some (vR (some 2175)), some (vR (some pr)), some (vR (some kk)), some (vI v3), some (vI v4), some (vR (some pq)), some (vR (some 1293)), none, none, none]) T_185_75 rfl ?_
    refine x_lr (z := some 1293) T_185_77 rfl ?_
    refine x_ic T_185_79 ?_
    refine x_lr (z := some 2175) T_185_80 rfl ?_
    refine x_gR (z := some 129) T_185_81 F_14_0 (hP.o xo_2175) (hP.rc xo_2175 rfl rfl) ?_
    refine x_ic T_185_84 ?_
    refine x_lr (z := some pr) T_185_85 rfl ?_
    refine x_gI (z := rt) T_185_86 (Or.inl F_6_8) (hP.o hpo) (Eq.trans (hP.gi hpo (key := 2200) rfl) l2) ?_
    refine x_ic T_185_89 ?_
    refine x_cv4 T_185_90 mN_123 mL_123 (Nat.le_of_ble_eq_true rfl) mO_123 (hP.o xo_129) (Nat.le_of_ble_eq_true rfl) (hwk) ?_
    clear hP hwk
    rintro _ σ ⟨rfl, W2, hP, hB2, hF2, hg2⟩
    refine cR ?_
    refine x_lr (z := some 2175) T_185_93 rfl ?_
    refine x_gR (z := some 129) T_185_94 F_14_0 (hP.o xo_2175) (hP.rc xo_2175 rfl rfl) ?_
    refine x_gR (z := some 134) T_185_97 F_1_2 (hP.o xo_129) (hP.rc xo_129 rfl rfl) ?_
    refine x_cv4 T_185_100 mN_26 mL_26 (Nat.le_of_ble_eq_true rfl) mO_26 (hP.o hso) (Nat.le_of_ble_eq_true rfl) (hak σ W2 hP hF2 hB2) ?_
    clear hP hak
    rintro _ σ ⟨rfl, W3, R3, hP, hX3, hB3, hF3⟩
    have hg3 := hgp W2 hF2 hg2 W3 R3 hF3
    have hF4 := FCM_fa (FA_tr (FA_fr hF2) (FA_fs hF3))
    refine cI ?_
    refine x_si (ls1 := [some (vR (some 2175)), some (vR (some pr)), some (vR (some kk)), some (vI v3), some (vI v4), some (vR (some pq)), some (vR (some 1293)), some (vI 0), none, none]) T_185_103 rfl ?_
    refine x_li (z := 0) T_185_105 rfl ?_
    refine x_if T_185_107 (fun _ => ?_) (fun h => absurd (show (0 : Int) = 0 by decide) h)
    refine x_lr (z := some 2175) T_185_113 rfl ?_
    refine x_gR (z := some 129) T_185_114 F_14_0 (hP.o xo_2175) (hP.rc xo_2175 rfl rfl) ?_
    refine x_gI (z := nf) T_185_117 (Or.inl F_1_5) (hP.o xo_129) (Eq.trans (hP.gi xo_129 (key := 2037) rfl) hg3) ?_
    refine x_si (ls1 := [some (vR (some 2175)), some (vR (some pr)), some (vR (some kk)), some (vI v3), some (vI v4), some (vR (some pq)), some (vR (some 1293)), some (vI 0), some (vI nf), none]) T_185_120 rfl ?_
    exact h122 σ W3 R3 hP hX3 hF4
  · rw [if_pos (show 0 < e by omega)]
    dsimp only
    rw [if_pos (show 0 < e by omega)]
    obtain ⟨pq, hpqe⟩ : ∃ y, prO q = y := ⟨_, rfl⟩
    obtain ⟨pr, hpr⟩ : ∃ y, prO p = y := ⟨_, rfl⟩
    rw [hpqe] at hqo hsp
    rw [hpr] at hpo l2 ⊢
    refine x_lr (z := some 2175) T_185_50 rfl ?_
    refine x_gR (z := some 129) T_185_51 F_14_0 (hP.o xo_2175) (hP.rc xo_2175 rfl rfl) ?_
    refine x_cv1 T_185_54 mN_186 mL_186 (Nat.le_of_ble_eq_true rfl) mO_186 (hP.o xo_129) (Nat.le_of_ble_eq_true rfl) (hsp) ?_
    rintro _ σ ⟨rfl, rfl⟩
    refine cR ?_
    refine x_sr (ls1 := [some (vR (some 2175)), some (vR (some pr)), some (vR (some kk)), some (vI v3), some (vI v4), some (vR (some pq)), none, none, none, none]) T_185_57 rfl ?_
    refine x_lr (z := some pq) T_185_59 rfl ?_
    refine x_nnul T_185_61 (fun _ _ => ?_) (fun h0 => absurd h0 (by simp))
    refine x_lr (z := some 2175) T_185_67 rfl ?_
    refine x_gR (z := some 129) T_185_68 F_14_0 (hP.o xo_2175) (hP.rc xo_2175 rfl rfl) ?_
    refine x_ic T_185_71 ?_
    refine x_cv2 T_185_72 mN_122 mL_122 (Nat.le_of_ble_eq_true rfl) mO_122 (hP.o xo_129) (Nat.le_of_ble_eq_true rfl) (hho) ?_
    rintro _ σ ⟨rfl, rfl⟩
    refine cR ?_
    refine x_sr (ls1 := [some (vR (some 2175)), some (vR (some pr)), some (vR (some kk)), some (vI v3), some (vI v4), some (vR (some pq)), some (vR (some 1293)), none, none, none]) T_185_75 rfl ?_
    refine x_lr (z := some 1293) T_185_77 rfl ?_
    refine x_ic T_185_79 ?_
    refine x_lr (z := some 2175) T_185_80 rfl ?_
    refine x_gR (z := some 129) T_185_81 F_14_0 (hP.o xo_2175) (hP.rc xo_2175 rfl rfl) ?_
    refine x_ic T_185_84 ?_
    refine x_lr (z := some pr) T_185_85 rfl ?_
    refine x_gI (z := rt) T_185_86 (Or.inl F_6_8) (hP.o hpo) (Eq.trans (hP.gi hpo (key := 2200) rfl) l2) ?_
    refine x_ic T_185_89 ?_
    refine x_cv4 T_185_90 mN_123 mL_123 (Nat.le_of_ble_eq_true rfl) mO_123 (hP.o xo_129) (Nat.le_of_ble_eq_true rfl) (hwk) ?_
    clear hP hwk
    rintro _ σ ⟨rfl, W2, hP, hB2, hF2, hg2⟩
    refine cR ?_
    refine x_lr (z := some 2175) T_185_93 rfl ?_
    refine x_gR (z := some 129) T_185_94 F_14_0 (hP.o xo_2175) (hP.rc xo_2175 rfl rfl) ?_
    refine x_gR (z := some 134) T_185_97 F_1_2 (hP.o xo_129) (hP.rc xo_129 rfl rfl) ?_
    refine x_cv4 T_185_100 mN_26 mL_26 (Nat.le_of_ble_eq_true rfl) mO_26 (hP.o hso) (Nat.le_of_ble_eq_true rfl) (hak σ W2 hP hF2 hB2) ?_
    clear hP hak
    rintro _ σ ⟨rfl, W3, R3, hP, hX3, hB3, hF3⟩
    have hF4 := FCM_fa (FA_tr (FA_fr hF2) (FA_fs hF3))
    refine cI ?_
    refine x_si (ls1 := [some (vR (some 2175)), some (vR (some pr)), some (vR (some kk)), some (vI v3), some (vI v4), some (vR (some pq)), some (vR (some 1293)), some (vI e), none, none]) T_185_103 rfl ?_
    refine x_li (z := e) T_185_105 rfl ?_
    refine x_if T_185_107 (fun h => absurd (show e = 0 from h) (by omega)) (fun _ => ?_)
    refine x_li (z := e) T_185_110 rfl ?_
    refine x_ri T_185_112 ?_
    exact ⟨rfl, W3, R3, hP, XW.mono hX3 (by omega), hF4⟩
theorem fk_one (h : 0 ≤ x) : fkHow wd = x ↔ wd = [x] := by
  unfold fkHow
  match wd with
  | [] => simp; omega
  | [y] =>
    rw [if_pos (by rfl), show lg [y] 0 = y from rfl]
    constructor
    · intro e; rw [e]
    · intro e; exact List.head_eq_of_cons_eq e
  | y :: z :: r =>
    rw [if_neg (by simp only [List.length_cons]; omega)]
    constructor
    · intro e; omega
    · intro e; cases e
theorem x_fork (hP : PX σ0 W R σ) (hX : XW K T U W R P) (hT : T + 1300 ≤ 2147483000) (hp : 0 ≤ p ∧ p < 8) (hlp : ¬ P 2320 p = 0) (hPG : P 2334 (qFg P) = 0) (hC : CMD W kk l) (hN : ((lnW l).length : Int) = N) : CL fb (d + 10) 185 [vR (some 2175), vR (some (prO p)), vR (some kk)] σ (XCM σ0 K (T + 420) U W R (if N = 2 then cFork P p (lnB l 1) else (18, P, []))) := by
  have hpo := prO_o hp
  have hko := hC.1
  have h5 := hC.2.2.2.2.1.trans hN
  have t1 : txt 49 = [115] := by decide
  have t2 : txt 50 = [99] := by decide
  have t3 : txt 51 = [101] := by decide
  have i1 := x_isA (fb := fb) (d := d + 4) (j := 49) (w := 1) (by decide) (by rw [t1]; decide) hP hC (by decide)
  have i2 := x_isA (fb := fb) (d := d + 4) (j := 50) (w := 1) (by decide) (by rw [t2]; decide) hP hC (by decide)
  have i3 := x_isA (fb := fb) (d := d + 4) (j := 51) (w := 1) (by decide) (by rw [t3]; decide) hP hC (by decide)
  rw [t1] at i1
  rw [t2] at i2
  rw [t3] at i3
  obtain ⟨wd, hwd⟩ : ∃ wd, lnB l 1 = wd := ⟨_, rfl⟩
  rw [hwd] at i1 i2 i3 ⊢
  have w1 := fk_one (wd := wd) (x := 115) (by decide)
  have w2 := fk_one (wd := wd) (x := 99) (by decide)
  have w3 := fk_one (wd := wd) (x := 101) (by decide)
  have h50 := fun (v3 v4 : Int) => fk_50 (fb := fb) (d := d) (how := fkHow wd) (v3 := v3) (v4 := v4) hP hX hT hp hlp hPG hko
  unfold cFork
  obtain ⟨hw, hhw⟩ : ∃ hw, fkHow wd = hw := ⟨_, rfl⟩
  rw [hhw] at w1 w2 w3 ⊢
  simp only [hhw] at h50
  obtain ⟨B, hB⟩ : ∃ B, (if qFp P < 0 then ((20 : Int), P, ([] : List Ch)) else if 0 < (fkK P p hw).1 then fkK P p hw else (0, fkE (fkK P p hw).2.1 p (qFp P) hw (fkK P p hw).2.2, [])) = B := ⟨_, rfl⟩
  rw [hB]
  simp only [hB] at h50
  obtain ⟨pr, hpr⟩ : ∃ y, prO p = y := ⟨_, rfl⟩
  rw [hpr] at hpo
  simp only [hpr] at h50 ⊢
  by_cases q1 : wd = [115]
  · rw [if_pos q1] at i1
    have e1 := w1.mpr q1
    rw [if_neg (fun c => by rw [q1] at c; cases c)] at i2
    by_cases qN : N = 2
    · rw [if_pos qN, if_neg (fun c => c (Or.inl e1))]
      have hgo := h50 1 0 (Or.inl ⟨e1, rfl, rfl⟩)
      refine CL_in mL_185 rfl ?_
      show WP fb _ 185 0 [some (vR (some 2175)), some (vR (some pr)), some (vR (some kk)), none, none, none, none, none, none, none] [] σ _
      refine x_lr (z := some kk) T_185_0 rfl ?_
      refine x_ic T_185_1 ?_
      refine x_sta T_185_2 rfl ?_
      refine x_cv3 T_185_5 mN_115 mL_115 (Nat.le_of_ble_eq_true rfl) mO_115 (hP.o hko) (Nat.le_of_ble_eq_true rfl) (i1) ?_
      rintro _ σ ⟨rfl, rfl⟩
      refine cI ?_
      refine x_si (ls1 := [some (vR (some 2175)), some (vR (some pr)), some (vR (some kk)), some (vI 1), none, none, none, none, none, none]) T_185_8 rfl ?_
      refine x_lr (z := some kk) T_185_9 rfl ?_
      refine x_ic T_185_10 ?_
      refine x_sta T_185_11 rfl ?_
      refine x_cv3 T_185_14 mN_115 mL_115 (Nat.le_of_ble_eq_true rfl) mO_115 (hP.o hko) (Nat.le_of_ble_eq_true rfl) (i2) ?_
      rintro _ σ ⟨rfl, rfl⟩
      refine cI ?_
      refine x_si (ls1 := [some (vR (some 2175)), some (vR (some pr)), some (vR (some kk)), some (vI 1), some (vI 0), none, none, none, none, none]) T_185_17 rfl ?_
      refine x_lr (z := some kk) T_185_19 rfl ?_
      refine x_gI (z := N) T_185_20 (Or.inl F_16_4) (hP.o hko) (Eq.trans (hP.gi hko (key := 2516) rfl) h5) ?_
      refine x_ic T_185_23 ?_
      refine x_ic2 T_185_24 (fun h => absurd (show ¬ N = 2 from h) (by omega)) (fun _ => ?_)
      refine x_li (z := 1) T_185_27 rfl ?_
      refine x_if T_185_28 (fun _ => ?_) (fun h => absurd (show ¬ (1 : Int) = 0 by decide) h)
      exact hgo
    · rw [if_neg qN]
      refine CL_in mL_185 rfl ?_
      show WP fb _ 185 0 [some (vR (some 2175)), some (vR (some pr)), some (vR (some kk)), none, none, none, none, none, none, none] [] σ _
      refine x_lr (z := some kk) T_185_0 rfl ?_
      refine x_ic T_185_1 ?_
      refine x_sta T_185_2 rfl ?_
      refine x_cv3 T_185_5 mN_115 mL_115 (Nat.le_of_ble_eq_true rfl) mO_115 (hP.o hko) (Nat.le_of_ble_eq_true rfl) (i1) ?_
      rintro _ σ ⟨rfl, rfl⟩
      refine cI ?_
      refine x_si (ls1 := [some (vR (some 2175)), some (vR (some pr)), some (vR (some kk)), some (vI 1), none, none, none, none, none, none]) T_185_8 rfl ?_
      refine x_lr (z := some kk) T_185_9 rfl ?_
      refine x_ic T_185_10 ?_
      refine x_sta T_185_11 rfl ?_
      refine x_cv3 T_185_14 mN_115 mL_115 (Nat.le_of_ble_eq_true rfl) mO_115 (hP.o hko) (Nat.le_of_ble_eq_true rfl) (i2) ?_
      rintro _ σ ⟨rfl, rfl⟩
      refine cI ?_
      refine x_si (ls1 := [some (vR (some 2175)), some (vR (some pr)), some (vR (some kk)), some (vI 1), some (vI 0), none, none, none, none, none]) T_185_17 rfl ?_
      refine x_lr (z := some kk) T_185_19 rfl ?_
      refine x_gI (z := N) T_185_20 (Or.inl F_16_4) (hP.o hko) (Eq.trans (hP.gi hko (key := 2516) rfl) h5) ?_
      refine x_ic T_185_23 ?_
      refine x_ic2 T_185_24 (fun _ => ?_) (fun h => absurd (show ¬ N = 2 by omega) h)
      refine x_ic T_185_47 ?_
      refine x_ri T_185_49 ?_
      exact ⟨rfl, W, R, hP, XW.mono hX (by omega), FCM_rfl⟩
  · rw [if_neg q1] at i1
    by_cases q2 : wd = [99]
    · rw [if_pos q2] at i2
      have e1 := w2.mpr q2
      by_cases qN : N = 2
      · rw [if_pos qN, if_neg (fun c => c (Or.inr (Or.inl e1)))]
        have hgo := h50 0 1 (Or.inr (Or.inl ⟨e1, rfl, rfl⟩))
        refine CL_in mL_185 rfl ?_
        show WP fb _ 185 0 [some (vR (some 2175)), some (vR (some pr)), some (vR (some kk)), none, none, none, none, none, none, none] [] σ _
        refine x_lr (z := some kk) T_185_0 rfl ?_
        refine x_ic T_185_1 ?_
        refine x_sta T_185_2 rfl ?_
        refine x_cv3 T_185_5 mN_115 mL_115 (Nat.le_of_ble_eq_true rfl) mO_115 (hP.o hko) (Nat.le_of_ble_eq_true rfl) (i1) ?_
        rintro _ σ ⟨rfl, rfl⟩
        refine cI ?_
        refine x_si (ls1 := [some (vR (some 2175)), some (vR (some pr)), some (vR (some kk)), some (vI 0), none, none, none, none, none, none]) T_185_8 rfl ?_
        refine x_lr (z := some kk) T_185_9 rfl ?_
        refine x_ic T_185_10 ?_
        refine x_sta T_185_11 rfl ?_
        refine x_cv3 T_185_14 mN_115 mL_115 (Nat.le_of_ble_eq_true rfl) mO_115 (hP.o hko) (Nat.le_of_ble_eq_true rfl) (i2) ?_
        rintro _ σ ⟨rfl, rfl⟩
        refine cI ?_
        refine x_si (ls1 := [some (vR (some 2175)), some (vR (some pr)), some (vR (some kk)), some (vI 0), some (vI 1), none, none, none, none, none]) T_185_17 rfl ?_
        refine x_lr (z := some kk) T_185_19 rfl ?_
        refine x_gI (z := N) T_185_20 (Or.inl F_16_4) (hP.o hko) (Eq.trans (hP.gi hko (key := 2516) rfl) h5) ?_
        refine x_ic T_185_23 ?_
        refine x_ic2 T_185_24 (fun h => absurd (show ¬ N = 2 from h) (by omega)) (fun _ => ?_)
        refine x_li (z := 0) T_185_27 rfl ?_
        refine x_if T_185_28 (fun h => absurd (show ¬ (0 : Int) = 0 from h) (by decide)) (fun _ => ?_)
        refine x_li (z := 1) T_185_31 rfl ?_
        refine x_if T_185_33 (fun _ => ?_) (fun h => absurd (show ¬ (1 : Int) = 0 by decide) h)
        exact hgo
      · rw [if_neg qN]
        refine CL_in mL_185 rfl ?_
        show WP fb _ 185 0 [some (vR (some 2175)), some (vR (some pr)), some (vR (some kk)), none, none, none, none, none, none, none] [] σ _
        refine x_lr (z := some kk) T_185_0 rfl ?_
        refine x_ic T_185_1 ?_
        refine x_sta T_185_2 rfl ?_
        refine x_cv3 T_185_5 mN_115 mL_115 (Nat.le_of_ble_eq_true rfl) mO_115 (hP.o hko) (Nat.le_of_ble_eq_true rfl) (i1) ?_
        rintro _ σ ⟨rfl, rfl⟩
        refine cI ?_
        refine x_si (ls1 := [some (vR (some 2175)), some (vR (some pr)), some (vR (some kk)), some (vI 0), none, none, none, none, none, none]) T_185_8 rfl ?_
        refine x_lr (z := some kk) T_185_9 rfl ?_
        refine x_ic T_185_10 ?_
        refine x_sta T_185_11 rfl ?_
        refine x_cv3 T_185_14 mN_115 mL_115 (Nat.le_of_ble_eq_true rfl) mO_115 (hP.o hko) (Nat.le_of_ble_eq_true rfl) (i2) ?_
        rintro _ σ ⟨rfl, rfl⟩
        refine cI ?_
        refine x_si (ls1 := [some (vR (some 2175)), some (vR (some pr)), some (vR (some kk)), some (vI 0), some (vI 1), none, none, none, none, none]) T_185_17 rfl ?_
        refine x_lr (z := some kk) T_185_19 rfl ?_
        refine x_gI (z := N) T_185_20 (Or.inl F_16_4) (hP.o hko) (Eq.trans (hP.gi hko (key := 2516) rfl) h5) ?_
        refine x_ic T_185_23 ?_
        refine x_ic2 T_185_24 (fun _ => ?_) (fun h => absurd (show ¬ N = 2 by omega) h)
        refine x_ic T_185_47 ?_
        refine x_ri T_185_49 ?_
        exact ⟨rfl, W, R, hP, XW.mono hX (by omega), FCM_rfl⟩
    · rw [if_neg q2] at i2
      by_cases qN : N = 2
      · rw [if_pos qN]
        by_cases q3 : wd = [101]
        · rw [if_pos q3] at i3
          have e1 := w3.mpr q3
          rw [if_neg (fun c => c (Or.inr (Or.inr e1)))]
          have hgo := h50 0 0 (Or.inr (Or.inr ⟨e1, rfl, rfl⟩))
          refine CL_in mL_185 rfl ?_
          show WP fb _ 185 0 [some (vR (some 2175)), some (vR (some pr)), some (vR (some kk)), none, none, none, none, none, none, none] [] σ _
          refine x_lr (z := some kk) T_185_0 rfl ?_
          refine x_ic T_185_1 ?_
          refine x_sta T_185_2 rfl ?_
          refine x_cv3 T_185_5 mN_115 mL_115 (Nat.le_of_ble_eq_true rfl) mO_115 (hP.o hko) (Nat.le_of_ble_eq_true rfl) (i1) ?_
          rintro _ σ ⟨rfl, rfl⟩
          refine cI ?_
          refine x_si (ls1 := [some (vR (some 2175)), some (vR (some pr)), some (vR (some kk)), some (vI 0), none, none, none, none, none, none]) T_185_8 rfl ?_
          refine x_lr (z := some kk) T_185_9 rfl ?_
          refine x_ic T_185_10 ?_
          refine x_sta T_185_11 rfl ?_
          refine x_cv3 T_185_14 mN_115 mL_115 (Nat.le_of_ble_eq_true rfl) mO_115 (hP.o hko) (Nat.le_of_ble_eq_true rfl) (i2) ?_
          rintro _ σ ⟨rfl, rfl⟩
          refine cI ?_
          refine x_si (ls1 := [some (vR (some 2175)), some (vR (some pr)), some (vR (some kk)), some (vI 0), some (vI 0), none, none, none, none, none]) T_185_17 rfl ?_
          refine x_lr (z := some kk) T_185_19 rfl ?_
          refine x_gI (z := N) T_185_20 (Or.inl F_16_4) (hP.o hko) (Eq.trans (hP.gi hko (key := 2516) rfl) h5) ?_
          refine x_ic T_185_23 ?_
          refine x_ic2 T_185_24 (fun h => absurd (show ¬ N = 2 from h) (by omega)) (fun _ => ?_)
          refine x_li (z := 0) T_185_27 rfl ?_
          refine x_if T_185_28 (fun h => absurd (show ¬ (0 : Int) = 0 from h) (by decide)) (fun _ => ?_)
          refine x_li (z := 0) T_185_31 rfl ?_
          refine x_if T_185_33 (fun h => absurd (show ¬ (0 : Int) = 0 from h) (by decide)) (fun _ => ?_)
          refine x_lr (z := some kk) T_185_36 rfl ?_
          refine x_ic T_185_37 ?_
          refine x_sta T_185_38 rfl ?_
          refine x_cv3 T_185_41 mN_115 mL_115 (Nat.le_of_ble_eq_true rfl) mO_115 (hP.o hko) (Nat.le_of_ble_eq_true rfl) (i3) ?_
          rintro _ σ ⟨rfl, rfl⟩
          refine cI ?_
          refine x_if T_185_44 (fun _ => ?_) (fun h => absurd (show ¬ (1 : Int) = 0 by decide) h)
          exact hgo
        · rw [if_neg q3] at i3
          rw [if_pos (fun c => by
            rcases c with c | c | c
            · exact q1 (w1.mp c)
            · exact q2 (w2.mp c)
            · exact q3 (w3.mp c))]
          refine CL_in mL_185 rfl ?_
          show WP fb _ 185 0 [some (vR (some 2175)), some (vR (some pr)), some (vR (some kk)), none, none, none, none, none, none, none] [] σ _
          refine x_lr (z := some kk) T_185_0 rfl ?_
          refine x_ic T_185_1 ?_
          refine x_sta T_185_2 rfl ?_
          refine x_cv3 T_185_5 mN_115 mL_115 (Nat.le_of_ble_eq_true rfl) mO_115 (hP.o hko) (Nat.le_of_ble_eq_true rfl) (i1) ?_
          rintro _ σ ⟨rfl, rfl⟩
          refine cI ?_
          refine x_si (ls1 := [some (vR (some 2175)), some (vR (some pr)), some (vR (some kk)), some (vI 0), none, none, none, none, none, none]) T_185_8 rfl ?_
          refine x_lr (z := some kk) T_185_9 rfl ?_
          refine x_ic T_185_10 ?_
          refine x_sta T_185_11 rfl ?_
          refine x_cv3 T_185_14 mN_115 mL_115 (Nat.le_of_ble_eq_true rfl) mO_115 (hP.o hko) (Nat.le_of_ble_eq_true rfl) (i2) ?_
          rintro _ σ ⟨rfl, rfl⟩
          refine cI ?_
          refine x_si (ls1 := [some (vR (some 2175)), some (vR (some pr)), some (vR (some kk)), some (vI 0), some (vI 0), none, none, none, none, none]) T_185_17 rfl ?_
          refine x_lr (z := some kk) T_185_19 rfl ?_
          refine x_gI (z := N) T_185_20 (Or.inl F_16_4) (hP.o hko) (Eq.trans (hP.gi hko (key := 2516) rfl) h5) ?_
          refine x_ic T_185_23 ?_
          refine x_ic2 T_185_24 (fun h => absurd (show ¬ N = 2 from h) (by omega)) (fun _ => ?_)
          refine x_li (z := 0) T_185_27 rfl ?_
          refine x_if T_185_28 (fun h => absurd (show ¬ (0 : Int) = 0 from h) (by decide)) (fun _ => ?_)
          refine x_li (z := 0) T_185_31 rfl ?_
          refine x_if T_185_33 (fun h => absurd (show ¬ (0 : Int) = 0 from h) (by decide)) (fun _ => ?_)
          refine x_lr (z := some kk) T_185_36 rfl ?_
          refine x_ic T_185_37 ?_
          refine x_sta T_185_38 rfl ?_
          refine x_cv3 T_185_41 mN_115 mL_115 (Nat.le_of_ble_eq_true rfl) mO_115 (hP.o hko) (Nat.le_of_ble_eq_true rfl) (i3) ?_
          rintro _ σ ⟨rfl, rfl⟩
          refine cI ?_
          refine x_if T_185_44 (fun h => absurd (show ¬ (0 : Int) = 0 from h) (by decide)) (fun _ => ?_)
          refine x_ic T_185_47 ?_
          refine x_ri T_185_49 ?_
          exact ⟨rfl, W, R, hP, XW.mono hX (by omega), FCM_rfl⟩
      · rw [if_neg qN]
        refine CL_in mL_185 rfl ?_
        show WP fb _ 185 0 [some (vR (some 2175)), some (vR (some pr)), some (vR (some kk)), none, none, none, none, none, none, none] [] σ _
        refine x_lr (z := some kk) T_185_0 rfl ?_
        refine x_ic T_185_1 ?_
        refine x_sta T_185_2 rfl ?_
        refine x_cv3 T_185_5 mN_115 mL_115 (Nat.le_of_ble_eq_true rfl) mO_115 (hP.o hko) (Nat.le_of_ble_eq_true rfl) (i1) ?_
        rintro _ σ ⟨rfl, rfl⟩
        refine cI ?_
        refine x_si (ls1 := [some (vR (some 2175)), some (vR (some pr)), some (vR (some kk)), some (vI 0), none, none, none, none, none, none]) T_185_8 rfl ?_
        refine x_lr (z := some kk) T_185_9 rfl ?_
        refine x_ic T_185_10 ?_
        refine x_sta T_185_11 rfl ?_
        refine x_cv3 T_185_14 mN_115 mL_115 (Nat.le_of_ble_eq_true rfl) mO_115 (hP.o hko) (Nat.le_of_ble_eq_true rfl) (i2) ?_
        rintro _ σ ⟨rfl, rfl⟩
        refine cI ?_
        refine x_si (ls1 := [some (vR (some 2175)), some (vR (some pr)), some (vR (some kk)), some (vI 0), some (vI 0), none, none, none, none, none]) T_185_17 rfl ?_
        refine x_lr (z := some kk) T_185_19 rfl ?_
        refine x_gI (z := N) T_185_20 (Or.inl F_16_4) (hP.o hko) (Eq.trans (hP.gi hko (key := 2516) rfl) h5) ?_
        refine x_ic T_185_23 ?_
        refine x_ic2 T_185_24 (fun _ => ?_) (fun h => absurd (show ¬ N = 2 by omega) h)
        refine x_ic T_185_47 ?_
        refine x_ri T_185_49 ?_
        exact ⟨rfl, W, R, hP, XW.mono hX (by omega), FCM_rfl⟩
end XFKA
