/-! A command more begins: its text is laid down with what its $ stand for. -/
theorem T_310_67 : hTab 310 67 = some ((3, 4, 0, []), 69) := rfl
theorem T_310_69 : hTab 310 69 = some ((3, 0, 2, []), 70) := rfl
theorem T_310_70 : hTab 310 70 = some ((24, 17, Int.ofNat 105, []), 73) := rfl
theorem T_310_73 : hTab 310 73 = some ((19, 3, Int.ofNat 248, []), 76) := rfl
theorem T_310_76 : hTab 310 76 = some ((3, 0, 2, []), 77) := rfl
theorem T_310_77 : hTab 310 77 = some ((24, 17, Int.ofNat 104, []), 80) := rfl
theorem T_310_80 : hTab 310 80 = some ((3, 4, 0, []), 82) := rfl
theorem T_310_82 : hTab 310 82 = some ((26, 0, 0, []), 83) := rfl
theorem T_310_83 : hTab 310 83 = some ((4, 5, 0, []), 85) := rfl
theorem T_310_85 : hTab 310 85 = some ((3, 2, 0, []), 86) := rfl
theorem T_310_86 : hTab 310 86 = some ((18, 0, Int.ofNat 119, []), 89) := rfl
theorem T_310_89 : hTab 310 89 = some ((3, 5, 0, []), 91) := rfl
theorem T_310_91 : hTab 310 91 = some ((0, 0, 36, []), 93) := rfl
theorem T_310_93 : hTab 310 93 = some ((19, 1, Int.ofNat 119, []), 96) := rfl
theorem T_310_96 : hTab 310 96 = some ((3, 4, 0, []), 98) := rfl
theorem T_310_98 : hTab 310 98 = some ((0, 0, 1, []), 99) := rfl
theorem T_310_99 : hTab 310 99 = some ((10, 0, 0, []), 100) := rfl
theorem T_310_100 : hTab 310 100 = some ((3, 0, 2, []), 101) := rfl
theorem T_310_101 : hTab 310 101 = some ((24, 17, Int.ofNat 105, []), 104) := rfl
theorem T_310_104 : hTab 310 104 = some ((19, 3, Int.ofNat 119, []), 107) := rfl
theorem T_310_107 : hTab 310 107 = some ((3, 0, 2, []), 108) := rfl
theorem T_310_108 : hTab 310 108 = some ((24, 17, Int.ofNat 104, []), 111) := rfl
theorem T_310_111 : hTab 310 111 = some ((3, 4, 0, []), 113) := rfl
theorem T_310_113 : hTab 310 113 = some ((0, 0, 1, []), 114) := rfl
theorem T_310_114 : hTab 310 114 = some ((10, 0, 0, []), 115) := rfl
theorem T_310_115 : hTab 310 115 = some ((26, 0, 0, []), 116) := rfl
theorem T_310_116 : hTab 310 116 = some ((22, 0, Int.ofNat 120, []), 119) := rfl
theorem T_310_119 : hTab 310 119 = some ((0, 0, (-1), []), 120) := rfl
theorem T_310_120 : hTab 310 120 = some ((4, 6, 0, []), 122) := rfl
theorem T_310_122 : hTab 310 122 = some ((3, 6, 0, []), 124) := rfl
theorem T_310_124 : hTab 310 124 = some ((14, 0, 0, []), 125) := rfl
theorem T_310_125 : hTab 310 125 = some ((1, 0, 48, []), 128) := rfl
theorem T_310_128 : hTab 310 128 = some ((1, 0, 57, []), 131) := rfl
theorem T_310_131 : hTab 310 131 = some ((31, 282, 0, []), 134) := rfl
theorem T_310_134 : hTab 310 134 = some ((18, 0, Int.ofNat 165, []), 137) := rfl
theorem T_310_137 : hTab 310 137 = some ((3, 0, 2, []), 138) := rfl
theorem T_310_138 : hTab 310 138 = some ((3, 6, 0, []), 140) := rfl
theorem T_310_140 : hTab 310 140 = some ((0, 0, 48, []), 142) := rfl
theorem T_310_142 : hTab 310 142 = some ((10, 1, 0, []), 143) := rfl
theorem T_310_143 : hTab 310 143 = some ((31, 311, 0, []), 146) := rfl
theorem T_310_146 : hTab 310 146 = some ((18, 0, Int.ofNat 157, []), 149) := rfl
theorem T_310_149 : hTab 310 149 = some ((3, 3, 0, []), 150) := rfl
theorem T_310_150 : hTab 310 150 = some ((18, 0, Int.ofNat 157, []), 153) := rfl
theorem T_310_153 : hTab 310 153 = some ((0, 0, 1, []), 154) := rfl
theorem T_310_154 : hTab 310 154 = some ((22, 0, Int.ofNat 158, []), 157) := rfl
theorem T_310_157 : hTab 310 157 = some ((0, 0, 0, []), 158) := rfl
theorem T_310_158 : hTab 310 158 = some ((4, 3, 0, []), 159) := rfl
theorem T_310_159 : hTab 310 159 = some ((5, 4, 2, []), 162) := rfl
theorem T_310_162 : hTab 310 162 = some ((22, 0, Int.ofNat 245, []), 165) := rfl
theorem T_310_165 : hTab 310 165 = some ((3, 6, 0, []), 167) := rfl
theorem T_310_167 : hTab 310 167 = some ((14, 0, 0, []), 168) := rfl
theorem T_310_168 : hTab 310 168 = some ((1, 0, 97, []), 171) := rfl
theorem T_310_171 : hTab 310 171 = some ((1, 0, 122, []), 174) := rfl
theorem T_310_174 : hTab 310 174 = some ((31, 282, 0, []), 177) := rfl
theorem T_310_177 : hTab 310 177 = some ((18, 0, Int.ofNat 209, []), 180) := rfl
theorem T_310_180 : hTab 310 180 = some ((3, 0, 2, []), 181) := rfl
theorem T_310_181 : hTab 310 181 = some ((3, 1, 0, []), 182) := rfl
theorem T_310_182 : hTab 310 182 = some ((3, 6, 0, []), 184) := rfl
theorem T_310_184 : hTab 310 184 = some ((0, 0, 97, []), 186) := rfl
theorem T_310_186 : hTab 310 186 = some ((10, 1, 0, []), 187) := rfl
theorem T_310_187 : hTab 310 187 = some ((31, 313, 0, []), 190) := rfl
theorem T_310_190 : hTab 310 190 = some ((18, 0, Int.ofNat 201, []), 193) := rfl
theorem T_310_193 : hTab 310 193 = some ((3, 3, 0, []), 194) := rfl
theorem T_310_194 : hTab 310 194 = some ((18, 0, Int.ofNat 201, []), 197) := rfl
theorem T_310_197 : hTab 310 197 = some ((0, 0, 1, []), 198) := rfl
theorem T_310_198 : hTab 310 198 = some ((22, 0, Int.ofNat 202, []), 201) := rfl
theorem T_310_201 : hTab 310 201 = some ((0, 0, 0, []), 202) := rfl
theorem T_310_202 : hTab 310 202 = some ((4, 3, 0, []), 203) := rfl
theorem T_310_203 : hTab 310 203 = some ((5, 4, 2, []), 206) := rfl
theorem T_310_206 : hTab 310 206 = some ((22, 0, Int.ofNat 245, []), 209) := rfl
theorem T_310_209 : hTab 310 209 = some ((3, 0, 2, []), 210) := rfl
theorem T_310_210 : hTab 310 210 = some ((3, 5, 0, []), 212) := rfl
theorem T_310_212 : hTab 310 212 = some ((31, 312, 0, []), 215) := rfl
theorem T_310_215 : hTab 310 215 = some ((18, 0, Int.ofNat 226, []), 218) := rfl
theorem T_310_218 : hTab 310 218 = some ((3, 3, 0, []), 219) := rfl
theorem T_310_219 : hTab 310 219 = some ((18, 0, Int.ofNat 226, []), 222) := rfl
theorem T_310_222 : hTab 310 222 = some ((0, 0, 1, []), 223) := rfl
theorem T_310_223 : hTab 310 223 = some ((22, 0, Int.ofNat 227, []), 226) := rfl
theorem T_310_226 : hTab 310 226 = some ((0, 0, 0, []), 227) := rfl
theorem T_310_227 : hTab 310 227 = some ((4, 3, 0, []), 228) := rfl
theorem T_310_228 : hTab 310 228 = some ((3, 4, 0, []), 230) := rfl
theorem T_310_230 : hTab 310 230 = some ((3, 6, 0, []), 232) := rfl
theorem T_310_232 : hTab 310 232 = some ((0, 0, 36, []), 234) := rfl
theorem T_310_234 : hTab 310 234 = some ((19, 1, Int.ofNat 241, []), 237) := rfl
theorem T_310_237 : hTab 310 237 = some ((0, 0, 2, []), 238) := rfl
theorem T_310_238 : hTab 310 238 = some ((22, 0, Int.ofNat 242, []), 241) := rfl
theorem T_310_241 : hTab 310 241 = some ((0, 0, 1, []), 242) := rfl
theorem T_310_242 : hTab 310 242 = some ((10, 0, 0, []), 243) := rfl
theorem T_310_243 : hTab 310 243 = some ((4, 4, 0, []), 245) := rfl
theorem T_310_245 : hTab 310 245 = some ((22, 0, Int.ofNat 67, []), 248) := rfl
theorem F_17_104 : (hFd 17 104).2.2.1 = 4 := rfl
theorem F_17_105 : (hFd 17 105).2.2.1 = 0 := rfl
theorem mN_310 : hmN 310 = 3 := by decide +kernel
theorem mL_310 : hmL 310 = 7 := by decide +kernel
theorem mK_310 : hmK 310 = 1 := by decide +kernel
theorem mO_310 : hmO 310 = 17 := by decide +kernel
def SRC (S : qR) (src : List Int) : Prop := S 2281 105 = (src.length : Int) ∧ src.length ≤ 200 ∧ byt src ∧ ∀ j : Int, 0 ≤ j → j < src.length → S 2364 j = lg src j
/-- the sign behind a $ -/
def nxS (src : List Int) (ex k : Int) : Int := if ex = 1 ∧ lg src k = 36 ∧ k + 1 < (src.length : Int) then lg src (k + 1) else -1
def exI (P : qR) (p : Int) (ar : Option (List Int)) (src : List Int) (ex : Int) : Nat → Int → List Int
  | 0, _ => []
  | m + 1, k => if (src.length : Int) ≤ k then [] else if 48 ≤ nxS src ex k ∧ nxS src ex k ≤ 57 then argL ar (nxS src ex k - 48) ++ exI P p ar src ex m (k + 2) else if 97 ≤ nxS src ex k ∧ nxS src ex k ≤ 122 then varL P p (nxS src ex k - 97) ++ exI P p ar src ex m (k + 2) else [lg src k] ++ exI P p ar src ex m (if nxS src ex k = 36 then k + 2 else k + 1)
/-- a command's text -/
def exL (P : qR) (p : Int) (ar : Option (List Int)) (ex : Int) (src : List Int) : List Int := exI P p ar src ex src.length 0
def ftS (L : List Int) : Int := if L.length ≤ 100 then 1 else 0
/-- what beginning answers, at a depth with so many done -/
def bgE (n c : Int) (tx : List Int) : Int := if n = 12 ∨ c = 200 then 20 else if 100 < tx.length then 18 else 0
def bgC (n c : Int) : Int := if n = 12 ∨ c = 200 then c else c + 1
def fmR : List Nat := [2365, 2366, 2367, 2368, 2369, 2364]
def fmN : List Int := [105, 113, 114]
section MBEG
variable {fb : Bool} {d : Nat} {σ0 σ : hM} {P Q R S S0 S1 S2 : qR} {T U s w g u p k e t z o n N v dp b w0 ex c i : Int} {l L vs vs0 tx src : List Int} {h : List Ch} {fs : List Fr} {f fr : Fr} {l5 l6 : Option AV}
theorem ftS_app : ftS (L ++ vs) = if adR L vs = 1 ∧ ftS L = 1 then 1 else 0 := by
  unfold ftS adR
  rw [List.length_append]
  by_cases q : L.length + vs.length ≤ 100
  · rw [if_pos q, if_pos ⟨if_pos (Or.inr q), if_pos (by omega)⟩]
  · rw [if_neg q]
    by_cases q2 : vs = []
    · subst q2
      rw [if_neg (fun c => absurd c.2 (by rw [if_neg (fun c => q (by simp; exact c))]; decide))]
    · rw [if_neg (fun c => absurd c.1 (by rw [if_neg (fun c => c.elim q2 q)]; decide))]
theorem ftS_01 : ftS L = 0 ∨ ftS L = 1 := by
  unfold ftS
  split
  · exact Or.inr rfl
  · exact Or.inl rfl
theorem FX.frm (h : FX S i f) (hF : FRM dp S S1) (hi : i ≠ dp) : FX S1 i f := by
  obtain ⟨a1, ⟨a2, a3, a4, a5⟩, a6, a7, a8⟩ := h
  refine ⟨(hF.1.2 _ _ rfl rfl).trans a1, ⟨a2, a3, (hF.2.1 i hi).trans a4, fun j b1 b2 b3 => (hF.2.2 i j hi b1 b3).trans (a5 j b1 b2 b3)⟩, fun q => (hF.1.2 _ _ rfl rfl).trans (a6 q), fun q => (hF.1.2 _ _ rfl rfl).trans (a7 q), fun q => ⟨(hF.1.2 _ _ rfl rfl).trans (a8 q).1, (a8 q).2.1, fun j b1 b2 => (hF.1.2 _ _ rfl rfl).trans ((a8 q).2.2 j b1 b2)⟩⟩
theorem FST.frm : ∀ {fs : List Fr}, FST S fs → FRM dp S S1 → (fs.length : Int) < dp → FST S1 fs
  | [], _, _, _ => trivial
  | f :: r, h, hF, hd => by
    have hd : ((r.length + 1 : Nat) : Int) < dp := hd
    exact ⟨h.1.frm hF (by omega), FST.frm h.2 hF (by omega)⟩
theorem m_bg_loop (hI : IV false T U P) (hp : 0 ≤ p ∧ p < 8) (hex : ex = 0 ∨ ex = 1) (hS : SRC S src) (hF0 : FST S fs) (hfs : dp = (fs.length : Int) + 1) (hd : dp ≤ 12) (hdp0 : S 2281 113 = dp) {Q : Option AV → hM → Prop} : ∀ (m : Nat) (k : Int) (L : List Int) (S1 : qR) (σ : hM) (l5 l6 : Option AV), (src.length : Int) ≤ k + m → 0 ≤ k → PM σ0 P S1 σ → IV true T U S1 → TX S1 dp L → FRM dp S S1 → (∀ (σ : hM) (S2 : qR) (y : Int) (l5 l6 : Option AV), PM σ0 P S2 σ → IV true T U S2 → TX S2 dp (L ++ exI P p (arOf fs) src ex m k) → FRM dp S S2 → WP fb (d + 2) 310 248 [some (vR (some 2281)), some (vI p), some (vI ex), some (vI (ftS (L ++ exI P p (arOf fs) src ex m k))), some (vI y), l5, l6] [] σ Q) → WP fb (d + 2) 310 67 [some (vR (some 2281)), some (vI p), some (vI ex), some (vI (ftS L)), some (vI k), l5, l6] [] σ Q := by
  intro m
  induction m with
  | zero =>
    intro k L S1 σ l5 l6 h1 h2 hP hJ hX hF hQ
    have h1 : (src.length : Int) ≤ k + ((0 : Nat) : Int) := h1
    have h105 : S1 2281 105 = (src.length : Int) := (hF.1.1 _ rfl).trans hS.1
    rw [show L ++ exI P p (arOf fs) src ex 0 k = L from List.append_nil L] at hQ
    have hgo := hQ σ S1 k l5 l6 hP hJ hX hF
    obtain ⟨y, hy⟩ : ∃ y, ftS L = y := ⟨_, rfl⟩
    rw [hy] at hgo ⊢
    obtain ⟨n, hn⟩ : ∃ n : Int, (src.length : Int) = n := ⟨_, rfl⟩
    rw [hn] at h105 h1
    refine x_li (z := k) T_310_67 rfl ?_
    refine x_lr (z := some 2281) T_310_69 rfl ?_
    refine x_gI (z := n) T_310_70 (Or.inl F_17_105) (PM.t hP) (Eq.trans (PM.nS hP 2281 105 105 rfl rfl rfl) h105) ?_
    refine x_ic2 T_310_73 (fun _ => ?_) (fun h => absurd (show n ≤ k by omega) h)
    exact hgo
  | succ m ih =>
    intro k L S1 σ l5 l6 h1 h2 hP hJ hX hF hQ
    have h105 : S1 2281 105 = (src.length : Int) := (hF.1.1 _ rfl).trans hS.1
    have h200 := hS.2.1
    have hdp : S1 2281 113 = dp := hF.deep.trans hdp0
    have hFs := hF0.frm hF (by omega)
    obtain ⟨n, hn⟩ : ∃ n : Int, (src.length : Int) = n := ⟨_, rfl⟩
    have hsr : ∀ j : Int, 0 ≤ j → j < n → S1 2364 j = lg src j := fun j a b => (hF.1.2 _ _ rfl rfl).trans (hS.2.2.2 j a (by omega))
    unfold exI at hQ
    rw [hn] at h105 h1 hQ
    by_cases q0 : n ≤ k
    · rw [if_pos q0, List.append_nil] at hQ
      have hgo := hQ σ S1 k l5 l6 hP hJ hX hF
      obtain ⟨y, hy⟩ : ∃ y, ftS L = y := ⟨_, rfl⟩
      rw [hy] at hgo ⊢
      refine x_li (z := k) T_310_67 rfl ?_
      refine x_lr (z := some 2281) T_310_69 rfl ?_
      refine x_gI (z := n) T_310_70 (Or.inl F_17_105) (PM.t hP) (Eq.trans (PM.nS hP 2281 105 105 rfl rfl rfl) h105) ?_
      refine x_ic2 T_310_73 (fun _ => ?_) (fun h => absurd (show n ≤ k by omega) h)
      exact hgo
    rw [if_neg q0] at hQ
    have bb : 0 ≤ lg src k ∧ lg src k ≤ 255 := hS.2.2.1 k h2
    obtain ⟨b, hb⟩ : ∃ b, lg src k = b := ⟨_, rfl⟩
    have hsb : S1 2364 k = b := (hsr k h2 (by omega)).trans hb
    rw [hb] at bb hQ
    have hnx : nxS src ex k = -1 ∨ (0 ≤ nxS src ex k ∧ nxS src ex k ≤ 255) := by
      unfold nxS
      split
      · exact Or.inr (hS.2.2.1 (k + 1) (by omega))
      · exact Or.inl rfl
    -- what comes of a sign
    have h122 : ∀ nx : Int, nxS src ex k = nx → WP fb (d + 2) 310 122 [some (vR (some 2281)), some (vI p), some (vI ex), some (vI (ftS L)), some (vI k), some (vI b), some (vI nx)] [] σ Q := fun nx hnx0 => by
      rw [hnx0] at hnx hQ
      have fin : ∀ (vs : List Int) (k2 : Int) (tl : List Int), (∀ (σ : hM) (S2 : qR) (y : Int) (l5 l6 : Option AV), PM σ0 P S2 σ → IV true T U S2 → TX S2 dp (L ++ (vs ++ exI P p (arOf fs) src ex m k2)) → FRM dp S S2 → WP fb (d + 2) 310 248 [some (vR (some 2281)), some (vI p), some (vI ex), some (vI (ftS (L ++ (vs ++ exI P p (arOf fs) src ex m k2)))), some (vI y), l5, l6] [] σ Q) → k + 1 ≤ k2 → ∀ (σ : hM) (S2 : qR), PM σ0 P S2 σ → IV true T U S2 → TX S2 dp (L ++ vs) → FRM dp S1 S2 → WP fb (d + 2) 310 67 [some (vR (some 2281)), some (vI p), some (vI ex), some (vI (if adR L vs = 1 ∧ ftS L = 1 then 1 else 0)), some (vI k2), some (vI b), some (vI nx)] [] σ Q := fun vs k2 tl hq hk2 σ S2 a1 a2 a3 a4 => by
        rw [← ftS_app]
        exact ih k2 (L ++ vs) S2 σ _ _ (by omega) (by omega) a1 a2 a3 (FRM_tr hF a4) (fun σ S3 y l5 l6 b1 b2 b3 b4 => by
          rw [List.append_assoc] at b3 ⊢
          exact hq σ S3 y l5 l6 b1 b2 b3 b4)
      have f01 := ftS_01 (L := L)
      by_cases q1 : 48 ≤ nx ∧ nx ≤ 57
      · rw [if_pos q1] at hQ
        have ha := m_addArgument (fb := fb) (d := d) (k := nx - 48) hP hJ (by omega) hdp hfs hd hFs hX
        have hgo := fin _ (k + 2) [] hQ (by omega)
        have r01 := adR_01 (L := L) (vs := argL (arOf fs) (nx - 48))
        unfold AD at ha
        obtain ⟨r0, hr0⟩ : ∃ r, adR L (argL (arOf fs) (nx - 48)) = r := ⟨_, rfl⟩
        obtain ⟨y, hy⟩ : ∃ y, ftS L = y := ⟨_, rfl⟩
        rw [hr0] at ha r01
        rw [hr0, hy] at hgo
        rw [hy] at f01 ⊢
        rcases r01 with c | c
        · subst c
          rw [if_neg (fun c => absurd c.1 (by decide))] at hgo
          refine x_li (z := nx) T_310_122 rfl ?_
          refine x_i2l T_310_124 ?_
          refine x_lc T_310_125 ?_
          refine x_lc T_310_128 ?_
          refine x_cs3 T_310_131 mN_282 mL_282 (Nat.le_of_ble_eq_true rfl) mK_282 (Nat.le_of_ble_eq_true rfl) (CL_val m_in (if_pos (by omega))) ?_
          rintro _ σ ⟨rfl, rfl⟩
          refine cI ?_
          refine x_if T_310_134 (fun h => absurd (show (1 : Int) = 0 from h) (by decide)) (fun _ => ?_)
          refine x_lr (z := some 2281) T_310_137 rfl ?_
          refine x_li (z := nx) T_310_138 rfl ?_
          refine x_ic T_310_140 ?_
          refine x_ib (w := (nx - 48)) T_310_142 (fun h => absurd h.1 (by decide)) (w32_id (by omega) (by omega)) ?_
          refine x_cv2 T_310_143 mN_311 mL_311 (Nat.le_of_ble_eq_true rfl) mO_311 (PM.t hP) (Nat.le_of_ble_eq_true rfl) (ha) ?_
          clear hP ha
          rintro _ σ ⟨S2, rfl, hP, hJ2, hX2, hF2⟩
          refine cI ?_
          refine x_if T_310_146 (fun _ => ?_) (fun h => absurd (show (0 : Int) = 0 by decide) h)
          refine x_ic T_310_157 ?_
          refine x_si (ls1 := [some (vR (some 2281)), some (vI p), some (vI ex), some (vI 0), some (vI k), some (vI b), some (vI nx)]) T_310_158 rfl ?_
          refine x_inc (w := (k + 2)) (ls1 := [some (vR (some 2281)), some (vI p), some (vI ex), some (vI 0), some (vI (k + 2)), some (vI b), some (vI nx)]) T_310_159 rfl (w32_id (by omega) (by omega)) rfl ?_
          refine x_goto T_310_162 ?_
          refine x_goto T_310_245 ?_
          exact hgo σ S2 hP hJ2 hX2 hF2
        · subst c
          rcases f01 with c2 | c2
          · subst c2
            rw [if_neg (fun c => absurd c.2 (by decide))] at hgo
            refine x_li (z := nx) T_310_122 rfl ?_
            refine x_i2l T_310_124 ?_
            refine x_lc T_310_125 ?_
            refine x_lc T_310_128 ?_
            refine x_cs3 T_310_131 mN_282 mL_282 (Nat.le_of_ble_eq_true rfl) mK_282 (Nat.le_of_ble_eq_true rfl) (CL_val m_in (if_pos (by omega))) ?_
            rintro _ σ ⟨rfl, rfl⟩
            refine cI ?_
            refine x_if T_310_134 (fun h => absurd (show (1 : Int) = 0 from h) (by decide)) (fun _ => ?_)
            refine x_lr (z := some 2281) T_310_137 rfl ?_
            refine x_li (z := nx) T_310_138 rfl ?_
            refine x_ic T_310_140 ?_
            refine x_ib (w := (nx - 48)) T_310_142 (fun h => absurd h.1 (by decide)) (w32_id (by omega) (by omega)) ?_
            refine x_cv2 T_310_143 mN_311 mL_311 (Nat.le_of_ble_eq_true rfl) mO_311 (PM.t hP) (Nat.le_of_ble_eq_true rfl) (ha) ?_
            clear hP ha
            rintro _ σ ⟨S2, rfl, hP, hJ2, hX2, hF2⟩
            refine cI ?_
            refine x_if T_310_146 (fun h => absurd (show (1 : Int) = 0 from h) (by decide)) (fun _ => ?_)
            refine x_li (z := 0) T_310_149 rfl ?_
            refine x_if T_310_150 (fun _ => ?_) (fun h => absurd (show (0 : Int) = 0 by decide) h)
            refine x_ic T_310_157 ?_
            refine x_si (ls1 := [some (vR (some 2281)), some (vI p), some (vI ex), some (vI 0), some (vI k), some (vI b), some (vI nx)]) T_310_158 rfl ?_
            refine x_inc (w := (k + 2)) (ls1 := [some (vR (some 2281)), some (vI p), some (vI ex), some (vI 0), some (vI (k + 2)), some (vI b), some (vI nx)]) T_310_159 rfl (w32_id (by omega) (by omega)) rfl ?_
            refine x_goto T_310_162 ?_
            refine x_goto T_310_245 ?_
            exact hgo σ S2 hP hJ2 hX2 hF2
          · subst c2
            rw [if_pos ⟨rfl, rfl⟩] at hgo
            refine x_li (z := nx) T_310_122 rfl ?_
            refine x_i2l T_310_124 ?_
            refine x_lc T_310_125 ?_
            refine x_lc T_310_128 ?_
            refine x_cs3 T_310_131 mN_282 mL_282 (Nat.le_of_ble_eq_true rfl) mK_282 (Nat.le_of_ble_eq_true rfl) (CL_val m_in (if_pos (by omega))) ?_
            rintro _ σ ⟨rfl, rfl⟩
            refine cI ?_
            refine x_if T_310_134 (fun h => absurd (show (1 : Int) = 0 from h) (by decide)) (fun _ => ?_)
            refine x_lr (z := some 2281) T_310_137 rfl ?_
            refine x_li (z := nx) T_310_138 rfl ?_
            refine x_ic T_310_140 ?_
            refine x_ib (w := (nx - 48)) T_310_142 (fun h => absurd h.1 (by decide)) (w32_id (by omega) (by omega)) ?_
            refine x_cv2 T_310_143 mN_311 mL_311 (Nat.le_of_ble_eq_true rfl) mO_311 (PM.t hP) (Nat.le_of_ble_eq_true rfl) (ha) ?_
            clear hP ha
            rintro _ σ ⟨S2, rfl, hP, hJ2, hX2, hF2⟩
            refine cI ?_
            refine x_if T_310_146 (fun h => absurd (show (1 : Int) = 0 from h) (by decide)) (fun _ => ?_)
            refine x_li (z := 1) T_310_149 rfl ?_
            refine x_if T_310_150 (fun h => absurd (show (1 : Int) = 0 from h) (by decide)) (fun _ => ?_)
            refine x_ic T_310_153 ?_
            refine x_goto T_310_154 ?_
            refine x_si (ls1 := [some (vR (some 2281)), some (vI p), some (vI ex), some (vI 1), some (vI k), some (vI b), some (vI nx)]) T_310_158 rfl ?_
            refine x_inc (w := (k + 2)) (ls1 := [some (vR (some 2281)), some (vI p), some (vI ex), some (vI 1), some (vI (k + 2)), some (vI b), some (vI nx)]) T_310_159 rfl (w32_id (by omega) (by omega)) rfl ?_
            refine x_goto T_310_162 ?_
            refine x_goto T_310_245 ?_
            exact hgo σ S2 hP hJ2 hX2 hF2
      rw [if_neg q1] at hQ
      by_cases q2 : 97 ≤ nx ∧ nx ≤ 122
      · rw [if_pos q2] at hQ
        have ha := m_addVariable (fb := fb) (d := d) (x := nx - 97) hP hI hJ hp (by omega) hdp ⟨by omega, hd⟩ hX
        have hgo := fin _ (k + 2) [] hQ (by omega)
        have r01 := adR_01 (L := L) (vs := varL P p (nx - 97))
        unfold AD at ha
        obtain ⟨r0, hr0⟩ : ∃ r, adR L (varL P p (nx - 97)) = r := ⟨_, rfl⟩
        obtain ⟨y, hy⟩ : ∃ y, ftS L = y := ⟨_, rfl⟩
        rw [hr0] at ha r01
        rw [hr0, hy] at hgo
        rw [hy] at f01 ⊢
        rcases r01 with c | c
        · subst c
          rw [if_neg (fun c => absurd c.1 (by decide))] at hgo
          refine x_li (z := nx) T_310_122 rfl ?_
          refine x_i2l T_310_124 ?_
          refine x_lc T_310_125 ?_
          refine x_lc T_310_128 ?_
          refine x_cs3 T_310_131 mN_282 mL_282 (Nat.le_of_ble_eq_true rfl) mK_282 (Nat.le_of_ble_eq_true rfl) (CL_val m_in (if_neg q1)) ?_
          rintro _ σ ⟨rfl, rfl⟩
          refine cI ?_
          refine x_if T_310_134 (fun _ => ?_) (fun h => absurd (show (0 : Int) = 0 by decide) h)
          refine x_li (z := nx) T_310_165 rfl ?_
          refine x_i2l T_310_167 ?_
          refine x_lc T_310_168 ?_
          refine x_lc T_310_171 ?_
          refine x_cs3 T_310_174 mN_282 mL_282 (Nat.le_of_ble_eq_true rfl) mK_282 (Nat.le_of_ble_eq_true rfl) (CL_val m_in (if_pos (by omega))) ?_
          rintro _ σ ⟨rfl, rfl⟩
          refine cI ?_
          refine x_if T_310_177 (fun h => absurd (show (1 : Int) = 0 from h) (by decide)) (fun _ => ?_)
          refine x_lr (z := some 2281) T_310_180 rfl ?_
          refine x_li (z := p) T_310_181 rfl ?_
          refine x_li (z := nx) T_310_182 rfl ?_
          refine x_ic T_310_184 ?_
          refine x_ib (w := (nx - 97)) T_310_186 (fun h => absurd h.1 (by decide)) (w32_id (by omega) (by omega)) ?_
          refine x_cv3 T_310_187 mN_313 mL_313 (Nat.le_of_ble_eq_true rfl) mO_313 (PM.t hP) (Nat.le_of_ble_eq_true rfl) (ha) ?_
          clear hP ha
          rintro _ σ ⟨S2, rfl, hP, hJ2, hX2, hF2⟩
          refine cI ?_
          refine x_if T_310_190 (fun _ => ?_) (fun h => absurd (show (0 : Int) = 0 by decide) h)
          refine x_ic T_310_201 ?_
          refine x_si (ls1 := [some (vR (some 2281)), some (vI p), some (vI ex), some (vI 0), some (vI k), some (vI b), some (vI nx)]) T_310_202 rfl ?_
          refine x_inc (w := (k + 2)) (ls1 := [some (vR (some 2281)), some (vI p), some (vI ex), some (vI 0), some (vI (k + 2)), some (vI b), some (vI nx)]) T_310_203 rfl (w32_id (by omega) (by omega)) rfl ?_
          refine x_goto T_310_206 ?_
          refine x_goto T_310_245 ?_
          exact hgo σ S2 hP hJ2 hX2 hF2
        · subst c
          rcases f01 with c2 | c2
          · subst c2
            rw [if_neg (fun c => absurd c.2 (by decide))] at hgo
            refine x_li (z := nx) T_310_122 rfl ?_
            refine x_i2l T_310_124 ?_
            refine x_lc T_310_125 ?_
            refine x_lc T_310_128 ?_
            refine x_cs3 T_310_131 mN_282 mL_282 (Nat.le_of_ble_eq_true rfl) mK_282 (Nat.le_of_ble_eq_true rfl) (CL_val m_in (if_neg q1)) ?_
            rintro _ σ ⟨rfl, rfl⟩
            refine cI ?_
            refine x_if T_310_134 (fun _ => ?_) (fun h => absurd (show (0 : Int) = 0 by decide) h)
            refine x_li (z := nx) T_310_165 rfl ?_
            refine x_i2l T_310_167 ?_
            refine x_lc T_310_168 ?_
            refine x_lc T_310_171 ?_
            refine x_cs3 T_310_174 mN_282 mL_282 (Nat.le_of_ble_eq_true rfl) mK_282 (Nat.le_of_ble_eq_true rfl) (CL_val m_in (if_pos (by omega))) ?_
            rintro _ σ ⟨rfl, rfl⟩
            refine cI ?_
            refine x_if T_310_177 (fun h => absurd (show (1 : Int) = 0 from h) (by decide)) (fun _ => ?_)
            refine x_lr (z := some 2281) T_310_180 rfl ?_
            refine x_li (z := p) T_310_181 rfl ?_
            refine x_li (z := nx) T_310_182 rfl ?_
            refine x_ic T_310_184 ?_
            refine x_ib (w := (nx - 97)) T_310_186 (fun h => absurd h.1 (by decide)) (w32_id (by omega) (by omega)) ?_
            refine x_cv3 T_310_187 mN_313 mL_313 (Nat.le_of_ble_eq_true rfl) mO_313 (PM.t hP) (Nat.le_of_ble_eq_true rfl) (ha) ?_
            clear hP ha
            rintro _ σ ⟨S2, rfl, hP, hJ2, hX2, hF2⟩
            refine cI ?_
            refine x_if T_310_190 (fun h => absurd (show (1 : Int) = 0 from h) (by decide)) (fun _ => ?_)
            refine x_li (z := 0) T_310_193 rfl ?_
            refine x_if T_310_194 (fun _ => ?_) (fun h => absurd (show (0 : Int) = 0 by decide) h)
            refine x_ic T_310_201 ?_
            refine x_si (ls1 := [some (vR (some 2281)), some (vI p), some (vI ex), some (vI 0), some (vI k), some (vI b), some (vI nx)]) T_310_202 rfl ?_
            refine x_inc (w := (k + 2)) (ls1 := [some (vR (some 2281)), some (vI p), some (vI ex), some (vI 0), some (vI (k + 2)), some (vI b), some (vI nx)]) T_310_203 rfl (w32_id (by omega) (by omega)) rfl ?_
            refine x_goto T_310_206 ?_
            refine x_goto T_310_245 ?_
            exact hgo σ S2 hP hJ2 hX2 hF2
          · subst c2
            rw [if_pos ⟨rfl, rfl⟩] at hgo
            refine x_li (z := nx) T_310_122 rfl ?_
            refine x_i2l T_310_124 ?_
            refine x_lc T_310_125 ?_
            refine x_lc T_310_128 ?_
            refine x_cs3 T_310_131 mN_282 mL_282 (Nat.le_of_ble_eq_true rfl) mK_282 (Nat.le_of_ble_eq_true rfl) (CL_val m_in (if_neg q1)) ?_
            rintro _ σ ⟨rfl, rfl⟩
            refine cI ?_
            refine x_if T_310_134 (fun _ => ?_) (fun h => absurd (show (0 : Int) = 0 by decide) h)
            refine x_li (z := nx) T_310_165 rfl ?_
            refine x_i2l T_310_167 ?_
            refine x_lc T_310_168 ?_
            refine x_lc T_310_171 ?_
            refine x_cs3 T_310_174 mN_282 mL_282 (Nat.le_of_ble_eq_true rfl) mK_282 (Nat.le_of_ble_eq_true rfl) (CL_val m_in (if_pos (by omega))) ?_
            rintro _ σ ⟨rfl, rfl⟩
            refine cI ?_
            refine x_if T_310_177 (fun h => absurd (show (1 : Int) = 0 from h) (by decide)) (fun _ => ?_)
            refine x_lr (z := some 2281) T_310_180 rfl ?_
            refine x_li (z := p) T_310_181 rfl ?_
            refine x_li (z := nx) T_310_182 rfl ?_
            refine x_ic T_310_184 ?_
            refine x_ib (w := (nx - 97)) T_310_186 (fun h => absurd h.1 (by decide)) (w32_id (by omega) (by omega)) ?_
            refine x_cv3 T_310_187 mN_313 mL_313 (Nat.le_of_ble_eq_true rfl) mO_313 (PM.t hP) (Nat.le_of_ble_eq_true rfl) (ha) ?_
            clear hP ha
            rintro _ σ ⟨S2, rfl, hP, hJ2, hX2, hF2⟩
            refine cI ?_
            refine x_if T_310_190 (fun h => absurd (show (1 : Int) = 0 from h) (by decide)) (fun _ => ?_)
            refine x_li (z := 1) T_310_193 rfl ?_
            refine x_if T_310_194 (fun h => absurd (show (1 : Int) = 0 from h) (by decide)) (fun _ => ?_)
            refine x_ic T_310_197 ?_
            refine x_goto T_310_198 ?_
            refine x_si (ls1 := [some (vR (some 2281)), some (vI p), some (vI ex), some (vI 1), some (vI k), some (vI b), some (vI nx)]) T_310_202 rfl ?_
            refine x_inc (w := (k + 2)) (ls1 := [some (vR (some 2281)), some (vI p), some (vI ex), some (vI 1), some (vI (k + 2)), some (vI b), some (vI nx)]) T_310_203 rfl (w32_id (by omega) (by omega)) rfl ?_
            refine x_goto T_310_206 ?_
            refine x_goto T_310_245 ?_
            exact hgo σ S2 hP hJ2 hX2 hF2
      rw [if_neg q2] at hQ
      have ha := m_add (fb := fb) (d := d + 1) (b := b) hP hJ hdp ⟨by omega, hd⟩ hX bb
      obtain ⟨k2, hk2⟩ : ∃ k2, (if nx = 36 then k + 2 else k + 1) = k2 := ⟨_, rfl⟩
      rw [hk2] at hQ
      have hk2r : k + 1 ≤ k2 ∧ k2 ≤ k + 2 := by
        rw [← hk2]
        split <;> omega
      have hgo := fin _ k2 [] hQ hk2r.1
      have r01 := adR_01 (L := L) (vs := [b])
      unfold AD at ha
      obtain ⟨r0, hr0⟩ : ∃ r, adR L [b] = r := ⟨_, rfl⟩
      rw [hr0] at ha r01
      rw [hr0] at hgo
      have h228 : ∀ (y2 : Int), (∀ (σ : hM) (S2 : qR), PM σ0 P S2 σ → IV true T U S2 → TX S2 dp (L ++ [b]) → FRM dp S1 S2 → WP fb (d + 2) 310 67 [some (vR (some 2281)), some (vI p), some (vI ex), some (vI y2), some (vI k2), some (vI b), some (vI nx)] [] σ Q) → ∀ (σ : hM) (S2 : qR), PM σ0 P S2 σ → IV true T U S2 → TX S2 dp (L ++ [b]) → FRM dp S1 S2 → WP fb (d + 2) 310 228 [some (vR (some 2281)), some (vI p), some (vI ex), some (vI y2), some (vI k), some (vI b), some (vI nx)] [] σ Q := fun y2 hg σ S2 a1 a2 a3 a4 => by
        have hg := hg σ S2 a1 a2 a3 a4
        by_cases q3 : nx = 36
        · rw [if_pos q3] at hk2
          rw [← hk2] at hg
          refine x_li (z := k) T_310_228 rfl ?_
          refine x_li (z := nx) T_310_230 rfl ?_
          refine x_ic T_310_232 ?_
          refine x_ic2 T_310_234 (fun h => absurd (show ¬ nx = 36 from h) (by omega)) (fun _ => ?_)
          refine x_ic T_310_237 ?_
          refine x_goto T_310_238 ?_
          refine x_ib (w := (k + 2)) T_310_242 (fun h => absurd h.1 (by decide)) (w32_id (by omega) (by omega)) ?_
          refine x_si (ls1 := [some (vR (some 2281)), some (vI p), some (vI ex), some (vI y2), some (vI (k + 2)), some (vI b), some (vI nx)]) T_310_243 rfl ?_
          refine x_goto T_310_245 ?_
          exact hg
        · rw [if_neg q3] at hk2
          rw [← hk2] at hg
          refine x_li (z := k) T_310_228 rfl ?_
          refine x_li (z := nx) T_310_230 rfl ?_
          refine x_ic T_310_232 ?_
          refine x_ic2 T_310_234 (fun _ => ?_) (fun h => absurd (show ¬ nx = 36 by omega) h)
          refine x_ic T_310_241 ?_
          refine x_ib (w := (k + 1)) T_310_242 (fun h => absurd h.1 (by decide)) (w32_id (by omega) (by omega)) ?_
          refine x_si (ls1 := [some (vR (some 2281)), some (vI p), some (vI ex), some (vI y2), some (vI (k + 1)), some (vI b), some (vI nx)]) T_310_243 rfl ?_
          refine x_goto T_310_245 ?_
          exact hg
      obtain ⟨y, hy⟩ : ∃ y, ftS L = y := ⟨_, rfl⟩
      rw [hy] at hgo
      rw [hy] at f01 ⊢
      rcases r01 with c | c
      · subst c
        rw [if_neg (fun c => absurd c.1 (by decide))] at hgo
        have hg2 := h228 _ hgo
        refine x_li (z := nx) T_310_122 rfl ?_
        refine x_i2l T_310_124 ?_
        refine x_lc T_310_125 ?_
        refine x_lc T_310_128 ?_
        refine x_cs3 T_310_131 mN_282 mL_282 (Nat.le_of_ble_eq_true rfl) mK_282 (Nat.le_of_ble_eq_true rfl) (CL_val m_in (if_neg q1)) ?_
        rintro _ σ ⟨rfl, rfl⟩
        refine cI ?_
        refine x_if T_310_134 (fun _ => ?_) (fun h => absurd (show (0 : Int) = 0 by decide) h)
        refine x_li (z := nx) T_310_165 rfl ?_
        refine x_i2l T_310_167 ?_
        refine x_lc T_310_168 ?_
        refine x_lc T_310_171 ?_
        refine x_cs3 T_310_174 mN_282 mL_282 (Nat.le_of_ble_eq_true rfl) mK_282 (Nat.le_of_ble_eq_true rfl) (CL_val m_in (if_neg q2)) ?_
        rintro _ σ ⟨rfl, rfl⟩
        refine cI ?_
        refine x_if T_310_177 (fun _ => ?_) (fun h => absurd (show (0 : Int) = 0 by decide) h)
        refine x_lr (z := some 2281) T_310_209 rfl ?_
        refine x_li (z := b) T_310_210 rfl ?_
        refine x_cv2 T_310_212 mN_312 mL_312 (Nat.le_of_ble_eq_true rfl) mO_312 (PM.t hP) (Nat.le_of_ble_eq_true rfl) (ha) ?_
        clear hP ha
        rintro _ σ ⟨S2, rfl, hP, hJ2, hX2, hF2⟩
        refine cI ?_
        refine x_if T_310_215 (fun _ => ?_) (fun h => absurd (show (0 : Int) = 0 by decide) h)
        refine x_ic T_310_226 ?_
        refine x_si (ls1 := [some (vR (some 2281)), some (vI p), some (vI ex), some (vI 0), some (vI k), some (vI b), some (vI nx)]) T_310_227 rfl ?_
        exact hg2 σ S2 hP hJ2 hX2 hF2
      · subst c
        rcases f01 with c2 | c2
        · subst c2
          rw [if_neg (fun c => absurd c.2 (by decide))] at hgo
          have hg2 := h228 _ hgo
          refine x_li (z := nx) T_310_122 rfl ?_
          refine x_i2l T_310_124 ?_
          refine x_lc T_310_125 ?_
          refine x_lc T_310_128 ?_
          refine x_cs3 T_310_131 mN_282 mL_282 (Nat.le_of_ble_eq_true rfl) mK_282 (Nat.le_of_ble_eq_true rfl) (CL_val m_in (if_neg q1)) ?_
          rintro _ σ ⟨rfl, rfl⟩
          refine cI ?_
          refine x_if T_310_134 (fun _ => ?_) (fun h => absurd (show (0 : Int) = 0 by decide) h)
          refine x_li (z := nx) T_310_165 rfl ?_
          refine x_i2l T_310_167 ?_
          refine x_lc T_310_168 ?_
          refine x_lc T_310_171 ?_
          refine x_cs3 T_310_174 mN_282 mL_282 (Nat.le_of_ble_eq_true rfl) mK_282 (Nat.le_of_ble_eq_true rfl) (CL_val m_in (if_neg q2)) ?_
          rintro _ σ ⟨rfl, rfl⟩
          refine cI ?_
          refine x_if T_310_177 (fun _ => ?_) (fun h => absurd (show (0 : Int) = 0 by decide) h)
          refine x_lr (z := some 2281) T_310_209 rfl ?_
          refine x_li (z := b) T_310_210 rfl ?_
          refine x_cv2 T_310_212 mN_312 mL_312 (Nat.le_of_ble_eq_true rfl) mO_312 (PM.t hP) (Nat.le_of_ble_eq_true rfl) (ha) ?_
          clear hP ha
          rintro _ σ ⟨S2, rfl, hP, hJ2, hX2, hF2⟩
          refine cI ?_
          refine x_if T_310_215 (fun h => absurd (show (1 : Int) = 0 from h) (by decide)) (fun _ => ?_)
          refine x_li (z := 0) T_310_218 rfl ?_
          refine x_if T_310_219 (fun _ => ?_) (fun h => absurd (show (0 : Int) = 0 by decide) h)
          refine x_ic T_310_226 ?_
          refine x_si (ls1 := [some (vR (some 2281)), some (vI p), some (vI ex), some (vI 0), some (vI k), some (vI b), some (vI nx)]) T_310_227 rfl ?_
          exact hg2 σ S2 hP hJ2 hX2 hF2
        · subst c2
          rw [if_pos ⟨rfl, rfl⟩] at hgo
          have hg2 := h228 _ hgo
          refine x_li (z := nx) T_310_122 rfl ?_
          refine x_i2l T_310_124 ?_
          refine x_lc T_310_125 ?_
          refine x_lc T_310_128 ?_
          refine x_cs3 T_310_131 mN_282 mL_282 (Nat.le_of_ble_eq_true rfl) mK_282 (Nat.le_of_ble_eq_true rfl) (CL_val m_in (if_neg q1)) ?_
          rintro _ σ ⟨rfl, rfl⟩
          refine cI ?_
          refine x_if T_310_134 (fun _ => ?_) (fun h => absurd (show (0 : Int) = 0 by decide) h)
          refine x_li (z := nx) T_310_165 rfl ?_
          refine x_i2l T_310_167 ?_
          refine x_lc T_310_168 ?_
          refine x_lc T_310_171 ?_
          refine x_cs3 T_310_174 mN_282 mL_282 (Nat.le_of_ble_eq_true rfl) mK_282 (Nat.le_of_ble_eq_true rfl) (CL_val m_in (if_neg q2)) ?_
          rintro _ σ ⟨rfl, rfl⟩
          refine cI ?_
          refine x_if T_310_177 (fun _ => ?_) (fun h => absurd (show (0 : Int) = 0 by decide) h)
          refine x_lr (z := some 2281) T_310_209 rfl ?_
          refine x_li (z := b) T_310_210 rfl ?_
          refine x_cv2 T_310_212 mN_312 mL_312 (Nat.le_of_ble_eq_true rfl) mO_312 (PM.t hP) (Nat.le_of_ble_eq_true rfl) (ha) ?_
          clear hP ha
          rintro _ σ ⟨S2, rfl, hP, hJ2, hX2, hF2⟩
          refine cI ?_
          refine x_if T_310_215 (fun h => absurd (show (1 : Int) = 0 from h) (by decide)) (fun _ => ?_)
          refine x_li (z := 1) T_310_218 rfl ?_
          refine x_if T_310_219 (fun h => absurd (show (1 : Int) = 0 from h) (by decide)) (fun _ => ?_)
          refine x_ic T_310_222 ?_
          refine x_goto T_310_223 ?_
          refine x_si (ls1 := [some (vR (some 2281)), some (vI p), some (vI ex), some (vI 1), some (vI k), some (vI b), some (vI nx)]) T_310_227 rfl ?_
          exact hg2 σ S2 hP hJ2 hX2 hF2
    have hnot : ∀ nx : Int, nxS src ex k = nx → nx = -1 → WP fb (d + 2) 310 120 [some (vR (some 2281)), some (vI p), some (vI ex), some (vI (ftS L)), some (vI k), some (vI b), l6] [vI (-1)] σ Q := fun nx a1 a2 => by
      have hgo := h122 (-1) (a1.trans a2)
      obtain ⟨y, hy⟩ : ∃ y, ftS L = y := ⟨_, rfl⟩
      rw [hy] at hgo ⊢
      refine x_si (ls1 := [some (vR (some 2281)), some (vI p), some (vI ex), some (vI y), some (vI k), some (vI b), some (vI (-1))]) T_310_120 rfl ?_
      exact hgo
    rcases hex with rfl | rfl
    · have hgo := hnot _ rfl (if_neg (fun c => absurd c.1 (by decide)))
      obtain ⟨y, hy⟩ : ∃ y, ftS L = y := ⟨_, rfl⟩
      rw [hy] at hgo ⊢
      refine x_li (z := k) T_310_67 rfl ?_
      refine x_lr (z := some 2281) T_310_69 rfl ?_
      refine x_gI (z := n) T_310_70 (Or.inl F_17_105) (PM.t hP) (Eq.trans (PM.nS hP 2281 105 105 rfl rfl rfl) h105) ?_
      refine x_ic2 T_310_73 (fun h => absurd (show n ≤ k from h) (by omega)) (fun _ => ?_)
      refine x_lr (z := some 2281) T_310_76 rfl ?_
      refine x_gR (z := some 2364) T_310_77 F_17_104 (PM.t hP) (PM.r hP 104 2364 rfl) ?_
      refine x_li (z := k) T_310_80 rfl ?_
      refine x_alI (z := b) T_310_82 (by decide) (PM.ta hP 2364 0 200 rfl rfl) (by omega) (by omega) (Eq.trans (PM.aS hP 2364 rfl rfl (by omega)) hsb) ?_
      refine x_si (ls1 := [some (vR (some 2281)), some (vI p), some (vI 0), some (vI y), some (vI k), some (vI b), l6]) T_310_83 rfl ?_
      refine x_li (z := 0) T_310_85 rfl ?_
      refine x_if T_310_86 (fun _ => ?_) (fun h => absurd (show (0 : Int) = 0 by decide) h)
      refine x_ic T_310_119 ?_
      exact hgo
    · by_cases q1 : b = 36
      · by_cases q2 : k + 1 < n
        · have e1 : nxS src 1 k = lg src (k + 1) := if_pos ⟨rfl, hb.trans q1, by omega⟩
          obtain ⟨nx, hnx2⟩ : ∃ nx, lg src (k + 1) = nx := ⟨_, rfl⟩
          have hgo := h122 nx (e1.trans hnx2)
          have hs2 : S1 2364 (k + 1) = nx := (hsr (k + 1) (by omega) q2).trans hnx2
          obtain ⟨y, hy⟩ : ∃ y, ftS L = y := ⟨_, rfl⟩
          rw [hy] at hgo ⊢
          refine x_li (z := k) T_310_67 rfl ?_
          refine x_lr (z := some 2281) T_310_69 rfl ?_
          refine x_gI (z := n) T_310_70 (Or.inl F_17_105) (PM.t hP) (Eq.trans (PM.nS hP 2281 105 105 rfl rfl rfl) h105) ?_
          refine x_ic2 T_310_73 (fun h => absurd (show n ≤ k from h) (by omega)) (fun _ => ?_)
          refine x_lr (z := some 2281) T_310_76 rfl ?_
          refine x_gR (z := some 2364) T_310_77 F_17_104 (PM.t hP) (PM.r hP 104 2364 rfl) ?_
          refine x_li (z := k) T_310_80 rfl ?_
          refine x_alI (z := b) T_310_82 (by decide) (PM.ta hP 2364 0 200 rfl rfl) (by omega) (by omega) (Eq.trans (PM.aS hP 2364 rfl rfl (by omega)) hsb) ?_
          refine x_si (ls1 := [some (vR (some 2281)), some (vI p), some (vI 1), some (vI y), some (vI k), some (vI b), l6]) T_310_83 rfl ?_
          refine x_li (z := 1) T_310_85 rfl ?_
          refine x_if T_310_86 (fun h => absurd (show (1 : Int) = 0 from h) (by decide)) (fun _ => ?_)
          refine x_li (z := b) T_310_89 rfl ?_
          refine x_ic T_310_91 ?_
          refine x_ic2 T_310_93 (fun h => absurd (show ¬ b = 36 from h) (by omega)) (fun _ => ?_)
          refine x_li (z := k) T_310_96 rfl ?_
          refine x_ic T_310_98 ?_
          refine x_ib (w := (k + 1)) T_310_99 (fun h => absurd h.1 (by decide)) (w32_id (by omega) (by omega)) ?_
          refine x_lr (z := some 2281) T_310_100 rfl ?_
          refine x_gI (z := n) T_310_101 (Or.inl F_17_105) (PM.t hP) (Eq.trans (PM.nS hP 2281 105 105 rfl rfl rfl) h105) ?_
          refine x_ic2 T_310_104 (fun h => absurd (show n ≤ (k + 1) from h) (by omega)) (fun _ => ?_)
          refine x_lr (z := some 2281) T_310_107 rfl ?_
          refine x_gR (z := some 2364) T_310_108 F_17_104 (PM.t hP) (PM.r hP 104 2364 rfl) ?_
          refine x_li (z := k) T_310_111 rfl ?_
          refine x_ic T_310_113 ?_
          refine x_ib (w := (k + 1)) T_310_114 (fun h => absurd h.1 (by decide)) (w32_id (by omega) (by omega)) ?_
          refine x_alI (z := nx) T_310_115 (by decide) (PM.ta hP 2364 0 200 rfl rfl) (by omega) (by omega) (Eq.trans (PM.aS hP 2364 rfl rfl (by omega)) hs2) ?_
          refine x_goto T_310_116 ?_
          refine x_si (ls1 := [some (vR (some 2281)), some (vI p), some (vI 1), some (vI y), some (vI k), some (vI b), some (vI nx)]) T_310_120 rfl ?_
          exact hgo
        · have hgo := hnot _ rfl (if_neg (fun c => q2 (by have := c.2.2; omega)))
          obtain ⟨y, hy⟩ : ∃ y, ftS L = y := ⟨_, rfl⟩
          rw [hy] at hgo ⊢
          refine x_li (z := k) T_310_67 rfl ?_
          refine x_lr (z := some 2281) T_310_69 rfl ?_
          refine x_gI (z := n) T_310_70 (Or.inl F_17_105) (PM.t hP) (Eq.trans (PM.nS hP 2281 105 105 rfl rfl rfl) h105) ?_
          refine x_ic2 T_310_73 (fun h => absurd (show n ≤ k from h) (by omega)) (fun _ => ?_)
          refine x_lr (z := some 2281) T_310_76 rfl ?_
          refine x_gR (z := some 2364) T_310_77 F_17_104 (PM.t hP) (PM.r hP 104 2364 rfl) ?_
          refine x_li (z := k) T_310_80 rfl ?_
          refine x_alI (z := b) T_310_82 (by decide) (PM.ta hP 2364 0 200 rfl rfl) (by omega) (by omega) (Eq.trans (PM.aS hP 2364 rfl rfl (by omega)) hsb) ?_
          refine x_si (ls1 := [some (vR (some 2281)), some (vI p), some (vI 1), some (vI y), some (vI k), some (vI b), l6]) T_310_83 rfl ?_
          refine x_li (z := 1) T_310_85 rfl ?_
          refine x_if T_310_86 (fun h => absurd (show (1 : Int) = 0 from h) (by decide)) (fun _ => ?_)
          refine x_li (z := b) T_310_89 rfl ?_
          refine x_ic T_310_91 ?_
          refine x_ic2 T_310_93 (fun h => absurd (show ¬ b = 36 from h) (by omega)) (fun _ => ?_)
          refine x_li (z := k) T_310_96 rfl ?_
          refine x_ic T_310_98 ?_
          refine x_ib (w := (k + 1)) T_310_99 (fun h => absurd h.1 (by decide)) (w32_id (by omega) (by omega)) ?_
          refine x_lr (z := some 2281) T_310_100 rfl ?_
          refine x_gI (z := n) T_310_101 (Or.inl F_17_105) (PM.t hP) (Eq.trans (PM.nS hP 2281 105 105 rfl rfl rfl) h105) ?_
          refine x_ic2 T_310_104 (fun _ => ?_) (fun h => absurd (show n ≤ (k + 1) by omega) h)
          refine x_ic T_310_119 ?_
          exact hgo
      · have hgo := hnot _ rfl (if_neg (fun c => q1 (hb.symm.trans c.2.1)))
        obtain ⟨y, hy⟩ : ∃ y, ftS L = y := ⟨_, rfl⟩
        rw [hy] at hgo ⊢
        refine x_li (z := k) T_310_67 rfl ?_
        refine x_lr (z := some 2281) T_310_69 rfl ?_
        refine x_gI (z := n) T_310_70 (Or.inl F_17_105) (PM.t hP) (Eq.trans (PM.nS hP 2281 105 105 rfl rfl rfl) h105) ?_
        refine x_ic2 T_310_73 (fun h => absurd (show n ≤ k from h) (by omega)) (fun _ => ?_)
        refine x_lr (z := some 2281) T_310_76 rfl ?_
        refine x_gR (z := some 2364) T_310_77 F_17_104 (PM.t hP) (PM.r hP 104 2364 rfl) ?_
        refine x_li (z := k) T_310_80 rfl ?_
        refine x_alI (z := b) T_310_82 (by decide) (PM.ta hP 2364 0 200 rfl rfl) (by omega) (by omega) (Eq.trans (PM.aS hP 2364 rfl rfl (by omega)) hsb) ?_
        refine x_si (ls1 := [some (vR (some 2281)), some (vI p), some (vI 1), some (vI y), some (vI k), some (vI b), l6]) T_310_83 rfl ?_
        refine x_li (z := 1) T_310_85 rfl ?_
        refine x_if T_310_86 (fun h => absurd (show (1 : Int) = 0 from h) (by decide)) (fun _ => ?_)
        refine x_li (z := b) T_310_89 rfl ?_
        refine x_ic T_310_91 ?_
        refine x_ic2 T_310_93 (fun _ => ?_) (fun h => absurd (show ¬ b = 36 by omega) h)
        refine x_ic T_310_119 ?_
        exact hgo
end MBEG
