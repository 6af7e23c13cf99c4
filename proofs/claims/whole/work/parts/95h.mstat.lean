/-! stat: what is told of a file. -/
theorem T_378_128 : hTab 378 128 = some ((3, 14, 0, []), 130) := rfl
theorem T_378_130 : hTab 378 130 = some ((3, 3, 0, []), 131) := rfl
theorem T_378_131 : hTab 378 131 = some ((19, 3, Int.ofNat 157, []), 134) := rfl
theorem T_378_134 : hTab 378 134 = some ((3, 0, 2, []), 135) := rfl
theorem T_378_135 : hTab 378 135 = some ((24, 17, Int.ofNat 93, []), 138) := rfl
theorem T_378_138 : hTab 378 138 = some ((3, 14, 0, []), 140) := rfl
theorem T_378_140 : hTab 378 140 = some ((3, 0, 2, []), 141) := rfl
theorem T_378_141 : hTab 378 141 = some ((24, 17, Int.ofNat 5, []), 144) := rfl
theorem T_378_144 : hTab 378 144 = some ((0, 0, 52, []), 146) := rfl
theorem T_378_146 : hTab 378 146 = some ((3, 14, 0, []), 148) := rfl
theorem T_378_148 : hTab 378 148 = some ((10, 0, 0, []), 149) := rfl
theorem T_378_149 : hTab 378 149 = some ((26, 0, 0, []), 150) := rfl
theorem T_378_150 : hTab 378 150 = some ((27, 0, 0, []), 151) := rfl
theorem T_378_151 : hTab 378 151 = some ((5, 14, 1, []), 154) := rfl
theorem T_378_154 : hTab 378 154 = some ((22, 0, Int.ofNat 128, []), 157) := rfl
theorem T_378_164 : hTab 378 164 = some ((3, 14, 0, []), 166) := rfl
theorem T_378_166 : hTab 378 166 = some ((3, 3, 0, []), 167) := rfl
theorem T_378_167 : hTab 378 167 = some ((19, 3, Int.ofNat 188, []), 170) := rfl
theorem T_378_170 : hTab 378 170 = some ((3, 0, 2, []), 171) := rfl
theorem T_378_171 : hTab 378 171 = some ((3, 1, 0, []), 172) := rfl
theorem T_378_172 : hTab 378 172 = some ((3, 0, 2, []), 173) := rfl
theorem T_378_173 : hTab 378 173 = some ((24, 17, Int.ofNat 93, []), 176) := rfl
theorem T_378_176 : hTab 378 176 = some ((3, 14, 0, []), 178) := rfl
theorem T_378_178 : hTab 378 178 = some ((26, 0, 0, []), 179) := rfl
theorem T_378_179 : hTab 378 179 = some ((31, 351, 0, []), 182) := rfl
theorem T_378_182 : hTab 378 182 = some ((5, 14, 1, []), 185) := rfl
theorem T_378_185 : hTab 378 185 = some ((22, 0, Int.ofNat 164, []), 188) := rfl
theorem T_378_238 : hTab 378 238 = some ((3, 14, 0, []), 240) := rfl
theorem T_378_240 : hTab 378 240 = some ((18, 2, Int.ofNat 268, []), 243) := rfl
theorem T_378_243 : hTab 378 243 = some ((3, 0, 2, []), 244) := rfl
theorem T_378_244 : hTab 378 244 = some ((3, 1, 0, []), 245) := rfl
theorem T_378_245 : hTab 378 245 = some ((1, 0, 48, []), 248) := rfl
theorem T_378_248 : hTab 378 248 = some ((3, 4, 1, []), 250) := rfl
theorem T_378_250 : hTab 378 250 = some ((3, 14, 0, []), 252) := rfl
theorem T_378_252 : hTab 378 252 = some ((12, 1, 0, []), 253) := rfl
theorem T_378_253 : hTab 378 253 = some ((1, 0, 7, []), 256) := rfl
theorem T_378_256 : hTab 378 256 = some ((11, 5, 0, []), 257) := rfl
theorem T_378_257 : hTab 378 257 = some ((11, 0, 0, []), 258) := rfl
theorem T_378_258 : hTab 378 258 = some ((15, 0, 0, []), 259) := rfl
theorem T_378_259 : hTab 378 259 = some ((31, 351, 0, []), 262) := rfl
theorem T_378_262 : hTab 378 262 = some ((5, 14, (-3), []), 265) := rfl
theorem T_378_265 : hTab 378 265 = some ((22, 0, Int.ofNat 238, []), 268) := rfl
theorem F_17_93 : (hFd 17 93).2.2.1 = 4 := rfl
theorem mN_378 : hmN 378 = 2 := by decide +kernel
theorem mL_378 : hmL 378 = 15 := by decide +kernel
theorem mK_378 : hmK 378 = 1 := by decide +kernel
theorem mO_378 : hmO 378 = 17 := by decide +kernel
def dg3 (m : Int) : Nat → List Int
  | 0 => []
  | k + 1 => (48 + and64 (shr64 m (3 * (k : Int))) 7) :: dg3 m k
def tyC (m : Int) : Int := if and64 m 2147483648 = 0 then (if and64 m 1073741824 = 0 then 45 else 97) else 100
def stT (A : List Int) : List Int := seg (lg A) 52 (nu (lg A) 50 2).toNat ++ [32] ++ [tyC (nu (lg A) 30 4)] ++ dg3 (nu (lg A) 30 4) 3 ++ [32] ++ decL (nu (lg A) 42 8) ++ [32] ++ [lg A (54 + nu (lg A) 50 2)] ++ [lg A (54 + nu (lg A) 50 2 + 1)] ++ [lg A (54 + nu (lg A) 50 2 + 2)] ++ [32] ++ decL (nu (lg A) 18 4) ++ [10]
def cStat (P : qR) (p : Int) (wd : List Int) : Int × qR × List Ch := if 0 < (kWW P p 1 wd).1 then ((kWW P p 1 wd).1, (kWW P p 1 wd).2.1, []) else if 0 < tE (kWW P p 1 wd).2.1 (kWW P p 1 wd).2.2.1 (mOne 124 (kWW P p 1 wd).2.2.2.1) then (tE (kWW P p 1 wd).2.1 (kWW P p 1 wd).2.2.1 (mOne 124 (kWW P p 1 wd).2.2.2.1), tP (kWW P p 1 wd).2.1 (kWW P p 1 wd).2.2.1 (mOne 124 (kWW P p 1 wd).2.2.2.1), [(kWW P p 1 wd).2.2]) else (0, gOut (kDrop (tP (kWW P p 1 wd).2.1 (kWW P p 1 wd).2.2.1 (mOne 124 (kWW P p 1 wd).2.2.2.1)) (kWW P p 1 wd).2.2) p (stT (tA (kWW P p 1 wd).2.1 (kWW P p 1 wd).2.2.1 (mOne 124 (kWW P p 1 wd).2.2.2.1))), [])
section MSTAT
variable {fb : Bool} {d : Nat} {σ0 σ : hM} {P Q R S S1 S2 : qR} {T U s w g u p k e t z o thr pt off : Int} {l l1 l2 nm wd A : List Int} {h : List Ch} {a f : Int → Int} {x : Int × Int} {c : Ch} {fr fd md n0 : Int}
theorem and64_7 (z : Int) : and64 z 7 = z % 8 := by
  unfold and64
  show (BitVec.ofInt 64 z &&& 7#64).toInt = z % 8
  have h1 : (BitVec.ofInt 64 z &&& 7#64).toNat = (z % 18446744073709551616).toNat % 8 := by
    rw [BitVec.toNat_and, BitVec.toNat_ofInt]
    exact Nat.and_two_pow_sub_one_eq_mod _ 3
  rw [BitVec.toInt_eq_toNat_of_lt (by rw [h1]; omega), h1]
  omega
theorem GO_snoc {b : Int} (hG : GI T U (gOut P p l)) (hp : 0 ≤ p ∧ p < 8) (hb : 0 ≤ b ∧ b ≤ 255) : GI T U (gOut P p (l ++ [b])) := by
  rw [gOut_snoc]
  exact GI_tell hG hp hb
theorem GO_dec {v : Int} (hG : GI T U (gOut P p l)) (hp : 0 ≤ p ∧ p < 8) (hv : 0 ≤ v) : GI T U (gOut P p (l ++ decL v)) := by
  rw [gOut_app]
  exact GI_out hp _ _ hG (fun b hm => by have := dcL_b hv (ndF v 18 0) b hm; omega)
theorem KS.drop {r : Option AV} {σ1 : hM} {y : Ch} (hK : KS T U P S l (h ++ [y])) (hr : KV (T + 4) U σ0 S (kDrop P y) h r σ1) : ∃ S2 : qR, r = none ∧ PM σ0 (kDrop P y) S2 σ1 ∧ KS (T + 4) U (kDrop P y) S2 l h ∧ SX scR scN S S2 ∧ SK S S2 := by
  obtain ⟨S2, a1, a2, a3, a4, a5, a6⟩ := hr
  exact ⟨S2, a1, a2, ⟨a3, hK.2.1.of KF_tP, a4, a5, hK.2.2.2.2.sw a6.sw⟩, SX_sc a6.sw, a6⟩
theorem KS.gout (hK : KS T U P S l h) (hG : GI T U (gOut P p l1)) : KS T U (gOut P p l1) S l h := ⟨hG, PTS_out hK.2.1, hK.2.2⟩
theorem stat_A {f0 : Int} (hG : GI T U P) (hs : 0 ≤ s ∧ s < 3) (h : tE P s (mOne 124 f0) = 0) : ∃ n0 : Int, 0 ≤ n0 ∧ n0 ≤ 12 ∧ nu (lg (tA P s (mOne 124 f0))) 50 2 = n0 ∧ ((tA P s (mOne 124 f0)).length : Int) = 67 + n0 ∧ 0 ≤ nu (lg (tA P s (mOne 124 f0))) 42 8 ∧ nu (lg (tA P s (mOne 124 f0))) 42 8 ≤ 600 := by
  obtain ⟨n, h1, h2, h3, h4⟩ := stat_ok hs h
  obtain ⟨P1, hP1⟩ : ∃ P1, gM1 P (seg (msgA (mOne 124 f0)) 0 (4 + ((mOne 124 f0).length : Int)).toNat) = P1 := ⟨_, rfl⟩
  rw [hP1] at h1 h2 h3 h4
  have hr : RF rdR1 P1 P := by rw [← hP1]; exact gM1_rf
  have hk := qFid_in (P := P1) (s := s) (c := 0) (v := nu (msgA (mOne 124 f0)) 7 4) hs (by decide) h2
  have hn := (fid_node hG hs (k := qFid P1 s 0 (nu (msgA (mOne 124 f0)) 7 4)) (by omega)).1
  rw [← hr 2306 _ rfl, ← h4] at hn
  have b1 := qNs_i hG.iv hn
  have e1 : qNs P1 s n = qNs P s n := by
    unfold qNs
    rw [hr 2299 _ rfl]
  have e2 : qLen P1 s n = qLen P s n := by
    unfold qLen
    rw [hr 2297 _ rfl, qMode_rf hr]
  have b2 : 0 ≤ qLen P s n ∧ qLen P s n ≤ 600 := by
    unfold qLen
    split
    · rename_i q
      exact IV.a hG.iv 2297 0 128 rfl rfl rfl (by omega) (by have := hn.2.2.2.2 q.1; omega)
    · decide
  rw [← e1] at b1
  rw [← e2] at b2
  obtain ⟨ns, hns⟩ : ∃ ns, qNs P1 s n = ns := ⟨_, rfl⟩
  obtain ⟨le, hle⟩ : ∃ le, qLen P1 s n = le := ⟨_, rfl⟩
  rw [hns] at b1
  rw [hle] at b2
  obtain ⟨A, hA⟩ : ∃ A, tA P s (mOne 124 f0) = A := ⟨_, rfl⟩
  rw [hA] at h1 ⊢
  have hlen : (A.length : Int) = 67 + ns := by
    rw [h1]
    unfold ansL
    simp only [List.length_append, leb_len, List.length_cons, List.length_nil]
    have := statL_len (P := P1) (s := s) (n := n) (by rw [hns]; omega)
    rw [hns] at this
    omega
  refine ⟨ns, b1.1, b1.2, ?_, hlen, ?_⟩
  · have e : A = (leb 4 (7 + (((leb 2 (58 + ns) ++ statL P1 s n).length : Nat) : Int)) ++ [125 % 256, msgA (mOne 124 f0) 5, msgA (mOne 124 f0) 6] ++ leb 2 (58 + ns) ++ leb 2 (58 + ns - 2) ++ leb 2 0 ++ leb 4 0 ++ qidL P1 s n ++ leb 4 (qMode P1 s n) ++ leb 4 0 ++ leb 4 0 ++ leb 8 le) ++ (leb 2 ns ++ (nmL P1 s n ns.toNat ++ usrL (qUid P1 s n) ++ usrL (qGid P1 s n) ++ usrL (qMuid P1 s n))) := by
      rw [h1]
      unfold ansL
      conv => lhs; rhs; rhs; rhs; unfold statL
      rw [hns, hle]
      simp only [List.append_assoc]
    rw [e]
    exact nu_lg2 2 rfl (by rw [show (256 : Int) ^ 2 = 65536 by decide]; omega)
  · have e : A = (leb 4 (7 + (((leb 2 (58 + ns) ++ statL P1 s n).length : Nat) : Int)) ++ [125 % 256, msgA (mOne 124 f0) 5, msgA (mOne 124 f0) 6] ++ leb 2 (58 + ns) ++ leb 2 (58 + ns - 2) ++ leb 2 0 ++ leb 4 0 ++ qidL P1 s n ++ leb 4 (qMode P1 s n) ++ leb 4 0 ++ leb 4 0) ++ (leb 8 le ++ (leb 2 ns ++ nmL P1 s n ns.toNat ++ usrL (qUid P1 s n) ++ usrL (qGid P1 s n) ++ usrL (qMuid P1 s n))) := by
      rw [h1]
      unfold ansL
      conv => lhs; rhs; rhs; rhs; unfold statL
      rw [hns, hle]
      simp only [List.append_assoc]
    have : nu (lg A) 42 8 = le := by
      rw [e]
      exact nu_lg2 8 rfl (by rw [show (256 : Int) ^ 8 = 18446744073709551616 by decide]; omega)
    rw [this]
    exact b2
theorem m_stat_keep {e0 k0 b0 b1 b2 : Int} {v4 v6 v8 : Int} (hA : AN S A) (hJ : IV true T U S) (h12 : 0 ≤ n0 ∧ n0 ≤ 12) (hlA : (A.length : Int) = 67 + n0) {Q : Option AV → hM → Prop} (hQ : ∀ σ : hM, PM σ0 P (rW S 2355 0 (seg (lg A) 52 n0.toNat)) σ → WP fb d 378 157 [some (vR (some 2281)), some (vI p), some (vI e0), some (vI n0), some (vL v4), none, some (vL v6), none, some (vL v8), none, some (vI k0), some (vI b0), some (vI b1), some (vI b2), some (vI n0)] [] σ Q) : ∀ (m : Nat) (i : Int) (σ : hM), i + m = n0 → 0 ≤ i → PM σ0 P (rW S 2355 0 (seg (lg A) 52 i.toNat)) σ → WP fb d 378 128 [some (vR (some 2281)), some (vI p), some (vI e0), some (vI n0), some (vL v4), none, some (vL v6), none, some (vL v8), none, some (vI k0), some (vI b0), some (vI b1), some (vI b2), some (vI i)] [] σ Q := by
  intro m
  induction m with
  | zero =>
    intro i σ h1 h2 hP
    have hi : i = n0 := by omega
    subst hi
    have hgo := hQ σ hP
    refine x_li (z := i) T_378_128 rfl ?_
    refine x_li (z := i) T_378_130 rfl ?_
    refine x_ic2 T_378_131 (fun _ => ?_) (fun h => absurd (show i ≤ i by omega) h)
    exact hgo
  | succ m ih =>
    intro i σ h1 h2 hP
    have hlen : ((seg (lg A) 52 i.toNat).length : Int) = i := by rw [seg_len]; omega
    have hx : rW S 2355 0 (seg (lg A) 52 i.toNat) 2286 (52 + i) = lg A (52 + i) := by
      rw [rW_f (by decide)]
      exact hA.2.1 _ (by omega) (by omega)
    have e1 : rU (rW S 2355 0 (seg (lg A) 52 i.toNat)) 2355 i (lg A (52 + i)) = rW S 2355 0 (seg (lg A) 52 (i + 1).toNat) := by
      rw [← rW_one]
      conv => lhs; arg 3; rw [show i = 0 + ((seg (lg A) 52 i.toNat).length : Int) by omega]
      rw [rW_app, show (i + 1).toNat = i.toNat + 1 by omega, seg_snoc, show (52 : Int) + (i.toNat : Int) = 52 + i by omega]
    have hgo := fun (σ : hM) (hP : PM σ0 P (rU (rW S 2355 0 (seg (lg A) 52 i.toNat)) 2355 i (lg A (52 + i))) σ) => ih (i + 1) σ (by omega) (by omega) (by rw [← e1]; exact hP)
    refine x_li (z := i) T_378_128 rfl ?_
    refine x_li (z := n0) T_378_130 rfl ?_
    refine x_ic2 T_378_131 (fun h => absurd (show n0 ≤ i from h) (by omega)) (fun _ => ?_)
    refine x_lr (z := some 2281) T_378_134 rfl ?_
    refine x_gR (z := some 2355) T_378_135 F_17_93 (PM.t hP) (PM.r hP 93 2355 rfl) ?_
    refine x_li (z := i) T_378_138 rfl ?_
    refine x_lr (z := some 2281) T_378_140 rfl ?_
    refine x_gR (z := some 2286) T_378_141 F_17_5 (PM.t hP) (PM.r hP 5 2286 rfl) ?_
    refine x_ic T_378_144 ?_
    refine x_li (z := i) T_378_146 rfl ?_
    refine x_ib (w := (52 + i)) T_378_148 (fun h => absurd h.1 (by decide)) (w32_id (by omega) (by omega)) ?_
    refine x_alI (z := lg A (52 + i)) T_378_149 (by decide) (PM.ta hP 2286 0 512 rfl rfl) (by omega) (by omega) (Eq.trans (PM.aS hP 2286 rfl rfl (by omega)) hx) ?_
    refine y_aIS hP T_378_150 2355 16 rfl rfl rfl (by omega) (by omega) (fun σ hP => ?_)
    refine x_inc (w := (i + 1)) (ls1 := [some (vR (some 2281)), some (vI p), some (vI e0), some (vI n0), some (vL v4), none, some (vL v6), none, some (vL v8), none, some (vI k0), some (vI b0), some (vI b1), some (vI b2), some (vI (i + 1))]) T_378_151 rfl (w32_id (by omega) (by omega)) rfl ?_
    refine x_goto T_378_154 ?_
    exact hgo σ hP
theorem m_stat_tell {e0 k0 b0 b1 b2 : Int} {v4 v6 v8 : Int} (hp : 0 ≤ p ∧ p < 8) (h12 : 0 ≤ n0 ∧ n0 ≤ 12) (hk : ∀ i, 0 ≤ i → i < n0 → S 2355 i = lg A (52 + i)) (hb : byt A) (hG : GI T U P) {Q : Option AV → hM → Prop} (hQ : ∀ σ : hM, PM σ0 (gOut P p (seg (lg A) 52 n0.toNat)) S σ → WP fb (d + 1) 378 188 [some (vR (some 2281)), some (vI p), some (vI e0), some (vI n0), some (vL v4), none, some (vL v6), none, some (vL v8), none, some (vI k0), some (vI b0), some (vI b1), some (vI b2), some (vI n0)] [] σ Q) : ∀ (m : Nat) (i : Int) (σ : hM), i + m = n0 → 0 ≤ i → PM σ0 (gOut P p (seg (lg A) 52 i.toNat)) S σ → GI T U (gOut P p (seg (lg A) 52 i.toNat)) → WP fb (d + 1) 378 164 [some (vR (some 2281)), some (vI p), some (vI e0), some (vI n0), some (vL v4), none, some (vL v6), none, some (vL v8), none, some (vI k0), some (vI b0), some (vI b1), some (vI b2), some (vI i)] [] σ Q := by
  intro m
  induction m with
  | zero =>
    intro i σ h1 h2 hP hG1
    have hi : i = n0 := by omega
    subst hi
    have hgo := hQ σ hP
    refine x_li (z := i) T_378_164 rfl ?_
    refine x_li (z := i) T_378_166 rfl ?_
    refine x_ic2 T_378_167 (fun _ => ?_) (fun h => absurd (show i ≤ i by omega) h)
    exact hgo
  | succ m ih =>
    intro i σ h1 h2 hP hG1
    have hx := hk i h2 (by omega)
    have e1 : seg (lg A) 52 (i + 1).toNat = seg (lg A) 52 i.toNat ++ [lg A (52 + i)] := by
      rw [show (i + 1).toNat = i.toNat + 1 by omega, seg_snoc, show (52 : Int) + (i.toNat : Int) = 52 + i by omega]
    have ht := m_tell (fb := fb) (d := d) (b := lg A (52 + i)) hP hG1.iv hp
    have hgo := fun (σ : hM) (hP : PM σ0 (gTell (gOut P p (seg (lg A) 52 i.toNat)) p (lg A (52 + i))) S σ) => ih (i + 1) σ (by omega) (by omega) (by rw [e1, gOut_snoc]; exact hP) (by rw [e1]; exact GO_snoc hG1 hp (hb _ (by omega)))
    refine x_li (z := i) T_378_164 rfl ?_
    refine x_li (z := n0) T_378_166 rfl ?_
    refine x_ic2 T_378_167 (fun h => absurd (show n0 ≤ i from h) (by omega)) (fun _ => ?_)
    refine x_lr (z := some 2281) T_378_170 rfl ?_
    refine x_li (z := p) T_378_171 rfl ?_
    refine x_lr (z := some 2281) T_378_172 rfl ?_
    refine x_gR (z := some 2355) T_378_173 F_17_93 (PM.t hP) (PM.r hP 93 2355 rfl) ?_
    refine x_li (z := i) T_378_176 rfl ?_
    refine x_alI (z := lg A (52 + i)) T_378_178 (by decide) (PM.ta hP 2355 0 16 rfl rfl) (by omega) (by omega) (Eq.trans (PM.aS hP 2355 rfl rfl (by omega)) hx) ?_
    refine x_cv3 T_378_179 mN_351 mL_351 (Nat.le_of_ble_eq_true rfl) mO_351 (PM.t hP) (Nat.le_of_ble_eq_true rfl) (ht) ?_
    clear hP ht
    rintro _ σ ⟨rfl, hP⟩
    refine cV ?_
    refine x_inc (w := (i + 1)) (ls1 := [some (vR (some 2281)), some (vI p), some (vI e0), some (vI n0), some (vL v4), none, some (vL v6), none, some (vL v8), none, some (vI k0), some (vI b0), some (vI b1), some (vI b2), some (vI (i + 1))]) T_378_182 rfl (w32_id (by omega) (by omega)) rfl ?_
    refine x_goto T_378_185 ?_
    exact hgo σ hP
theorem m_stat_dig {e0 k0 b0 b1 b2 : Int} {v4 v6 v8 : Int} (hp : 0 ≤ p ∧ p < 8) {Q : Option AV → hM → Prop} : ∀ (m : Nat) (l : List Int) (i : Int) (σ : hM), i = 3 * (m : Int) - 3 → m ≤ 3 → PM σ0 (gOut P p l) S σ → GI T U (gOut P p l) → (∀ σ : hM, PM σ0 (gOut P p (l ++ dg3 v4 m)) S σ → GI T U (gOut P p (l ++ dg3 v4 m)) → WP fb (d + 1) 378 268 [some (vR (some 2281)), some (vI p), some (vI e0), some (vI n0), some (vL v4), none, some (vL v6), none, some (vL v8), none, some (vI k0), some (vI b0), some (vI b1), some (vI b2), some (vI (-3))] [] σ Q) → WP fb (d + 1) 378 238 [some (vR (some 2281)), some (vI p), some (vI e0), some (vI n0), some (vL v4), none, some (vL v6), none, some (vL v8), none, some (vI k0), some (vI b0), some (vI b1), some (vI b2), some (vI i)] [] σ Q := by
  intro m
  induction m with
  | zero =>
    intro l i σ h1 h2 hP hG hQ
    have hi : i = -3 := by omega
    subst hi
    have hgo := hQ σ (by rw [show dg3 v4 0 = [] from rfl, List.append_nil]; exact hP) (by rw [show dg3 v4 0 = [] from rfl, List.append_nil]; exact hG)
    refine x_li (z := (-3)) T_378_238 rfl ?_
    refine x_if T_378_240 (fun _ => ?_) (fun h => absurd (show ((-3) : Int) < 0 by omega) h)
    exact hgo
  | succ m ih =>
    intro l i σ h1 h2 hP hG hQ
    have hi : i = 3 * (m : Int) := by omega
    have hb : 0 ≤ and64 (shr64 v4 i) 7 ∧ and64 (shr64 v4 i) 7 ≤ 7 := by
      rw [and64_7]
      omega
    have e1 : l ++ dg3 v4 (m + 1) = (l ++ [48 + and64 (shr64 v4 i) 7]) ++ dg3 v4 m := by
      rw [List.append_assoc, hi]
      rfl
    rw [e1] at hQ
    obtain ⟨b, hb0⟩ : ∃ b, and64 (shr64 v4 i) 7 = b := ⟨_, rfl⟩
    rw [hb0] at hb hQ
    have ht := m_tell (fb := fb) (d := d) (b := 48 + b) hP hG.iv hp
    have hgo := fun (σ : hM) (hP : PM σ0 (gTell (gOut P p l) p (48 + b)) S σ) => ih (l ++ [48 + b]) (i + -3) σ (by omega) (by omega) (by rw [gOut_snoc]; exact hP) (GO_snoc hG hp (by omega)) hQ
    refine x_li (z := i) T_378_238 rfl ?_
    refine x_if T_378_240 (fun h => absurd (show i < 0 from h) (by omega)) (fun _ => ?_)
    refine x_lr (z := some 2281) T_378_243 rfl ?_
    refine x_li (z := p) T_378_244 rfl ?_
    refine x_lc T_378_245 ?_
    refine x_ll (z := v4) T_378_248 rfl ?_
    refine x_li (z := i) T_378_250 rfl ?_
    refine x_lh (w := (shr64 v4 i)) T_378_252 rfl ?_
    refine x_lc T_378_253 ?_
    refine x_lb (w := b) T_378_256 (fun h => absurd h.1 (by decide)) hb0 ?_
    refine x_lb (w := (48 + b)) T_378_257 (fun h => absurd h.1 (by decide)) (w64_id (by omega) (by omega)) ?_
    refine x_l2i (w := (48 + b)) T_378_258 (w32_id (by omega) (by omega)) ?_
    refine x_cv3 T_378_259 mN_351 mL_351 (Nat.le_of_ble_eq_true rfl) mO_351 (PM.t hP) (Nat.le_of_ble_eq_true rfl) (ht) ?_
    clear hP ht
    rintro _ σ ⟨rfl, hP⟩
    refine cV ?_
    refine x_inc (w := (i + (-3))) (ls1 := [some (vR (some 2281)), some (vI p), some (vI e0), some (vI n0), some (vL v4), none, some (vL v6), none, some (vL v8), none, some (vI k0), some (vI b0), some (vI b1), some (vI b2), some (vI (i + (-3)))]) T_378_262 rfl (w32_id (by omega) (by omega)) rfl ?_
    refine x_goto T_378_265 ?_
    exact hgo σ hP
end MSTAT
