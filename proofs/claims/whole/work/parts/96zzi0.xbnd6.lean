/-! The class's place: behind what is gathered. -/
theorem T_174_140 : hTab 174 140 = some ((3, 3, 2, []), 141) := rfl
theorem T_174_141 : hTab 174 141 = some ((20, 1, Int.ofNat 153, []), 144) := rfl
theorem T_174_144 : hTab 174 144 = some ((3, 5, 0, []), 146) := rfl
theorem T_174_146 : hTab 174 146 = some ((18, 0, Int.ofNat 153, []), 149) := rfl
theorem T_174_149 : hTab 174 149 = some ((0, 0, 1, []), 150) := rfl
theorem T_174_150 : hTab 174 150 = some ((22, 0, Int.ofNat 154, []), 153) := rfl
theorem T_174_153 : hTab 174 153 = some ((0, 0, 0, []), 154) := rfl
theorem T_174_154 : hTab 174 154 = some ((4, 7, 0, []), 156) := rfl
theorem T_174_156 : hTab 174 156 = some ((3, 3, 2, []), 157) := rfl
theorem T_174_157 : hTab 174 157 = some ((20, 1, Int.ofNat 182, []), 160) := rfl
theorem T_174_160 : hTab 174 160 = some ((3, 1, 2, []), 161) := rfl
theorem T_174_161 : hTab 174 161 = some ((3, 0, 2, []), 162) := rfl
theorem T_174_162 : hTab 174 162 = some ((24, 14, Int.ofNat 3, []), 165) := rfl
theorem T_174_165 : hTab 174 165 = some ((24, 5, Int.ofNat 0, []), 168) := rfl
theorem T_174_168 : hTab 174 168 = some ((3, 0, 2, []), 169) := rfl
theorem T_174_169 : hTab 174 169 = some ((24, 14, Int.ofNat 3, []), 172) := rfl
theorem T_174_172 : hTab 174 172 = some ((24, 5, Int.ofNat 2, []), 175) := rfl
theorem T_174_175 : hTab 174 175 = some ((31, 177, 0, []), 178) := rfl
theorem T_174_178 : hTab 174 178 = some ((4, 3, 2, []), 179) := rfl
theorem T_174_179 : hTab 174 179 = some ((22, 0, Int.ofNat 195, []), 182) := rfl
theorem T_174_182 : hTab 174 182 = some ((3, 5, 0, []), 184) := rfl
theorem T_174_184 : hTab 174 184 = some ((18, 1, Int.ofNat 195, []), 187) := rfl
theorem T_174_187 : hTab 174 187 = some ((3, 0, 2, []), 188) := rfl
theorem T_174_188 : hTab 174 188 = some ((24, 14, Int.ofNat 0, []), 191) := rfl
theorem T_174_191 : hTab 174 191 = some ((3, 3, 2, []), 192) := rfl
theorem T_174_192 : hTab 174 192 = some ((31, 178, 0, []), 195) := rfl
def bfV (b : Bool) : Int := bif b then 1 else 0
def bhV (b a : Bool) : Int := bif a && !b then 1 else 0
def beV (b a : Bool) : Int := bif a || b then 1 else 0
/-- what a place comes to -/
abbrev plcF (Q : qR) (g old fr mk : Int) (h : List Ch) (c2 : Ch) (b a : Bool) : qR := cJoin Q g old fr (bfV b) (bhV b a) mk h c2
section XBNI
variable {fb : Bool} {d n a0 y ga : Nat} {σ0 σ : hM} {W W0 W1 W2 W3 W5 V P P0 Q Q0 Q3 : qR} {R R0 R1 R2 R3 R5 : rR} {i j k z v s e w f g u p pt pa dr sv K T U t N C F v1 st b0 fs T0 old fr mk : Int} {x : Nw} {ns A B L nws : List Nw} {y1 y2 : Option Nat} {c1 c2 : Ch} {h : List Ch} {b a c : Bool}
theorem beV_01 : beV b a = 0 ∨ beV b a = 1 := by cases b <;> cases a <;> decide
theorem bfV_fV : fV b false false = bfV b := by cases b <;> rfl
theorem jn_new (ho : old < 0) : jnL Q h c2 old fr (bfV b) (bhV b a) mk = (if bfV b = 0 then (if beV b a = 1 then [chN c2 0] else []) ++ news Q fr mk h else news Q fr mk h ++ (if beV b a = 1 then [chN c2 0] else [])) ∧ jnW old (bfV b) (bhV b a) = beV b a := by
  have hm : mbs Q old = [] := if_pos ho
  constructor
  · unfold jnL
    rw [hm]
    cases b <;> cases a <;> simp [bfV, bhV, beV, ho]
  · unfold jnW
    cases b <;> cases a <;> simp [bfV, bhV, beV, ho]
theorem jn_bes (ho : ¬ old < 0) (hb : beV b a = 1) : jnL Q h c2 old fr (bfV b) (bhV b a) mk = (if bfV b = 0 then mbs Q old ++ news Q fr mk h else news Q fr mk h ++ mbs Q old) ∧ jnW old (bfV b) (bhV b a) = 0 ∧ jnQ Q g old (bfV b) (bhV b a) c2 = Q := by
  refine ⟨?_, ?_, ?_⟩
  · unfold jnL
    cases b <;> cases a <;> simp [bfV, bhV, beV, ho] at hb ⊢
  · unfold jnW
    exact if_neg (fun c => ho c.1)
  · unfold jnQ
    rw [if_neg ho, if_neg]
    cases b <;> cases a <;> simp [bfV, bhV, beV] at hb ⊢
theorem jn_drp (ho : ¬ old < 0) (hb : beV b a = 0) : jnL Q h c2 old fr (bfV b) (bhV b a) mk = news Q fr mk h ∧ jnW old (bfV b) (bhV b a) = 0 ∧ jnQ Q g old (bfV b) (bhV b a) c2 = kDrM old (Q 2337 old).toNat 0 Q ∧ bfV b = 0 := by
  refine ⟨?_, ?_, ?_, ?_⟩
  · unfold jnL
    cases b <;> cases a <;> simp [bfV, bhV, beV, ho] at hb ⊢
  · unfold jnW
    exact if_neg (fun c => ho c.1)
  · unfold jnQ
    rw [if_neg ho, if_pos]
    cases b <;> cases a <;> simp [bfV, bhV, beV] at hb ⊢
  · cases b <;> cases a <;> simp [bfV, bhV, beV] at hb ⊢
/-- channel two, as place needs it -/
def TWO (W : qR) (c : Ch) : Prop := W 2179 2160 = c.1 ∧ W 2179 2161 = c.2.1 ∧ W 2179 2162 = c.2.2.1 ∧ W 2179 2163 = if c.2.2.2.1 = 128 then 1 else 0
theorem TWO.fr2 (h : TWO W c2) (hW : ∀ k : Int, k ≠ 2198 → W2 2179 k = W 2179 k) : TWO W2 c2 := ⟨(hW _ (by decide)).trans h.1, (hW _ (by decide)).trans h.2.1, (hW _ (by decide)).trans h.2.2.1, (hW _ (by decide)).trans h.2.2.2⟩
theorem XCM.base {A : Int × qR × List Ch} {V4 : rR} {r : Option AV} (hF : FCM W V R V4) (hT : T ≤ T0) (h : XCM σ0 K T U V V4 A r σ) : XCM σ0 K T0 U W R A r σ := by
  obtain ⟨rfl, W5, R5, g1, g2, g3⟩ := h
  exact ⟨rfl, W5, R5, g1, g2.mono hT, FCM_tr hF g3⟩
theorem pl_140n (hP : PX σ0 W R σ) (hX : XW K T U W R Q) (hg : 0 ≤ g ∧ g < 8) (hT : T + 200 ≤ 2147483000) (h2 : TWO W c2) (hr2 : chR c2) (hx2 : nwK T (chN c2 0)) (hCP : CPS W nws) (hnw : nws = news Q fr mk h) (hx : ∀ x ∈ nws, nwK T x) (hn1 : 1 ≤ nws.length) (hlen : (jnL Q h c2 old fr (bfV b) (bhV b a) mk).length ≤ 6) (ho : old < 0) (hnew : Q 2334 g < 8) (hF1 : and32 F 1 = bfV b) : WP fb (d + 10) 174 140 [some (vR (some 2175)), some (vR (some (grO g))), some (vI F), some (vR none), some (vR y1), some (vI (beV b a)), some (vI 0), none, none, none] [] σ (XCM σ0 K (T + 28) U W R (0, plcF Q g old fr mk h c2 b a, [])) := by
  obtain ⟨C, hC⟩ : ∃ C, Q 2334 g = C := ⟨_, rfl⟩
  rw [hC] at hnew
  have hpb : 0 ≤ Q 2334 g ∧ Q 2334 g ≤ 8 := IV.a hX.1.2.2.2.1.iv 2334 0 8 rfl rfl rfl (by omega) (by omega)
  rw [hC] at hpb
  obtain ⟨y, hy, hY, hPL, hPT, hGF⟩ := plc_new (s := c2.1) (pa := c2.2.2.1) hX hg hC hnew hr2.1 hx2.2.2.1
  have hgr := hX.1.2.2.1.2.1 g hg.1 hg.2
  have hgo3 := grO_o hg
  have hrg := grO_rng hg
  have hyo := hY.1
  have hyr := hY.2.2.1
  obtain ⟨e1, e2⟩ := jn_new (Q := Q) (h := h) (c2 := c2) (fr := fr) (mk := mk) (b := b) (a := a) ho
  have eF : plcF Q g old fr mk h c2 b a = (if beV b a = 1 then jnP (rU (rU (rU Q 2334 g (C + 1)) 2335 (8 * g + C) c2.1) 2336 (8 * g + C) c2.2.2.1) (8 * g + C) (if bfV b = 0 then (if beV b a = 1 then [chN c2 0] else []) ++ nws else nws ++ (if beV b a = 1 then [chN c2 0] else [])) else kDrop (jnP (rU (rU (rU Q 2334 g (C + 1)) 2335 (8 * g + C) c2.1) 2336 (8 * g + C) c2.2.2.1) (8 * g + C) (if bfV b = 0 then (if beV b a = 1 then [chN c2 0] else []) ++ nws else nws ++ (if beV b a = 1 then [chN c2 0] else []))) c2) := by
    show cJn (jnQ Q g old (bfV b) (bhV b a) c2) (jnPt Q g old) (jnL Q h c2 old fr (bfV b) (bhV b a) mk) c2 (jnW old (bfV b) (bhV b a)) = _
    rw [e1, e2, ← hnw]
    have eq1 : jnQ Q g old (bfV b) (bhV b a) c2 = rU (rU (rU Q 2334 g (C + 1)) 2335 (8 * g + C) c2.1) 2336 (8 * g + C) c2.2.2.1 := by
      unfold jnQ
      rw [if_pos ho, hC]
    have eq2 : jnPt Q g old = 8 * g + C := by
      unfold jnPt
      rw [if_pos ho, hC]
    rw [eq1, eq2]
    rfl
  rw [eF]
  have hb01 := beV_01 (b := b) (a := a)
  have hlen2 : beV b a + ((0 : Nat) : Int) + nws.length ≤ 6 := by
    rw [e1, ← hnw] at hlen
    have l0 : (List.nil : List Nw).length = 0 := rfl
    have l1 : [chN c2 0].length = 1 := rfl
    rcases hb01 with q | q
    · by_cases q3 : bfV b = 0
      · rw [if_pos q3, if_neg (show ¬ beV b a = 1 by rw [q]; decide), List.length_append] at hlen
        omega
      · rw [if_neg q3, if_neg (show ¬ beV b a = 1 by rw [q]; decide), List.length_append] at hlen
        omega
    · by_cases q3 : bfV b = 0
      · rw [if_pos q3, if_pos q, List.length_append] at hlen
        omega
      · rw [if_neg q3, if_pos q, List.length_append] at hlen
        omega
  obtain ⟨m1, m2, m3, m4⟩ := id h2
  obtain ⟨s, hs⟩ : ∃ q, c2.1 = q := ⟨_, rfl⟩
  obtain ⟨pa, hpa⟩ : ∃ q, c2.2.2.1 = q := ⟨_, rfl⟩
  have m1s := m1.trans hs
  have m3s := m3.trans hpa
  have hac := x_addG (fb := fb) (d := d + 9) (s := s) (pa := pa) hP hg (hgr.1.trans hC) ⟨hpb.1, hnew⟩ hy hyo
  have hCP2 : CPS (rU (rU (rU (rU W (grO g) 2097 (C + 1)) y 2129 c2.1) y 2130 c2.2.2.1) y 2131 0) nws := ⟨(hGF.1 _ _ (Or.inl (by omega))).trans hCP.1, fun j j0 j1 => (hCP.2 j j0 j1).eqv (fun k _ => hGF.1 _ _ (Or.inl (by omega)))⟩
  have h2V := h2.fr2 (W2 := rU (rU (rU (rU W (grO g) 2097 (C + 1)) y 2129 c2.1) y 2130 c2.2.2.1) y 2131 0) (fun k _ => hGF.1 _ _ (Or.inl (by omega)))
  obtain ⟨n1, n2, n3, n4⟩ := h2V
  have hgo := fun (σ : hM) (hP : PX σ0 (rU (rU (rU (rU W (grO g) 2097 (C + 1)) y 2129 c2.1) y 2130 c2.2.2.1) y 2131 0) R σ) => WP.mono (pl_195 (fb := fb) (d := d) (c2 := c2) (L := []) (st := beV b a) (y1 := y1) (b0 := beV b a) (F := F) (v1 := bfV b) hP hX hPL hg (by omega) hY (grO_o hg) hPT hCP2 (hb01.imp id (fun q => ⟨q, rfl⟩)) hlen2 hn1 hx (fun x hx => absurd hx List.not_mem_nil) hx2 n1 n2 n3 n4 hr2 hF1) (fun r σ1 hr => XCM.base (T0 := T + 28) (GRF_fcm hg hGF) (by omega) hr)
  rw [hs, hpa] at hgo
  obtain ⟨B, hB⟩ : ∃ B, beV b a = B := ⟨_, rfl⟩
  simp only [hB] at hgo hb01 ⊢
  obtain ⟨ga, hga⟩ : ∃ q, grO g = q := ⟨_, rfl⟩
  simp only [hga] at hgo hac hgo3 ⊢
  rw [hs, hpa]
  rcases hb01 with rfl | rfl
  · skip
    refine x_lr (z := none) T_174_140 rfl ?_
    refine x_nnul T_174_141 (fun a0 h0 => absurd h0 (by simp)) (fun _ => ?_)
    refine x_li (z := 0) T_174_144 rfl ?_
    refine x_if T_174_146 (fun _ => ?_) (fun h => absurd (show (0 : Int) = 0 by decide) h)
    refine x_ic T_174_153 ?_
    refine x_si (ls1 := [some (vR (some 2175)), some (vR (some ga)), some (vI F), some (vR none), some (vR y1), some (vI 0), some (vI 0), some (vI 0), none, none]) T_174_154 rfl ?_
    refine x_lr (z := none) T_174_156 rfl ?_
    refine x_nnul T_174_157 (fun a0 h0 => absurd h0 (by simp)) (fun _ => ?_)
    refine x_lr (z := some ga) T_174_160 rfl ?_
    refine x_lr (z := some 2175) T_174_161 rfl ?_
    refine x_gR (z := some 2179) T_174_162 F_14_3 (hP.o xo_2175) (hP.rc xo_2175 rfl rfl) ?_
    refine x_gI (z := s) T_174_165 (Or.inl F_5_0) (hP.o xo_2179) (Eq.trans (hP.gi xo_2179 (key := 2160) rfl) m1s) ?_
    refine x_lr (z := some 2175) T_174_168 rfl ?_
    refine x_gR (z := some 2179) T_174_169 F_14_3 (hP.o xo_2175) (hP.rc xo_2175 rfl rfl) ?_
    refine x_gI (z := pa) T_174_172 (Or.inl F_5_2) (hP.o xo_2179) (Eq.trans (hP.gi xo_2179 (key := 2162) rfl) m3s) ?_
    refine x_cv3 T_174_175 mN_177 mL_177 (Nat.le_of_ble_eq_true rfl) mO_177 (hP.o hgo3) (Nat.le_of_ble_eq_true rfl) (hac) ?_
    clear hP hac
    rintro _ σ ⟨rfl, hP⟩
    refine cR ?_
    refine x_sr (ls1 := [some (vR (some 2175)), some (vR (some ga)), some (vI F), some (vR (some y)), some (vR y1), some (vI 0), some (vI 0), some (vI 0), none, none]) T_174_178 rfl ?_
    refine x_goto T_174_179 ?_
    exact hgo σ hP
  · skip
    refine x_lr (z := none) T_174_140 rfl ?_
    refine x_nnul T_174_141 (fun a0 h0 => absurd h0 (by simp)) (fun _ => ?_)
    refine x_li (z := 1) T_174_144 rfl ?_
    refine x_if T_174_146 (fun h => absurd (show (1 : Int) = 0 from h) (by decide)) (fun _ => ?_)
    refine x_ic T_174_149 ?_
    refine x_goto T_174_150 ?_
    refine x_si (ls1 := [some (vR (some 2175)), some (vR (some ga)), some (vI F), some (vR none), some (vR y1), some (vI 1), some (vI 0), some (vI 1), none, none]) T_174_154 rfl ?_
    refine x_lr (z := none) T_174_156 rfl ?_
    refine x_nnul T_174_157 (fun a0 h0 => absurd h0 (by simp)) (fun _ => ?_)
    refine x_lr (z := some ga) T_174_160 rfl ?_
    refine x_lr (z := some 2175) T_174_161 rfl ?_
    refine x_gR (z := some 2179) T_174_162 F_14_3 (hP.o xo_2175) (hP.rc xo_2175 rfl rfl) ?_
    refine x_gI (z := s) T_174_165 (Or.inl F_5_0) (hP.o xo_2179) (Eq.trans (hP.gi xo_2179 (key := 2160) rfl) m1s) ?_
    refine x_lr (z := some 2175) T_174_168 rfl ?_
    refine x_gR (z := some 2179) T_174_169 F_14_3 (hP.o xo_2175) (hP.rc xo_2175 rfl rfl) ?_
    refine x_gI (z := pa) T_174_172 (Or.inl F_5_2) (hP.o xo_2179) (Eq.trans (hP.gi xo_2179 (key := 2162) rfl) m3s) ?_
    refine x_cv3 T_174_175 mN_177 mL_177 (Nat.le_of_ble_eq_true rfl) mO_177 (hP.o hgo3) (Nat.le_of_ble_eq_true rfl) (hac) ?_
    clear hP hac
    rintro _ σ ⟨rfl, hP⟩
    refine cR ?_
    refine x_sr (ls1 := [some (vR (some 2175)), some (vR (some ga)), some (vI F), some (vR (some y)), some (vR y1), some (vI 1), some (vI 0), some (vI 1), none, none]) T_174_178 rfl ?_
    refine x_goto T_174_179 ?_
    exact hgo σ hP
theorem pl_140o (hP : PX σ0 W R σ) (hX : XW K T U W R Q) (hg : 0 ≤ g ∧ g < 8) (hT : T + 200 ≤ 2147483000) (h2 : TWO W c2) (hr2 : chR c2) (hx2 : nwK T (chN c2 0)) (hCP : CPS W nws) (hnw : nws = news Q fr mk h) (hx : ∀ x ∈ nws, nwK T x) (hn1 : 1 ≤ nws.length) (hlen : (jnL Q h c2 (8 * g + k) fr (bfV b) (bhV b a) mk).length ≤ 6) (hk : 0 ≤ k ∧ k < Q 2334 g) (hy : R (grO g + 1) k = some y) (hF1 : and32 F 1 = bfV b) : WP fb (d + 10) 174 140 [some (vR (some 2175)), some (vR (some (grO g))), some (vI F), some (vR (some y)), some (vR y1), some (vI (beV b a)), some (vI 0), none, none, none] [] σ (XCM σ0 K (T + 28) U W R (0, plcF Q g (8 * g + k) fr mk h c2 b a, [])) := by
  have hI := hX.1.2.2.2.1.iv
  have hpb : 0 ≤ Q 2334 g ∧ Q 2334 g ≤ 8 := IV.a hI 2334 0 8 rfl rfl rfl (by omega) (by omega)
  have hgr := hX.1.2.2.1.2.1 g hg.1 hg.2
  obtain ⟨hPT, -, hY⟩ := PTL_old hgr hI hg hk hy
  have hgo3 := grO_o hg
  have hrg := grO_rng hg
  have hyo := hY.1
  have hyr := hY.2.2.1
  have ho : ¬ 8 * g + k < 0 := by omega
  obtain ⟨n1, n2, n3, n4⟩ := id h2
  rcases beV_01 (b := b) (a := a) with q | q
  · -- the members go first
    obtain ⟨e1, e2, e3, e4⟩ := jn_drp (Q := Q) (g := g) (h := h) (c2 := c2) (fr := fr) (mk := mk) (b := b) (a := a) ho q
    rw [e1, ← hnw] at hlen
    have eF : plcF Q g (8 * g + k) fr mk h c2 b a = kDrop (jnP (kDrM (8 * g + k) (Q 2337 (8 * g + k)).toNat 0 Q) (8 * g + k) nws) c2 := by
      show cJn (jnQ Q g (8 * g + k) (bfV b) (bhV b a) c2) (jnPt Q g (8 * g + k)) (jnL Q h c2 (8 * g + k) fr (bfV b) (bhV b a) mk) c2 (jnW (8 * g + k) (bfV b) (bhV b a)) = _
      rw [e1, e2, e3, ← hnw]
      have eq2 : jnPt Q g (8 * g + k) = 8 * g + k := if_neg ho
      rw [eq2]
      rfl
    rw [eF, q]
    obtain ⟨y0, hy0, hPM⟩ := PTM_of hgr hg hI hk
    have : y0 = y := Option.some.inj (hy0.symm.trans hy)
    subst this
    have hcm := x_clunkM (fb := fb) (d := d + 1) hP hX.mid hPM ⟨by omega, by omega⟩ rfl (by omega)
    have hgo := fun (σ : hM) (V5 : qR) (V6 : rR) (hP : PX σ0 V5 V6 σ) (hMX : XM K (T + 24) U V5 V6 (kDrM (8 * g + k) (Q 2337 (8 * g + k)).toNat 0 Q)) (hF : FCL y0 W V5 R V6) (h31 : V5 y0 2131 = 0) => by
      obtain ⟨hPL, hPT5⟩ := plc_drp (T0 := T + 24) hX hg hk hy (kDrM_kf _ _ _) (by omega) hMX hF h31
      have hw : ∀ (x : Nat) (k : Int), 2175 ≤ x → x < 2372 → k ≠ 2198 → V5 x k = W x k := fun x k a b c => hF.1 x k (by omega) (Or.inr a) b c (by omega)
      have h2V := h2.fr2 (W2 := V5) (fun k hk => hw _ _ (by decide) (by decide) hk)
      exact WP.mono (pl_195 (fb := fb) (d := d) (c2 := c2) (L := []) (st := 0) (y1 := y1) (b0 := 0) (F := F) (v1 := bfV b) hP hX hPL hg (by omega) hY (grO_o hg) hPT5 ⟨(hw _ _ (by decide) (by decide) (by decide)).trans hCP.1, fun j j0 j1 => (hCP.2 j j0 j1).eqv (fun k hk => hw _ _ (by omega) (by omega) hk)⟩ (Or.inl rfl) (by show (0 : Int) + ((0 : Nat) : Int) + nws.length ≤ 6; omega) hn1 (fun x hm => by
        obtain ⟨z1, z2, z3, z4, z5⟩ := hx x hm
        exact ⟨z1, z2, ⟨z3.1, by omega⟩, z4, z5⟩) (fun x hx => absurd hx List.not_mem_nil) (by
        obtain ⟨z1, z2, z3, z4, z5⟩ := hx2
        exact ⟨z1, z2, ⟨z3.1, by omega⟩, z4, z5⟩) h2V.1 h2V.2.1 h2V.2.2.1 h2V.2.2.2 hr2 hF1) (fun r σ1 hr => XCM.base (T0 := T + 28) ⟨fun x k a b c => hw x k (by omega) b c, fun x k a => hF.2 x k (Or.inr (by omega))⟩ (by omega) hr)
    rw [e4] at hgo
    simp only [if_neg (show ¬ (0 : Int) = 1 by decide), if_true, List.nil_append] at hgo
    obtain ⟨P5, hP5⟩ : ∃ q, kDrM (8 * g + k) (Q 2337 (8 * g + k)).toNat 0 Q = q := ⟨_, rfl⟩
    simp only [hP5] at hcm hgo ⊢
    obtain ⟨ga, hga⟩ : ∃ q, grO g = q := ⟨_, rfl⟩
    simp only [hga] at hgo hgo3 ⊢
    refine x_lr (z := some y0) T_174_140 rfl ?_
    refine x_nnul T_174_141 (fun _ _ => ?_) (fun h0 => absurd h0 (by simp))
    refine x_ic T_174_153 ?_
    refine x_si (ls1 := [some (vR (some 2175)), some (vR (some ga)), some (vI F), some (vR (some y0)), some (vR y1), some (vI 0), some (vI 0), some (vI 0), none, none]) T_174_154 rfl ?_
    refine x_lr (z := some y0) T_174_156 rfl ?_
    refine x_nnul T_174_157 (fun _ _ => ?_) (fun h0 => absurd h0 (by simp))
    refine x_li (z := 0) T_174_182 rfl ?_
    refine x_if T_174_184 (fun h => absurd (show ¬ (0 : Int) = 0 from h) (by decide)) (fun _ => ?_)
    refine x_lr (z := some 2175) T_174_187 rfl ?_
    refine x_gR (z := some 129) T_174_188 F_14_0 (hP.o xo_2175) (hP.rc xo_2175 rfl rfl) ?_
    refine x_lr (z := some y0) T_174_191 rfl ?_
    refine x_cv2 T_174_192 mN_178 mL_178 (Nat.le_of_ble_eq_true rfl) mO_178 (hP.o xo_129) (Nat.le_of_ble_eq_true rfl) (hcm) ?_
    clear hP hcm
    rintro _ σ ⟨rfl, V5, V6, hP, hX5, hF5, h31⟩
    refine cV ?_
    exact hgo σ V5 V6 hP hX5 hF5 h31
  · obtain ⟨e1, e2, e3⟩ := jn_bes (Q := Q) (g := g) (h := h) (c2 := c2) (fr := fr) (mk := mk) (b := b) (a := a) ho q
    have eF : plcF Q g (8 * g + k) fr mk h c2 b a = kDrop (jnP Q (8 * g + k) (if bfV b = 0 then mbs Q (8 * g + k) ++ nws else nws ++ mbs Q (8 * g + k))) c2 := by
      show cJn (jnQ Q g (8 * g + k) (bfV b) (bhV b a) c2) (jnPt Q g (8 * g + k)) (jnL Q h c2 (8 * g + k) fr (bfV b) (bhV b a) mk) c2 (jnW (8 * g + k) (bfV b) (bhV b a)) = _
      rw [e1, e2, e3, ← hnw]
      have eq2 : jnPt Q g (8 * g + k) = 8 * g + k := if_neg ho
      rw [eq2]
      rfl
    rw [eF, q]
    have hlen2 : (0 : Int) + ((mbs Q (8 * g + k)).length : Int) + nws.length ≤ 6 := by
      rw [e1, ← hnw] at hlen
      split at hlen <;> (rw [List.length_append] at hlen; omega)
    have hPL := plc_old hX hg hk hy
    have hgo := fun (σ : hM) (hP : PX σ0 W R σ) => WP.mono (pl_195 (fb := fb) (d := d) (c2 := c2) (L := mbs Q (8 * g + k)) (st := 0) (y1 := y1) (b0 := 1) (F := F) (v1 := bfV b) hP hX hPL hg (by omega) hY (grO_o hg) hPT hCP (Or.inl rfl) hlen2 hn1 hx (nwK_mbs hX.1.2.2.2.1 ⟨by omega, by omega⟩) hx2 n1 n2 n3 n4 hr2 hF1) (fun r σ1 hr => XCM.base (T0 := T + 28) FCM_rfl (by omega) hr)
    simp only [if_neg (show ¬ (0 : Int) = 1 by decide)] at hgo
    obtain ⟨ga, hga⟩ : ∃ q, grO g = q := ⟨_, rfl⟩
    simp only [hga] at hgo hgo3 ⊢
    refine x_lr (z := some y) T_174_140 rfl ?_
    refine x_nnul T_174_141 (fun _ _ => ?_) (fun h0 => absurd h0 (by simp))
    refine x_ic T_174_153 ?_
    refine x_si (ls1 := [some (vR (some 2175)), some (vR (some ga)), some (vI F), some (vR (some y)), some (vR y1), some (vI 1), some (vI 0), some (vI 0), none, none]) T_174_154 rfl ?_
    refine x_lr (z := some y) T_174_156 rfl ?_
    refine x_nnul T_174_157 (fun _ _ => ?_) (fun h0 => absurd h0 (by simp))
    refine x_li (z := 1) T_174_182 rfl ?_
    refine x_if T_174_184 (fun _ => ?_) (fun h => absurd (show ¬ (1 : Int) = 0 by decide) h)
    exact hgo σ hP
end XBNI
