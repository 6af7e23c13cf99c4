/-! What the reference's servers answer: a wstat, put together. -/
theorem T_302_220 : hTab 302 220 = some ((3, 0, 2, []), 221) := rfl
theorem T_302_221 : hTab 302 221 = some ((24, 17, Int.ofNat 9, []), 224) := rfl
theorem T_302_224 : hTab 302 224 = some ((18, 1, Int.ofNat 259, []), 227) := rfl
theorem T_302_227 : hTab 302 227 = some ((3, 0, 2, []), 228) := rfl
theorem T_302_228 : hTab 302 228 = some ((24, 17, Int.ofNat 8, []), 231) := rfl
theorem T_302_231 : hTab 302 231 = some ((3, 0, 2, []), 232) := rfl
theorem T_302_232 : hTab 302 232 = some ((24, 17, Int.ofNat 4, []), 235) := rfl
theorem T_302_235 : hTab 302 235 = some ((19, 1, Int.ofNat 259, []), 238) := rfl
theorem T_302_238 : hTab 302 238 = some ((3, 6, 0, []), 240) := rfl
theorem T_302_240 : hTab 302 240 = some ((3, 5, 0, []), 242) := rfl
theorem T_302_242 : hTab 302 242 = some ((0, 0, 2, []), 243) := rfl
theorem T_302_243 : hTab 302 243 = some ((10, 1, 0, []), 244) := rfl
theorem T_302_244 : hTab 302 244 = some ((19, 1, Int.ofNat 259, []), 247) := rfl
theorem T_302_247 : hTab 302 247 = some ((3, 5, 0, []), 249) := rfl
theorem T_302_249 : hTab 302 249 = some ((3, 0, 2, []), 250) := rfl
theorem T_302_250 : hTab 302 250 = some ((24, 17, Int.ofNat 4, []), 253) := rfl
theorem T_302_253 : hTab 302 253 = some ((0, 0, 13, []), 255) := rfl
theorem T_302_255 : hTab 302 255 = some ((10, 1, 0, []), 256) := rfl
theorem T_302_256 : hTab 302 256 = some ((19, 0, Int.ofNat 266, []), 259) := rfl
theorem T_302_259 : hTab 302 259 = some ((3, 0, 2, []), 260) := rfl
theorem T_302_260 : hTab 302 260 = some ((0, 0, 14, []), 262) := rfl
theorem T_302_262 : hTab 302 262 = some ((31, 235, 0, []), 265) := rfl
theorem T_302_265 : hTab 302 265 = some ((33, 0, 0, []), 266) := rfl
def wsO (a : Int → Int) : Int := if ¬ nu a 42 4 = 4294967295 ∨ ¬ nu a 38 4 = 4294967295 ∨ ¬ w64 (nu a 26 8) = -1 ∨ ¬ nu a 22 4 = 4294967295 ∨ ¬ nu a 21 1 = 255 ∨ ¬ nu a 17 4 = 4294967295 ∨ ¬ nu a 15 2 = 65535 then 1 else 0
def wsY (a : Int → Int) (z : Int) (i : Nat) : Int × Int := (wkS a z 4 54).getD i (0, 0)
def wsN (a : Int → Int) (z : Int) : List Int := seg a (wsY a z 0).1 (wsY a z 0).2.toNat
def wsE (P : qR) (s c : Int) (a : Int → Int) (z : Int) : Int := if ¬ (54 ≤ z ∧ wkE a z 4 54 = z ∧ nu a 13 2 = nu a 11 2 - 2 ∧ nu a 11 2 = z - 13) then 14 else wsX P s (qFid P s c (nu a 7 4)) (wsO a) ((wsY a z 1).2 + (wsY a z 2).2 + (wsY a z 3).2) (wsY a z 0).2 (nu a 34 4) (w64 (nu a 46 8)) (wsN a z)
def wsQ (P : qR) (s c : Int) (a : Int → Int) (z : Int) : qR := wsP P s (qFid P s c (nu a 7 4)) (wsY a z 0).2 (nu a 34 4) (w64 (nu a 46 8)) (wsN a z)
section MWSTAT4
variable {fb : Bool} {d : Nat} {σ0 σ : hM} {P Q S S1 : qR} {T U s n u c t p z : Int} {st : List (Int × Int)} {q0 q1 q2 q3 : Int × Int}
theorem m_wst_mid {v sz oth md ln i q : Int} (hP : PM σ0 P S1 σ) (hR : RS T U S S1 q st) (hn : 0 ≤ n ∧ n ≤ 65535) (h : q < 0 ∨ (0 ≤ q ∧ ¬ (q = S 2281 4 ∧ sz = n - 2 ∧ n = S 2281 4 - 13))) : WP fb (d + 6) 302 220 [some (vR (some 2281)), some (vI s), some (vI c), some (vL v), none, some (vI n), some (vI sz), some (vI oth), some (vL md), none, some (vL ln), none, some (vI i), none, none] [] σ (SV T U σ0 S P 14 127 []) := by
  have hsz := hR.sz
  have hzb := hR.pb
  rcases h with h | h
  · have hbd : S1 2281 9 = 1 := hR.2.2.1.trans (if_pos h)
    refine x_lr (z := some 2281) T_302_220 rfl ?_
    refine x_gI (z := 1) T_302_221 (Or.inr (Or.inl F_17_9)) (PM.t hP) (Eq.trans (PM.nS hP 2281 9 9 rfl rfl rfl) hbd) ?_
    refine x_if T_302_224 (fun _ => ?_) (fun h => absurd (show ¬ (1 : Int) = 0 by decide) h)
    refine x_lr (z := some 2281) T_302_259 rfl ?_
    refine x_ic T_302_260 ?_
    refine x_cv2 T_302_262 mN_235 mL_235 (Nat.le_of_ble_eq_true rfl) mO_235 (PM.t hP) (Nat.le_of_ble_eq_true rfl) (m_refuse hP (by omega)) ?_
    rintro _ σ ⟨rfl, hP⟩
    refine cV ?_
    refine x_rv T_302_265 ?_
    exact SV_no hP hR (by decide)
  · have hbd : S1 2281 9 = 0 := hR.2.2.1.trans (if_neg (by omega))
    have hat : S1 2281 8 = q := hR.2.2.2.1.trans (if_neg (by omega))
    refine x_lr (z := some 2281) T_302_220 rfl ?_
    refine x_gI (z := 0) T_302_221 (Or.inr (Or.inl F_17_9)) (PM.t hP) (Eq.trans (PM.nS hP 2281 9 9 rfl rfl rfl) hbd) ?_
    refine x_if T_302_224 (fun h => absurd (show ¬ (0 : Int) = 0 from h) (by decide)) (fun _ => ?_)
    refine x_lr (z := some 2281) T_302_227 rfl ?_
    refine x_gI (z := q) T_302_228 (Or.inl F_17_8) (PM.t hP) (Eq.trans (PM.nS hP 2281 8 8 rfl rfl rfl) hat) ?_
    refine x_lr (z := some 2281) T_302_231 rfl ?_
    refine x_gI (z := S 2281 4) T_302_232 (Or.inl F_17_4) (PM.t hP) (Eq.trans (PM.nS hP 2281 4 4 rfl rfl rfl) hsz) ?_
    refine x_ic2 T_302_235 (fun h235 => ?_) (fun h235 => ?_)
    · replace h235 : ¬ q = S 2281 4 := h235
      refine x_lr (z := some 2281) T_302_259 rfl ?_
      refine x_ic T_302_260 ?_
      refine x_cv2 T_302_262 mN_235 mL_235 (Nat.le_of_ble_eq_true rfl) mO_235 (PM.t hP) (Nat.le_of_ble_eq_true rfl) (m_refuse hP (by omega)) ?_
      rintro _ σ ⟨rfl, hP⟩
      refine cV ?_
      refine x_rv T_302_265 ?_
      exact SV_no hP hR (by decide)
    · replace h235 : ¬ (¬ q = S 2281 4) := h235
      refine x_li (z := sz) T_302_238 rfl ?_
      refine x_li (z := n) T_302_240 rfl ?_
      refine x_ic T_302_242 ?_
      refine x_ib (w := (n - 2)) T_302_243 (fun h => absurd h.1 (by decide)) (w32_id (by omega) (by omega)) ?_
      refine x_ic2 T_302_244 (fun h244 => ?_) (fun h244 => ?_)
      · replace h244 : ¬ sz = (n - 2) := h244
        refine x_lr (z := some 2281) T_302_259 rfl ?_
        refine x_ic T_302_260 ?_
        refine x_cv2 T_302_262 mN_235 mL_235 (Nat.le_of_ble_eq_true rfl) mO_235 (PM.t hP) (Nat.le_of_ble_eq_true rfl) (m_refuse hP (by omega)) ?_
        rintro _ σ ⟨rfl, hP⟩
        refine cV ?_
        refine x_rv T_302_265 ?_
        exact SV_no hP hR (by decide)
      · replace h244 : ¬ (¬ sz = (n - 2)) := h244
        refine x_li (z := n) T_302_247 rfl ?_
        refine x_lr (z := some 2281) T_302_249 rfl ?_
        refine x_gI (z := S 2281 4) T_302_250 (Or.inl F_17_4) (PM.t hP) (Eq.trans (PM.nS hP 2281 4 4 rfl rfl rfl) hsz) ?_
        refine x_ic T_302_253 ?_
        refine x_ib (w := (S 2281 4 - 13)) T_302_255 (fun h => absurd h.1 (by decide)) (w32_id (by omega) (by omega)) ?_
        refine x_ic2 T_302_256 (fun h256 => ?_) (fun h256 => ?_)
        · replace h256 : n = (S 2281 4 - 13) := h256
          exact absurd (show q = S 2281 4 ∧ sz = n - 2 ∧ n = S 2281 4 - 13 by omega) h.2
        · replace h256 : ¬ (n = (S 2281 4 - 13)) := h256
          refine x_lr (z := some 2281) T_302_259 rfl ?_
          refine x_ic T_302_260 ?_
          refine x_cv2 T_302_262 mN_235 mL_235 (Nat.le_of_ble_eq_true rfl) mO_235 (PM.t hP) (Nat.le_of_ble_eq_true rfl) (m_refuse hP (by omega)) ?_
          rintro _ σ ⟨rfl, hP⟩
          refine cV ?_
          refine x_rv T_302_265 ?_
          exact SV_no hP hR (by decide)
theorem m_wst_mid2 {v sz oth md ln i q : Int} {Q : Option AV → hM → Prop} (hP : PM σ0 P S1 σ) (hR : RS T U S S1 q st) (hn : 0 ≤ n ∧ n ≤ 65535) (h : 0 ≤ q ∧ q = S 2281 4 ∧ sz = n - 2 ∧ n = S 2281 4 - 13) (hQ : WP fb (d + 6) 302 266 [some (vR (some 2281)), some (vI s), some (vI c), some (vL v), none, some (vI n), some (vI sz), some (vI oth), some (vL md), none, some (vL ln), none, some (vI i), none, none] [] σ Q) : WP fb (d + 6) 302 220 [some (vR (some 2281)), some (vI s), some (vI c), some (vL v), none, some (vI n), some (vI sz), some (vI oth), some (vL md), none, some (vL ln), none, some (vI i), none, none] [] σ Q := by
  have hsz := hR.sz
  have hzb := hR.pb
  have hbd : S1 2281 9 = 0 := hR.2.2.1.trans (if_neg (by omega))
  have hat : S1 2281 8 = q := hR.2.2.2.1.trans (if_neg (by omega))
  refine x_lr (z := some 2281) T_302_220 rfl ?_
  refine x_gI (z := 0) T_302_221 (Or.inr (Or.inl F_17_9)) (PM.t hP) (Eq.trans (PM.nS hP 2281 9 9 rfl rfl rfl) hbd) ?_
  refine x_if T_302_224 (fun h => absurd (show ¬ (0 : Int) = 0 from h) (by decide)) (fun _ => ?_)
  refine x_lr (z := some 2281) T_302_227 rfl ?_
  refine x_gI (z := q) T_302_228 (Or.inl F_17_8) (PM.t hP) (Eq.trans (PM.nS hP 2281 8 8 rfl rfl rfl) hat) ?_
  refine x_lr (z := some 2281) T_302_231 rfl ?_
  refine x_gI (z := S 2281 4) T_302_232 (Or.inl F_17_4) (PM.t hP) (Eq.trans (PM.nS hP 2281 4 4 rfl rfl rfl) hsz) ?_
  refine x_ic2 T_302_235 (fun h => absurd (show ¬ q = S 2281 4 from h) (by omega)) (fun _ => ?_)
  refine x_li (z := sz) T_302_238 rfl ?_
  refine x_li (z := n) T_302_240 rfl ?_
  refine x_ic T_302_242 ?_
  refine x_ib (w := (n - 2)) T_302_243 (fun h => absurd h.1 (by decide)) (w32_id (by omega) (by omega)) ?_
  refine x_ic2 T_302_244 (fun h => absurd (show ¬ sz = (n - 2) from h) (by omega)) (fun _ => ?_)
  refine x_li (z := n) T_302_247 rfl ?_
  refine x_lr (z := some 2281) T_302_249 rfl ?_
  refine x_gI (z := S 2281 4) T_302_250 (Or.inl F_17_4) (PM.t hP) (Eq.trans (PM.nS hP 2281 4 4 rfl rfl rfl) hsz) ?_
  refine x_ic T_302_253 ?_
  refine x_ib (w := (S 2281 4 - 13)) T_302_255 (fun h => absurd h.1 (by decide)) (w32_id (by omega) (by omega)) ?_
  refine x_ic2 T_302_256 (fun _ => ?_) (fun h => absurd (show n = (S 2281 4 - 13) by omega) h)
  exact hQ
theorem m_serveWstat (hP : PM σ0 P S1 σ) (hR : RS T U S S1 7 []) (hI : IV false T U P) (hT : T ≤ 2147483000) (hs : 0 ≤ s ∧ s < 3) (hc : 0 ≤ c ∧ c < 2) (h0 : S 2281 7 = 0) : CL fb (d + 6) 302 [vR (some 2281), vI s, vI c] σ (SV T U σ0 S (if wsE P s c (S 2285) (S 2281 4) = 0 then wsQ P s c (S 2285) (S 2281 4) else P) (wsE P s c (S 2285) (S 2281 4)) 127 []) := by
  obtain ⟨hz0, hz1, hb⟩ := hR.pb
  by_cases h54 : 54 ≤ S 2281 4
  · have nk : ∀ (q : Int) (m : Nat), m ≤ 7 → 0 ≤ q → q + m ≤ 54 → nv (S 2285) (S 2281 4) q m = nu (S 2285) q m := fun q m h1 h2 h3 => (nv_ok h1 ⟨h2, by omega⟩ hb).1
    have n8 : ∀ q : Int, 0 ≤ q → q + 8 ≤ 54 → nv (S 2285) (S 2281 4) q 8 = w64 (nu (S 2285) q 8) := fun q h2 h3 => if_neg (by omega)
    have ak : ∀ q m : Int, 0 ≤ q → q + m ≤ 54 → av (S 2281 4) q m = q + m := fun q m h2 h3 => if_neg (by omega)
    refine CL_in mL_302 rfl ?_
    show WP fb _ 302 0 [some (vR (some 2281)), some (vI s), some (vI c), none, none, none, none, none, none, none, none, none, none, none, none] [] σ _
    refine m_wst_nums (d := d + 4) (v := nu (S 2285) 7 4) (n := nu (S 2285) 11 2) (sz := nu (S 2285) 13 2) (x1 := nu (S 2285) 15 2) (x2 := nu (S 2285) 17 4) (x3 := nu (S 2285) 21 1) (x4 := nu (S 2285) 22 4) (x5 := w64 (nu (S 2285) 26 8)) (md := nu (S 2285) 34 4) (x6 := nu (S 2285) 38 4) (x7 := nu (S 2285) 42 4) (ln := w64 (nu (S 2285) 46 8)) hb hP hR (ak 7 4 (by decide) (by decide)) (ak 11 2 (by decide) (by decide)) (ak 13 2 (by decide) (by decide)) (ak 15 2 (by decide) (by decide)) (ak 17 4 (by decide) (by decide)) (ak 21 1 (by decide) (by decide)) (ak 22 4 (by decide) (by decide)) (ak 26 8 (by decide) (by decide)) (ak 34 4 (by decide) (by decide)) (ak 38 4 (by decide) (by decide)) (ak 42 4 (by decide) (by decide)) (ak 46 8 (by decide) (by decide)) (nk 7 4 (by decide) (by decide) (by decide)) (nk 11 2 (by decide) (by decide) (by decide)) (nk 13 2 (by decide) (by decide) (by decide)) (nk 15 2 (by decide) (by decide) (by decide)) (nk 17 4 (by decide) (by decide) (by decide)) (nk 21 1 (by decide) (by decide) (by decide)) (nk 22 4 (by decide) (by decide) (by decide)) (n8 26 (by decide) (by decide)) (nk 34 4 (by decide) (by decide) (by decide)) (nk 38 4 (by decide) (by decide) (by decide)) (nk 42 4 (by decide) (by decide) (by decide)) (n8 46 (by decide) (by decide)) ?_
    intro σ S1 oth hP hR ho
    have hoth : oth = 0 ∨ oth = 1 := by
      rw [ho]
      split
      · exact Or.inr rfl
      · exact Or.inl rfl
    replace ho : wsO (S 2285) = oth := ho.symm
    refine m_wst_loop (d := d + 4) hb 4 0 54 [] σ S1 (by decide) (by decide) hP hR (by decide) ?_
    intro σ S1 q i st' hP hR hq hst
    have hn : 0 ≤ nu (S 2285) 11 2 ∧ nu (S 2285) 11 2 ≤ 65535 := by
      have := nv_two hb (nk 11 2 (by decide) (by decide) (by decide))
      exact this
    obtain ⟨E, hE⟩ : ∃ E, wkE (S 2285) (S 2281 4) 4 54 = E := ⟨_, rfl⟩
    rw [hE] at hq
    by_cases hw : 0 ≤ E ∧ E = S 2281 4 ∧ nu (S 2285) 13 2 = nu (S 2285) 11 2 - 2 ∧ nu (S 2285) 11 2 = S 2281 4 - 13
    · have hq : q = E := hq.resolve_right (by omega)
      subst hq
      refine m_wst_mid2 (d := d) hP hR hn hw ?_
      have hst := hst hw.1
      have hlen := wkS_len (a := S 2285) (z := S 2281 4) 4 54 (by omega)
      have hok := okS_wk (z := S 2281 4) hb 4 54
      obtain ⟨W, hW⟩ : ∃ W, wkS (S 2285) (S 2281 4) 4 54 = W := ⟨_, rfl⟩
      unfold wsE wsQ wsN wsY
      rw [hE, if_neg (show ¬ ¬ (54 ≤ S 2281 4 ∧ q = S 2281 4 ∧ nu (S 2285) 13 2 = nu (S 2285) 11 2 - 2 ∧ nu (S 2285) 11 2 = S 2281 4 - 13) from fun h => h ⟨h54, hw.2⟩)]
      rw [hW] at hst hlen hok ⊢
      rcases W with _ | ⟨⟨o0, y0⟩, _ | ⟨⟨o1, y1⟩, _ | ⟨⟨o2, y2⟩, _ | ⟨⟨o3, y3⟩, _ | ⟨_, _⟩⟩⟩⟩⟩ <;> try (exfalso; simp only [List.length_cons, List.length_nil] at hlen; omega)
      have k0 : 0 ≤ o0 ∧ 0 ≤ y0 ∧ o0 + y0 ≤ S 2281 4 := hok 0 (by show 0 < 4; decide)
      have k1 : 0 ≤ o1 ∧ 0 ≤ y1 ∧ o1 + y1 ≤ S 2281 4 := hok 1 (by show 1 < 4; decide)
      have k2 : 0 ≤ o2 ∧ 0 ≤ y2 ∧ o2 + y2 ≤ S 2281 4 := hok 2 (by show 2 < 4; decide)
      have k3 : 0 ≤ o3 ∧ 0 ≤ y3 ∧ o3 + y3 ≤ S 2281 4 := hok 3 (by show 3 < 4; decide)
      clear hok hlen
      subst hst
      rw [ho]
      exact m_wst_rest (o := o0) (y0 := y0) (y1 := y1) (y2 := y2) (y3 := y3) hP hR hI hT hs hc h0 rfl rfl rfl ⟨k0.1, k0.2.1, by omega⟩ ⟨k1.2.1, by omega, k2.2.1, by omega, k3.2.1, by omega⟩ hoth (w64_rng _) rfl rfl
    · have hN : wsE P s c (S 2285) (S 2281 4) = 14 := by
        unfold wsE
        rw [if_pos]
        intro h
        rw [hE] at h
        exact hw ⟨by omega, h.2⟩
      rw [hN, if_neg (show ¬ (14 : Int) = 0 by decide)]
      refine m_wst_mid (d := d) hP hR hn ?_
      rcases hq with rfl | hq
      · by_cases q0 : 0 ≤ q
        · exact Or.inr ⟨q0, fun h => hw ⟨q0, h⟩⟩
        · exact Or.inl (by omega)
      · exact Or.inl hq.1
  · have hN : wsE P s c (S 2285) (S 2281 4) = 14 := by
      unfold wsE
      rw [if_pos]
      exact fun h => h54 h.1
    rw [hN, if_neg (show ¬ (14 : Int) = 0 by decide)]
    obtain ⟨p1, a0⟩ : ∃ q, av (S 2281 4) 7 4 = q := ⟨_, rfl⟩
    obtain ⟨p2, a1⟩ : ∃ q, av (S 2281 4) p1 2 = q := ⟨_, rfl⟩
    obtain ⟨p3, a2⟩ : ∃ q, av (S 2281 4) p2 2 = q := ⟨_, rfl⟩
    obtain ⟨p4, a3⟩ : ∃ q, av (S 2281 4) p3 2 = q := ⟨_, rfl⟩
    obtain ⟨p5, a4⟩ : ∃ q, av (S 2281 4) p4 4 = q := ⟨_, rfl⟩
    obtain ⟨p6, a5⟩ : ∃ q, av (S 2281 4) p5 1 = q := ⟨_, rfl⟩
    obtain ⟨p7, a6⟩ : ∃ q, av (S 2281 4) p6 4 = q := ⟨_, rfl⟩
    obtain ⟨p8, a7⟩ : ∃ q, av (S 2281 4) p7 8 = q := ⟨_, rfl⟩
    obtain ⟨p9, a8⟩ : ∃ q, av (S 2281 4) p8 4 = q := ⟨_, rfl⟩
    obtain ⟨p10, a9⟩ : ∃ q, av (S 2281 4) p9 4 = q := ⟨_, rfl⟩
    obtain ⟨p11, a10⟩ : ∃ q, av (S 2281 4) p10 4 = q := ⟨_, rfl⟩
    obtain ⟨p12, a11⟩ : ∃ q, av (S 2281 4) p11 8 = q := ⟨_, rfl⟩
    have hp : p12 < 0 := by
      have av_lt : ∀ {q m q2 e : Int}, av (S 2281 4) q m = q2 → (q < 0 ∨ q = e) → (q2 < 0 ∨ q2 = e + m) := fun {q m q2 e} h1 h2 => by
        unfold av at h1
        split at h1 <;> omega
      have r1 := av_lt a0 (Or.inr rfl)
      have r2 := av_lt a1 r1
      have r3 := av_lt a2 r2
      have r4 := av_lt a3 r3
      have r5 := av_lt a4 r4
      have r6 := av_lt a5 r5
      have r7 := av_lt a6 r6
      have r8 := av_lt a7 r7
      have r9 := av_lt a8 r8
      have r10 := av_lt a9 r9
      have r11 := av_lt a10 r10
      have hl := av_le (z := S 2281 4) (p := p11) (n := 8) (by
        rcases r11 with h | h
        · omega
        · have hh := av_pos (z := S 2281 4) (p := p10) (n := 4) (by omega)
          omega) hz0
      have r12 := av_lt a11 r11
      omega
    refine CL_in mL_302 rfl ?_
    show WP fb _ 302 0 [some (vR (some 2281)), some (vI s), some (vI c), none, none, none, none, none, none, none, none, none, none, none, none] [] σ _
    refine m_wst_nums (d := d + 4) hb hP hR a0 a1 a2 a3 a4 a5 a6 a7 a8 a9 a10 a11 rfl rfl rfl rfl rfl rfl rfl rfl rfl rfl rfl rfl ?_
    intro σ S1 oth hP hR ho
    refine m_wst_loop (d := d + 4) hb 4 0 p12 [] σ S1 (by decide) (by decide) hP hR (by decide) ?_
    intro σ S1 q i st' hP hR hq hst
    refine m_wst_mid (d := d) hP hR (nv_two hb rfl) (Or.inl ?_)
    have := wkE_neg (a := S 2285) (z := S 2281 4) hp 4
    omega
end MWSTAT4
