/-! cat: the loop of its reads, the command. -/
theorem T_326_0 : hTab 326 0 = some ((3, 0, 2, []), 1) := rfl
theorem T_326_1 : hTab 326 1 = some ((3, 1, 0, []), 2) := rfl
theorem T_326_2 : hTab 326 2 = some ((0, 0, 1, []), 3) := rfl
theorem T_326_3 : hTab 326 3 = some ((0, 0, 1, []), 4) := rfl
theorem T_326_4 : hTab 326 4 = some ((31, 327, 0, []), 7) := rfl
theorem T_326_7 : hTab 326 7 = some ((4, 3, 0, []), 8) := rfl
theorem T_326_8 : hTab 326 8 = some ((3, 3, 0, []), 9) := rfl
theorem T_326_9 : hTab 326 9 = some ((18, 5, Int.ofNat 14, []), 12) := rfl
theorem T_326_12 : hTab 326 12 = some ((3, 3, 0, []), 13) := rfl
theorem T_326_13 : hTab 326 13 = some ((33, 1, 0, []), 14) := rfl
theorem T_326_14 : hTab 326 14 = some ((3, 0, 2, []), 15) := rfl
theorem T_326_15 : hTab 326 15 = some ((24, 17, Int.ofNat 91, []), 18) := rfl
theorem T_326_18 : hTab 326 18 = some ((0, 0, 1, []), 19) := rfl
theorem T_326_19 : hTab 326 19 = some ((10, 1, 0, []), 20) := rfl
theorem T_326_20 : hTab 326 20 = some ((4, 4, 0, []), 22) := rfl
theorem T_326_22 : hTab 326 22 = some ((3, 0, 2, []), 23) := rfl
theorem T_326_23 : hTab 326 23 = some ((3, 4, 0, []), 25) := rfl
theorem T_326_25 : hTab 326 25 = some ((31, 348, 0, []), 28) := rfl
theorem T_326_28 : hTab 326 28 = some ((18, 0, Int.ofNat 34, []), 31) := rfl
theorem T_326_31 : hTab 326 31 = some ((0, 0, 10, []), 33) := rfl
theorem T_326_33 : hTab 326 33 = some ((33, 1, 0, []), 34) := rfl
theorem T_326_34 : hTab 326 34 = some ((3, 0, 2, []), 35) := rfl
theorem T_326_35 : hTab 326 35 = some ((3, 0, 2, []), 36) := rfl
theorem T_326_36 : hTab 326 36 = some ((24, 17, Int.ofNat 86, []), 39) := rfl
theorem T_326_39 : hTab 326 39 = some ((3, 4, 0, []), 41) := rfl
theorem T_326_41 : hTab 326 41 = some ((26, 0, 0, []), 42) := rfl
theorem T_326_42 : hTab 326 42 = some ((3, 0, 2, []), 43) := rfl
theorem T_326_43 : hTab 326 43 = some ((24, 17, Int.ofNat 87, []), 46) := rfl
theorem T_326_46 : hTab 326 46 = some ((3, 4, 0, []), 48) := rfl
theorem T_326_48 : hTab 326 48 = some ((26, 0, 0, []), 49) := rfl
theorem T_326_49 : hTab 326 49 = some ((0, 0, 0, []), 50) := rfl
theorem T_326_50 : hTab 326 50 = some ((31, 349, 0, []), 53) := rfl
theorem T_326_53 : hTab 326 53 = some ((4, 3, 0, []), 54) := rfl
theorem T_326_54 : hTab 326 54 = some ((0, 0, 0, []), 55) := rfl
theorem T_326_55 : hTab 326 55 = some ((4, 5, 0, []), 57) := rfl
theorem T_326_57 : hTab 326 57 = some ((3, 3, 0, []), 58) := rfl
theorem T_326_58 : hTab 326 58 = some ((18, 1, Int.ofNat 65, []), 61) := rfl
theorem T_326_61 : hTab 326 61 = some ((0, 0, 1, []), 62) := rfl
theorem T_326_62 : hTab 326 62 = some ((22, 0, Int.ofNat 66, []), 65) := rfl
theorem T_326_65 : hTab 326 65 = some ((0, 0, 0, []), 66) := rfl
theorem T_326_66 : hTab 326 66 = some ((4, 6, 0, []), 68) := rfl
theorem T_326_68 : hTab 326 68 = some ((3, 6, 0, []), 70) := rfl
theorem T_326_70 : hTab 326 70 = some ((18, 0, Int.ofNat 223, []), 73) := rfl
theorem T_326_73 : hTab 326 73 = some ((3, 0, 2, []), 74) := rfl
theorem T_326_74 : hTab 326 74 = some ((3, 0, 2, []), 75) := rfl
theorem T_326_75 : hTab 326 75 = some ((24, 17, Int.ofNat 86, []), 78) := rfl
theorem T_326_78 : hTab 326 78 = some ((3, 4, 0, []), 80) := rfl
theorem T_326_80 : hTab 326 80 = some ((26, 0, 0, []), 81) := rfl
theorem T_326_81 : hTab 326 81 = some ((3, 0, 2, []), 82) := rfl
theorem T_326_82 : hTab 326 82 = some ((24, 17, Int.ofNat 87, []), 85) := rfl
theorem T_326_85 : hTab 326 85 = some ((3, 4, 0, []), 87) := rfl
theorem T_326_87 : hTab 326 87 = some ((26, 0, 0, []), 88) := rfl
theorem T_326_88 : hTab 326 88 = some ((3, 5, 0, []), 90) := rfl
theorem T_326_90 : hTab 326 90 = some ((0, 0, 100, []), 92) := rfl
theorem T_326_92 : hTab 326 92 = some ((31, 350, 0, []), 95) := rfl
theorem T_326_95 : hTab 326 95 = some ((4, 3, 0, []), 96) := rfl
theorem T_326_96 : hTab 326 96 = some ((3, 3, 0, []), 97) := rfl
theorem T_326_97 : hTab 326 97 = some ((18, 5, Int.ofNat 104, []), 100) := rfl
theorem T_326_100 : hTab 326 100 = some ((0, 0, 0, []), 101) := rfl
theorem T_326_101 : hTab 326 101 = some ((22, 0, Int.ofNat 112, []), 104) := rfl
theorem T_326_104 : hTab 326 104 = some ((3, 0, 2, []), 105) := rfl
theorem T_326_105 : hTab 326 105 = some ((0, 0, 7, []), 107) := rfl
theorem T_326_107 : hTab 326 107 = some ((0, 0, 4, []), 108) := rfl
theorem T_326_108 : hTab 326 108 = some ((31, 339, 0, []), 111) := rfl
theorem T_326_111 : hTab 326 111 = some ((15, 0, 0, []), 112) := rfl
theorem T_326_112 : hTab 326 112 = some ((4, 7, 0, []), 114) := rfl
theorem T_326_114 : hTab 326 114 = some ((0, 0, 0, []), 115) := rfl
theorem T_326_115 : hTab 326 115 = some ((4, 8, 0, []), 117) := rfl
theorem T_326_201 : hTab 326 201 = some ((3, 5, 0, []), 203) := rfl
theorem T_326_203 : hTab 326 203 = some ((3, 7, 0, []), 205) := rfl
theorem T_326_205 : hTab 326 205 = some ((10, 0, 0, []), 206) := rfl
theorem T_326_206 : hTab 326 206 = some ((4, 5, 0, []), 208) := rfl
theorem T_326_208 : hTab 326 208 = some ((3, 7, 0, []), 210) := rfl
theorem T_326_210 : hTab 326 210 = some ((18, 5, Int.ofNat 217, []), 213) := rfl
theorem T_326_213 : hTab 326 213 = some ((0, 0, 1, []), 214) := rfl
theorem T_326_214 : hTab 326 214 = some ((22, 0, Int.ofNat 218, []), 217) := rfl
theorem T_326_217 : hTab 326 217 = some ((0, 0, 0, []), 218) := rfl
theorem T_326_218 : hTab 326 218 = some ((4, 6, 0, []), 220) := rfl
theorem T_326_220 : hTab 326 220 = some ((22, 0, Int.ofNat 68, []), 223) := rfl
theorem T_326_223 : hTab 326 223 = some ((3, 3, 0, []), 224) := rfl
theorem T_326_224 : hTab 326 224 = some ((33, 1, 0, []), 225) := rfl
def cCat (P : qR) (fr p : Int) (wd : List Int) : Int × qR × List Ch × List Int := if 0 < (kWW P p 1 wd).1 then ((kWW P p 1 wd).1, (kWW P p 1 wd).2.1, [], []) else if ¬ and32 (kWW P p 1 wd).2.2.2.2.2.1 128 = 0 then (10, (kWW P p 1 wd).2.1, [(kWW P p 1 wd).2.2], []) else if 0 < tE (kWW P p 1 wd).2.1 (kWW P p 1 wd).2.2.1 (mOpen (kWW P p 1 wd).2.2.2.1 0) then (tE (kWW P p 1 wd).2.1 (kWW P p 1 wd).2.2.1 (mOpen (kWW P p 1 wd).2.2.2.1 0), tP (kWW P p 1 wd).2.1 (kWW P p 1 wd).2.2.1 (mOpen (kWW P p 1 wd).2.2.2.1 0), [(kWW P p 1 wd).2.2], []) else ((kRdl (oC fr p) (kWW P p 1 wd).2.2.1 (kWW P p 1 wd).2.2.2.1 601 (tP (kWW P p 1 wd).2.1 (kWW P p 1 wd).2.2.1 (mOpen (kWW P p 1 wd).2.2.2.1 0)) 0).1, (kRdl (oC fr p) (kWW P p 1 wd).2.2.1 (kWW P p 1 wd).2.2.2.1 601 (tP (kWW P p 1 wd).2.1 (kWW P p 1 wd).2.2.1 (mOpen (kWW P p 1 wd).2.2.2.1 0)) 0).2.1, [(kWW P p 1 wd).2.2], (kRdl (oC fr p) (kWW P p 1 wd).2.2.1 (kWW P p 1 wd).2.2.2.1 601 (tP (kWW P p 1 wd).2.1 (kWW P p 1 wd).2.2.1 (mOpen (kWW P p 1 wd).2.2.2.1 0)) 0).2.2)
section MCAT2
variable {fb : Bool} {d : Nat} {σ0 σ : hM} {P Q R S S1 S2 : qR} {T U s w g u p k e t z o thr pt off : Int} {l l1 l2 nm wd A : List Int} {h : List Ch} {a f : Int → Int} {x : Int × Int} {c : Ch} {fr fd : Int}
theorem rdMu_out (hr : ∀ (f : Nat) (k : Int), f ≠ 2328 → f ≠ 2329 → Q f k = P f k) : rdMu Q s fd off = rdMu P s fd off := by
  have e : ∀ (m : Nat) (k : Int), fiFid Q fd m k = fiFid P fd m k := by
    intro m
    induction m with
    | zero => intro k; rfl
    | succ m ih =>
      intro k
      unfold fiFid
      rw [ih, hr 2304 k (by decide) (by decide), hr 2305 k (by decide) (by decide)]
  have e1 : qFid Q s 0 fd = qFid P s 0 fd := e 48 _
  have e2 : ∀ n, qMode Q s n = qMode P s n := fun n => by
    unfold qMode
    rw [hr 2293 _ (by decide) (by decide)]
  unfold rdMu
  rw [e1, hr 2306 _ (by decide) (by decide), hr 2312 _ (by decide) (by decide), hr 2297 _ (by decide) (by decide), hr 2281 39 (by decide) (by decide), e2]
theorem rdMu_oC (hp : 0 ≤ p ∧ p < 8) : rdMu (oC fr p P l) s fd off = rdMu P s fd off := by
  unfold oC
  split
  · exact rdMu_out (fun f k a b => gOut_f a b l P)
  · rfl
theorem rdMu_rng (hG : GI T U P) (hs : 0 ≤ s ∧ s < 3) : 0 ≤ rdMu P s fd 0 ∧ rdMu P s fd 0 ≤ 600 := by
  unfold rdMu
  rw [if_pos rfl]
  split
  · decide
  · rename_i q
    have hk := qFid_in (P := P) (s := s) (c := 0) (v := fd) hs (by decide) (by omega)
    obtain ⟨k, hk0⟩ : ∃ k, qFid P s 0 fd = k := ⟨_, rfl⟩
    rw [hk0] at hk q ⊢
    have b := fid_node hG hs (k := k) (by omega)
    split
    · decide
    · split
      · have b0 : 0 ≤ P 2306 k ∧ P 2306 k ≤ (if k < 192 then 63 else 143) := IV.a hG.iv 2306 0 288 rfl rfl rfl (by omega) (by omega)
        rw [if_pos (by omega)] at b0
        have b1 : 0 ≤ P 2297 (64 * s + P 2306 k) ∧ P 2297 (64 * s + P 2306 k) ≤ 600 := IV.a hG.iv 2297 0 128 rfl rfl rfl (by omega) (by omega)
        omega
      · split
        · have bi : 0 ≤ P 2281 39 ∧ P 2281 39 ≤ 200 := IV.n hG.iv 39 39 rfl rfl (by decide)
          omega
        · decide
theorem tE_0or {ms : List Int} (h : ¬ 0 < tE P s ms) : tE P s ms = 0 := by
  have := tE_rng (P := P) (s := s) (l := ms)
  omega
theorem m_cat_out (hp : 0 ≤ p ∧ p < 8) (hf : -1 ≤ fr ∧ fr ≤ 12) : ∀ (m : Nat) (T off e0 : Int) (l7 l8 : Option AV) (σ : hM) (P S : qR), 0 ≤ rdMu P c.1 c.2.1 off → rdMu P c.1 c.2.1 off < m → 0 ≤ off → off + 100 * m ≤ 1000000 → T + 4 * m + 49 ≤ 2147483000 → PM σ0 P S σ → KS T U P S l [c] → WP fb (d + 12) 326 68 [some (vR (some 2281)), some (vI p), some (vI fr), some (vI e0), some (vI 0), some (vI off), some (vI 1), l7, l8] [] σ (fun r σ' => ∃ S2 : qR, r = some (vI (kRdl (oC fr p) c.1 c.2.1 m P off).1) ∧ PM σ0 (kRdl (oC fr p) c.1 c.2.1 m P off).2.1 S2 σ' ∧ KS (T + 4 * m) U (kRdl (oC fr p) c.1 c.2.1 m P off).2.1 S2 l [c] ∧ SO fr S S2 (kRdl (oC fr p) c.1 c.2.1 m P off).2.2) := by
  intro m
  induction m with
  | zero =>
    intro T off e0 l7 l8 σ P S h1 h2
    have h2 : rdMu P c.1 c.2.1 off < ((0 : Nat) : Int) := h2
    omega
  | succ m ih =>
    intro T off e0 l7 l8 σ P S h1 h2 h3 h4 h5 hP hK
    obtain ⟨g1, g2, g3, g4, g5, g6, g7⟩ := HS.last (h := []) hK.2.2.2.1
    obtain ⟨c1, c2, -⟩ := HS.ch (h := []) hK.2.2.1 hK.2.2.2.1
    have hrd := fun (σ : hM) (hP : PM σ0 P S σ) => g_askRead (fb := fb) (d := d) (σ := σ) (f := c.2.1) (o := off) (n := 100) hP hK.2.2.1 hK.1 (by omega) (show 0 ≤ c.1 ∧ c.1 < 3 by omega)
    have hml := rdMu_less hK.1 (show 0 ≤ c.1 ∧ c.1 < 3 by omega) (fd := c.2.1) (off := off) (by omega) (by omega)
    have hrok := rd_ok (P := P) (s := c.1) (fd := c.2.1) (off := off) (n := 100)
    have her := tE_rng (P := P) (s := c.1) (l := mRead c.2.1 off 100)
    unfold kRdl
    obtain ⟨A, hA0⟩ : ∃ A, tA P c.1 (mRead c.2.1 off 100) = A := ⟨_, rfl⟩
    obtain ⟨P1, hP1⟩ : ∃ P1, tP P c.1 (mRead c.2.1 off 100) = P1 := ⟨_, rfl⟩
    obtain ⟨e, he⟩ : ∃ e, tE P c.1 (mRead c.2.1 off 100) = e := ⟨_, rfl⟩
    rw [he, hA0] at hrok
    rw [he] at her
    rw [he, hA0, hP1] at hml
    rw [he, hA0, hP1]
    obtain ⟨b, hb⟩ : ∃ b, rdB A = b := ⟨_, rfl⟩
    rw [hb] at hml hrok ⊢
    have e0l : ∀ P, oC fr p P [] = P := fun P => by unfold oC; split <;> rfl
    by_cases q3 : 0 < e
    · rw [if_pos q3]
      dsimp only
      refine x_li (z := 1) T_326_68 rfl ?_
      refine x_if T_326_70 (fun h => absurd (show (1 : Int) = 0 from h) (by omega)) (fun _ => ?_)
      refine x_lr (z := some 2281) T_326_73 rfl ?_
      refine x_lr (z := some 2281) T_326_74 rfl ?_
      refine x_gR (z := some 2350) T_326_75 F_17_86 (PM.t hP) (PM.r hP 86 2350 rfl) ?_
      refine x_li (z := 0) T_326_78 rfl ?_
      refine x_alI (z := c.1) T_326_80 (by decide) (PM.ta hP 2350 0 64 rfl rfl) (by omega) (by omega) (Eq.trans (PM.aS hP 2350 rfl rfl (by omega)) g3) ?_
      refine x_lr (z := some 2281) T_326_81 rfl ?_
      refine x_gR (z := some 2351) T_326_82 F_17_87 (PM.t hP) (PM.r hP 87 2351 rfl) ?_
      refine x_li (z := 0) T_326_85 rfl ?_
      refine x_alI (z := c.2.1) T_326_87 (by decide) (PM.ta hP 2351 0 64 rfl rfl) (by omega) (by omega) (Eq.trans (PM.aS hP 2351 rfl rfl (by omega)) g4) ?_
      refine x_li (z := off) T_326_88 rfl ?_
      refine x_ic T_326_90 ?_
      refine x_cv5 T_326_92 mN_350 mL_350 (Nat.le_of_ble_eq_true rfl) mO_350 (PM.t hP) (Nat.le_of_ble_eq_true rfl) (hrd σ hP) ?_
      clear hP
      intro r σ hr
      obtain ⟨S3, hr0, hP, hK3, hX3, hA⟩ := hK.ask (T1 := T + 4) (by omega) hr
      rw [he] at hr0
      subst hr0
      rw [hP1] at hP hK3
      refine cI ?_
      refine x_si (ls1 := [some (vR (some 2281)), some (vI p), some (vI fr), some (vI e), some (vI 0), some (vI off), some (vI 1), l7, l8]) T_326_95 rfl ?_
      refine x_li (z := e) T_326_96 rfl ?_
      refine x_if T_326_97 (fun h => absurd (show e ≤ 0 from h) (by omega)) (fun _ => ?_)
      refine x_ic T_326_100 ?_
      refine x_goto T_326_101 ?_
      refine x_si (ls1 := [some (vR (some 2281)), some (vI p), some (vI fr), some (vI e), some (vI 0), some (vI off), some (vI 1), some (vI 0), l8]) T_326_112 rfl ?_
      refine x_ic T_326_114 ?_
      refine x_si (ls1 := [some (vR (some 2281)), some (vI p), some (vI fr), some (vI e), some (vI 0), some (vI off), some (vI 1), some (vI 0), some (vI 0)]) T_326_115 rfl ?_
      refine m_cat_in (d := d + 11) (hh := 0) (e0 := e) (off := off) (fl := 1) (n := 0) hp hf (by decide) [] 0 σ P1 S3 (by decide) (by decide) (fun b hm => absurd hm List.not_mem_nil) (fun k hk => absurd hk (Nat.not_lt_zero k)) hP hK3 ?_
      clear hP
      intro σ S4 hP hK4 hX4
      rw [e0l] at hP hK4
      refine x_li (z := off) T_326_201 rfl ?_
      refine x_li (z := 0) T_326_203 rfl ?_
      refine x_ib (w := (off + 0)) T_326_205 (fun h => absurd h.1 (by decide)) (w32_id (by omega) (by omega)) ?_
      refine x_si (ls1 := [some (vR (some 2281)), some (vI p), some (vI fr), some (vI e), some (vI 0), some (vI (off + 0)), some (vI 1), some (vI 0), some (vI 0)]) T_326_206 rfl ?_
      refine x_li (z := 0) T_326_208 rfl ?_
      refine x_if T_326_210 (fun _ => ?_) (fun h => absurd (show (0 : Int) ≤ 0 by decide) h)
      refine x_ic T_326_217 ?_
      refine x_si (ls1 := [some (vR (some 2281)), some (vI p), some (vI fr), some (vI e), some (vI 0), some (vI (off + 0)), some (vI 0), some (vI 0), some (vI 0)]) T_326_218 rfl ?_
      refine x_goto T_326_220 ?_
      refine x_li (z := 0) T_326_68 rfl ?_
      refine x_if T_326_70 (fun _ => ?_) (fun h => absurd (show (0 : Int) = 0 by decide) h)
      refine x_li (z := e) T_326_223 rfl ?_
      refine x_ri T_326_224 ?_
      exact ⟨S4, rfl, hP, hK4.mono (by omega), SO_tr (SO_sc hX3) hX4⟩
    · have q4 : e = 0 := by omega
      subst q4
      rw [if_neg q3]
      have hml := hml rfl
      obtain ⟨n, hn⟩ : ∃ n : Int, (b.length : Int) = n := ⟨_, rfl⟩
      rw [hn] at hml hrok ⊢
      refine x_li (z := 1) T_326_68 rfl ?_
      refine x_if T_326_70 (fun h => absurd (show (1 : Int) = 0 from h) (by omega)) (fun _ => ?_)
      refine x_lr (z := some 2281) T_326_73 rfl ?_
      refine x_lr (z := some 2281) T_326_74 rfl ?_
      refine x_gR (z := some 2350) T_326_75 F_17_86 (PM.t hP) (PM.r hP 86 2350 rfl) ?_
      refine x_li (z := 0) T_326_78 rfl ?_
      refine x_alI (z := c.1) T_326_80 (by decide) (PM.ta hP 2350 0 64 rfl rfl) (by omega) (by omega) (Eq.trans (PM.aS hP 2350 rfl rfl (by omega)) g3) ?_
      refine x_lr (z := some 2281) T_326_81 rfl ?_
      refine x_gR (z := some 2351) T_326_82 F_17_87 (PM.t hP) (PM.r hP 87 2351 rfl) ?_
      refine x_li (z := 0) T_326_85 rfl ?_
      refine x_alI (z := c.2.1) T_326_87 (by decide) (PM.ta hP 2351 0 64 rfl rfl) (by omega) (by omega) (Eq.trans (PM.aS hP 2351 rfl rfl (by omega)) g4) ?_
      refine x_li (z := off) T_326_88 rfl ?_
      refine x_ic T_326_90 ?_
      refine x_cv5 T_326_92 mN_350 mL_350 (Nat.le_of_ble_eq_true rfl) mO_350 (PM.t hP) (Nat.le_of_ble_eq_true rfl) (hrd σ hP) ?_
      clear hP
      intro r σ hr
      obtain ⟨S3, hr0, hP, hK3, hX3, hA⟩ := hK.ask (T1 := T + 4) (by omega) hr
      rw [he] at hr0
      subst hr0
      rw [hP1] at hP hK3
      rw [hA0] at hA
      obtain ⟨r1, r2, r3⟩ := hrok rfl hA.2.2.1
      have h407 := hA.2.2.1
      refine cI ?_
      refine x_si (ls1 := [some (vR (some 2281)), some (vI p), some (vI fr), some (vI 0), some (vI 0), some (vI off), some (vI 1), l7, l8]) T_326_95 rfl ?_
      refine x_li (z := 0) T_326_96 rfl ?_
      refine x_if T_326_97 (fun _ => ?_) (fun h => absurd (show (0 : Int) ≤ 0 by omega) h)
      refine x_lr (z := some 2281) T_326_104 rfl ?_
      refine x_ic T_326_105 ?_
      refine x_ic T_326_107 ?_
      refine x_cv3 T_326_108 mN_339 mL_339 (Nat.le_of_ble_eq_true rfl) mO_339 (PM.t hP) (Nat.le_of_ble_eq_true rfl) ((CL.mono (m_told hP hK3.2.2.1 (by decide) (by decide) (by decide)) (fun r σ1 hr => by rw [show ((4 : Int)).toNat = 4 from rfl, AN_nu hA (by decide) (by omega), r2, w64_id (by omega) (by omega)] at hr; exact hr) : CL fb _ 339 [vR (some 2281), vI 7, vI 4] σ (rPL n σ))) ?_
      rintro _ σ ⟨rfl, rfl⟩
      refine cL ?_
      refine x_l2i (w := n) T_326_111 (w32_id (by omega) (by omega)) ?_
      refine x_si (ls1 := [some (vR (some 2281)), some (vI p), some (vI fr), some (vI 0), some (vI 0), some (vI off), some (vI 1), some (vI n), l8]) T_326_112 rfl ?_
      refine x_ic T_326_114 ?_
      refine x_si (ls1 := [some (vR (some 2281)), some (vI p), some (vI fr), some (vI 0), some (vI 0), some (vI off), some (vI 1), some (vI n), some (vI 0)]) T_326_115 rfl ?_
      have hbb : byt b := by rw [← hb]; exact byt_drop hA.2.2.2
      refine m_cat_in (d := d + 11) (hh := 0) (e0 := 0) (off := off) (fl := 1) (n := n) hp hf (by omega) b 0 σ P1 S3 (by omega) (by decide) (byt_mem hbb) (fun k hk => ?_) hP hK3 ?_
      · rw [hA.2.1 _ (by omega) (by omega), ← hb]
        unfold rdB
        rw [show (11 + 0 + (k : Int)) = ((11 : Nat) : Int) + (k : Int) by omega, ← lg_drop (by omega)]
        rfl
      clear hP
      intro σ S4 hP hK4 hX4
      by_cases q5 : n = 0
      · have hb0 : b.length = 0 := by omega
        rw [if_pos hb0]
        dsimp only
        have hbn : b = [] := List.eq_nil_of_length_eq_zero hb0
        rw [hbn, e0l] at hP hK4
        rw [hbn] at hX4
        refine x_li (z := off) T_326_201 rfl ?_
        refine x_li (z := n) T_326_203 rfl ?_
        refine x_ib (w := (off + n)) T_326_205 (fun h => absurd h.1 (by decide)) (w32_id (by omega) (by omega)) ?_
        refine x_si (ls1 := [some (vR (some 2281)), some (vI p), some (vI fr), some (vI 0), some (vI 0), some (vI (off + n)), some (vI 1), some (vI n), some (vI n)]) T_326_206 rfl ?_
        refine x_li (z := n) T_326_208 rfl ?_
        refine x_if T_326_210 (fun _ => ?_) (fun h => absurd (show n ≤ 0 by omega) h)
        refine x_ic T_326_217 ?_
        refine x_si (ls1 := [some (vR (some 2281)), some (vI p), some (vI fr), some (vI 0), some (vI 0), some (vI (off + n)), some (vI 0), some (vI n), some (vI n)]) T_326_218 rfl ?_
        refine x_goto T_326_220 ?_
        refine x_li (z := 0) T_326_68 rfl ?_
        refine x_if T_326_70 (fun _ => ?_) (fun h => absurd (show (0 : Int) = 0 by decide) h)
        refine x_li (z := 0) T_326_223 rfl ?_
        refine x_ri T_326_224 ?_
        exact ⟨S4, rfl, hP, hK4.mono (by omega), SO_tr (SO_sc hX3) hX4⟩
      · have hb0 : ¬ b.length = 0 := by omega
        rw [if_neg hb0]
        dsimp only
        obtain ⟨m1, m2, m3⟩ := hml hb0
        have hmo : rdMu (oC fr p P1 b) c.1 c.2.1 (off + n) = rdMu P1 c.1 c.2.1 (off + n) := rdMu_oC hp
        have hgo := fun (σ : hM) (l7 l8 : Option AV) (hP : PM σ0 (oC fr p P1 b) S4 σ) => WP.mono (ih (T + 4) (off + n) 0 l7 l8 σ (oC fr p P1 b) S4 (by omega) (by omega) (by omega) (by omega) (by omega) hP hK4) (Q := fun r σ' => ∃ S2 : qR, r = some (vI (kRdl (oC fr p) c.1 c.2.1 m (oC fr p P1 b) (off + n)).1) ∧ PM σ0 (kRdl (oC fr p) c.1 c.2.1 m (oC fr p P1 b) (off + n)).2.1 S2 σ' ∧ KS (T + 4 * ((m + 1 : Nat) : Int)) U (kRdl (oC fr p) c.1 c.2.1 m (oC fr p P1 b) (off + n)).2.1 S2 l [c] ∧ SO fr S S2 (b ++ (kRdl (oC fr p) c.1 c.2.1 m (oC fr p P1 b) (off + n)).2.2)) (fun r σ1 hr => by
          obtain ⟨S5, r1, r2, r3, r4⟩ := hr
          exact ⟨S5, r1, r2, r3.mono (by omega), SO_tr (SO_tr (SO_sc hX3) hX4) r4⟩)
        refine x_li (z := off) T_326_201 rfl ?_
        refine x_li (z := n) T_326_203 rfl ?_
        refine x_ib (w := (off + n)) T_326_205 (fun h => absurd h.1 (by decide)) (w32_id (by omega) (by omega)) ?_
        refine x_si (ls1 := [some (vR (some 2281)), some (vI p), some (vI fr), some (vI 0), some (vI 0), some (vI (off + n)), some (vI 1), some (vI n), some (vI n)]) T_326_206 rfl ?_
        refine x_li (z := n) T_326_208 rfl ?_
        refine x_if T_326_210 (fun h => absurd (show n ≤ 0 from h) (by omega)) (fun _ => ?_)
        refine x_ic T_326_213 ?_
        refine x_goto T_326_214 ?_
        refine x_si (ls1 := [some (vR (some 2281)), some (vI p), some (vI fr), some (vI 0), some (vI 0), some (vI (off + n)), some (vI 1), some (vI n), some (vI n)]) T_326_218 rfl ?_
        refine x_goto T_326_220 ?_
        exact hgo σ _ _ hP
theorem m_cat (hP : PM σ0 P S σ) (hK : KS T U P S l []) (hp : 0 ≤ p ∧ p < 8) (hf : -1 ≤ fr ∧ fr ≤ 12) (hT : T + 3000 ≤ 2147483000) (hw : 1 < ((lnW l).length : Int)) : CL fb (d + 16) 326 [vR (some 2281), vI p, vI fr] σ (fun r σ' => ∃ S2 : qR, r = some (vI (cCat P fr p (lnB l 1)).1) ∧ PM σ0 (cCat P fr p (lnB l 1)).2.1 S2 σ' ∧ KS (T + 2708) U (cCat P fr p (lnB l 1)).2.1 S2 l (cCat P fr p (lnB l 1)).2.2.1 ∧ SO fr S S2 (cCat P fr p (lnB l 1)).2.2.2) := by
  have hww := k_ww (fb := fb) (d := d) (thr := 1) hP hK hp (Or.inr rfl) (by omega) (by decide) (w := 1) ⟨by decide, by omega⟩
  have hkf := KF_kWW (thr := 1) (wd := lnB l 1) hK.1.iv hK.2.1 hp
  have hm42 : 0 ≤ P 2281 42 ∧ P 2281 42 ≤ T := IV.n hK.1.iv 42 42 rfl rfl (by decide)
  unfold cCat
  obtain ⟨e, he⟩ : ∃ e, (kWW P p 1 (lnB l 1)).1 = e := ⟨_, rfl⟩
  obtain ⟨P1, hP1⟩ : ∃ P1, (kWW P p 1 (lnB l 1)).2.1 = P1 := ⟨_, rfl⟩
  obtain ⟨c, hc⟩ : ∃ c, (kWW P p 1 (lnB l 1)).2.2 = c := ⟨_, rfl⟩
  rw [he, hP1] at hkf
  rw [he, hP1, hc] at hww
  rw [he, hP1, hc]
  by_cases q1 : 0 < e
  · rw [if_pos q1]
    dsimp only
    rw [kHoldn (by omega)] at hww
    refine CL_in mL_326 rfl ?_
    show WP fb _ 326 0 [some (vR (some 2281)), some (vI p), some (vI fr), none, none, none, none, none, none] [] σ _
    refine x_lr (z := some 2281) T_326_0 rfl ?_
    refine x_li (z := p) T_326_1 rfl ?_
    refine x_ic T_326_2 ?_
    refine x_ic T_326_3 ?_
    refine x_cv4 T_326_4 mN_327 mL_327 (Nat.le_of_ble_eq_true rfl) mO_327 (PM.t hP) (Nat.le_of_ble_eq_true rfl) (hww) ?_
    clear hP hww
    rintro _ σ ⟨S2, rfl, hP, hK2, hX2, -⟩
    refine cI ?_
    refine x_si (ls1 := [some (vR (some 2281)), some (vI p), some (vI fr), some (vI e), none, none, none, none, none]) T_326_7 rfl ?_
    refine x_li (z := e) T_326_8 rfl ?_
    refine x_if T_326_9 (fun h => absurd (show e ≤ 0 from h) (by omega)) (fun _ => ?_)
    refine x_li (z := e) T_326_12 rfl ?_
    refine x_ri T_326_13 ?_
    exact ⟨S2, rfl, hP, hK2.mono (by omega), SO_sc hX2⟩
  rw [if_neg q1]
  have q2 : e = 0 := by omega
  subst q2
  rw [kHold0] at hww
  obtain ⟨y, hy⟩ : ∃ y, c.2.2.2.1 = y := ⟨_, rfl⟩
  rw [hy]
  by_cases q3 : and32 y 128 = 0
  · rw [if_neg (fun q => q q3)]
    have her := tE_rng (P := P1) (s := c.1) (l := mOpen c.2.1 0)
    obtain ⟨e2, he2⟩ : ∃ e2, tE P1 c.1 (mOpen c.2.1 0) = e2 := ⟨_, rfl⟩
    obtain ⟨P2, hP2⟩ : ∃ P2, tP P1 c.1 (mOpen c.2.1 0) = P2 := ⟨_, rfl⟩
    rw [he2] at her
    rw [he2, hP2]
    by_cases q4 : 0 < e2
    · rw [if_pos q4]
      dsimp only
      refine CL_in mL_326 rfl ?_
      show WP fb _ 326 0 [some (vR (some 2281)), some (vI p), some (vI fr), none, none, none, none, none, none] [] σ _
      refine x_lr (z := some 2281) T_326_0 rfl ?_
      refine x_li (z := p) T_326_1 rfl ?_
      refine x_ic T_326_2 ?_
      refine x_ic T_326_3 ?_
      refine x_cv4 T_326_4 mN_327 mL_327 (Nat.le_of_ble_eq_true rfl) mO_327 (PM.t hP) (Nat.le_of_ble_eq_true rfl) (hww) ?_
      clear hP hww
      rintro _ σ ⟨S2, rfl, hP, hK2, hX2, -⟩
      obtain ⟨g1, g2, g3, g4, g5, g6, g7⟩ := hK2.2.2.2.1.last
      obtain ⟨c1, c2, -⟩ := hK2.2.2.2.1.ch hK2.2.2.1
      have hd := fun (σ : hM) (hP : PM σ0 P1 S2 σ) => CL.mono (m_isDirH (fb := fb) (d := d + 15) (i := 0) (y := y) hP (by decide) (g6.trans hy)) (fun r σ1 hr => by rw [if_pos q3] at hr; exact hr)
      refine cI ?_
      refine x_si (ls1 := [some (vR (some 2281)), some (vI p), some (vI fr), some (vI 0), none, none, none, none, none]) T_326_7 rfl ?_
      refine x_li (z := 0) T_326_8 rfl ?_
      refine x_if T_326_9 (fun _ => ?_) (fun h => absurd (show (0 : Int) ≤ 0 by decide) h)
      refine x_lr (z := some 2281) T_326_14 rfl ?_
      refine x_gI (z := 1) T_326_15 (Or.inl F_17_91) (PM.t hP) (Eq.trans (PM.nS hP 2281 91 91 rfl rfl rfl) g1) ?_
      refine x_ic T_326_18 ?_
      refine x_ib (w := 0) T_326_19 (fun h => absurd h.1 (by decide)) (by decide) ?_
      refine x_si (ls1 := [some (vR (some 2281)), some (vI p), some (vI fr), some (vI 0), some (vI 0), none, none, none, none]) T_326_20 rfl ?_
      refine x_lr (z := some 2281) T_326_22 rfl ?_
      refine x_li (z := 0) T_326_23 rfl ?_
      refine x_cv2 T_326_25 mN_348 mL_348 (Nat.le_of_ble_eq_true rfl) mO_348 (PM.t hP) (Nat.le_of_ble_eq_true rfl) (hd σ hP) ?_
      rintro _ σ ⟨rfl, rfl⟩
      refine cI ?_
      refine x_if T_326_28 (fun _ => ?_) (fun h => absurd (show (0 : Int) = 0 by decide) h)
      refine x_lr (z := some 2281) T_326_34 rfl ?_
      refine x_lr (z := some 2281) T_326_35 rfl ?_
      refine x_gR (z := some 2350) T_326_36 F_17_86 (PM.t hP) (PM.r hP 86 2350 rfl) ?_
      refine x_li (z := 0) T_326_39 rfl ?_
      refine x_alI (z := c.1) T_326_41 (by decide) (PM.ta hP 2350 0 64 rfl rfl) (by omega) (by omega) (Eq.trans (PM.aS hP 2350 rfl rfl (by omega)) g3) ?_
      refine x_lr (z := some 2281) T_326_42 rfl ?_
      refine x_gR (z := some 2351) T_326_43 F_17_87 (PM.t hP) (PM.r hP 87 2351 rfl) ?_
      refine x_li (z := 0) T_326_46 rfl ?_
      refine x_alI (z := c.2.1) T_326_48 (by decide) (PM.ta hP 2351 0 64 rfl rfl) (by omega) (by omega) (Eq.trans (PM.aS hP 2351 rfl rfl (by omega)) g4) ?_
      refine x_ic T_326_49 ?_
      refine x_cv4 T_326_50 mN_349 mL_349 (Nat.le_of_ble_eq_true rfl) mO_349 (PM.t hP) (Nat.le_of_ble_eq_true rfl) (g_askOpen hP hK2.2.2.1 hK2.1 (by omega) (by omega)) ?_
      clear hP
      intro r σ hr
      obtain ⟨S3, hr0, hP, hK3, hX3, -⟩ := hK2.ask (T1 := T + 304) (by omega) hr
      rw [he2] at hr0
      subst hr0
      rw [hP2] at hP hK3
      refine cI ?_
      refine x_si (ls1 := [some (vR (some 2281)), some (vI p), some (vI fr), some (vI e2), some (vI 0), none, none, none, none]) T_326_53 rfl ?_
      refine x_ic T_326_54 ?_
      refine x_si (ls1 := [some (vR (some 2281)), some (vI p), some (vI fr), some (vI e2), some (vI 0), some (vI 0), none, none, none]) T_326_55 rfl ?_
      refine x_li (z := e2) T_326_57 rfl ?_
      refine x_if T_326_58 (fun _ => ?_) (fun h => absurd (show ¬ e2 = 0 by omega) h)
      refine x_ic T_326_65 ?_
      refine x_si (ls1 := [some (vR (some 2281)), some (vI p), some (vI fr), some (vI e2), some (vI 0), some (vI 0), some (vI 0), none, none]) T_326_66 rfl ?_
      refine x_li (z := 0) T_326_68 rfl ?_
      refine x_if T_326_70 (fun _ => ?_) (fun h => absurd (show (0 : Int) = 0 by rfl) h)
      refine x_li (z := e2) T_326_223 rfl ?_
      refine x_ri T_326_224 ?_
      exact ⟨S3, rfl, hP, hK3.mono (by omega), SO_sc (SX_tr hX2 hX3)⟩
    · rw [if_neg q4]
      dsimp only
      have q5 : e2 = 0 := by omega
      subst q5
      refine CL_in mL_326 rfl ?_
      show WP fb _ 326 0 [some (vR (some 2281)), some (vI p), some (vI fr), none, none, none, none, none, none] [] σ _
      refine x_lr (z := some 2281) T_326_0 rfl ?_
      refine x_li (z := p) T_326_1 rfl ?_
      refine x_ic T_326_2 ?_
      refine x_ic T_326_3 ?_
      refine x_cv4 T_326_4 mN_327 mL_327 (Nat.le_of_ble_eq_true rfl) mO_327 (PM.t hP) (Nat.le_of_ble_eq_true rfl) (hww) ?_
      clear hP hww
      rintro _ σ ⟨S2, rfl, hP, hK2, hX2, -⟩
      obtain ⟨g1, g2, g3, g4, g5, g6, g7⟩ := hK2.2.2.2.1.last
      obtain ⟨c1, c2, -⟩ := hK2.2.2.2.1.ch hK2.2.2.1
      have hd := fun (σ : hM) (hP : PM σ0 P1 S2 σ) => CL.mono (m_isDirH (fb := fb) (d := d + 15) (i := 0) (y := y) hP (by decide) (g6.trans hy)) (fun r σ1 hr => by rw [if_pos q3] at hr; exact hr)
      refine cI ?_
      refine x_si (ls1 := [some (vR (some 2281)), some (vI p), some (vI fr), some (vI 0), none, none, none, none, none]) T_326_7 rfl ?_
      refine x_li (z := 0) T_326_8 rfl ?_
      refine x_if T_326_9 (fun _ => ?_) (fun h => absurd (show (0 : Int) ≤ 0 by decide) h)
      refine x_lr (z := some 2281) T_326_14 rfl ?_
      refine x_gI (z := 1) T_326_15 (Or.inl F_17_91) (PM.t hP) (Eq.trans (PM.nS hP 2281 91 91 rfl rfl rfl) g1) ?_
      refine x_ic T_326_18 ?_
      refine x_ib (w := 0) T_326_19 (fun h => absurd h.1 (by decide)) (by decide) ?_
      refine x_si (ls1 := [some (vR (some 2281)), some (vI p), some (vI fr), some (vI 0), some (vI 0), none, none, none, none]) T_326_20 rfl ?_
      refine x_lr (z := some 2281) T_326_22 rfl ?_
      refine x_li (z := 0) T_326_23 rfl ?_
      refine x_cv2 T_326_25 mN_348 mL_348 (Nat.le_of_ble_eq_true rfl) mO_348 (PM.t hP) (Nat.le_of_ble_eq_true rfl) (hd σ hP) ?_
      rintro _ σ ⟨rfl, rfl⟩
      refine cI ?_
      refine x_if T_326_28 (fun _ => ?_) (fun h => absurd (show (0 : Int) = 0 by decide) h)
      refine x_lr (z := some 2281) T_326_34 rfl ?_
      refine x_lr (z := some 2281) T_326_35 rfl ?_
      refine x_gR (z := some 2350) T_326_36 F_17_86 (PM.t hP) (PM.r hP 86 2350 rfl) ?_
      refine x_li (z := 0) T_326_39 rfl ?_
      refine x_alI (z := c.1) T_326_41 (by decide) (PM.ta hP 2350 0 64 rfl rfl) (by omega) (by omega) (Eq.trans (PM.aS hP 2350 rfl rfl (by omega)) g3) ?_
      refine x_lr (z := some 2281) T_326_42 rfl ?_
      refine x_gR (z := some 2351) T_326_43 F_17_87 (PM.t hP) (PM.r hP 87 2351 rfl) ?_
      refine x_li (z := 0) T_326_46 rfl ?_
      refine x_alI (z := c.2.1) T_326_48 (by decide) (PM.ta hP 2351 0 64 rfl rfl) (by omega) (by omega) (Eq.trans (PM.aS hP 2351 rfl rfl (by omega)) g4) ?_
      refine x_ic T_326_49 ?_
      refine x_cv4 T_326_50 mN_349 mL_349 (Nat.le_of_ble_eq_true rfl) mO_349 (PM.t hP) (Nat.le_of_ble_eq_true rfl) (g_askOpen hP hK2.2.2.1 hK2.1 (by omega) (by omega)) ?_
      clear hP
      intro r σ hr
      obtain ⟨S3, hr0, hP, hK3, hX3, -⟩ := hK2.ask (T1 := T + 304) (by omega) hr
      rw [he2] at hr0
      subst hr0
      rw [hP2] at hP hK3
      refine cI ?_
      refine x_si (ls1 := [some (vR (some 2281)), some (vI p), some (vI fr), some (vI 0), some (vI 0), none, none, none, none]) T_326_53 rfl ?_
      refine x_ic T_326_54 ?_
      refine x_si (ls1 := [some (vR (some 2281)), some (vI p), some (vI fr), some (vI 0), some (vI 0), some (vI 0), none, none, none]) T_326_55 rfl ?_
      refine x_li (z := 0) T_326_57 rfl ?_
      refine x_if T_326_58 (fun h => absurd (show ¬ (0 : Int) = 0 from h) (by omega)) (fun _ => ?_)
      refine x_ic T_326_61 ?_
      refine x_goto T_326_62 ?_
      refine x_si (ls1 := [some (vR (some 2281)), some (vI p), some (vI fr), some (vI 0), some (vI 0), some (vI 0), some (vI 1), none, none]) T_326_66 rfl ?_
      have hr := rdMu_rng (P := P2) (s := c.1) (fd := c.2.1) hK3.1 (by omega)
      refine WP.mono (m_cat_out (d := d + 4) (T := T + 304) (off := 0) (e0 := 0) hp hf 601 none none _ _ _ hr.1 (by omega) (by decide) (by decide) (by omega) hP hK3) ?_
      rintro r σ1 ⟨S4, r1, r2, r3, r4⟩
      exact ⟨S4, r1, r2, r3.mono (by omega), SO_tr (SO_sc (SX_tr hX2 hX3)) r4⟩
  · rw [if_pos q3]
    dsimp only
    refine CL_in mL_326 rfl ?_
    show WP fb _ 326 0 [some (vR (some 2281)), some (vI p), some (vI fr), none, none, none, none, none, none] [] σ _
    refine x_lr (z := some 2281) T_326_0 rfl ?_
    refine x_li (z := p) T_326_1 rfl ?_
    refine x_ic T_326_2 ?_
    refine x_ic T_326_3 ?_
    refine x_cv4 T_326_4 mN_327 mL_327 (Nat.le_of_ble_eq_true rfl) mO_327 (PM.t hP) (Nat.le_of_ble_eq_true rfl) (hww) ?_
    clear hP hww
    rintro _ σ ⟨S2, rfl, hP, hK2, hX2, -⟩
    obtain ⟨g1, g2, g3, g4, g5, g6, g7⟩ := hK2.2.2.2.1.last
    obtain ⟨c1, c2, -⟩ := hK2.2.2.2.1.ch hK2.2.2.1
    have hd := fun (σ : hM) (hP : PM σ0 P1 S2 σ) => CL.mono (m_isDirH (fb := fb) (d := d + 15) (i := 0) (y := y) hP (by decide) (g6.trans hy)) (fun r σ1 hr => by rw [if_neg q3] at hr; exact hr)
    refine cI ?_
    refine x_si (ls1 := [some (vR (some 2281)), some (vI p), some (vI fr), some (vI 0), none, none, none, none, none]) T_326_7 rfl ?_
    refine x_li (z := 0) T_326_8 rfl ?_
    refine x_if T_326_9 (fun _ => ?_) (fun h => absurd (show (0 : Int) ≤ 0 by decide) h)
    refine x_lr (z := some 2281) T_326_14 rfl ?_
    refine x_gI (z := 1) T_326_15 (Or.inl F_17_91) (PM.t hP) (Eq.trans (PM.nS hP 2281 91 91 rfl rfl rfl) g1) ?_
    refine x_ic T_326_18 ?_
    refine x_ib (w := 0) T_326_19 (fun h => absurd h.1 (by decide)) (by decide) ?_
    refine x_si (ls1 := [some (vR (some 2281)), some (vI p), some (vI fr), some (vI 0), some (vI 0), none, none, none, none]) T_326_20 rfl ?_
    refine x_lr (z := some 2281) T_326_22 rfl ?_
    refine x_li (z := 0) T_326_23 rfl ?_
    refine x_cv2 T_326_25 mN_348 mL_348 (Nat.le_of_ble_eq_true rfl) mO_348 (PM.t hP) (Nat.le_of_ble_eq_true rfl) (hd σ hP) ?_
    rintro _ σ ⟨rfl, rfl⟩
    refine cI ?_
    refine x_if T_326_28 (fun h => absurd (show (1 : Int) = 0 from h) (by decide)) (fun _ => ?_)
    refine x_ic T_326_31 ?_
    refine x_ri T_326_33 ?_
    exact ⟨S2, rfl, hP, hK2.mono (by omega), SO_sc hX2⟩
end MCAT2
