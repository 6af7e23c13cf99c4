/-! The class's servers: an opening. -/
theorem T_59_0 : hTab 59 0 = some ((3, 1, 2, []), 1) := rfl
theorem T_59_1 : hTab 59 1 = some ((24, 9, Int.ofNat 5, []), 4) := rfl
theorem T_59_4 : hTab 59 4 = some ((0, 0, (-1), []), 5) := rfl
theorem T_59_5 : hTab 59 5 = some ((19, 0, Int.ofNat 11, []), 8) := rfl
theorem T_59_8 : hTab 59 8 = some ((0, 0, 8, []), 10) := rfl
theorem T_59_10 : hTab 59 10 = some ((33, 1, 0, []), 11) := rfl
theorem T_59_11 : hTab 59 11 = some ((3, 1, 2, []), 12) := rfl
theorem T_59_12 : hTab 59 12 = some ((24, 9, Int.ofNat 3, []), 15) := rfl
theorem T_59_15 : hTab 59 15 = some ((20, 1, Int.ofNat 20, []), 18) := rfl
theorem T_59_18 : hTab 59 18 = some ((0, 0, 1, []), 19) := rfl
theorem T_59_19 : hTab 59 19 = some ((33, 1, 0, []), 20) := rfl
theorem T_59_20 : hTab 59 20 = some ((3, 0, 2, []), 21) := rfl
theorem T_59_21 : hTab 59 21 = some ((24, 7, Int.ofNat 9, []), 24) := rfl
theorem T_59_24 : hTab 59 24 = some ((0, 0, 11, []), 26) := rfl
theorem T_59_26 : hTab 59 26 = some ((31, 33, 0, []), 29) := rfl
theorem T_59_29 : hTab 59 29 = some ((4, 2, 0, []), 30) := rfl
theorem T_59_30 : hTab 59 30 = some ((3, 0, 2, []), 31) := rfl
theorem T_59_31 : hTab 59 31 = some ((3, 1, 2, []), 32) := rfl
theorem T_59_32 : hTab 59 32 = some ((24, 9, Int.ofNat 3, []), 35) := rfl
theorem T_59_35 : hTab 59 35 = some ((3, 1, 2, []), 36) := rfl
theorem T_59_36 : hTab 59 36 = some ((24, 9, Int.ofNat 2, []), 39) := rfl
theorem T_59_39 : hTab 59 39 = some ((3, 2, 0, []), 40) := rfl
theorem T_59_40 : hTab 59 40 = some ((31, 60, 0, []), 43) := rfl
theorem T_59_43 : hTab 59 43 = some ((4, 3, 0, []), 44) := rfl
theorem T_59_44 : hTab 59 44 = some ((3, 3, 0, []), 45) := rfl
theorem T_59_45 : hTab 59 45 = some ((18, 0, Int.ofNat 50, []), 48) := rfl
theorem T_59_48 : hTab 59 48 = some ((3, 3, 0, []), 49) := rfl
theorem T_59_49 : hTab 59 49 = some ((33, 1, 0, []), 50) := rfl
theorem T_59_50 : hTab 59 50 = some ((3, 2, 0, []), 51) := rfl
theorem T_59_51 : hTab 59 51 = some ((0, 0, 16, []), 53) := rfl
theorem T_59_53 : hTab 59 53 = some ((10, 5, 0, []), 54) := rfl
theorem T_59_54 : hTab 59 54 = some ((18, 0, Int.ofNat 94, []), 57) := rfl
theorem T_59_57 : hTab 59 57 = some ((3, 0, 2, []), 58) := rfl
theorem T_59_58 : hTab 59 58 = some ((24, 7, Int.ofNat 1, []), 61) := rfl
theorem T_59_61 : hTab 59 61 = some ((18, 1, Int.ofNat 94, []), 64) := rfl
theorem T_59_64 : hTab 59 64 = some ((3, 1, 2, []), 65) := rfl
theorem T_59_65 : hTab 59 65 = some ((24, 9, Int.ofNat 3, []), 68) := rfl
theorem T_59_68 : hTab 59 68 = some ((31, 61, 0, []), 71) := rfl
theorem T_59_71 : hTab 59 71 = some ((18, 1, Int.ofNat 94, []), 74) := rfl
theorem T_59_74 : hTab 59 74 = some ((3, 0, 2, []), 75) := rfl
theorem T_59_75 : hTab 59 75 = some ((3, 1, 2, []), 76) := rfl
theorem T_59_76 : hTab 59 76 = some ((24, 9, Int.ofNat 3, []), 79) := rfl
theorem T_59_79 : hTab 59 79 = some ((0, 0, 0, []), 80) := rfl
theorem T_59_80 : hTab 59 80 = some ((31, 62, 0, []), 83) := rfl
theorem T_59_83 : hTab 59 83 = some ((3, 1, 2, []), 84) := rfl
theorem T_59_84 : hTab 59 84 = some ((24, 9, Int.ofNat 3, []), 87) := rfl
theorem T_59_87 : hTab 59 87 = some ((3, 1, 2, []), 88) := rfl
theorem T_59_88 : hTab 59 88 = some ((24, 9, Int.ofNat 2, []), 91) := rfl
theorem T_59_91 : hTab 59 91 = some ((31, 45, 0, []), 94) := rfl
theorem T_59_94 : hTab 59 94 = some ((3, 1, 2, []), 95) := rfl
theorem T_59_95 : hTab 59 95 = some ((3, 2, 0, []), 96) := rfl
theorem T_59_96 : hTab 59 96 = some ((0, 0, (-81), []), 98) := rfl
theorem T_59_98 : hTab 59 98 = some ((10, 5, 0, []), 99) := rfl
theorem T_59_99 : hTab 59 99 = some ((3, 2, 0, []), 100) := rfl
theorem T_59_100 : hTab 59 100 = some ((0, 0, 64, []), 102) := rfl
theorem T_59_102 : hTab 59 102 = some ((10, 5, 0, []), 103) := rfl
theorem T_59_103 : hTab 59 103 = some ((18, 0, Int.ofNat 110, []), 106) := rfl
theorem T_59_106 : hTab 59 106 = some ((0, 0, 1, []), 107) := rfl
theorem T_59_107 : hTab 59 107 = some ((22, 0, Int.ofNat 111, []), 110) := rfl
theorem T_59_110 : hTab 59 110 = some ((0, 0, 0, []), 111) := rfl
theorem T_59_111 : hTab 59 111 = some ((31, 63, 0, []), 114) := rfl
theorem T_59_114 : hTab 59 114 = some ((3, 0, 2, []), 115) := rfl
theorem T_59_115 : hTab 59 115 = some ((3, 1, 2, []), 116) := rfl
theorem T_59_116 : hTab 59 116 = some ((24, 9, Int.ofNat 3, []), 119) := rfl
theorem T_59_119 : hTab 59 119 = some ((31, 52, 0, []), 122) := rfl
theorem T_59_122 : hTab 59 122 = some ((3, 0, 2, []), 123) := rfl
theorem T_59_123 : hTab 59 123 = some ((24, 7, Int.ofNat 10, []), 126) := rfl
theorem T_59_126 : hTab 59 126 = some ((1, 0, 0, []), 127) := rfl
theorem T_59_127 : hTab 59 127 = some ((0, 0, 4, []), 128) := rfl
theorem T_59_128 : hTab 59 128 = some ((31, 22, 0, []), 131) := rfl
theorem T_59_131 : hTab 59 131 = some ((0, 0, 0, []), 132) := rfl
theorem T_59_132 : hTab 59 132 = some ((33, 1, 0, []), 133) := rfl
theorem mN_59 : hmN 59 = 2 := by decide +kernel
theorem mL_59 : hmL 59 = 4 := by decide +kernel
theorem mK_59 : hmK 59 = 1 := by decide +kernel
theorem mO_59 : hmO 59 = 7 := by decide +kernel
section XOPNB
variable {fb : Bool} {d S a b c0 rp mb m0 N M : Nat} {σ0 σ : hM} {W W1 W2 P Q : qR} {R R1 R2 : rR} {i j k x z v s e w f u n p g ln K T U C c m : Int} {ord l l2 nm lo : List Int} {t : Nat → Nat} {r : Option Nat}
theorem gOpn_f {g : Nat} (h1 : g ≠ 2309) (h2 : g ≠ 2311) (h3 : g ≠ 2312) : gOpen P k m g j = P g j := by
  unfold gOpen
  rw [rU_f h3, rU_f h2, rU_f h1]
theorem gOpn_o {g : Nat} (h : j ≠ k) : gOpen P k m g j = P g j := by
  have e : ∀ (Q : qR) (f : Nat) (w : Int), rU Q f k w g j = Q g j := fun Q f w => if_neg (fun q => h q.2)
  unfold gOpen
  rw [e, e, e]
theorem gOpn_fe : FE (gOpen P k m) P := fun f j hf => gOpn_f (fun q => by rw [q] at hf; exact absurd hf (by decide)) (fun q => by rw [q] at hf; exact absurd hf (by decide)) (fun q => by rw [q] at hf; exact absurd hf (by decide))
theorem gOpn_at : gOpen P k m 2309 k = m ∧ gOpen P k m 2311 k = 0 ∧ gOpen P k m 2312 k = 0 := by
  unfold gOpen
  refine ⟨?_, ?_, rU_s⟩
  · rw [rU_f (by decide), rU_f (by decide), rU_s]
  · rw [rU_f (by decide), rU_s]
/-- a fid that is not open has been read from nowhere -/
theorem XV.opn (h : XV W R P S s ord t) (h6 : ∀ n, s < 2 → isN P s n → P 2297 (64 * s + n) ≤ 600) (hi : 0 ≤ i ∧ i < 96) (hm : 0 ≤ m) (hx : x = and32 m 3) (hy : e = if and32 m 64 = 0 then 0 else 1) (hr1 : W (S + 198 + i.toNat) 2295 = 0) (hr2 : W (S + 198 + i.toNat) 2296 = 0) : XV (rU (rU W (S + 198 + i.toNat) 2293 x) (S + 198 + i.toNat) 2294 e) R (gOpen P (96 * s + i) m) S s ord t := by
  have hml : ∀ n, n ∈ ord → isN P s n := fun n hn => (h.1.1.1 n).mp hn
  refine ⟨((h.1.key ⟨by decide, by decide, by decide, Or.inr (by decide)⟩).key ⟨by decide, by decide, by decide, Or.inr (by decide)⟩).fe gOpn_fe, fun k k0 k1 => ?_, ?_, fun k k0 k1 => (((h.2.2.2.key (b := S + 198 + i.toNat) (v := x) (k := 2293) (by decide) (by decide) h6 hml).key (b := S + 198 + i.toNat) (v := e) (k := 2294) (by decide) (by decide) h6 hml) k k0 k1).pp (fun _ => gOpn_f (by decide) (by decide) (by decide)) (fun _ _ _ _ => gOpn_f (by decide) (by decide) (by decide))⟩
  · obtain ⟨a1, a2, a3⟩ := h.2.1 k k0 k1
    have w : ∀ q : Int, q ≠ 2293 → q ≠ 2294 → rU (rU W (S + 198 + i.toNat) 2293 x) (S + 198 + i.toNat) 2294 e (S + 198 + k.toNat) q = W (S + 198 + k.toNat) q := fun q h1 h2 => (rU_j h2).trans (rU_j h1)
    rw [w _ (by decide) (by decide), gOpn_f (by decide) (by decide) (by decide)]
    refine ⟨a1, fun q => ?_, a3⟩
    obtain ⟨b1, b2, b3, b4, b5, b6, b7, b8⟩ := a2 q
    unfold FDu
    rw [w 2289 (by decide) (by decide), w 2290 (by decide) (by decide), w 2292 (by decide) (by decide), w 2295 (by decide) (by decide), w 2296 (by decide) (by decide), gOpn_f (g := 2305) (by decide) (by decide) (by decide), gOpn_f (g := 2308) (by decide) (by decide) (by decide), gOpn_f (g := 2307) (by decide) (by decide) (by decide), gOpn_f (g := 2310) (by decide) (by decide) (by decide), gOpn_f (g := 2306) (by decide) (by decide) (by decide)]
    by_cases q2 : k = i
    · subst q2
      obtain ⟨g1, g2, g3⟩ := gOpn_at (P := P) (k := 96 * s + k) (m := m)
      rw [g1, g2, g3]
      refine ⟨b1, b2, b3, ?_, ?_, hr1, hr2, b8⟩
      · rw [rU_j (by decide), rU_s, hx]
        exact (if_neg (by omega)).symm
      · rw [rU_s, hy]
        unfold fdRm
        by_cases c : and32 m 64 = 0
        · rw [if_pos c, if_neg (fun c2 => c2.2 c)]
        · rw [if_neg c, if_pos ⟨hm, c⟩]
    · rw [rU_f (by omega), rU_f (by omega), rU_f (by omega), rU_f (by omega), gOpn_o (by omega), gOpn_o (by omega), gOpn_o (by omega)]
      exact ⟨b1, b2, b3, b4, b5, b6, b7, b8⟩
  · obtain ⟨z1, z2, z3, z4⟩ := h.2.2.1
    have w : ∀ (x0 : Nat) (q : Int), q ≠ 2293 → q ≠ 2294 → rU (rU W (S + 198 + i.toNat) 2293 x) (S + 198 + i.toNat) 2294 e x0 q = W x0 q := fun x0 q h1 h2 => (rU_j h2).trans (rU_j h1)
    unfold SZ
    rw [w _ _ (by decide) (by decide), w _ _ (by decide) (by decide), w _ _ (by decide) (by decide), w _ _ (by decide) (by decide), w _ _ (by decide) (by decide), gOpn_f (by decide) (by decide) (by decide), gOpn_f (by decide) (by decide) (by decide), gOpn_f (by decide) (by decide) (by decide), gOpn_f (by decide) (by decide) (by decide)]
    exact ⟨z1, z2, z3, z4⟩
/-- behind a fid's file, its rows -/
theorem XV.fnode (h : XV W R P S s ord t) (hn : isN P s n) : ∃ (b : Nat) (i : Int), noA S ord t n = some b ∧ (0 ≤ i ∧ i < ord.length) ∧ S + 6 + 3 * t i.toNat = b ∧ lg ord i = n ∧ t i.toNat < 64 ∧ ND W P b s n := by
  obtain ⟨j, j0, j1, hj⟩ := mem_lg ((h.1.1.1 n).mpr hn)
  have hbj := noA_get (S := S) (t := t) h.1.nodup j0 j1
  have hN := h.1.2.2.2.1 j j0 j1
  rw [hj] at hbj hN
  exact ⟨_, j, hbj, ⟨j0, j1⟩, rfl, hj, h.1.2.1.1 _ (by have := h.1.1.2.1; omega), hN⟩
theorem x_doOpen (hP : PX σ0 W R σ) (hS : VS S s) (hX : XV W R P S s ord t) (hK : CT K W R) (hG : GI T U P) (hD : TI P) (hT : T + 49 ≤ 2147483000) (hr : R S 2233 = some mb) (hrp : R S 2234 = some rp) (hB : BY W mb M l) (hz : (l.length : Int) = z) (hmo : mb + 1 < S ∨ S + 294 ≤ mb) (hBr : BY W rp 300 l2) (hro : rp + 1 < S ∨ S + 294 ≤ rp) (hmr : mb ≠ rp) (hroom : l2.length = 7) (hw : z = 12) (hi : 0 ≤ i ∧ i < 96) (hk : qFid P s c (nu (lg l) 7 4) = 96 * s + i) (hu : ¬ P 2304 (96 * s + i) = 0) : CL fb (d + 4) 59 [vR (some S), vR (some (S + 198 + i.toNat))] σ (XS σ0 K W R S rp s (opE P s c (lg l) z) (if opE P s c (lg l) z = 0 then opP P s c (lg l) else P) (l2 ++ (qidL (opP P s c (lg l)) s (P 2306 (qFid P s c (nu (lg l) 7 4))) ++ leb 4 0))) := by
  have hO := hS.o
  have hsr := hS.1
  have hrg := hS.rng
  have hbo := hB.1
  have hro1 := hBr.1
  have hrlt := hBr.lt
  have hrp0 := (tX_o hro1).1
  have hm0 := (tX_o hbo).1
  have hb := hB.2.2.2.2.2.1
  have hfo := hS.fd hi
  have hR := TRX_of hX.1 hG hsr
  have hno : ∀ j, j < 64 → S + 7 + 3 * j ≠ rp := fun j hj => by omega
  obtain ⟨f1, f2, f3, f4, f5, f6, f7, f8⟩ := (hX.2.1 i hi.1 hi.2).2.1 hu
  obtain ⟨m, hm⟩ : ∃ m, nu (lg l) 11 1 = m := ⟨_, rfl⟩
  have hmr2 := nu_rng (f := lg l) (i := 11) 1 (fun j _ => hb _ (by omega))
  rw [hm] at hmr2
  have hmr3 : m < 256 := hmr2.2
  have hml : lg l 11 = m := by
    rw [← hm]
    show lg l 11 = 0 + lg l (11 + ((0 : Nat) : Int)) * 256 ^ 0
    rw [show (11 : Int) + ((0 : Nat) : Int) = 11 by omega]
    omega
  have h1 := x_at (fb := fb) (d := d + 3) (i := 11) hP hB
  rw [if_pos (by omega), hml] at h1
  obtain ⟨md, hmd⟩ : ∃ y, P 2309 (96 * s + i) = y := ⟨_, rfl⟩
  obtain ⟨gn, hgn⟩ : ∃ y, P 2310 (96 * s + i) = y := ⟨_, rfl⟩
  obtain ⟨u, hu0⟩ : ∃ y, P 2308 (96 * s + i) = y := ⟨_, rfl⟩
  obtain ⟨nd, hnd⟩ : ∃ nd, P 2306 (96 * s + i) = nd := ⟨_, rfl⟩
  have hu3 := (fid_node hG hsr (k := 96 * s + i) (by omega)).2
  have eE : opE P s c (lg l) z = if 0 ≤ md then 8 else if ¬ gn = 0 then 1 else qOpn P s nd u m := by
    unfold opE
    rw [hk, hmd, hgn, hnd, hu0, hm, if_neg (fun c => c hw), if_neg (by omega)]
  have eP : opP P s c (lg l) = opG P s (96 * s + i) m := by
    unfold opP
    rw [hk, hm]
  have hno0 : ∀ e0 : Int, ¬ e0 = 0 → opE P s c (lg l) z = e0 → XS σ0 K W R S rp s (opE P s c (lg l) z) (if opE P s c (lg l) z = 0 then opP P s c (lg l) else P) (l2 ++ (qidL (opP P s c (lg l)) s (P 2306 (qFid P s c (nu (lg l) 7 4))) ++ leb 4 0)) (some (vI e0)) σ := fun e0 q1 q2 => by
    rw [q2, if_neg q1]
    exact ⟨rfl, W, R, ord, t, l2, hP, hBr, fun c => absurd c q1, hX, hK, FV_rfl⟩
  have hmo2 : W (S + 198 + i.toNat) 2293 = if md < 0 then -1 else and32 md 3 := by rw [f4, hmd]; rfl
  rw [hgn, hnd] at f8
  rw [hu0] at f2 hu3
  have hreads := fun (q : md < 0) => hD.2.2.2.2.2 (96 * s + i) (by omega) (by omega) (by rw [hmd]; exact q)
  have hlv := fun q => hD.live hG hsr hi hu (hgn.trans q)
  rw [hnd] at hlv
  obtain ⟨fa, hfa⟩ : ∃ fa, S + 198 + i.toNat = fa := ⟨_, rfl⟩
  rw [hfa] at f2 f6 f7 f8 hfo hmo2 ⊢
  by_cases q8 : 0 ≤ md
  · rw [if_pos q8] at eE
    rw [if_neg (by omega)] at hmo2
    have hne : ¬ and32 md 3 = -1 := by
      have := and3_rng (x := md)
      omega
    obtain ⟨mv, hmv⟩ : ∃ mv, and32 md 3 = mv := ⟨_, rfl⟩
    rw [hmv] at hmo2 hne
    have hno0 := hno0 8 (by decide) eE
    refine CL_in mL_59 rfl ?_
    show WP fb _ 59 0 [some (vR (some S)), some (vR (some fa)), none, none] [] σ _
    refine x_lr (z := some fa) T_59_0 rfl ?_
    refine x_gI (z := mv) T_59_1 (Or.inl F_9_5) (hP.o hfo) (Eq.trans (hP.gi hfo (key := 2293) rfl) hmo2) ?_
    refine x_ic T_59_4 ?_
    refine x_ic2 T_59_5 (fun h => absurd (show mv = (-1) from h) (by omega)) (fun _ => ?_)
    refine x_ic T_59_8 ?_
    refine x_ri T_59_10 ?_
    exact hno0
  rw [if_neg q8] at eE
  rw [if_pos (by omega)] at hmo2
  by_cases q1 : gn = 0
  rotate_left
  · rw [if_pos q1] at eE
    rw [if_neg q1] at f8
    have hno0 := hno0 1 (by decide) eE
    refine CL_in mL_59 rfl ?_
    show WP fb _ 59 0 [some (vR (some S)), some (vR (some fa)), none, none] [] σ _
    refine x_lr (z := some fa) T_59_0 rfl ?_
    refine x_gI (z := (-1)) T_59_1 (Or.inl F_9_5) (hP.o hfo) (Eq.trans (hP.gi hfo (key := 2293) rfl) hmo2) ?_
    refine x_ic T_59_4 ?_
    refine x_ic2 T_59_5 (fun _ => ?_) (fun h => absurd (show ((-1) : Int) = (-1) by decide) h)
    refine x_lr (z := some fa) T_59_11 rfl ?_
    refine x_gR (z := none) T_59_12 F_9_3 (hP.o hfo) (Eq.trans (hP.rm hfo rfl (key := 2291) rfl) f8) ?_
    refine x_nnul T_59_15 (fun a0 h0 => absurd h0 (by simp)) (fun _ => ?_)
    refine x_ic T_59_18 ?_
    refine x_ri T_59_19 ?_
    exact hno0
  rw [if_neg (fun c => c q1)] at eE
  rw [if_pos q1] at f8
  have hlv := hlv q1
  obtain ⟨b, ix, hb2, hix, hbix, hlx, htx, hN⟩ := hX.fnode hlv
  rw [hb2] at f8
  have hbn : tX b = some (Sum.inl 8) := hN.1
  have hre := x_openRefusal (fb := fb) (d := d + 1) (u := u) (m := m) hP hS hX.1 hR hlv hb2 ⟨hmr2.1, by omega⟩ hX.2.2.1.2.2.1
  rw [← eE] at hre
  obtain ⟨e, he⟩ : ∃ e, opE P s c (lg l) z = e := ⟨_, rfl⟩
  rw [he] at hre eE hno0 ⊢
  by_cases q0 : e = 0
  rotate_left
  · have hno0 := hno0 e q0 rfl
    refine CL_in mL_59 rfl ?_
    show WP fb _ 59 0 [some (vR (some S)), some (vR (some fa)), none, none] [] σ _
    refine x_lr (z := some fa) T_59_0 rfl ?_
    refine x_gI (z := (-1)) T_59_1 (Or.inl F_9_5) (hP.o hfo) (Eq.trans (hP.gi hfo (key := 2293) rfl) hmo2) ?_
    refine x_ic T_59_4 ?_
    refine x_ic2 T_59_5 (fun _ => ?_) (fun h => absurd (show ((-1) : Int) = (-1) by decide) h)
    refine x_lr (z := some fa) T_59_11 rfl ?_
    refine x_gR (z := some b) T_59_12 F_9_3 (hP.o hfo) (Eq.trans (hP.rm hfo rfl (key := 2291) rfl) f8) ?_
    refine x_nnul T_59_15 (fun _ _ => ?_) (fun h0 => absurd h0 (by simp))
    refine x_lr (z := some S) T_59_20 rfl ?_
    refine x_gR (z := some mb) T_59_21 F_7_9 (hP.o hO) (Eq.trans (hP.rm hO rfl (key := 2233) rfl) hr) ?_
    refine x_ic T_59_24 ?_
    refine x_cv2 T_59_26 mN_33 mL_33 (Nat.le_of_ble_eq_true rfl) mO_33 (hP.o hbo) (Nat.le_of_ble_eq_true rfl) (h1) ?_
    rintro _ σ ⟨rfl, rfl⟩
    refine cI ?_
    refine x_si (ls1 := [some (vR (some S)), some (vR (some fa)), some (vI m), none]) T_59_29 rfl ?_
    refine x_lr (z := some S) T_59_30 rfl ?_
    refine x_lr (z := some fa) T_59_31 rfl ?_
    refine x_gR (z := some b) T_59_32 F_9_3 (hP.o hfo) (Eq.trans (hP.rm hfo rfl (key := 2291) rfl) f8) ?_
    refine x_lr (z := some fa) T_59_35 rfl ?_
    refine x_gI (z := u) T_59_36 (Or.inl F_9_2) (hP.o hfo) (Eq.trans (hP.gi hfo (key := 2290) rfl) f2) ?_
    refine x_li (z := m) T_59_39 rfl ?_
    refine x_cv4 T_59_40 mN_60 mL_60 (Nat.le_of_ble_eq_true rfl) mO_60 (hP.o hO) (Nat.le_of_ble_eq_true rfl) (hre) ?_
    rintro _ σ ⟨rfl, rfl⟩
    refine cI ?_
    refine x_si (ls1 := [some (vR (some S)), some (vR (some fa)), some (vI m), some (vI e)]) T_59_43 rfl ?_
    refine x_li (z := e) T_59_44 rfl ?_
    refine x_if T_59_45 (fun h => absurd (show e = 0 from h) (by omega)) (fun _ => ?_)
    refine x_li (z := e) T_59_48 rfl ?_
    refine x_ri T_59_49 ?_
    exact hno0
  subst q0
  rw [if_pos rfl, eP, hk, hnd]
  -- the opening itself
  obtain ⟨m1, m2, m3, m4⟩ := m81 (m := m) ⟨hmr2.1, by omega⟩
  have hq16 : and32 m (-81) ≤ 3 := by
    apply Decidable.byContradiction
    intro c2
    unfold qOpn at eE
    rw [if_pos (by omega)] at eE
    omega
  have m3 := m3 hq16
  obtain ⟨ho, hho⟩ : ∃ ho, and32 m (-81) = ho := ⟨_, rfl⟩
  rw [hho] at m3 m1 m2
  have h94 : ∀ (σ : hM) (P1 W2 : qR) (R2 : rR), PX σ0 W2 R2 σ → XV W2 R2 P1 S s ord t → CT K W2 R2 → FV S 0 W W2 R R2 → GI (T + 1) U P1 → (∀ k, P1 2309 k = P 2309 k ∧ P1 2311 k = P 2311 k ∧ P1 2312 k = P 2312 k ∧ P1 2304 k = P 2304 k ∧ P1 2310 k = P 2310 k ∧ P1 2306 k = P 2306 k) → isN P1 s nd → opG P s (96 * s + i) m = gOpen P1 (96 * s + i) m → WP fb (d + 4) 59 94 [some (vR (some S)), some (vR (some fa)), some (vI m), some (vI 0)] [] σ (XS σ0 K W R S rp s 0 (opG P s (96 * s + i) m) (l2 ++ (qidL (opG P s (96 * s + i) m) s nd ++ leb 4 0))) := fun σ P1 W2 R2 hP hX2 hK2 hF2 hG1 hfr hlv1 hq => by
    obtain ⟨z1, z2, z3, z4, z5, z6⟩ := hfr (96 * s + i)
    obtain ⟨a1, a2, a3, a4, a5, a6, a7, a8⟩ := (hX2.2.1 i hi.1 hi.2).2.1 (by rw [z4]; exact hu)
    rw [hfa] at a6 a7 a8
    rw [z2, (hreads (by omega)).1] at a6
    rw [z3, (hreads (by omega)).2] at a7
    rw [z5, hgn, if_pos q1, z6, hnd] at a8
    obtain ⟨b', ix', hb', hix', hbix', hlx', htx', hN'⟩ := hX2.fnode hlv1
    rw [hb'] at a8
    have hr2 : R2 S 2234 = some rp := hF2.2.2.1.2.1.trans hrp
    have hBr2 := FV_by hF2 hBr hro (by omega)
    obtain ⟨g, hg⟩ : ∃ g, and32 m 64 = g := ⟨_, rfl⟩
    have fin : ∀ y : Int, (y = if and32 m 64 = 0 then 0 else 1) → ∀ σ, PX σ0 W2 R2 σ → WP fb (d + 4) 59 111 [some (vR (some S)), some (vR (some fa)), some (vI m), some (vI 0)] [vI y, vI ho, vR (some fa)] σ (XS σ0 K W R S rp s 0 (opG P s (96 * s + i) m) (l2 ++ (qidL (opG P s (96 * s + i) m) s nd ++ leb 4 0))) := fun y hy σ hP => by
      have hy01 : y = 0 ∨ y = 1 := by rw [hy]; split <;> simp
      have hop := x_fidOpen (fb := fb) (d := d + 3) (md := ho) (x := y) hP hfo hy01
      have hX3 := hX2.opn (x := ho) (e := y) (XV.len6 hG1.iv hsr.1) hi hmr2.1 m3.symm hy (by rw [hfa]; exact a6) (by rw [hfa]; exact a7)
      rw [hfa, ← hq] at hX3
      have hF3 : FV S 0 W (rU (rU W2 fa 2293 ho) fa 2294 y) R R2 := FV_tr (FV_tr hF2 (FV_own (by omega) (by omega) (by omega))) (FV_own (by omega) (by omega) (by omega))
      have hK3 : CT K (rU (rU W2 fa 2293 ho) fa 2294 y) R2 := (hK2.drop (by omega) (by decide)).drop (by omega) (by decide)
      have hBr4 : BY (rU (rU W2 fa 2293 ho) fa 2294 y) rp 300 l2 := (hBr2.key (by decide) (by decide)).key (by decide) (by decide)
      have hlv3 : isN (opG P s (96 * s + i) m) s nd := by
        rw [hq]
        exact gOpn_fe.live.mpr hlv1
      obtain ⟨b3, ix3, hb3, hix3, hbix3, hlx3, htx3, hN3⟩ := hX3.fnode hlv3
      have hb3e : b3 = b' := by
        rw [hb'] at hb3
        exact (Option.some.inj hb3).symm
      rw [hb3e] at hN3
      have hpq := fun (σ : hM) (hP : PX σ0 (rU (rU W2 fa 2293 ho) fa 2294 y) R2 σ) => x_putQid (fb := fb) (d := d + 2) hP hS hr2 hBr4 hN3 (by omega) (by omega)
      have hpu := fun (σ : hM) (W3 : qR) (hP : PX σ0 W3 R2 σ) (hB : BY W3 rp 300 (l2 ++ qidL (opG P s (96 * s + i) m) s nd)) => x_put (fb := fb) (d := d + 3) (k := 4) (v := 0) 4 hP hB rfl (by decide) (by decide) (by have := qidL_len (opG P s (96 * s + i) m) s nd; rw [List.length_append]; omega)
      have hend : ∀ (σ : hM) (W4 : qR), PX σ0 W4 R2 σ → BY W4 rp 300 (l2 ++ qidL (opG P s (96 * s + i) m) s nd ++ leb 4 0) → FB rp (rU (rU W2 fa 2293 ho) fa 2294 y) W4 → XS σ0 K W R S rp s 0 (opG P s (96 * s + i) m) (l2 ++ (qidL (opG P s (96 * s + i) m) s nd ++ leb 4 0)) (some (vI 0)) σ := fun σ W4 hP hB4 hF4 => ⟨rfl, W4, R2, ord, t, _, hP, hB4, fun _ => List.append_assoc _ _ _, hX3.fbb hF4 (by omega) hro (fun n q1 q2 => by
          rw [hq, gOpn_f (by decide) (by decide) (by decide)]
          rw [hq] at q2
          exact XV.len6 hG1.iv hsr.1 n q1 (gOpn_fe.live.mp q2)), hK3.fbb hF4 hrp0, FV_tr (FV_w hF3) (FV_fb hF4 (by omega) (by omega))⟩
      have hbn' : tX b' = some (Sum.inl 8) := hN'.1
      have hy' : y = 0 ∨ y = 1 := hy01
      refine x_cv3 T_59_111 mN_63 mL_63 (Nat.le_of_ble_eq_true rfl) mO_63 (hP.o hfo) (Nat.le_of_ble_eq_true rfl) (hop) ?_
      clear hP hop
      rintro _ σ ⟨rfl, hP⟩
      refine cV ?_
      refine x_lr (z := some S) T_59_114 rfl ?_
      refine x_lr (z := some fa) T_59_115 rfl ?_
      refine x_gR (z := some b') T_59_116 F_9_3 (hP.o hfo) (Eq.trans (hP.rm hfo rfl (key := 2291) rfl) a8) ?_
      refine x_cv2 T_59_119 mN_52 mL_52 (Nat.le_of_ble_eq_true rfl) mO_52 (hP.o hO) (Nat.le_of_ble_eq_true rfl) (hpq σ hP) ?_
      clear hP hpq
      rintro _ σ ⟨rfl, W3, hP, hB5, hF5⟩
      refine cV ?_
      refine x_lr (z := some S) T_59_122 rfl ?_
      refine x_gR (z := some rp) T_59_123 F_7_10 (hP.o hO) (Eq.trans (hP.rm hO rfl (key := 2234) rfl) hr2) ?_
      refine x_lc T_59_126 ?_
      refine x_ic T_59_127 ?_
      refine x_cv3 T_59_128 mN_22 mL_22 (Nat.le_of_ble_eq_true rfl) mO_22 (hP.o hro1) (Nat.le_of_ble_eq_true rfl) (hpu σ W3 hP hB5) ?_
      clear hP hpu
      rintro _ σ ⟨rfl, W4, hP, hB6, hF6⟩
      refine cV ?_
      refine x_ic T_59_131 ?_
      refine x_ri T_59_132 ?_
      exact hend σ W4 hP hB6 (FB_tr hF5 hF6)
    by_cases q64 : g = 0
    · have fin := fin 0 (by rw [hg, if_pos q64]) σ hP
      refine x_lr (z := some fa) T_59_94 rfl ?_
      refine x_li (z := m) T_59_95 rfl ?_
      refine x_ic T_59_96 ?_
      refine x_ib (w := ho) T_59_98 (fun h => absurd h.1 (by decide)) hho ?_
      refine x_li (z := m) T_59_99 rfl ?_
      refine x_ic T_59_100 ?_
      refine x_ib (w := g) T_59_102 (fun h => absurd h.1 (by decide)) hg ?_
      refine x_if T_59_103 (fun _ => ?_) (fun h => absurd (show g = 0 by omega) h)
      refine x_ic T_59_110 ?_
      exact fin
    · have fin := fin 1 (by rw [hg, if_neg q64]) σ hP
      refine x_lr (z := some fa) T_59_94 rfl ?_
      refine x_li (z := m) T_59_95 rfl ?_
      refine x_ic T_59_96 ?_
      refine x_ib (w := ho) T_59_98 (fun h => absurd h.1 (by decide)) hho ?_
      refine x_li (z := m) T_59_99 rfl ?_
      refine x_ic T_59_100 ?_
      refine x_ib (w := g) T_59_102 (fun h => absurd h.1 (by decide)) hg ?_
      refine x_if T_59_103 (fun h => absurd (show g = 0 from h) (by omega)) (fun _ => ?_)
      refine x_ic T_59_106 ?_
      refine x_goto T_59_107 ?_
      exact fin
  have heq : opG P s (96 * s + i) m = gOpen (if ¬ and32 m 16 = 0 ∧ s < 2 ∧ and32 (qMode P s nd) 1073741824 = 0 then gGrow (gSize P s nd 0) s nd u else P) (96 * s + i) m := by
    unfold opG
    rw [hnd, hu0]
  have hshw : W S 2225 = if s < 2 then 0 else 1 := hX.2.2.1.2.2.1
  have hgr := x_onlyGrows (fb := fb) (d := d + 3) hP hbn hN.2.1.1
  obtain ⟨e16, he16⟩ : ∃ y, and32 m 16 = y := ⟨_, rfl⟩
  rw [he16] at heq
  have hplain : ¬ (¬ e16 = 0 ∧ s < 2 ∧ and32 (qMode P s nd) 1073741824 = 0) → WP fb (d + 4) 59 94 [some (vR (some S)), some (vR (some fa)), some (vI m), some (vI 0)] [] σ (XS σ0 K W R S rp s 0 (opG P s (96 * s + i) m) (l2 ++ (qidL (opG P s (96 * s + i) m) s nd ++ leb 4 0))) := fun q => h94 σ P W R hP hX hK FV_rfl (hG.mono (by omega)) (fun _ => ⟨rfl, rfl, rfl, rfl, rfl, rfl⟩) hlv (by rw [heq, if_neg q])
  by_cases qe : e16 = 0
  · have hgo := hplain (fun c => c.1 qe)
    refine CL_in mL_59 rfl ?_
    show WP fb _ 59 0 [some (vR (some S)), some (vR (some fa)), none, none] [] σ _
    refine x_lr (z := some fa) T_59_0 rfl ?_
    refine x_gI (z := (-1)) T_59_1 (Or.inl F_9_5) (hP.o hfo) (Eq.trans (hP.gi hfo (key := 2293) rfl) hmo2) ?_
    refine x_ic T_59_4 ?_
    refine x_ic2 T_59_5 (fun _ => ?_) (fun h => absurd (show ((-1) : Int) = (-1) by decide) h)
    refine x_lr (z := some fa) T_59_11 rfl ?_
    refine x_gR (z := some b) T_59_12 F_9_3 (hP.o hfo) (Eq.trans (hP.rm hfo rfl (key := 2291) rfl) f8) ?_
    refine x_nnul T_59_15 (fun _ _ => ?_) (fun h0 => absurd h0 (by simp))
    refine x_lr (z := some S) T_59_20 rfl ?_
    refine x_gR (z := some mb) T_59_21 F_7_9 (hP.o hO) (Eq.trans (hP.rm hO rfl (key := 2233) rfl) hr) ?_
    refine x_ic T_59_24 ?_
    refine x_cv2 T_59_26 mN_33 mL_33 (Nat.le_of_ble_eq_true rfl) mO_33 (hP.o hbo) (Nat.le_of_ble_eq_true rfl) (h1) ?_
    rintro _ σ ⟨rfl, rfl⟩
    refine cI ?_
    refine x_si (ls1 := [some (vR (some S)), some (vR (some fa)), some (vI m), none]) T_59_29 rfl ?_
    refine x_lr (z := some S) T_59_30 rfl ?_
    refine x_lr (z := some fa) T_59_31 rfl ?_
    refine x_gR (z := some b) T_59_32 F_9_3 (hP.o hfo) (Eq.trans (hP.rm hfo rfl (key := 2291) rfl) f8) ?_
    refine x_lr (z := some fa) T_59_35 rfl ?_
    refine x_gI (z := u) T_59_36 (Or.inl F_9_2) (hP.o hfo) (Eq.trans (hP.gi hfo (key := 2290) rfl) f2) ?_
    refine x_li (z := m) T_59_39 rfl ?_
    refine x_cv4 T_59_40 mN_60 mL_60 (Nat.le_of_ble_eq_true rfl) mO_60 (hP.o hO) (Nat.le_of_ble_eq_true rfl) (hre) ?_
    rintro _ σ ⟨rfl, rfl⟩
    refine cI ?_
    refine x_si (ls1 := [some (vR (some S)), some (vR (some fa)), some (vI m), some (vI 0)]) T_59_43 rfl ?_
    refine x_li (z := 0) T_59_44 rfl ?_
    refine x_if T_59_45 (fun _ => ?_) (fun h => absurd (show (0 : Int) = 0 by decide) h)
    refine x_li (z := m) T_59_50 rfl ?_
    refine x_ic T_59_51 ?_
    refine x_ib (w := e16) T_59_53 (fun h => absurd h.1 (by decide)) he16 ?_
    refine x_if T_59_54 (fun _ => ?_) (fun h => absurd (show e16 = 0 by omega) h)
    exact hgo
  by_cases qs : s < 2
  rotate_left
  · rw [if_neg qs] at hshw
    have hgo := hplain (fun c => qs c.2.1)
    refine CL_in mL_59 rfl ?_
    show WP fb _ 59 0 [some (vR (some S)), some (vR (some fa)), none, none] [] σ _
    refine x_lr (z := some fa) T_59_0 rfl ?_
    refine x_gI (z := (-1)) T_59_1 (Or.inl F_9_5) (hP.o hfo) (Eq.trans (hP.gi hfo (key := 2293) rfl) hmo2) ?_
    refine x_ic T_59_4 ?_
    refine x_ic2 T_59_5 (fun _ => ?_) (fun h => absurd (show ((-1) : Int) = (-1) by decide) h)
    refine x_lr (z := some fa) T_59_11 rfl ?_
    refine x_gR (z := some b) T_59_12 F_9_3 (hP.o hfo) (Eq.trans (hP.rm hfo rfl (key := 2291) rfl) f8) ?_
    refine x_nnul T_59_15 (fun _ _ => ?_) (fun h0 => absurd h0 (by simp))
    refine x_lr (z := some S) T_59_20 rfl ?_
    refine x_gR (z := some mb) T_59_21 F_7_9 (hP.o hO) (Eq.trans (hP.rm hO rfl (key := 2233) rfl) hr) ?_
    refine x_ic T_59_24 ?_
    refine x_cv2 T_59_26 mN_33 mL_33 (Nat.le_of_ble_eq_true rfl) mO_33 (hP.o hbo) (Nat.le_of_ble_eq_true rfl) (h1) ?_
    rintro _ σ ⟨rfl, rfl⟩
    refine cI ?_
    refine x_si (ls1 := [some (vR (some S)), some (vR (some fa)), some (vI m), none]) T_59_29 rfl ?_
    refine x_lr (z := some S) T_59_30 rfl ?_
    refine x_lr (z := some fa) T_59_31 rfl ?_
    refine x_gR (z := some b) T_59_32 F_9_3 (hP.o hfo) (Eq.trans (hP.rm hfo rfl (key := 2291) rfl) f8) ?_
    refine x_lr (z := some fa) T_59_35 rfl ?_
    refine x_gI (z := u) T_59_36 (Or.inl F_9_2) (hP.o hfo) (Eq.trans (hP.gi hfo (key := 2290) rfl) f2) ?_
    refine x_li (z := m) T_59_39 rfl ?_
    refine x_cv4 T_59_40 mN_60 mL_60 (Nat.le_of_ble_eq_true rfl) mO_60 (hP.o hO) (Nat.le_of_ble_eq_true rfl) (hre) ?_
    rintro _ σ ⟨rfl, rfl⟩
    refine cI ?_
    refine x_si (ls1 := [some (vR (some S)), some (vR (some fa)), some (vI m), some (vI 0)]) T_59_43 rfl ?_
    refine x_li (z := 0) T_59_44 rfl ?_
    refine x_if T_59_45 (fun _ => ?_) (fun h => absurd (show (0 : Int) = 0 by decide) h)
    refine x_li (z := m) T_59_50 rfl ?_
    refine x_ic T_59_51 ?_
    refine x_ib (w := e16) T_59_53 (fun h => absurd h.1 (by decide)) he16 ?_
    refine x_if T_59_54 (fun h => absurd (show e16 = 0 from h) (by omega)) (fun _ => ?_)
    refine x_lr (z := some S) T_59_57 rfl ?_
    refine x_gI (z := 1) T_59_58 (Or.inr (Or.inl F_7_1)) (hP.o hO) (Eq.trans (hP.gi hO (key := 2225) rfl) hshw) ?_
    refine x_if T_59_61 (fun _ => ?_) (fun h => absurd (show ¬ (1 : Int) = 0 by decide) h)
    exact hgo
  rw [if_pos qs] at hshw
  by_cases qg : and32 (qMode P s nd) 1073741824 = 0
  rotate_left
  · rw [if_neg qg] at hgr
    have hgo := hplain (fun c => qg c.2.2)
    refine CL_in mL_59 rfl ?_
    show WP fb _ 59 0 [some (vR (some S)), some (vR (some fa)), none, none] [] σ _
    refine x_lr (z := some fa) T_59_0 rfl ?_
    refine x_gI (z := (-1)) T_59_1 (Or.inl F_9_5) (hP.o hfo) (Eq.trans (hP.gi hfo (key := 2293) rfl) hmo2) ?_
    refine x_ic T_59_4 ?_
    refine x_ic2 T_59_5 (fun _ => ?_) (fun h => absurd (show ((-1) : Int) = (-1) by decide) h)
    refine x_lr (z := some fa) T_59_11 rfl ?_
    refine x_gR (z := some b) T_59_12 F_9_3 (hP.o hfo) (Eq.trans (hP.rm hfo rfl (key := 2291) rfl) f8) ?_
    refine x_nnul T_59_15 (fun _ _ => ?_) (fun h0 => absurd h0 (by simp))
    refine x_lr (z := some S) T_59_20 rfl ?_
    refine x_gR (z := some mb) T_59_21 F_7_9 (hP.o hO) (Eq.trans (hP.rm hO rfl (key := 2233) rfl) hr) ?_
    refine x_ic T_59_24 ?_
    refine x_cv2 T_59_26 mN_33 mL_33 (Nat.le_of_ble_eq_true rfl) mO_33 (hP.o hbo) (Nat.le_of_ble_eq_true rfl) (h1) ?_
    rintro _ σ ⟨rfl, rfl⟩
    refine cI ?_
    refine x_si (ls1 := [some (vR (some S)), some (vR (some fa)), some (vI m), none]) T_59_29 rfl ?_
    refine x_lr (z := some S) T_59_30 rfl ?_
    refine x_lr (z := some fa) T_59_31 rfl ?_
    refine x_gR (z := some b) T_59_32 F_9_3 (hP.o hfo) (Eq.trans (hP.rm hfo rfl (key := 2291) rfl) f8) ?_
    refine x_lr (z := some fa) T_59_35 rfl ?_
    refine x_gI (z := u) T_59_36 (Or.inl F_9_2) (hP.o hfo) (Eq.trans (hP.gi hfo (key := 2290) rfl) f2) ?_
    refine x_li (z := m) T_59_39 rfl ?_
    refine x_cv4 T_59_40 mN_60 mL_60 (Nat.le_of_ble_eq_true rfl) mO_60 (hP.o hO) (Nat.le_of_ble_eq_true rfl) (hre) ?_
    rintro _ σ ⟨rfl, rfl⟩
    refine cI ?_
    refine x_si (ls1 := [some (vR (some S)), some (vR (some fa)), some (vI m), some (vI 0)]) T_59_43 rfl ?_
    refine x_li (z := 0) T_59_44 rfl ?_
    refine x_if T_59_45 (fun _ => ?_) (fun h => absurd (show (0 : Int) = 0 by decide) h)
    refine x_li (z := m) T_59_50 rfl ?_
    refine x_ic T_59_51 ?_
    refine x_ib (w := e16) T_59_53 (fun h => absurd h.1 (by decide)) he16 ?_
    refine x_if T_59_54 (fun h => absurd (show e16 = 0 from h) (by omega)) (fun _ => ?_)
    refine x_lr (z := some S) T_59_57 rfl ?_
    refine x_gI (z := 0) T_59_58 (Or.inr (Or.inl F_7_1)) (hP.o hO) (Eq.trans (hP.gi hO (key := 2225) rfl) hshw) ?_
    refine x_if T_59_61 (fun h => absurd (show ¬ (0 : Int) = 0 from h) (by decide)) (fun _ => ?_)
    refine x_lr (z := some fa) T_59_64 rfl ?_
    refine x_gR (z := some b) T_59_65 F_9_3 (hP.o hfo) (Eq.trans (hP.rm hfo rfl (key := 2291) rfl) f8) ?_
    refine x_cv1 T_59_68 mN_61 mL_61 (Nat.le_of_ble_eq_true rfl) mO_61 (hP.o hbn) (Nat.le_of_ble_eq_true rfl) (hgr) ?_
    rintro _ σ ⟨rfl, rfl⟩
    refine cI ?_
    refine x_if T_59_71 (fun _ => ?_) (fun h => absurd (show ¬ (1 : Int) = 0 by decide) h)
    exact hgo
  rw [if_pos qg] at hgr
  rw [if_pos ⟨qe, qs, qg⟩] at heq
  -- it is emptied
  have hnl := isN_lt qs hlv
  have hdir : 0 ≤ qMode P s nd := by
    apply Decidable.byContradiction
    intro c2
    unfold qOpn at eE
    rw [if_neg (by omega), if_pos ⟨by omega, Or.inr (by rw [he16]; exact qe)⟩] at eE
    omega
  have hrs := x_resize (fb := fb) (d := d + 3) (z := 0) (rp := 0) hP hS hX hK hG.iv qs hix hbix hlx hdir (by decide)
  have htb : 0 ≤ P 2301 s ∧ P 2301 s ≤ 8192 := IV.a hG.iv 2301 0 2 rfl rfl rfl (by omega) (by omega)
  have hln : 0 ≤ P 2297 (64 * s + nd) ∧ P 2297 (64 * s + nd) ≤ 600 := IV.a hG.iv 2297 0 128 rfl rfl rfl (by omega) (by omega)
  have hG2 := GI_gSize (n := nd) (z := 0) hG ⟨hsr.1, qs, hnl.1, hnl.2.1⟩ (by omega) (by decide) (by omega)
  have rs : ∀ f k, [2300, 2301, 2297].elem f = false → gSize P s nd 0 f k = P f k := RF_gSize
  have hver : 0 ≤ qVer P s nd ∧ qVer P s nd ≤ T := by
    have ba : 0 ≤ P 2292 (64 * s + nd) ∧ P 2292 (64 * s + nd) ≤ T := IV.a hG.iv 2292 0 128 rfl rfl rfl (by omega) (by omega)
    unfold qVer
    rw [if_pos qs]
    exact ba
  have hver2 : qVer (gSize P s nd 0) s nd = qVer P s nd := by
    unfold qVer
    rw [rs _ _ rfl]
  obtain ⟨y, hy⟩ : ∃ y, qVer P s nd = y := ⟨_, rfl⟩
  rw [hy] at hver hver2
  have hstep : ∀ (σ : hM) (W2 : qR) (R2 : rR), PX σ0 W2 R2 σ → XV W2 R2 (gSize P s nd 0) S s ord t → CT K W2 R2 → FV S 0 W W2 R R2 → (W2 fa 2290 = u ∧ R2 fa 2291 = some b ∧ W2 b 2261 = y) ∧ (∀ σ, PX σ0 (rU (rU W2 b 2261 (y + 1)) b 2265 u) R2 σ → WP fb (d + 4) 59 94 [some (vR (some S)), some (vR (some fa)), some (vI m), some (vI 0)] [] σ (XS σ0 K W R S rp s 0 (opG P s (96 * s + i) m) (l2 ++ (qidL (opG P s (96 * s + i) m) s nd ++ leb 4 0)))) := fun σ W2 R2 hP hX2 hK2 hF2 => by
    obtain ⟨a1, a2, a3, a4, a5, a6, a7, a8⟩ := (hX2.2.1 i hi.1 hi.2).2.1 (by rw [rs _ _ rfl]; exact hu)
    rw [hfa, rs _ _ rfl, hu0] at a2
    rw [hfa, rs _ _ rfl, rs _ _ rfl, hgn, if_pos q1, hnd, hb2] at a8
    have hN2 := hX2.1.2.2.2.1 ix hix.1 hix.2
    rw [hbix, hlx] at hN2
    refine ⟨⟨a2, a8, hN2.2.2.2.1.1.trans hver2⟩, fun σ hP => ?_⟩
    have hX3 := hX2.grow (a := b) (u := u) hS (XV.len6 hG2.iv hsr.1) qs hix hbix hlx hver2 (by omega) hu3
    refine h94 σ _ _ R2 hP hX3 ((hK2.drop (by omega) (by decide)).drop (by omega) (by decide)) (FV_tr hF2 (FV_tr (FV_own (by omega) (by omega) (by omega)) (FV_own (by omega) (by omega) (by omega)))) (GI_gGrow hG2 ⟨hsr.1, qs, hnl.1, hnl.2.1⟩ hu3) (fun k => ?_) ?_ heq
    · refine ⟨?_, ?_, ?_, ?_, ?_, ?_⟩ <;> rw [gGrow_f (by decide) (by decide), rs _ _ rfl]
    · exact (isN_tree qs (fun k => (gGrow_f (by decide) (by decide)).trans (rs _ _ rfl))).mpr hlv
  have hgrw := fun (σ : hM) (W2 : qR) (R2 : rR) (hP : PX σ0 W2 R2 σ) (hv : W2 b 2261 = y) => x_grew (fb := fb) (d := d + 3) (u := u) hP hbn hv ⟨hver.1, by omega⟩
  refine CL_in mL_59 rfl ?_
  show WP fb _ 59 0 [some (vR (some S)), some (vR (some fa)), none, none] [] σ _
  refine x_lr (z := some fa) T_59_0 rfl ?_
  refine x_gI (z := (-1)) T_59_1 (Or.inl F_9_5) (hP.o hfo) (Eq.trans (hP.gi hfo (key := 2293) rfl) hmo2) ?_
  refine x_ic T_59_4 ?_
  refine x_ic2 T_59_5 (fun _ => ?_) (fun h => absurd (show ((-1) : Int) = (-1) by decide) h)
  refine x_lr (z := some fa) T_59_11 rfl ?_
  refine x_gR (z := some b) T_59_12 F_9_3 (hP.o hfo) (Eq.trans (hP.rm hfo rfl (key := 2291) rfl) f8) ?_
  refine x_nnul T_59_15 (fun _ _ => ?_) (fun h0 => absurd h0 (by simp))
  refine x_lr (z := some S) T_59_20 rfl ?_
  refine x_gR (z := some mb) T_59_21 F_7_9 (hP.o hO) (Eq.trans (hP.rm hO rfl (key := 2233) rfl) hr) ?_
  refine x_ic T_59_24 ?_
  refine x_cv2 T_59_26 mN_33 mL_33 (Nat.le_of_ble_eq_true rfl) mO_33 (hP.o hbo) (Nat.le_of_ble_eq_true rfl) (h1) ?_
  rintro _ σ ⟨rfl, rfl⟩
  refine cI ?_
  refine x_si (ls1 := [some (vR (some S)), some (vR (some fa)), some (vI m), none]) T_59_29 rfl ?_
  refine x_lr (z := some S) T_59_30 rfl ?_
  refine x_lr (z := some fa) T_59_31 rfl ?_
  refine x_gR (z := some b) T_59_32 F_9_3 (hP.o hfo) (Eq.trans (hP.rm hfo rfl (key := 2291) rfl) f8) ?_
  refine x_lr (z := some fa) T_59_35 rfl ?_
  refine x_gI (z := u) T_59_36 (Or.inl F_9_2) (hP.o hfo) (Eq.trans (hP.gi hfo (key := 2290) rfl) f2) ?_
  refine x_li (z := m) T_59_39 rfl ?_
  refine x_cv4 T_59_40 mN_60 mL_60 (Nat.le_of_ble_eq_true rfl) mO_60 (hP.o hO) (Nat.le_of_ble_eq_true rfl) (hre) ?_
  rintro _ σ ⟨rfl, rfl⟩
  refine cI ?_
  refine x_si (ls1 := [some (vR (some S)), some (vR (some fa)), some (vI m), some (vI 0)]) T_59_43 rfl ?_
  refine x_li (z := 0) T_59_44 rfl ?_
  refine x_if T_59_45 (fun _ => ?_) (fun h => absurd (show (0 : Int) = 0 by decide) h)
  refine x_li (z := m) T_59_50 rfl ?_
  refine x_ic T_59_51 ?_
  refine x_ib (w := e16) T_59_53 (fun h => absurd h.1 (by decide)) he16 ?_
  refine x_if T_59_54 (fun h => absurd (show e16 = 0 from h) (by omega)) (fun _ => ?_)
  refine x_lr (z := some S) T_59_57 rfl ?_
  refine x_gI (z := 0) T_59_58 (Or.inr (Or.inl F_7_1)) (hP.o hO) (Eq.trans (hP.gi hO (key := 2225) rfl) hshw) ?_
  refine x_if T_59_61 (fun h => absurd (show ¬ (0 : Int) = 0 from h) (by decide)) (fun _ => ?_)
  refine x_lr (z := some fa) T_59_64 rfl ?_
  refine x_gR (z := some b) T_59_65 F_9_3 (hP.o hfo) (Eq.trans (hP.rm hfo rfl (key := 2291) rfl) f8) ?_
  refine x_cv1 T_59_68 mN_61 mL_61 (Nat.le_of_ble_eq_true rfl) mO_61 (hP.o hbn) (Nat.le_of_ble_eq_true rfl) (hgr) ?_
  rintro _ σ ⟨rfl, rfl⟩
  refine cI ?_
  refine x_if T_59_71 (fun h => absurd (show ¬ (0 : Int) = 0 from h) (by decide)) (fun _ => ?_)
  refine x_lr (z := some S) T_59_74 rfl ?_
  refine x_lr (z := some fa) T_59_75 rfl ?_
  refine x_gR (z := some b) T_59_76 F_9_3 (hP.o hfo) (Eq.trans (hP.rm hfo rfl (key := 2291) rfl) f8) ?_
  refine x_ic T_59_79 ?_
  refine x_cv3 T_59_80 mN_62 mL_62 (Nat.le_of_ble_eq_true rfl) mO_62 (hP.o hO) (Nat.le_of_ble_eq_true rfl) (hrs) ?_
  clear hP hrs
  rintro _ σ ⟨rfl, W2, R2, hP, hX2, hK2, hF2⟩
  obtain ⟨⟨w1, w2, w3⟩, hgo⟩ := hstep σ W2 R2 hP hX2 hK2 hF2
  refine cV ?_
  refine x_lr (z := some fa) T_59_83 rfl ?_
  refine x_gR (z := some b) T_59_84 F_9_3 (hP.o hfo) (Eq.trans (hP.rm hfo rfl (key := 2291) rfl) w2) ?_
  refine x_lr (z := some fa) T_59_87 rfl ?_
  refine x_gI (z := u) T_59_88 (Or.inl F_9_2) (hP.o hfo) (Eq.trans (hP.gi hfo (key := 2290) rfl) w1) ?_
  refine x_cv2 T_59_91 mN_45 mL_45 (Nat.le_of_ble_eq_true rfl) mO_45 (hP.o hbn) (Nat.le_of_ble_eq_true rfl) (hgrw σ W2 R2 hP w3) ?_
  clear hP
  rintro _ σ ⟨rfl, hP⟩
  refine cV ?_
  exact hgo σ hP
end XOPNB
