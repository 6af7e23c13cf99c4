/-! The class's servers: a read, whole. -/
theorem T_68_0 : hTab 68 0 = some ((3, 1, 2, []), 1) := rfl
theorem T_68_1 : hTab 68 1 = some ((24, 9, Int.ofNat 5, []), 4) := rfl
theorem T_68_4 : hTab 68 4 = some ((0, 0, (-1), []), 5) := rfl
theorem T_68_5 : hTab 68 5 = some ((19, 0, Int.ofNat 16, []), 8) := rfl
theorem T_68_8 : hTab 68 8 = some ((3, 1, 2, []), 9) := rfl
theorem T_68_9 : hTab 68 9 = some ((24, 9, Int.ofNat 5, []), 12) := rfl
theorem T_68_12 : hTab 68 12 = some ((0, 0, 1, []), 13) := rfl
theorem T_68_13 : hTab 68 13 = some ((19, 1, Int.ofNat 19, []), 16) := rfl
theorem T_68_19 : hTab 68 19 = some ((3, 1, 2, []), 20) := rfl
theorem T_68_20 : hTab 68 20 = some ((24, 9, Int.ofNat 3, []), 23) := rfl
theorem T_68_23 : hTab 68 23 = some ((4, 2, 2, []), 24) := rfl
theorem T_68_24 : hTab 68 24 = some ((3, 2, 2, []), 25) := rfl
theorem T_68_25 : hTab 68 25 = some ((20, 1, Int.ofNat 30, []), 28) := rfl
theorem T_68_30 : hTab 68 30 = some ((3, 0, 2, []), 31) := rfl
theorem T_68_31 : hTab 68 31 = some ((24, 7, Int.ofNat 9, []), 34) := rfl
theorem T_68_34 : hTab 68 34 = some ((0, 0, 19, []), 36) := rfl
theorem T_68_36 : hTab 68 36 = some ((0, 0, 4, []), 37) := rfl
theorem T_68_37 : hTab 68 37 = some ((31, 29, 0, []), 40) := rfl
theorem T_68_40 : hTab 68 40 = some ((4, 3, 1, []), 41) := rfl
theorem T_68_41 : hTab 68 41 = some ((3, 3, 1, []), 42) := rfl
theorem T_68_42 : hTab 68 42 = some ((3, 0, 2, []), 43) := rfl
theorem T_68_43 : hTab 68 43 = some ((3, 0, 2, []), 44) := rfl
theorem T_68_44 : hTab 68 44 = some ((24, 7, Int.ofNat 11, []), 47) := rfl
theorem T_68_47 : hTab 68 47 = some ((31, 34, 0, []), 50) := rfl
theorem T_68_50 : hTab 68 50 = some ((0, 0, 11, []), 52) := rfl
theorem T_68_52 : hTab 68 52 = some ((10, 1, 0, []), 53) := rfl
theorem T_68_53 : hTab 68 53 = some ((14, 0, 0, []), 54) := rfl
theorem T_68_54 : hTab 68 54 = some ((17, 0, 0, []), 55) := rfl
theorem T_68_55 : hTab 68 55 = some ((18, 5, Int.ofNat 61, []), 58) := rfl
theorem T_68_61 : hTab 68 61 = some ((3, 0, 2, []), 62) := rfl
theorem T_68_62 : hTab 68 62 = some ((24, 7, Int.ofNat 9, []), 65) := rfl
theorem T_68_65 : hTab 68 65 = some ((0, 0, 11, []), 67) := rfl
theorem T_68_67 : hTab 68 67 = some ((0, 0, 8, []), 69) := rfl
theorem T_68_69 : hTab 68 69 = some ((31, 29, 0, []), 72) := rfl
theorem T_68_72 : hTab 68 72 = some ((4, 5, 1, []), 74) := rfl
theorem T_68_74 : hTab 68 74 = some ((3, 0, 2, []), 75) := rfl
theorem T_68_75 : hTab 68 75 = some ((24, 7, Int.ofNat 10, []), 78) := rfl
theorem T_68_78 : hTab 68 78 = some ((1, 0, 0, []), 79) := rfl
theorem T_68_79 : hTab 68 79 = some ((0, 0, 4, []), 80) := rfl
theorem T_68_80 : hTab 68 80 = some ((31, 22, 0, []), 83) := rfl
theorem T_68_83 : hTab 68 83 = some ((3, 2, 2, []), 84) := rfl
theorem T_68_84 : hTab 68 84 = some ((31, 55, 0, []), 87) := rfl
theorem T_68_87 : hTab 68 87 = some ((18, 1, Int.ofNat 102, []), 90) := rfl
theorem T_68_90 : hTab 68 90 = some ((3, 0, 2, []), 91) := rfl
theorem T_68_91 : hTab 68 91 = some ((3, 2, 2, []), 92) := rfl
theorem T_68_92 : hTab 68 92 = some ((3, 5, 1, []), 94) := rfl
theorem T_68_94 : hTab 68 94 = some ((3, 3, 1, []), 95) := rfl
theorem T_68_95 : hTab 68 95 = some ((15, 0, 0, []), 96) := rfl
theorem T_68_96 : hTab 68 96 = some ((31, 69, 0, []), 99) := rfl
theorem T_68_99 : hTab 68 99 = some ((22, 0, Int.ofNat 263, []), 102) := rfl
theorem T_68_102 : hTab 68 102 = some ((3, 5, 1, []), 104) := rfl
theorem T_68_104 : hTab 68 104 = some ((1, 0, 0, []), 105) := rfl
theorem T_68_105 : hTab 68 105 = some ((17, 0, 0, []), 106) := rfl
theorem T_68_106 : hTab 68 106 = some ((18, 0, Int.ofNat 122, []), 109) := rfl
theorem T_68_109 : hTab 68 109 = some ((3, 5, 1, []), 111) := rfl
theorem T_68_111 : hTab 68 111 = some ((3, 1, 2, []), 112) := rfl
theorem T_68_112 : hTab 68 112 = some ((24, 9, Int.ofNat 7, []), 115) := rfl
theorem T_68_115 : hTab 68 115 = some ((17, 0, 0, []), 116) := rfl
theorem T_68_116 : hTab 68 116 = some ((18, 0, Int.ofNat 122, []), 119) := rfl
theorem T_68_119 : hTab 68 119 = some ((0, 0, 13, []), 121) := rfl
theorem T_68_121 : hTab 68 121 = some ((33, 1, 0, []), 122) := rfl
section XRDC
variable {fb : Bool} {d S a b c0 rp mb m0 N M fa pr : Nat} {σ0 σ σ' : hM} {W W1 W2 W3 P Q : qR} {R R1 R2 : rR} {i j k x z v s e w f u p g ln K T U C c y off cnt n md : Int} {ord l l2 nm lo D L li : List Int} {t : Nat → Nat} {r : Option AV} {F : Int → Int}
/-- the bytes are in the reply -/
theorem rd_tail {L0 : List Int} (hP : PX σ0 W2 R σ) (hS : VS S s) (hX : XV W R P S s ord t) (hK : CT K W R) (h6 : ∀ n, s < 2 → isN P s n → P 2297 (64 * s + n) ≤ 600) (hrp : R S 2234 = some rp) (hF : FB rp W W2) (hB : BY W2 rp 300 (l2 ++ leb 4 0 ++ D)) (hro : rp + 1 < S ∨ S + 294 ≤ rp) (hroom : l2.length = 7) (hL : L0 = l2 ++ (leb 4 (D.length : Int) ++ D)) : WP fb (d + 3) 68 263 [some (vR (some S)), some (vR (some fa)), some (vR (some b)), some (vL w), none, some (vL off), none, none, none, none] [] σ (XS σ0 K W R S rp s 0 P L0) := by
  have hrlt := hB.lt
  have hr0 := (tX_o hB.1).1
  refine WP.mono (rd_263 (fb := fb) (d := d) hP hS.o hrp hB hroom rfl) (fun r1 σ1 h => ?_)
  obtain ⟨rfl, W3, hP3, hB3, hF3⟩ := h
  have hF3 := FB_tr hF hF3
  exact ⟨rfl, W3, R, _, _, _, hP3, hB3, fun _ => hL.symm, hX.fbb hF3 (by omega) hro h6, hK.fbb hF3 (by omega), FV_fb hF3 (by omega) (by omega)⟩
/-- a directory, from where the last read ended -/
theorem rd_83d (hP : PX σ0 W R σ) (hS : VS S s) (hX : XV W R P S s ord t) (hK : CT K W R) (hG : GI T U P) (hi : 0 ≤ i ∧ i < 96) (hfa : S + 198 + i.toNat = fa) (hu : ¬ P 2304 (96 * s + i) = 0) (hnd : P 2306 (96 * s + i) = n) (hb : noA S ord t n = some b) (hld : isN P s n) (hdr : qMode P s n < 0) (hw : 0 ≤ w ∧ w ≤ 289) (hrp : R S 2234 = some rp) (hB : BY W rp 300 (l2 ++ leb 4 0)) (hro : rp + 1 < S ∨ S + 294 ≤ rp) (hroom : l2.length = 7) (hok : off = 0 ∨ off = P 2311 (96 * s + i)) : WP fb (d + 3) 68 83 [some (vR (some S)), some (vR (some fa)), some (vR (some b)), some (vL w), none, some (vL off), none, none, none, none] [] σ (XS σ0 K W R S rp s 0 (gEnt P (96 * s + i) off w (rdR P s (96 * s + i) off w)) (l2 ++ (leb 4 ((rdR P s (96 * s + i) off w).2.2.length : Int) ++ (rdR P s (96 * s + i) off w).2.2))) := by
  have hO := hS.o
  have hfo := hS.fd hi
  rw [hfa] at hfo
  obtain ⟨b', ix, hb', hix, hbix, hlx, htx, hN⟩ := hX.fnode hld
  have hbe : b' = b := by
    rw [hb] at hb'
    exact (Option.some.inj hb').symm
  rw [hbe] at hN
  have hbo : tX b = some (Sum.inl 8) := hN.1
  obtain ⟨f1, f2, f3, f4, f5, f6, f7, f8⟩ := (hX.2.1 i hi.1 hi.2).2.1 hu
  rw [hfa] at f6
  have hdi := x_isDirectory (fb := fb) (d := d + 2) hP hbo hN.2.1.1 hN.2.1.2
  rw [if_pos hdr] at hdi
  have hgo := fun (σ : hM) (hP : PX σ0 W R σ) => rd_122 (fb := fb) (d := d) (off := off) hP hS hX hK hG hi hfa hu hnd hb hld hdr hw hrp hB hro hroom
  obtain ⟨rt, hrt⟩ : ∃ q, P 2311 (96 * s + i) = q := ⟨_, rfl⟩
  rw [hrt] at f6 hok
  clear hX hK hG hN
  by_cases q0 : off = 0
  · skip
    refine x_lr (z := some b) T_68_83 rfl ?_
    refine x_cv1 T_68_84 mN_55 mL_55 (Nat.le_of_ble_eq_true rfl) mO_55 (hP.o hbo) (Nat.le_of_ble_eq_true rfl) (hdi) ?_
    rintro _ σ ⟨rfl, rfl⟩
    refine cI ?_
    refine x_if T_68_87 (fun _ => ?_) (fun h => absurd (show ¬ (1 : Int) = 0 by decide) h)
    refine x_ll (z := off) T_68_102 rfl ?_
    refine x_lc T_68_104 ?_
    refine x_lif T_68_105 T_68_106 (fun _ => ?_) (fun h => absurd (show off = 0 by omega) h)
    exact hgo σ hP
  · have hok : off = rt := hok.resolve_left q0
    refine x_lr (z := some b) T_68_83 rfl ?_
    refine x_cv1 T_68_84 mN_55 mL_55 (Nat.le_of_ble_eq_true rfl) mO_55 (hP.o hbo) (Nat.le_of_ble_eq_true rfl) (hdi) ?_
    rintro _ σ ⟨rfl, rfl⟩
    refine cI ?_
    refine x_if T_68_87 (fun _ => ?_) (fun h => absurd (show ¬ (1 : Int) = 0 by decide) h)
    refine x_ll (z := off) T_68_102 rfl ?_
    refine x_lc T_68_104 ?_
    refine x_lif T_68_105 T_68_106 (fun h => absurd (show off = 0 from h) (by omega)) (fun _ => ?_)
    refine x_ll (z := off) T_68_109 rfl ?_
    refine x_lr (z := some fa) T_68_111 rfl ?_
    refine x_gL (z := rt) T_68_112 F_9_7 (hP.o hfo) (Eq.trans (hP.gi hfo (key := 2295) rfl) f6) ?_
    refine x_lif T_68_115 T_68_116 (fun _ => ?_) (fun h => absurd (show off = rt by omega) h)
    exact hgo σ hP
/-- a directory, from elsewhere -/
theorem rd_83n (hP : PX σ0 W R σ) (hS : VS S s) (hX : XV W R P S s ord t) (hK : CT K W R) (hi : 0 ≤ i ∧ i < 96) (hfa : S + 198 + i.toNat = fa) (hu : ¬ P 2304 (96 * s + i) = 0) (hb : noA S ord t n = some b) (hld : isN P s n) (hdr : qMode P s n < 0) (hB : BY W rp 300 (l2 ++ leb 4 0)) (hok : ¬ off = 0 ∧ ¬ off = P 2311 (96 * s + i)) : WP fb (d + 3) 68 83 [some (vR (some S)), some (vR (some fa)), some (vR (some b)), some (vL w), none, some (vL off), none, none, none, none] [] σ (XS σ0 K W R S rp s 13 P L) := by
  have hO := hS.o
  have hfo := hS.fd hi
  rw [hfa] at hfo
  obtain ⟨b', ix, hb', hix, hbix, hlx, htx, hN⟩ := hX.fnode hld
  have hbe : b' = b := by
    rw [hb] at hb'
    exact (Option.some.inj hb').symm
  rw [hbe] at hN
  have hbo : tX b = some (Sum.inl 8) := hN.1
  obtain ⟨f1, f2, f3, f4, f5, f6, f7, f8⟩ := (hX.2.1 i hi.1 hi.2).2.1 hu
  rw [hfa] at f6
  have hdi := x_isDirectory (fb := fb) (d := d + 2) hP hbo hN.2.1.1 hN.2.1.2
  rw [if_pos hdr] at hdi
  obtain ⟨rt, hrt⟩ : ∃ q, P 2311 (96 * s + i) = q := ⟨_, rfl⟩
  rw [hrt] at f6 hok
  have hend : ∀ σ, PX σ0 W R σ → XS σ0 K W R S rp s 13 P L (some (vI 13)) σ := fun σ hP => ⟨rfl, W, R, ord, t, _, hP, hB, fun c => absurd c (by decide), hX, hK, FV_rfl⟩
  refine x_lr (z := some b) T_68_83 rfl ?_
  refine x_cv1 T_68_84 mN_55 mL_55 (Nat.le_of_ble_eq_true rfl) mO_55 (hP.o hbo) (Nat.le_of_ble_eq_true rfl) (hdi) ?_
  rintro _ σ ⟨rfl, rfl⟩
  refine cI ?_
  refine x_if T_68_87 (fun _ => ?_) (fun h => absurd (show ¬ (1 : Int) = 0 by decide) h)
  refine x_ll (z := off) T_68_102 rfl ?_
  refine x_lc T_68_104 ?_
  refine x_lif T_68_105 T_68_106 (fun h => absurd (show off = 0 from h) (by omega)) (fun _ => ?_)
  refine x_ll (z := off) T_68_109 rfl ?_
  refine x_lr (z := some fa) T_68_111 rfl ?_
  refine x_gL (z := rt) T_68_112 F_9_7 (hP.o hfo) (Eq.trans (hP.gi hfo (key := 2295) rfl) f6) ?_
  refine x_lif T_68_115 T_68_116 (fun h => absurd (show off = rt from h) (by omega)) (fun _ => ?_)
  refine x_ic T_68_119 ?_
  refine x_ri T_68_121 ?_
  exact hend σ hP
/-- a file: its bytes -/
theorem rd_83f {Post : Option AV → hM → Prop} (hP : PX σ0 W R σ) (hO : tX S = some (Sum.inl 7)) (hbo : tX b = some (Sum.inl 8)) (hmd : W b 2262 = md) (hmr : -2147483648 ≤ md ∧ md ≤ 2147483647) (hdr : ¬ md < 0) (hw : 0 ≤ w ∧ w ≤ 289) {TB : Option AV → hM → Prop} (htb : CL fb (d + 2) 69 [vR (some S), vR (some b), vL off, vI w] σ TB) (hgo : ∀ (r : Option AV) (σ : hM), TB r σ → r = none ∧ WP fb (d + 3) 68 263 [some (vR (some S)), some (vR (some fa)), some (vR (some b)), some (vL w), none, some (vL off), none, none, none, none] [] σ Post) : WP fb (d + 3) 68 83 [some (vR (some S)), some (vR (some fa)), some (vR (some b)), some (vL w), none, some (vL off), none, none, none, none] [] σ Post := by
  have hdi := x_isDirectory (fb := fb) (d := d + 2) hP hbo hmd hmr
  rw [if_neg hdr] at hdi
  refine x_lr (z := some b) T_68_83 rfl ?_
  refine x_cv1 T_68_84 mN_55 mL_55 (Nat.le_of_ble_eq_true rfl) mO_55 (hP.o hbo) (Nat.le_of_ble_eq_true rfl) (hdi) ?_
  rintro _ σ ⟨rfl, rfl⟩
  refine cI ?_
  refine x_if T_68_87 (fun h => absurd (show ¬ (0 : Int) = 0 from h) (by decide)) (fun _ => ?_)
  refine x_lr (z := some S) T_68_90 rfl ?_
  refine x_lr (z := some b) T_68_91 rfl ?_
  refine x_ll (z := off) T_68_92 rfl ?_
  refine x_ll (z := w) T_68_94 rfl ?_
  refine x_l2i (w := w) T_68_95 (w32_id (by omega) (by omega)) ?_
  refine x_cv4 T_68_96 mN_69 mL_69 (Nat.le_of_ble_eq_true rfl) mO_69 (hP.o hO) (Nat.le_of_ble_eq_true rfl) (htb) ?_
  clear hP htb hdi
  intro r1 σ h1
  obtain ⟨rfl, hgo⟩ := hgo r1 σ h1
  refine cV ?_
  refine x_goto T_68_99 ?_
  exact hgo
/-- what stands before the bytes -/
theorem rd_pre {Post : Option AV → hM → Prop} {lim : Int} (hP : PX σ0 W R σ) (hS : VS S s) (hr : R S 2233 = some mb) (hrp : R S 2234 = some rp) (hB : BY W mb M l) (hz : (l.length : Int) = 23) (hBr : BY W rp 300 l2) (hroom : l2.length = 7) (hfo : tX fa = some (Sum.inl 9)) (hmo : W fa 2293 = x) (hx : ¬ x = -1 ∧ ¬ x = 1) (hn : R fa 2291 = some b) (hbo : tX b = some (Sum.inl 8)) (hc : c = 0 ∨ c = 1) (hcn : W S 2235 = c) (hlm : W (S + 3) c = lim) (hlr : 0 ≤ lim ∧ lim ≤ 300) (hw : nu (lg l) 19 4 = w) (hwl : w ≤ lim - 11) (ho : w64 (nu (lg l) 11 8) = off) (hgo : ∀ (σ : hM) (W1 : qR), PX σ0 W1 R σ → BY W1 rp 300 (l2 ++ leb 4 0) → FB rp W W1 → WP fb (d + 3) 68 83 [some (vR (some S)), some (vR (some fa)), some (vR (some b)), some (vL w), none, some (vL off), none, none, none, none] [] σ Post) : CL fb (d + 3) 68 [vR (some S), vR (some fa)] σ Post := by
  have hO := hS.o
  have hm := hB.1
  have hrr := hBr.1
  have h1 := x_num (fb := fb) (d := d + 2) (s := 19) (k := 4) 4 hP hB hz rfl (by decide) (by decide) (by decide) hw
  have h2 := x_number (fb := fb) (d := d + 2) (s := 11) (k := 8) hP hB hz (by decide) (by decide)
  rw [if_pos (by decide), show ((8 : Int)).toNat = 8 from rfl, ho] at h2
  have h3 := x_sizeOf (fb := fb) (d := d + 2) hP hS hc hlm
  have h4 := x_put (fb := fb) (d := d + 2) (k := 4) (v := 0) 4 hP hBr rfl (by decide) (by decide) (by omega)
  refine CL_in mL_68 rfl ?_
  show WP fb _ 68 0 [some (vR (some S)), some (vR (some fa)), none, none, none, none, none, none, none, none] [] σ _
  refine x_lr (z := some fa) T_68_0 rfl ?_
  refine x_gI (z := x) T_68_1 (Or.inl F_9_5) (hP.o hfo) (Eq.trans (hP.gi hfo (key := 2293) rfl) hmo) ?_
  refine x_ic T_68_4 ?_
  refine x_ic2 T_68_5 (fun h => absurd (show x = (-1) from h) (by omega)) (fun _ => ?_)
  refine x_lr (z := some fa) T_68_8 rfl ?_
  refine x_gI (z := x) T_68_9 (Or.inl F_9_5) (hP.o hfo) (Eq.trans (hP.gi hfo (key := 2293) rfl) hmo) ?_
  refine x_ic T_68_12 ?_
  refine x_ic2 T_68_13 (fun _ => ?_) (fun h => absurd (show ¬ x = 1 by omega) h)
  refine x_lr (z := some fa) T_68_19 rfl ?_
  refine x_gR (z := some b) T_68_20 F_9_3 (hP.o hfo) (Eq.trans (hP.rm hfo rfl (key := 2291) rfl) hn) ?_
  refine x_sr (ls1 := [some (vR (some S)), some (vR (some fa)), some (vR (some b)), none, none, none, none, none, none, none]) T_68_23 rfl ?_
  refine x_lr (z := some b) T_68_24 rfl ?_
  refine x_nnul T_68_25 (fun _ _ => ?_) (fun h0 => absurd h0 (by simp))
  refine x_lr (z := some S) T_68_30 rfl ?_
  refine x_gR (z := some mb) T_68_31 F_7_9 (hP.o hO) (Eq.trans (hP.rm hO rfl (key := 2233) rfl) hr) ?_
  refine x_ic T_68_34 ?_
  refine x_ic T_68_36 ?_
  refine x_cv3 T_68_37 mN_29 mL_29 (Nat.le_of_ble_eq_true rfl) mO_29 (hP.o hm) (Nat.le_of_ble_eq_true rfl) (h1) ?_
  rintro _ σ ⟨rfl, rfl⟩
  refine cL ?_
  refine x_sl (ls1 := [some (vR (some S)), some (vR (some fa)), some (vR (some b)), some (vL w), none, none, none, none, none, none]) T_68_40 rfl ?_
  refine x_ll (z := w) T_68_41 rfl ?_
  refine x_lr (z := some S) T_68_42 rfl ?_
  refine x_lr (z := some S) T_68_43 rfl ?_
  refine x_gI (z := c) T_68_44 (Or.inl F_7_11) (hP.o hO) (Eq.trans (hP.gi hO (key := 2235) rfl) hcn) ?_
  refine x_cv2 T_68_47 mN_34 mL_34 (Nat.le_of_ble_eq_true rfl) mO_34 (hP.o hO) (Nat.le_of_ble_eq_true rfl) (h3) ?_
  rintro _ σ ⟨rfl, rfl⟩
  refine cI ?_
  refine x_ic T_68_50 ?_
  refine x_ib (w := (lim - 11)) T_68_52 (fun h => absurd h.1 (by decide)) (w32_id (by omega) (by omega)) ?_
  refine x_i2l T_68_53 ?_
  refine x_lif T_68_54 T_68_55 (fun _ => ?_) (fun h => absurd (show w ≤ (lim - 11) by omega) h)
  refine x_lr (z := some S) T_68_61 rfl ?_
  refine x_gR (z := some mb) T_68_62 F_7_9 (hP.o hO) (Eq.trans (hP.rm hO rfl (key := 2233) rfl) hr) ?_
  refine x_ic T_68_65 ?_
  refine x_ic T_68_67 ?_
  refine x_cv3 T_68_69 mN_29 mL_29 (Nat.le_of_ble_eq_true rfl) mO_29 (hP.o hm) (Nat.le_of_ble_eq_true rfl) (h2) ?_
  rintro _ σ ⟨rfl, rfl⟩
  refine cL ?_
  refine x_sl (ls1 := [some (vR (some S)), some (vR (some fa)), some (vR (some b)), some (vL w), none, some (vL off), none, none, none, none]) T_68_72 rfl ?_
  refine x_lr (z := some S) T_68_74 rfl ?_
  refine x_gR (z := some rp) T_68_75 F_7_10 (hP.o hO) (Eq.trans (hP.rm hO rfl (key := 2234) rfl) hrp) ?_
  refine x_lc T_68_78 ?_
  refine x_ic T_68_79 ?_
  refine x_cv3 T_68_80 mN_22 mL_22 (Nat.le_of_ble_eq_true rfl) mO_22 (hP.o hrr) (Nat.le_of_ble_eq_true rfl) (h4) ?_
  clear hP h1 h2 h3 h4
  rintro _ σ ⟨rfl, W1, hP, hB1, hF1⟩
  refine cV ?_
  exact hgo σ W1 hP hB1 hF1
end XRDC
