/-! The class's servers: a read, of a directory. -/
theorem T_68_122 : hTab 68 122 = some ((3, 5, 1, []), 124) := rfl
theorem T_68_124 : hTab 68 124 = some ((1, 0, 0, []), 125) := rfl
theorem T_68_125 : hTab 68 125 = some ((17, 0, 0, []), 126) := rfl
theorem T_68_126 : hTab 68 126 = some ((18, 1, Int.ofNat 133, []), 129) := rfl
theorem T_68_129 : hTab 68 129 = some ((0, 0, 0, []), 130) := rfl
theorem T_68_130 : hTab 68 130 = some ((22, 0, Int.ofNat 137, []), 133) := rfl
theorem T_68_133 : hTab 68 133 = some ((3, 1, 2, []), 134) := rfl
theorem T_68_134 : hTab 68 134 = some ((24, 9, Int.ofNat 8, []), 137) := rfl
theorem T_68_137 : hTab 68 137 = some ((4, 7, 0, []), 139) := rfl
theorem T_68_139 : hTab 68 139 = some ((0, 0, 0, []), 140) := rfl
theorem T_68_140 : hTab 68 140 = some ((4, 8, 0, []), 142) := rfl
theorem T_68_142 : hTab 68 142 = some ((3, 1, 2, []), 143) := rfl
theorem T_68_143 : hTab 68 143 = some ((3, 7, 0, []), 145) := rfl
theorem T_68_145 : hTab 68 145 = some ((25, 9, Int.ofNat 8, []), 148) := rfl
theorem T_68_148 : hTab 68 148 = some ((0, 0, 0, []), 149) := rfl
theorem T_68_149 : hTab 68 149 = some ((4, 9, 0, []), 151) := rfl
theorem T_68_244 : hTab 68 244 = some ((3, 1, 2, []), 245) := rfl
theorem T_68_245 : hTab 68 245 = some ((3, 5, 1, []), 247) := rfl
theorem T_68_247 : hTab 68 247 = some ((3, 0, 2, []), 248) := rfl
theorem T_68_248 : hTab 68 248 = some ((24, 7, Int.ofNat 10, []), 251) := rfl
theorem T_68_251 : hTab 68 251 = some ((31, 28, 0, []), 254) := rfl
theorem T_68_254 : hTab 68 254 = some ((14, 0, 0, []), 255) := rfl
theorem T_68_255 : hTab 68 255 = some ((11, 0, 0, []), 256) := rfl
theorem T_68_256 : hTab 68 256 = some ((1, 0, 11, []), 259) := rfl
theorem T_68_259 : hTab 68 259 = some ((11, 1, 0, []), 260) := rfl
theorem T_68_260 : hTab 68 260 = some ((25, 9, Int.ofNat 7, []), 263) := rfl
theorem T_68_263 : hTab 68 263 = some ((3, 0, 2, []), 264) := rfl
theorem T_68_264 : hTab 68 264 = some ((24, 7, Int.ofNat 10, []), 267) := rfl
theorem T_68_267 : hTab 68 267 = some ((0, 0, 7, []), 269) := rfl
theorem T_68_269 : hTab 68 269 = some ((3, 0, 2, []), 270) := rfl
theorem T_68_270 : hTab 68 270 = some ((24, 7, Int.ofNat 10, []), 273) := rfl
theorem T_68_273 : hTab 68 273 = some ((31, 28, 0, []), 276) := rfl
theorem T_68_276 : hTab 68 276 = some ((0, 0, 11, []), 278) := rfl
theorem T_68_278 : hTab 68 278 = some ((10, 1, 0, []), 279) := rfl
theorem T_68_279 : hTab 68 279 = some ((14, 0, 0, []), 280) := rfl
theorem T_68_280 : hTab 68 280 = some ((0, 0, 4, []), 281) := rfl
theorem T_68_281 : hTab 68 281 = some ((31, 25, 0, []), 284) := rfl
theorem T_68_284 : hTab 68 284 = some ((0, 0, 0, []), 285) := rfl
theorem T_68_285 : hTab 68 285 = some ((33, 1, 0, []), 286) := rfl
section XRDB
variable {fb : Bool} {d S a b c0 rp mb m0 N M fa : Nat} {σ0 σ : hM} {W W1 W2 P Q : qR} {R R1 R2 : rR} {i j k x z v s e w f u n p g ln K T U C c y off cnt : Int} {ord l l2 nm lo D : List Int} {t : Nat → Nat} {r : Option Nat}
theorem w64_sub (h : y = x - 11) : w64 (w64 x - 11) = w64 y := by
  obtain ⟨q1, h1⟩ := w64_def x
  obtain ⟨q2, h2⟩ := w64_def (w64 x - 11)
  obtain ⟨q3, h3⟩ := w64_def y
  have r2 := w64_rng (w64 x - 11)
  have r3 := w64_rng y
  omega
/-- a read's last step: how many bytes there are -/
theorem rd_263 {x2 x7 x8 x9 : Option AV} (hP : PX σ0 W R σ) (hO : tX S = some (Sum.inl 7)) (hrp : R S 2234 = some rp) (hB : BY W rp 300 (l2 ++ leb 4 0 ++ D)) (hroom : l2.length = 7) (hln : (D.length : Int) = ln) : WP fb (d + 3) 68 263 [some (vR (some S)), some (vR (some fa)), x2, some (vL w), none, some (vL off), none, x7, x8, x9] [] σ (XB σ0 W R rp 300 (l2 ++ (leb 4 ln ++ D)) (some (vI 0))) := by
  have hro := hB.1
  have hlen : ((l2 ++ leb 4 0 ++ D).length : Int) = 11 + ln := by
    rw [List.length_append, List.length_append, leb_len]
    omega
  have hN := hB.2.2.2.2.1
  have hsz := x_size (fb := fb) (d := d + 2) hP hB hlen
  have hrep := x_replace (fb := fb) (d := d + 2) (s := 7) (k := 4) (v := ln) 4 hP hB rfl (by decide) (by decide) ⟨by omega, by omega⟩ (by omega)
  have hl := lay_mid (leb 4 0) (leb 4 ln) l2 D (by rw [leb_len, leb_len])
  rw [hroom] at hl
  rw [show ((7 : Int)).toNat = 7 from rfl, hl, List.append_assoc] at hrep
  have hsub : w32 (11 + ln - 11) = ln := by rw [show 11 + ln - 11 = ln by omega]; exact w32_id (by omega) (by omega)
  refine x_lr (z := some S) T_68_263 rfl ?_
  refine x_gR (z := some rp) T_68_264 F_7_10 (hP.o hO) (Eq.trans (hP.rm hO rfl (key := 2234) rfl) hrp) ?_
  refine x_ic T_68_267 ?_
  refine x_lr (z := some S) T_68_269 rfl ?_
  refine x_gR (z := some rp) T_68_270 F_7_10 (hP.o hO) (Eq.trans (hP.rm hO rfl (key := 2234) rfl) hrp) ?_
  refine x_cv1 T_68_273 mN_28 mL_28 (Nat.le_of_ble_eq_true rfl) mO_28 (hP.o hro) (Nat.le_of_ble_eq_true rfl) (hsz) ?_
  rintro _ σ ⟨rfl, rfl⟩
  refine cI ?_
  refine x_ic T_68_276 ?_
  refine x_ib (w := ln) T_68_278 (fun h => absurd h.1 (by decide)) hsub ?_
  refine x_i2l T_68_279 ?_
  refine x_ic T_68_280 ?_
  refine x_cv4 T_68_281 mN_25 mL_25 (Nat.le_of_ble_eq_true rfl) mO_25 (hP.o hro) (Nat.le_of_ble_eq_true rfl) (hrep) ?_
  clear hP
  rintro _ σ ⟨rfl, W7, hP, hB7, hF7⟩
  refine cV ?_
  refine x_ic T_68_284 ?_
  refine x_ri T_68_285 ?_
  exact ⟨rfl, W7, hP, hB7, hF7⟩
theorem gEt_f {g : Nat} {r : Int × Int × List Int} (h1 : g ≠ 2312) (h2 : g ≠ 2311) : gEnt P k off cnt r g j = P g j := by
  unfold gEnt
  rw [rU_f h2, rU_f h1]
theorem gEt_o {g : Nat} {r : Int × Int × List Int} (h : j ≠ k) : gEnt P k off cnt r g j = P g j := by
  have e : ∀ (Q : qR) (f : Nat) (w : Int), rU Q f k w g j = Q g j := fun Q f w => if_neg (fun q => h q.2)
  unfold gEnt
  rw [e, e]
theorem gEt_fe {r : Int × Int × List Int} : FE (gEnt P k off cnt r) P := fun f j hf => gEt_f (fun q => by rw [q] at hf; exact absurd hf (by decide)) (fun q => by rw [q] at hf; exact absurd hf (by decide))
theorem gEt_at {r : Int × Int × List Int} : gEnt P k off cnt r 2312 k = r.1 ∧ gEnt P k off cnt r 2311 k = w64 (off + (cnt - r.2.1)) := by
  unfold gEnt
  refine ⟨?_, rU_s⟩
  rw [rU_f (by decide), rU_s]
theorem XV.ent {r : Int × Int × List Int} (h : XV W R P S s ord t) (h6 : ∀ n, s < 2 → isN P s n → P 2297 (64 * s + n) ≤ 600) (hi : 0 ≤ i ∧ i < 96) : XV (rU (rU W (S + 198 + i.toNat) 2296 r.1) (S + 198 + i.toNat) 2295 (w64 (off + (cnt - r.2.1)))) R (gEnt P (96 * s + i) off cnt r) S s ord t := by
  have hml : ∀ n, n ∈ ord → isN P s n := fun n hn => (h.1.1.1 n).mp hn
  obtain ⟨g1, g2⟩ := gEt_at (P := P) (k := 96 * s + i) (off := off) (cnt := cnt) (r := r)
  obtain ⟨x, hx⟩ : ∃ x, r.1 = x := ⟨_, rfl⟩
  obtain ⟨e, he⟩ : ∃ x, w64 (off + (cnt - r.2.1)) = x := ⟨_, rfl⟩
  rw [hx] at g1 ⊢
  rw [he] at g2 ⊢
  refine ⟨((h.1.key ⟨by decide, by decide, by decide, Or.inr (by decide)⟩).key ⟨by decide, by decide, by decide, Or.inr (by decide)⟩).fe gEt_fe, fun k k0 k1 => ?_, ?_, fun k k0 k1 => (((h.2.2.2.key (b := S + 198 + i.toNat) (v := x) (k := 2296) (by decide) (by decide) h6 hml).key (b := S + 198 + i.toNat) (v := e) (k := 2295) (by decide) (by decide) h6 hml) k k0 k1).pp (fun _ => gEt_f (by decide) (by decide)) (fun _ _ _ _ => gEt_f (by decide) (by decide))⟩
  · obtain ⟨a1, a2, a3⟩ := h.2.1 k k0 k1
    have w : ∀ q : Int, q ≠ 2296 → q ≠ 2295 → rU (rU W (S + 198 + i.toNat) 2296 x) (S + 198 + i.toNat) 2295 e (S + 198 + k.toNat) q = W (S + 198 + k.toNat) q := fun q h1 h2 => (rU_j h2).trans (rU_j h1)
    rw [w _ (by decide) (by decide), gEt_f (by decide) (by decide)]
    refine ⟨a1, fun q => ?_, a3⟩
    obtain ⟨b1, b2, b3, b4, b5, b6, b7, b8⟩ := a2 q
    unfold FDu
    rw [w 2289 (by decide) (by decide), w 2290 (by decide) (by decide), w 2292 (by decide) (by decide), w 2293 (by decide) (by decide), w 2294 (by decide) (by decide), gEt_f (g := 2305) (by decide) (by decide), gEt_f (g := 2308) (by decide) (by decide), gEt_f (g := 2307) (by decide) (by decide), gEt_f (g := 2310) (by decide) (by decide), gEt_f (g := 2306) (by decide) (by decide), gEt_f (g := 2309) (by decide) (by decide)]
    by_cases q2 : k = i
    · subst q2
      rw [g1, g2]
      exact ⟨b1, b2, b3, b4, b5, rU_s, (rU_j (by decide)).trans rU_s, b8⟩
    · rw [rU_f (by omega), rU_f (by omega), rU_f (by omega), rU_f (by omega), gEt_o (by omega), gEt_o (by omega)]
      exact ⟨b1, b2, b3, b4, b5, b6, b7, b8⟩
  · obtain ⟨z1, z2, z3, z4⟩ := h.2.2.1
    have w : ∀ (x0 : Nat) (q : Int), q ≠ 2296 → q ≠ 2295 → rU (rU W (S + 198 + i.toNat) 2296 x) (S + 198 + i.toNat) 2295 e x0 q = W x0 q := fun x0 q h1 h2 => (rU_j h2).trans (rU_j h1)
    unfold SZ
    rw [w _ _ (by decide) (by decide), w _ _ (by decide) (by decide), w _ _ (by decide) (by decide), w _ _ (by decide) (by decide), w _ _ (by decide) (by decide), gEt_f (by decide) (by decide), gEt_f (by decide) (by decide), gEt_f (by decide) (by decide), gEt_f (by decide) (by decide)]
    exact ⟨z1, z2, z3, z4⟩
/-- a directory's entries are read -/
theorem rd_122 (hP : PX σ0 W R σ) (hS : VS S s) (hX : XV W R P S s ord t) (hK : CT K W R) (hG : GI T U P) (hi : 0 ≤ i ∧ i < 96) (hfa : S + 198 + i.toNat = fa) (hu : ¬ P 2304 (96 * s + i) = 0) (hnd : P 2306 (96 * s + i) = n) (hb : noA S ord t n = some b) (hld : isN P s n) (hdr : qMode P s n < 0) (hw : 0 ≤ w ∧ w ≤ 289) (hrp : R S 2234 = some rp) (hB : BY W rp 300 (l2 ++ leb 4 0)) (hro : rp + 1 < S ∨ S + 294 ≤ rp) (hroom : l2.length = 7) : WP fb (d + 3) 68 122 [some (vR (some S)), some (vR (some fa)), some (vR (some b)), some (vL w), none, some (vL off), none, none, none, none] [] σ (XS σ0 K W R S rp s 0 (gEnt P (96 * s + i) off w (rdR P s (96 * s + i) off w)) (l2 ++ (leb 4 ((rdR P s (96 * s + i) off w).2.2.length : Int) ++ (rdR P s (96 * s + i) off w).2.2))) := by
  have hO := hS.o
  have hsr := hS.1
  have hrg := hS.rng
  have hbr := hB.1
  have hrlt := hB.lt
  have hrp0 := (tX_o hbr).1
  have hfo := hS.fd hi
  rw [hfa] at hfo
  have hR := TRX_of hX.1 hG hsr
  have h6 := XV.len6 hG.iv hsr.1
  obtain ⟨b', ix, hb', hix, hbix, hlx, htx, hN⟩ := hX.fnode hld
  have hbe : b' = b := by
    rw [hb] at hb'
    exact (Option.some.inj hb').symm
  rw [hbe] at hN
  have hbo : tX b = some (Sum.inl 8) := hN.1
  obtain ⟨f1, f2, f3, f4, f5, f6, f7, f8⟩ := (hX.2.1 i hi.1 hi.2).2.1 hu
  rw [hfa] at f7
  have hrm : 0 ≤ P 2312 (96 * s + i) ∧ P 2312 (96 * s + i) ≤ 64 := IV.a hG.iv 2312 0 288 rfl rfl rfl (by omega) (by omega)
  obtain ⟨rm, hrm0⟩ : ∃ q, P 2312 (96 * s + i) = q := ⟨_, rfl⟩
  rw [hrm0] at f7 hrm
  obtain ⟨C, hC⟩ : ∃ C : Int, (ord.length : Int) = C := ⟨_, rfl⟩
  obtain ⟨x0, hx0⟩ : ∃ q, (if off = 0 then 0 else rm) = q := ⟨_, rfl⟩
  have hx0r : 0 ≤ x0 ∧ x0 ≤ 64 := by rw [← hx0]; split <;> omega
  obtain ⟨rr, hrr⟩ : ∃ q, rdR P s (96 * s + i) off w = q := ⟨_, rfl⟩
  have hXE := hX.ent (off := off) (cnt := w) (r := rr) h6 hi
  rw [hfa] at hXE
  rw [hrr]
  have hrd : rdE P s n 6 x0 w = rr := by
    rw [← hrr]
    unfold rdR
    rw [hnd, hrm0, hx0]
  obtain ⟨X, Lf, D⟩ := rr
  clear hrr
  have htail : ∀ (σ : hM) (W2 : qR) (x8 x9 : Option AV), PX σ0 W2 R σ → BY W2 rp 300 (l2 ++ leb 4 0 ++ D) → W2 fa 2296 = X → FQ rp fa W W2 → ((l2 ++ leb 4 0 ++ D).length : Int) - 11 + Lf = w → WP fb (d + 3) 68 244 [some (vR (some S)), some (vR (some fa)), some (vR (some b)), some (vL w), none, some (vL off), none, some (vI x0), x8, x9] [] σ (XS σ0 K W R S rp s 0 (gEnt P (96 * s + i) off w (X, Lf, D)) (l2 ++ (leb 4 (D.length : Int) ++ D))) := fun σ W2 x8 x9 hP hB2 hX2 hF2 hle => by
    obtain ⟨z, hz⟩ : ∃ z : Int, ((l2 ++ leb 4 0 ++ D).length : Int) = z := ⟨_, rfl⟩
    have hzl := hB2.2.2.2.2.1
    have hsz := x_size (fb := fb) (d := d + 2) hP hB2 hz
    have hv := w64_sub (x := off + z) (y := off + (w - Lf)) (by omega)
    obtain ⟨vv, hvv⟩ : ∃ q, w64 (off + (w - Lf)) = q := ⟨_, rfl⟩
    rw [hvv] at hv
    have hXE : XV (rU (rU W fa 2296 X) fa 2295 (w64 (off + (w - Lf)))) R (gEnt P (96 * s + i) off w (X, Lf, D)) S s ord t := hXE
    rw [hvv] at hXE
    have hfr : ∀ W3, FB rp (rU W2 fa 2295 vv) W3 → ∀ (q : Nat) (k : Int), ¬ (q = rp ∧ k = 2065) → ¬ (q = rp + 1 ∧ k < 2000) → W3 q k = rU (rU W fa 2296 X) fa 2295 vv q k := fun W3 hF q k q1 q2 => by
      rw [hF q k q1 q2]
      by_cases c1 : q = fa ∧ k = 2295
      · rw [c1.1, c1.2, rU_s, rU_s]
      · rw [show rU W2 fa 2295 vv q k = W2 q k from if_neg c1, show rU (rU W fa 2296 X) fa 2295 vv q k = rU W fa 2296 X q k from if_neg c1]
        by_cases c2 : q = fa ∧ k = 2296
        · rw [c2.1, c2.2, rU_s, hX2]
        · rw [show rU W fa 2296 X q k = W q k from if_neg c2]
          exact hF2 q k q1 q2 c2
    have h6E : ∀ n, s < 2 → isN (gEnt P (96 * s + i) off w (X, Lf, D)) s n → gEnt P (96 * s + i) off w (X, Lf, D) 2297 (64 * s + n) ≤ 600 := fun n q1 q2 => by
      rw [gEt_f (by decide) (by decide)]
      exact h6 n q1 (gEt_fe.live.mp q2)
    have hend := fun (σ : hM) (hP : PX σ0 (rU W2 fa 2295 vv) R σ) => WP.mono (rd_263 (fb := fb) (d := d) (fa := fa) (w := w) (off := off) (x2 := some (vR (some b))) (x7 := some (vI x0)) (x8 := x8) (x9 := x9) hP hO hrp (hB2.key (by decide) (by decide)) hroom rfl) (Q := XS σ0 K W R S rp s 0 (gEnt P (96 * s + i) off w (X, Lf, D)) (l2 ++ (leb 4 (D.length : Int) ++ D))) (fun r1 σ1 h => by
      obtain ⟨rfl, W3, hP3, hB3, hF3⟩ := h
      have hf := hfr W3 hF3
      have hF : FB rp (rU (rU W fa 2296 X) fa 2295 vv) W3 := hf
      exact ⟨rfl, W3, R, _, _, _, hP3, hB3, fun _ => rfl, hXE.fbb hF (by omega) hro h6E, ((hK.drop (by omega) (by decide)).drop (by omega) (by decide)).fbb hF (by omega), FV_tr (FV_tr (FV_own (by omega) (by omega) (by omega)) (FV_own (by omega) (by omega) (by omega))) (FV_fb hF (by omega) (by omega))⟩)
    refine x_lr (z := some fa) T_68_244 rfl ?_
    refine x_ll (z := off) T_68_245 rfl ?_
    refine x_lr (z := some S) T_68_247 rfl ?_
    refine x_gR (z := some rp) T_68_248 F_7_10 (hP.o hO) (Eq.trans (hP.rm hO rfl (key := 2234) rfl) hrp) ?_
    refine x_cv1 T_68_251 mN_28 mL_28 (Nat.le_of_ble_eq_true rfl) mO_28 (hP.o hbr) (Nat.le_of_ble_eq_true rfl) (hsz) ?_
    rintro _ σ ⟨rfl, rfl⟩
    refine cI ?_
    refine x_i2l T_68_254 ?_
    refine x_lb (w := w64 (off + z)) T_68_255 (fun h => absurd h.1 (by decide)) rfl ?_
    refine x_lc T_68_256 ?_
    refine x_lb (w := vv) T_68_259 (fun h => absurd h.1 (by decide)) hv ?_
    refine z_pL hP T_68_260 F_9_7 hfo (key := 2295) rfl (fun σ hP => ?_)
    exact hend σ hP
  clear hXE
  have hle := hX.1.1.2.1
  have hloop := x_read_loop (fb := fb) (d := d) (W := W) (v := off) (x0 := x0) (X := X) (Lf := Lf) (LL := l2 ++ leb 4 0 ++ D) (C := C) hS hX.1 hG hR (dirN_of hld hdr) hld hb hbo hrp hro ⟨by omega, by omega⟩ hfo hC hw hx0r htail C.toNat 0 0 x0 6 (l2 ++ leb 4 0) w (rU W fa 2296 x0)
  have hlL : ((l2 ++ leb 4 0).length : Int) = 11 := by
    rw [List.length_append, leb_len]
    omega
  have hloop := fun (σ : hM) (hP : PX σ0 (rU W fa 2296 x0) R σ) => hloop σ (by omega) (by decide) (by decide) (by decide) rfl (by rw [if_pos hx0r.1]) hP (hB.key (by decide) (by decide)) rU_s (FQ_put FQ_rfl) (by omega) hw.1 (by omega) (by rw [hrd, List.drop_left]) (by rw [List.drop_left])
  clear htail
  by_cases q0 : off = 0
  · rw [if_pos q0] at hx0
    subst hx0
    refine x_ll (z := off) T_68_122 rfl ?_
    refine x_lc T_68_124 ?_
    refine x_lif T_68_125 T_68_126 (fun h => absurd (show ¬ off = 0 from h) (by omega)) (fun _ => ?_)
    refine x_ic T_68_129 ?_
    refine x_goto T_68_130 ?_
    refine x_si (ls1 := [some (vR (some S)), some (vR (some fa)), some (vR (some b)), some (vL w), none, some (vL off), none, some (vI 0), none, none]) T_68_137 rfl ?_
    refine x_ic T_68_139 ?_
    refine x_si (ls1 := [some (vR (some S)), some (vR (some fa)), some (vR (some b)), some (vL w), none, some (vL off), none, some (vI 0), some (vI 0), none]) T_68_140 rfl ?_
    refine x_lr (z := some fa) T_68_142 rfl ?_
    refine x_li (z := 0) T_68_143 rfl ?_
    refine z_pI hP T_68_145 F_9_8 hfo (key := 2296) rfl (fun σ hP => ?_)
    refine x_ic T_68_148 ?_
    refine x_si (ls1 := [some (vR (some S)), some (vR (some fa)), some (vR (some b)), some (vL w), none, some (vL off), none, some (vI 0), some (vI 0), some (vI 0)]) T_68_149 rfl ?_
    exact hloop σ hP
  · rw [if_neg q0] at hx0
    subst hx0
    refine x_ll (z := off) T_68_122 rfl ?_
    refine x_lc T_68_124 ?_
    refine x_lif T_68_125 T_68_126 (fun _ => ?_) (fun h => absurd (show ¬ off = 0 by omega) h)
    refine x_lr (z := some fa) T_68_133 rfl ?_
    refine x_gI (z := rm) T_68_134 (Or.inl F_9_8) (hP.o hfo) (Eq.trans (hP.gi hfo (key := 2296) rfl) f7) ?_
    refine x_si (ls1 := [some (vR (some S)), some (vR (some fa)), some (vR (some b)), some (vL w), none, some (vL off), none, some (vI rm), none, none]) T_68_137 rfl ?_
    refine x_ic T_68_139 ?_
    refine x_si (ls1 := [some (vR (some S)), some (vR (some fa)), some (vR (some b)), some (vL w), none, some (vL off), none, some (vI rm), some (vI 0), none]) T_68_140 rfl ?_
    refine x_lr (z := some fa) T_68_142 rfl ?_
    refine x_li (z := rm) T_68_143 rfl ?_
    refine z_pI hP T_68_145 F_9_8 hfo (key := 2296) rfl (fun σ hP => ?_)
    refine x_ic T_68_148 ?_
    refine x_si (ls1 := [some (vR (some S)), some (vR (some fa)), some (vR (some b)), some (vL w), none, some (vL off), none, some (vI rm), some (vI 0), some (vI 0)]) T_68_149 rfl ?_
    exact hloop σ hP
end XRDB
