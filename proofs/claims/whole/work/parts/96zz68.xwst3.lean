/-! The class's servers: a file's name. -/
theorem T_86_299 : hTab 86 299 = some ((3, 6, 0, []), 301) := rfl
theorem T_86_301 : hTab 86 301 = some ((18, 0, Int.ofNat 321, []), 304) := rfl
theorem T_86_304 : hTab 86 304 = some ((3, 2, 2, []), 305) := rfl
theorem T_86_305 : hTab 86 305 = some ((24, 8, Int.ofNat 0, []), 308) := rfl
theorem T_86_308 : hTab 86 308 = some ((3, 0, 2, []), 309) := rfl
theorem T_86_309 : hTab 86 309 = some ((24, 7, Int.ofNat 9, []), 312) := rfl
theorem T_86_312 : hTab 86 312 = some ((3, 3, 0, []), 313) := rfl
theorem T_86_313 : hTab 86 313 = some ((0, 0, 2, []), 314) := rfl
theorem T_86_314 : hTab 86 314 = some ((10, 0, 0, []), 315) := rfl
theorem T_86_315 : hTab 86 315 = some ((3, 4, 0, []), 317) := rfl
theorem T_86_317 : hTab 86 317 = some ((31, 31, 0, []), 320) := rfl
theorem T_86_320 : hTab 86 320 = some ((7, 0, 0, []), 321) := rfl
section XWSTC
variable {fb : Bool} {d S a c0 rp mb m0 N M fa pr bb pa : Nat} {σ0 σ σ' : hM} {W W1 W2 W3 P Q : qR} {R R1 R2 : rR} {b i k x z v s e w f u p g ln K T U C c y off cnt n md tb j m sv nv : Int} {ord l l2 nm lo D L li : List Int} {t : Nat → Nat} {F : Int → Int} {oth : Option Nat}
theorem ws_299 (hP : PX σ0 W R σ) (hS : VS S s) (hX : XV W R P S s ord t) (hK : CT K W R) (hG : GI T U P) (hT : T + 49 ≤ 2147483000) (hs : s < 2) (hi0 : 0 ≤ i ∧ i < 96) (hfa : S + 198 + i.toNat = fa) (hif : ¬ P 2304 (96 * s + i) = 0) (hus : P 2308 (96 * s + i) = u) (hi : 0 ≤ j ∧ j < ord.length) (ha : S + 6 + 3 * t j.toNat = a) (hn : lg ord j = n) (hu3 : 0 ≤ u ∧ u ≤ 3) (hr : R S 2233 = some mb) (hB : BY W mb M l) (hmo : mb + 1 < S ∨ S + 294 ≤ mb) (hBr : BY W rp 300 l2) (hro : rp + 1 < S ∨ S + 294 ≤ rp) (hnf : nv = 0 ∨ nv = 1) (hnm : nv = 1 → (56 ≤ e ∧ e ≤ l.length) ∧ seg (lg l) 56 (e - 56).toNat = nm ∧ byt nm ∧ nm.length ≤ 12) (hsf : sv = 0 ∨ sv = 1) (hln : sv = 1 → (0 ≤ ln ∧ ln ≤ 600) ∧ 0 ≤ qMode P s n) (hmf : v = 0 ∨ v = 1) (hm : -2147483648 ≤ m ∧ m ≤ 2147483647) (hsg : v = 1 → (0 ≤ m ↔ 0 ≤ qMode P s n)) (hQ : Q = if nv = 1 then gName P s n nm else P) : WP fb (d + 4) 86 299 [some (vR (some S)), some (vR (some fa)), some (vR (some a)), some (vI 54), some (vI e), some (vI 38), some (vI nv), some (vI sv), some (vI v), some (vL ln), none, some (vI m), some (vR oth), some (vI 0)] [] σ (XS σ0 K W R S rp s 0 (rU (if v = 1 then rU (if sv = 1 then rU (gSize Q s n ln) 2292 (64 * s + n) (Q 2292 (64 * s + n) + 1) else Q) 2293 (64 * s + n) m else (if sv = 1 then rU (gSize Q s n ln) 2292 (64 * s + n) (Q 2292 (64 * s + n) + 1) else Q)) 2296 (64 * s + n) u) l2) := by
  have hO := hS.o
  have hsr := hS.1
  have hrg := hS.rng
  have hl := hX.1.1.2.1
  have ti := hX.1.2.1.1 j.toNat (by omega)
  have hlv := (hX.1.1.1 _).mp (lg_mem hi.1 hi.2)
  rw [hn] at hlv
  have hlt := isN_lt hs hlv
  have hr0 := (tX_o hBr.1).1
  have hm0 := (tX_o hB.1).1
  have hbm := hB.1
  have h6 := XV.len6 hG.iv hsr.1
  have hND := hX.1.2.2.2.1 j hi.1 hi.2
  rw [ha, hn] at hND
  have hno : tX a = some (Sum.inl 8) := hND.1
  rcases hnf with rfl | rfl
  · rw [if_neg (by decide)] at hQ
    subst hQ
    have hgo := fun (σ : hM) (hP : PX σ0 W R σ) => ws_321 (fb := fb) (d := d) (x4 := e) (x6 := 0) (oth := oth) hP hS hX hK hG hT hs hi0 hfa hif hus hi ha hn hu3 hBr hro hsf hln hmf hm hsg
    refine x_li (z := 0) T_86_299 rfl ?_
    refine x_if T_86_301 (fun _ => ?_) (fun h => absurd (show (0 : Int) = 0 by decide) h)
    exact hgo σ hP
  · rw [if_pos rfl] at hQ
    obtain ⟨⟨e0, e1⟩, e2, e3, e4⟩ := hnm rfl
    have hsh : SH (a + 1) 12 := by
      have := hS.sh ti
      rw [show S + 7 + 3 * t j.toNat = a + 1 by omega] at this
      exact this
    have hlen : nm.length = (e - 56).toNat := by rw [← e2, seg_len]
    have htk := x_take0 (fb := fb) (d := d + 2) (s := 56) (e := e) hP hsh hB (by omega) (Or.inr (by decide)) e1
    rw [e2, List.take_of_length_le e4, if_pos (by omega)] at htk
    have h56 : w32 (54 + 2) = 56 := w32_id (by decide) (by decide)
    have hgo : ∀ W2, BY W2 (a + 1) 12 nm → FB (a + 1) W W2 → ∀ σ, PX σ0 W2 R σ → WP fb (d + 4) 86 321 [some (vR (some S)), some (vR (some fa)), some (vR (some a)), some (vI 54), some (vI e), some (vI 38), some (vI 1), some (vI sv), some (vI v), some (vL ln), none, some (vI m), some (vR oth), some (vI 0)] [] σ (XS σ0 K W R S rp s 0 (rU (if v = 1 then rU (if sv = 1 then rU (gSize Q s n ln) 2292 (64 * s + n) (Q 2292 (64 * s + n) + 1) else Q) 2293 (64 * s + n) m else (if sv = 1 then rU (gSize Q s n ln) 2292 (64 * s + n) (Q 2292 (64 * s + n) + 1) else Q)) 2296 (64 * s + n) u) l2) := fun W2 hB2 hF2 σ hP2 => by
      have hX2 := hX.nam1 hS hs h6 hi ha hn hF2 hB2
      have hG2 := GI_gName hG ⟨hsr.1, hs, hlt.1, hlt.2.1⟩ e3 e4
      rw [← hQ] at hX2 hG2
      have hF : FV S 0 W W2 R R := FV_fbo hF2 (by omega) (by omega)
      have hq : ∀ (f : Nat) (k : Int), f ≠ 2298 → f ≠ 2299 → Q f k = P f k := fun f k q1 q2 => by rw [hQ]; exact gName_f q1 q2
      have eM : qMode Q s n = qMode P s n := by
        unfold qMode
        rw [if_pos hs, if_pos hs, hq _ _ (by decide) (by decide)]
      exact WP.mono (ws_321 (fb := fb) (d := d) hP2 hS hX2 (hK.fv (hF2 _ _ (by omega) (by omega)) (hF2 _ _ (by omega) (by omega)) (fun _ => rfl)) hG2 hT hs hi0 hfa (by rw [hq _ _ (by decide) (by decide)]; exact hif) (by rw [hq _ _ (by decide) (by decide)]; exact hus) hi ha hn hu3 (FV_by hF hBr hro (by omega)) hro hsf (fun q => by rw [eM]; exact hln q) hmf hm (fun q => by rw [eM]; exact hsg q)) (fun _ _ h => XS.tr (FV_w hF) h)
    clear hX hK hND
    refine x_li (z := 1) T_86_299 rfl ?_
    refine x_if T_86_301 (fun h => absurd (show (1 : Int) = 0 from h) (by decide)) (fun _ => ?_)
    refine x_lr (z := some a) T_86_304 rfl ?_
    refine x_gR (z := some (a + 1)) T_86_305 F_8_0 (hP.o hno) (hP.rc hno rfl rfl) ?_
    refine x_lr (z := some S) T_86_308 rfl ?_
    refine x_gR (z := some mb) T_86_309 F_7_9 (hP.o hO) (Eq.trans (hP.rm hO rfl (key := 2233) rfl) hr) ?_
    refine x_li (z := 54) T_86_312 rfl ?_
    refine x_ic T_86_313 ?_
    refine x_ib (w := 56) T_86_314 (fun h => absurd h.1 (by decide)) h56 ?_
    refine x_li (z := e) T_86_315 rfl ?_
    refine x_cv4 T_86_317 mN_31 mL_31 (Nat.le_of_ble_eq_true rfl) mO_31 (hP.o hsh.1) (Nat.le_of_ble_eq_true rfl) (htk) ?_
    clear hP htk
    rintro _ σ ⟨rfl, W2, hP, hB2, hF2⟩
    refine cI ?_
    refine x_popI T_86_320 ?_
    exact hgo W2 hB2 hF2 σ hP
end XWSTC
