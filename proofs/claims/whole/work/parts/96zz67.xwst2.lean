/-! The class's servers: a file's name, size, mode are changed. -/
theorem T_86_321 : hTab 86 321 = some ((3, 7, 0, []), 323) := rfl
theorem T_86_323 : hTab 86 323 = some ((18, 0, Int.ofNat 344, []), 326) := rfl
theorem T_86_326 : hTab 86 326 = some ((3, 0, 2, []), 327) := rfl
theorem T_86_327 : hTab 86 327 = some ((3, 2, 2, []), 328) := rfl
theorem T_86_328 : hTab 86 328 = some ((3, 9, 1, []), 330) := rfl
theorem T_86_330 : hTab 86 330 = some ((15, 0, 0, []), 331) := rfl
theorem T_86_331 : hTab 86 331 = some ((31, 62, 0, []), 334) := rfl
theorem T_86_334 : hTab 86 334 = some ((3, 2, 2, []), 335) := rfl
theorem T_86_335 : hTab 86 335 = some ((6, 0, 0, []), 336) := rfl
theorem T_86_336 : hTab 86 336 = some ((24, 8, Int.ofNat 5, []), 339) := rfl
theorem T_86_339 : hTab 86 339 = some ((0, 0, 1, []), 340) := rfl
theorem T_86_340 : hTab 86 340 = some ((10, 0, 0, []), 341) := rfl
theorem T_86_341 : hTab 86 341 = some ((25, 8, Int.ofNat 5, []), 344) := rfl
section XWSTB
variable {fb : Bool} {d S a c0 rp mb m0 N M fa pr bb pa : Nat} {σ0 σ σ' : hM} {W W1 W2 W3 P Q : qR} {R R1 R2 : rR} {b i k x z v s e w f u p g ln K T U C c y off cnt n md tb j m sv nv : Int} {ord l l2 nm lo D L li : List Int} {t : Nat → Nat} {F : Int → Int} {oth : Option Nat}
/-- the length -/
theorem ws_321 {x4 x6 : Int} (hP : PX σ0 W R σ) (hS : VS S s) (hX : XV W R Q S s ord t) (hK : CT K W R) (hG : GI T U Q) (hT : T + 49 ≤ 2147483000) (hs : s < 2) (hi0 : 0 ≤ i ∧ i < 96) (hfa : S + 198 + i.toNat = fa) (hif : ¬ Q 2304 (96 * s + i) = 0) (hus : Q 2308 (96 * s + i) = u) (hi : 0 ≤ j ∧ j < ord.length) (ha : S + 6 + 3 * t j.toNat = a) (hn : lg ord j = n) (hu3 : 0 ≤ u ∧ u ≤ 3) (hBr : BY W rp 300 l2) (hro : rp + 1 < S ∨ S + 294 ≤ rp) (hsf : sv = 0 ∨ sv = 1) (hln : sv = 1 → (0 ≤ ln ∧ ln ≤ 600) ∧ 0 ≤ qMode Q s n) (hmf : v = 0 ∨ v = 1) (hm : -2147483648 ≤ m ∧ m ≤ 2147483647) (hsg : v = 1 → (0 ≤ m ↔ 0 ≤ qMode Q s n)) : WP fb (d + 4) 86 321 [some (vR (some S)), some (vR (some fa)), some (vR (some a)), some (vI 54), some (vI x4), some (vI 38), some (vI x6), some (vI sv), some (vI v), some (vL ln), none, some (vI m), some (vR oth), some (vI 0)] [] σ (XS σ0 K W R S rp s 0 (rU (if v = 1 then rU (if sv = 1 then rU (gSize Q s n ln) 2292 (64 * s + n) (Q 2292 (64 * s + n) + 1) else Q) 2293 (64 * s + n) m else (if sv = 1 then rU (gSize Q s n ln) 2292 (64 * s + n) (Q 2292 (64 * s + n) + 1) else Q)) 2296 (64 * s + n) u) l2) := by
  have hO := hS.o
  have hsr := hS.1
  have hrg := hS.rng
  have hl := hX.1.1.2.1
  have ti := hX.1.2.1.1 j.toNat (by omega)
  have hlv := (hX.1.1.1 _).mp (lg_mem hi.1 hi.2)
  rw [hn] at hlv
  have hlt := isN_lt hs hlv
  have h6 := XV.len6 hG.iv hsr.1
  have hr0 := (tX_o hBr.1).1
  have hND := hX.1.2.2.2.1 j hi.1 hi.2
  rw [ha, hn] at hND
  have hno : tX a = some (Sum.inl 8) := hND.1
  rcases hsf with rfl | rfl
  · rw [if_neg (show ¬ (0 : Int) = 1 by decide)]
    have hu : W fa 2290 = u := by
      have f2 := ((hX.2.1 i hi0.1 hi0.2).2.1 hif).2.1
      rw [hfa, hus] at f2
      exact f2
    have hgo := fun (σ : hM) (hP : PX σ0 W R σ) => ws_344 (fb := fb) (d := d) (x4 := x4) (x6 := x6) (x7 := 0) (lq := ln) (oth := oth) hP hS hX hK hs h6 hi0 hfa hi ha hn hu hu3 hBr hmf hm hsg
    refine x_li (z := 0) T_86_321 rfl ?_
    refine x_if T_86_323 (fun _ => ?_) (fun h => absurd (show (0 : Int) = 0 by decide) h)
    exact hgo σ hP
  · rw [if_pos (show (1 : Int) = 1 from rfl)]
    obtain ⟨hl6, hdm⟩ := hln rfl
    have bv : 0 ≤ Q 2292 (64 * s + n) ∧ Q 2292 (64 * s + n) ≤ T := IV.a hG.iv 2292 0 128 rfl rfl rfl (by omega) (by omega)
    obtain ⟨vr, hvr⟩ : ∃ q, Q 2292 (64 * s + n) = q := ⟨_, rfl⟩
    rw [hvr] at bv ⊢
    have hrs := x_resize (fb := fb) (d := d + 3) (rp := 0) (z := ln) hP hS hX hK hG.iv hs hi ha hn hdm hl6
    have rl : ∀ f k, [2300, 2301, 2297].elem f = false → gSize Q s n ln f k = Q f k := RF_gSize
    have hgo : ∀ (W2 : qR) (R2 : rR), XV W2 R2 (gSize Q s n ln) S s ord t → CT K W2 R2 → FV S 0 W W2 R R2 → W2 a 2261 = vr ∧ (∀ σ, PX σ0 (rU W2 a 2261 (vr + 1)) R2 σ → WP fb (d + 4) 86 344 [some (vR (some S)), some (vR (some fa)), some (vR (some a)), some (vI 54), some (vI x4), some (vI 38), some (vI x6), some (vI 1), some (vI v), some (vL ln), none, some (vI m), some (vR oth), some (vI 0)] [] σ (XS σ0 K W R S rp s 0 (rU (if v = 1 then rU (rU (gSize Q s n ln) 2292 (64 * s + n) (vr + 1)) 2293 (64 * s + n) m else rU (gSize Q s n ln) 2292 (64 * s + n) (vr + 1)) 2296 (64 * s + n) u) l2)) := fun W2 R2 hX2 hK2 hF2 => by
      have h6S : ∀ n', s < 2 → isN (gSize Q s n ln) s n' → gSize Q s n ln 2297 (64 * s + n') ≤ 600 := fun n' _ hn' => by
        rw [gSize_len]
        split
        · exact hl6.2
        · exact h6 n' hs ((isN_tree hs (fun k => rl _ _ rfl)).mp hn')
      have hv2 := (hX2.1.2.2.2.1 j hi.1 hi.2).2.2.2.1.1
      rw [ha, hn, show qVer (gSize Q s n ln) s n = vr by unfold qVer; rw [if_pos hs, rl _ _ rfl, hvr]] at hv2
      refine ⟨hv2, fun σ hP2 => ?_⟩
      have hX3 := hX2.ver1 (v := vr) hS hs h6S hi ha hn (by rw [rl _ _ rfl]; exact hvr) ⟨bv.1, by omega⟩
      have h6V : ∀ n', s < 2 → isN (rU (gSize Q s n ln) 2292 (64 * s + n) (vr + 1)) s n' → rU (gSize Q s n ln) 2292 (64 * s + n) (vr + 1) 2297 (64 * s + n') ≤ 600 := fun n' q hn' => by
        rw [rU_f (by decide)]
        exact h6S n' q ((isN_tree q (fun k => rU_f (by decide))).mp hn')
      have hF3 : FV S 0 W (rU W2 a 2261 (vr + 1)) R R2 := FV_tr hF2 (FV_own (by omega) (by omega) (by omega))
      have hu : rU W2 a 2261 (vr + 1) fa 2290 = u := by
        have f2 := ((hX2.2.1 i hi0.1 hi0.2).2.1 (by rw [rl _ _ rfl]; exact hif)).2.1
        rw [hfa, rl _ _ rfl, hus] at f2
        exact (rU_j (by decide)).trans f2
      have eM : qMode (rU (gSize Q s n ln) 2292 (64 * s + n) (vr + 1)) s n = qMode Q s n := by
        unfold qMode
        rw [if_pos hs, if_pos hs, rU_f (by decide), rl _ _ rfl]
      exact WP.mono (ws_344 (fb := fb) (d := d) hP2 hS hX3 (hK2.drop (by omega) (by decide)) hs h6V hi0 hfa hi ha hn hu hu3 (FV_by hF3 hBr hro (by omega)) hmf hm (fun q => by rw [eM]; exact hsg q)) (fun _ _ h => XS.tr (FV_w hF3) h)
    clear hX hK hND
    refine x_li (z := 1) T_86_321 rfl ?_
    refine x_if T_86_323 (fun h => absurd (show (1 : Int) = 0 from h) (by decide)) (fun _ => ?_)
    refine x_lr (z := some S) T_86_326 rfl ?_
    refine x_lr (z := some a) T_86_327 rfl ?_
    refine x_ll (z := ln) T_86_328 rfl ?_
    refine x_l2i (w := ln) T_86_330 (w32_id (by omega) (by omega)) ?_
    refine x_cv3 T_86_331 mN_62 mL_62 (Nat.le_of_ble_eq_true rfl) mO_62 (hP.o hO) (Nat.le_of_ble_eq_true rfl) (hrs) ?_
    clear hP hrs
    rintro _ σ ⟨rfl, W2, R2, hP, hX2, hK2, hF2⟩
    obtain ⟨hv2, hgo⟩ := hgo W2 R2 hX2 hK2 hF2
    refine cV ?_
    refine x_lr (z := some a) T_86_334 rfl ?_
    refine x_dupR T_86_335 ?_
    refine x_gI (z := vr) T_86_336 (Or.inl F_8_5) (hP.o hno) (Eq.trans (hP.gi hno (key := 2261) rfl) hv2) ?_
    refine x_ic T_86_339 ?_
    refine x_ib (w := (vr + 1)) T_86_340 (fun h => absurd h.1 (by decide)) (w32_id (by omega) (by omega)) ?_
    refine z_pI hP T_86_341 F_8_5 hno (key := 2261) rfl (fun σ hP => ?_)
    exact hgo _ hP
end XWSTB
