/-! The class's servers: a message's type and its answer. -/
theorem T_26_368 : hTab 26 368 = some ((3, 7, 0, []), 370) := rfl
theorem T_26_370 : hTab 26 370 = some ((18, 0, Int.ofNat 396, []), 373) := rfl
theorem T_26_373 : hTab 26 373 = some ((3, 0, 2, []), 374) := rfl
theorem T_26_374 : hTab 26 374 = some ((24, 7, Int.ofNat 10, []), 377) := rfl
theorem T_26_377 : hTab 26 377 = some ((0, 0, 107, []), 379) := rfl
theorem T_26_379 : hTab 26 379 = some ((3, 5, 1, []), 381) := rfl
theorem T_26_381 : hTab 26 381 = some ((31, 21, 0, []), 384) := rfl
theorem T_26_384 : hTab 26 384 = some ((3, 0, 2, []), 385) := rfl
theorem T_26_385 : hTab 26 385 = some ((24, 7, Int.ofNat 10, []), 388) := rfl
theorem T_26_388 : hTab 26 388 = some ((3, 7, 0, []), 390) := rfl
theorem T_26_390 : hTab 26 390 = some ((31, 91, 1, []), 393) := rfl
theorem T_26_393 : hTab 26 393 = some ((31, 23, 0, []), 396) := rfl
theorem T_26_396 : hTab 26 396 = some ((3, 0, 2, []), 397) := rfl
theorem T_26_397 : hTab 26 397 = some ((24, 7, Int.ofNat 10, []), 400) := rfl
theorem T_26_400 : hTab 26 400 = some ((31, 24, 0, []), 403) := rfl
section XSRVC
variable {fb : Bool} {d S rp mb M : Nat} {σ0 σ : hM} {W P Q : qR} {R : rR} {k z s e w K T U c tg : Int} {ord l l2 L : List Int} {t : Nat → Nat}
theorem srv_92 {Post : Option AV → hM → Prop} (hP : PX σ0 W R σ) (hS : VS S s) (hX : XV W R P S s ord t) (hK : CT K W R) (hG : GI T U P) (hD : PKK P) (hT : T + 98 ≤ 2147483000) (hIO : SCR W P) (hst : s = 2 → ∀ p, 0 ≤ p → p < 8 → ¬ P 2320 p = 0 → PST W R P p (295 + 125 * p.toNat)) (hr : R S 2233 = some mb) (hrp : R S 2234 = some rp) (hcn : W S 2235 = c) (hc : c = 0 ∨ c = 1) (hB : BY W mb M l) (hz : (l.length : Int) = z) (hz7 : 7 ≤ z) (hmo : mb + 1 < S ∨ S + 294 ≤ mb) (hBr : BY W rp 300 l2) (hro : rp + 1 < S ∨ S + 294 ≤ rp) (hmr : mb ≠ rp) (hroom : l2.length = 7) (n1 : rp ≠ 130) (n2 : rp ≠ 132) (m2 : mb ≠ 132) (hsz : z ≤ P 2313 (2 * s + c)) (he : srE P s c k (lg l) z = e) (hQ : srP P s c k (lg l) z = Q) (hL : srL P s c k (lg l) z = L) (hmid : ∀ (σ' : hM) (x8 : Option AV), XT σ0 K W R S rp s e Q (l2 ++ L) (some (vI e)) σ' → WP fb (d + 7) 26 368 [some (vR (some S)), some (vI c), some (vR (some mb)), some (vR (some rp)), some (vI k), some (vL tg), none, some (vI e), x8] [] σ' Post) : WP fb (d + 7) 26 92 [some (vR (some S)), some (vI c), some (vR (some mb)), some (vR (some rp)), some (vI k), some (vL tg), none, none, none] [] σ Post := by
  by_cases q100 : k = 100
  · subst q100
    exact sv_100 hP hS hX hK hG hD hT hIO hst hr hrp hcn hc hB hz hz7 hmo hBr hro hmr hroom n1 n2 m2 hsz he hQ hL hmid
  by_cases q104 : k = 104
  · subst q104
    exact sv_104 hP hS hX hK hG hD hT hIO hst hr hrp hcn hc hB hz hz7 hmo hBr hro hmr hroom n1 n2 m2 hsz he hQ hL hmid
  by_cases q108 : k = 108
  · subst q108
    exact sv_108 hP hS hX hK hG hD hT hIO hst hr hrp hcn hc hB hz hz7 hmo hBr hro hmr hroom n1 n2 m2 hsz he hQ hL hmid
  by_cases q110 : k = 110
  · subst q110
    exact sv_110 hP hS hX hK hG hD hT hIO hst hr hrp hcn hc hB hz hz7 hmo hBr hro hmr hroom n1 n2 m2 hsz he hQ hL hmid
  by_cases q112 : k = 112
  · subst q112
    exact sv_112 hP hS hX hK hG hD hT hIO hst hr hrp hcn hc hB hz hz7 hmo hBr hro hmr hroom n1 n2 m2 hsz he hQ hL hmid
  by_cases q114 : k = 114
  · subst q114
    exact sv_114 hP hS hX hK hG hD hT hIO hst hr hrp hcn hc hB hz hz7 hmo hBr hro hmr hroom n1 n2 m2 hsz he hQ hL hmid
  by_cases q116 : k = 116
  · subst q116
    exact sv_116 hP hS hX hK hG hD hT hIO hst hr hrp hcn hc hB hz hz7 hmo hBr hro hmr hroom n1 n2 m2 hsz he hQ hL hmid
  by_cases q118 : k = 118
  · subst q118
    exact sv_118 hP hS hX hK hG hD hT hIO hst hr hrp hcn hc hB hz hz7 hmo hBr hro hmr hroom n1 n2 m2 hsz he hQ hL hmid
  by_cases q120 : k = 120
  · subst q120
    exact sv_120 hP hS hX hK hG hD hT hIO hst hr hrp hcn hc hB hz hz7 hmo hBr hro hmr hroom n1 n2 m2 hsz he hQ hL hmid
  by_cases q122 : k = 122
  · subst q122
    exact sv_122 hP hS hX hK hG hD hT hIO hst hr hrp hcn hc hB hz hz7 hmo hBr hro hmr hroom n1 n2 m2 hsz he hQ hL hmid
  by_cases q124 : k = 124
  · subst q124
    exact sv_124 hP hS hX hK hG hD hT hIO hst hr hrp hcn hc hB hz hz7 hmo hBr hro hmr hroom n1 n2 m2 hsz he hQ hL hmid
  by_cases q126 : k = 126
  · subst q126
    exact sv_126 hP hS hX hK hG hD hT hIO hst hr hrp hcn hc hB hz hz7 hmo hBr hro hmr hroom n1 n2 m2 hsz he hQ hL hmid
  exact sv_k hP hS hX hK hG hD hT hIO hst hr hrp hcn hc hB hz hz7 hmo hBr hro hmr hroom n1 n2 m2 hsz (by omega) he hQ hL hmid
theorem leb_tag {a : Int → Int} {i : Int} (h0 : 0 ≤ a i ∧ a i ≤ 255) (h1 : 0 ≤ a (i + 1) ∧ a (i + 1) ≤ 255) : leb 2 (nu a i 2) = [a i, a (i + 1)] := by
  have e : nu a i 2 = a i + 256 * a (i + 1) := by
    rw [show (2 : Nat) = 1 + 1 from rfl, nu_cons, show (1 : Nat) = 0 + 1 from rfl, nu_cons]
    show a i + 256 * (a (i + 1) + 256 * 0) = _
    omega
  rw [e]
  show [(a i + 256 * a (i + 1)) % 256, (a i + 256 * a (i + 1)) / 256 % 256] = _
  rw [show (a i + 256 * a (i + 1)) % 256 = a i by omega, show (a i + 256 * a (i + 1)) / 256 % 256 = a (i + 1) by omega]
/-- the answer's head and end -/
theorem srv_368 {Post : Option AV → hM → Prop} {l3 : List Int} {x8 : Option AV} (hP : PX σ0 W R σ) (hO : tX S = some (Sum.inl 7)) (hrp : R S 2234 = some rp) (hBr : BY W rp 300 l3) (hl3 : e = 0 → l3 = leb 4 0 ++ (leb 1 (k + 1) ++ leb 2 tg) ++ L) (he : 0 ≤ e ∧ e ≤ 16) (ht : tg = nu (lg l) 5 2) (h5 : 0 ≤ lg l 5 ∧ lg l 5 ≤ 255) (h6 : 0 ≤ lg l 6 ∧ lg l 6 ≤ 255) (hgo : ∀ (σ : hM) (W2 : qR), PX σ0 W2 R σ → BY W2 rp 300 (ansL (lg l) (if e = 0 then k + 1 else 107) (if e = 0 then L else errL e)) → FB rp W W2 → WP fb (d + 7) 26 403 [some (vR (some S)), some (vI c), some (vR (some mb)), some (vR (some rp)), some (vI k), some (vL tg), none, some (vI e), x8] [] σ Post) : WP fb (d + 7) 26 368 [some (vR (some S)), some (vI c), some (vR (some mb)), some (vR (some rp)), some (vI k), some (vL tg), none, some (vI e), x8] [] σ Post := by
  have hro := hBr.1
  have htg := leb_tag (a := lg l) (i := 5) h5 h6
  have htr := nu_rng (f := lg l) (i := 5) 2 (fun j hj => by rcases (show j = 0 ∨ j = 1 by omega) with rfl | rfl; exact h5; exact h6)
  rw [← ht] at htg htr
  have h2 : (256 : Int) ^ 2 = 65536 := by decide
  have eA : ∀ (x : Int) (B : List Int), ansL (lg l) x B = leb 4 (7 + (B.length : Int)) ++ ((leb 1 x ++ leb 2 tg) ++ B) := fun x B => by
    unfold ansL
    rw [htg]
    show _ ++ ([x % 256, lg l 5, lg l 6] ++ B) = leb 4 (7 + (B.length : Int)) ++ (([x % 256] ++ [lg l 5, lg l (5 + 1)]) ++ B)
    rfl
  have fin : ∀ (σ : hM) (W2 : qR) (x : Int) (B : List Int), PX σ0 W2 R σ → BY W2 rp 300 (leb 4 0 ++ (leb 1 x ++ leb 2 tg) ++ B) → CL fb (d + 6) 24 [vR (some rp)] σ (XB σ0 W2 R rp 300 (ansL (lg l) x B) none) := fun σ W2 x B hP hB => by
    have hz : ((leb 4 0 ++ (leb 1 x ++ leb 2 tg) ++ B).length : Int) = 7 + (B.length : Int) := by
      rw [List.length_append, List.length_append, List.length_append, leb_len, leb_len, leb_len]
      omega
    have h := x_finish (fb := fb) (d := d + 5) hP hB hz (by omega)
    rw [List.append_assoc, lay_size, ← eA] at h
    exact h
  by_cases q0 : e = 0
  · have hB1 := hBr
    rw [hl3 q0] at hB1
    have hf := fin σ W (k + 1) L hP hB1
    rw [if_pos q0, if_pos q0] at hgo
    subst q0
    refine x_li (z := 0) T_26_368 rfl ?_
    refine x_if T_26_370 (fun _ => ?_) (fun h => absurd (show (0 : Int) = 0 by decide) h)
    refine x_lr (z := some S) T_26_396 rfl ?_
    refine x_gR (z := some rp) T_26_397 F_7_10 (hP.o hO) (Eq.trans (hP.rm hO rfl (key := 2234) rfl) hrp) ?_
    refine x_cv1 T_26_400 mN_24 mL_24 (Nat.le_of_ble_eq_true rfl) mO_24 (hP.o hro) (Nat.le_of_ble_eq_true rfl) (hf) ?_
    clear hP hf
    rintro _ σ ⟨rfl, W2, hP, hB2, hF2⟩
    refine cV ?_
    exact hgo σ W2 hP hB2 hF2
  · rw [if_neg q0, if_neg q0] at hgo
    obtain ⟨t1, t2⟩ := errL_txt (e := e) (by omega)
    have het := fun (σ : hM) => x_errorText (fb := fb) (d := d + 6) (σ := σ) (e := e) (by omega)
    have hst := x_start (fb := fb) (d := d + 5) (x := 107) (v := tg) hP hBr (by decide) (by decide) ⟨by omega, by omega⟩
    have hps := fun (σ : hM) (W2 : qR) (hP : PX σ0 W2 R σ) (hB : BY W2 rp 300 (leb 4 0 ++ (leb 1 107 ++ leb 2 tg))) => x_putString (fb := fb) (d := d + 1) (j := 5 + e.toNat) (by omega) hP hB (by rw [List.length_append, List.length_append, leb_len, leb_len, leb_len]; omega)
    rw [← t1] at hps
    obtain ⟨er, her⟩ : ∃ q, 4 + 2 * (5 + e.toNat) = q := ⟨_, rfl⟩
    simp only [her] at het hps
    refine x_li (z := e) T_26_368 rfl ?_
    refine x_if T_26_370 (fun h => absurd (show e = 0 from h) (by omega)) (fun _ => ?_)
    refine x_lr (z := some S) T_26_373 rfl ?_
    refine x_gR (z := some rp) T_26_374 F_7_10 (hP.o hO) (Eq.trans (hP.rm hO rfl (key := 2234) rfl) hrp) ?_
    refine x_ic T_26_377 ?_
    refine x_ll (z := tg) T_26_379 rfl ?_
    refine x_cv3 T_26_381 mN_21 mL_21 (Nat.le_of_ble_eq_true rfl) mO_21 (hP.o hro) (Nat.le_of_ble_eq_true rfl) (hst) ?_
    clear hP hst
    rintro _ σ ⟨rfl, W2, hP, hB2, hF2⟩
    refine cV ?_
    refine x_lr (z := some S) T_26_384 rfl ?_
    refine x_gR (z := some rp) T_26_385 F_7_10 (hP.o hO) (Eq.trans (hP.rm hO rfl (key := 2234) rfl) hrp) ?_
    refine x_li (z := e) T_26_388 rfl ?_
    refine x_cs1 T_26_390 mN_91 mL_91 (Nat.le_of_ble_eq_true rfl) mK_91 (Nat.le_of_ble_eq_true rfl) (het σ) ?_
    rintro _ σ ⟨rfl, rfl⟩
    refine cR ?_
    refine x_cv2 T_26_393 mN_23 mL_23 (Nat.le_of_ble_eq_true rfl) mO_23 (hP.o hro) (Nat.le_of_ble_eq_true rfl) (hps σ W2 hP hB2) ?_
    clear hP hps
    rintro _ σ ⟨rfl, W3, hP, hB3, hF3⟩
    refine cV ?_
    refine x_lr (z := some S) T_26_396 rfl ?_
    refine x_gR (z := some rp) T_26_397 F_7_10 (hP.o hO) (Eq.trans (hP.rm hO rfl (key := 2234) rfl) hrp) ?_
    refine x_cv1 T_26_400 mN_24 mL_24 (Nat.le_of_ble_eq_true rfl) mO_24 (hP.o hro) (Nat.le_of_ble_eq_true rfl) (fin σ W3 107 (errL e) hP hB3) ?_
    clear hP fin
    rintro _ σ ⟨rfl, W4, hP, hB4, hF4⟩
    refine cV ?_
    exact hgo σ W4 hP hB4 (FB_tr hF2 (FB_tr hF3 hF4))
end XSRVC
