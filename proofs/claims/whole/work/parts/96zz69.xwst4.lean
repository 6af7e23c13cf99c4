/-! The class's servers: what keeps a file's length and mode. -/
theorem T_86_246 : hTab 86 246 = some ((3, 13, 0, []), 248) := rfl
theorem T_86_248 : hTab 86 248 = some ((18, 1, Int.ofNat 269, []), 251) := rfl
theorem T_86_251 : hTab 86 251 = some ((3, 7, 0, []), 253) := rfl
theorem T_86_253 : hTab 86 253 = some ((18, 0, Int.ofNat 269, []), 256) := rfl
theorem T_86_256 : hTab 86 256 = some ((3, 0, 2, []), 257) := rfl
theorem T_86_257 : hTab 86 257 = some ((3, 2, 2, []), 258) := rfl
theorem T_86_258 : hTab 86 258 = some ((3, 1, 2, []), 259) := rfl
theorem T_86_259 : hTab 86 259 = some ((24, 9, Int.ofNat 2, []), 262) := rfl
theorem T_86_262 : hTab 86 262 = some ((3, 9, 1, []), 264) := rfl
theorem T_86_264 : hTab 86 264 = some ((31, 89, 0, []), 267) := rfl
theorem T_86_267 : hTab 86 267 = some ((4, 13, 0, []), 269) := rfl
theorem T_86_269 : hTab 86 269 = some ((3, 13, 0, []), 271) := rfl
theorem T_86_271 : hTab 86 271 = some ((18, 1, Int.ofNat 291, []), 274) := rfl
theorem T_86_274 : hTab 86 274 = some ((3, 8, 0, []), 276) := rfl
theorem T_86_276 : hTab 86 276 = some ((18, 0, Int.ofNat 291, []), 279) := rfl
theorem T_86_279 : hTab 86 279 = some ((3, 2, 2, []), 280) := rfl
theorem T_86_280 : hTab 86 280 = some ((3, 1, 2, []), 281) := rfl
theorem T_86_281 : hTab 86 281 = some ((24, 9, Int.ofNat 2, []), 284) := rfl
theorem T_86_284 : hTab 86 284 = some ((3, 11, 0, []), 286) := rfl
theorem T_86_286 : hTab 86 286 = some ((31, 90, 0, []), 289) := rfl
theorem T_86_289 : hTab 86 289 = some ((4, 13, 0, []), 291) := rfl
theorem T_86_291 : hTab 86 291 = some ((3, 13, 0, []), 293) := rfl
theorem T_86_293 : hTab 86 293 = some ((18, 0, Int.ofNat 299, []), 296) := rfl
theorem T_86_296 : hTab 86 296 = some ((3, 13, 0, []), 298) := rfl
theorem T_86_298 : hTab 86 298 = some ((33, 1, 0, []), 299) := rfl
section XWSTD
variable {fb : Bool} {d S a c0 rp mb m0 N M fa pr bb pa : Nat} {σ0 σ σ' : hM} {W W1 W2 W3 P Q : qR} {R R1 R2 : rR} {b i k x z v s e w f u p g ln K T U C c y off cnt n md tb j m sv nv mr lr e0 : Int} {ord l l2 nm lo D L li : List Int} {t : Nat → Nat} {F : Int → Int} {oth : Option Nat}
/-- the mode -/
theorem ws_269 {Post : Option AV → hM → Prop} (hP : PX σ0 W R σ) (hO : tX S = some (Sum.inl 7)) (hfo : tX fa = some (Sum.inl 9)) (hno : tX a = some (Sum.inl 8)) (hu : W fa 2290 = u) (hmf : v = 0 ∨ v = 1) (hmr : v = 1 → CL fb (d + 3) 90 [vR (some a), vI u, vI m] σ (rP mr σ)) (hno2 : ∀ q : Int, ¬ q = 0 → (q = e0 ∨ (e0 = 0 ∧ v = 1 ∧ q = mr)) → Post (some (vI q)) σ) (hgo : e0 = 0 → (v = 1 → mr = 0) → WP fb (d + 4) 86 299 [some (vR (some S)), some (vR (some fa)), some (vR (some a)), some (vI 54), some (vI e), some (vI 38), some (vI nv), some (vI sv), some (vI v), some (vL ln), none, some (vI m), some (vR oth), some (vI 0)] [] σ Post) : WP fb (d + 4) 86 269 [some (vR (some S)), some (vR (some fa)), some (vR (some a)), some (vI 54), some (vI e), some (vI 38), some (vI nv), some (vI sv), some (vI v), some (vL ln), none, some (vI m), some (vR oth), some (vI e0)] [] σ Post := by
  by_cases q0 : e0 = 0
  · subst q0
    rcases hmf with rfl | rfl
    · have hgo := hgo rfl (fun c => absurd c (by decide))
      refine x_li (z := 0) T_86_269 rfl ?_
      refine x_if T_86_271 (fun h => absurd (show ¬ (0 : Int) = 0 from h) (by decide)) (fun _ => ?_)
      refine x_li (z := 0) T_86_274 rfl ?_
      refine x_if T_86_276 (fun _ => ?_) (fun h => absurd (show (0 : Int) = 0 by decide) h)
      refine x_li (z := 0) T_86_291 rfl ?_
      refine x_if T_86_293 (fun _ => ?_) (fun h => absurd (show (0 : Int) = 0 by decide) h)
      exact hgo
    · have hmr := hmr rfl
      by_cases q1 : mr = 0
      · subst q1
        have hgo := hgo rfl (fun _ => rfl)
        refine x_li (z := 0) T_86_269 rfl ?_
        refine x_if T_86_271 (fun h => absurd (show ¬ (0 : Int) = 0 from h) (by decide)) (fun _ => ?_)
        refine x_li (z := 1) T_86_274 rfl ?_
        refine x_if T_86_276 (fun h => absurd (show (1 : Int) = 0 from h) (by decide)) (fun _ => ?_)
        refine x_lr (z := some a) T_86_279 rfl ?_
        refine x_lr (z := some fa) T_86_280 rfl ?_
        refine x_gI (z := u) T_86_281 (Or.inl F_9_2) (hP.o hfo) (Eq.trans (hP.gi hfo (key := 2290) rfl) hu) ?_
        refine x_li (z := m) T_86_284 rfl ?_
        refine x_cs3 T_86_286 mN_90 mL_90 (Nat.le_of_ble_eq_true rfl) mK_90 (Nat.le_of_ble_eq_true rfl) (hmr) ?_
        rintro _ σ ⟨rfl, rfl⟩
        refine cI ?_
        refine x_si (ls1 := [some (vR (some S)), some (vR (some fa)), some (vR (some a)), some (vI 54), some (vI e), some (vI 38), some (vI nv), some (vI sv), some (vI 1), some (vL ln), none, some (vI m), some (vR oth), some (vI 0)]) T_86_289 rfl ?_
        refine x_li (z := 0) T_86_291 rfl ?_
        refine x_if T_86_293 (fun _ => ?_) (fun h => absurd (show (0 : Int) = 0 by decide) h)
        exact hgo
      · have hno2 := hno2 mr q1 (Or.inr ⟨rfl, rfl, rfl⟩)
        refine x_li (z := 0) T_86_269 rfl ?_
        refine x_if T_86_271 (fun h => absurd (show ¬ (0 : Int) = 0 from h) (by decide)) (fun _ => ?_)
        refine x_li (z := 1) T_86_274 rfl ?_
        refine x_if T_86_276 (fun h => absurd (show (1 : Int) = 0 from h) (by decide)) (fun _ => ?_)
        refine x_lr (z := some a) T_86_279 rfl ?_
        refine x_lr (z := some fa) T_86_280 rfl ?_
        refine x_gI (z := u) T_86_281 (Or.inl F_9_2) (hP.o hfo) (Eq.trans (hP.gi hfo (key := 2290) rfl) hu) ?_
        refine x_li (z := m) T_86_284 rfl ?_
        refine x_cs3 T_86_286 mN_90 mL_90 (Nat.le_of_ble_eq_true rfl) mK_90 (Nat.le_of_ble_eq_true rfl) (hmr) ?_
        rintro _ σ ⟨rfl, rfl⟩
        refine cI ?_
        refine x_si (ls1 := [some (vR (some S)), some (vR (some fa)), some (vR (some a)), some (vI 54), some (vI e), some (vI 38), some (vI nv), some (vI sv), some (vI 1), some (vL ln), none, some (vI m), some (vR oth), some (vI mr)]) T_86_289 rfl ?_
        refine x_li (z := mr) T_86_291 rfl ?_
        refine x_if T_86_293 (fun h => absurd (show mr = 0 from h) (by omega)) (fun _ => ?_)
        refine x_li (z := mr) T_86_296 rfl ?_
        refine x_ri T_86_298 ?_
        exact hno2
  · have hno2 := hno2 e0 q0 (Or.inl rfl)
    refine x_li (z := e0) T_86_269 rfl ?_
    refine x_if T_86_271 (fun _ => ?_) (fun h => absurd (show ¬ e0 = 0 by omega) h)
    refine x_li (z := e0) T_86_291 rfl ?_
    refine x_if T_86_293 (fun h => absurd (show e0 = 0 from h) (by omega)) (fun _ => ?_)
    refine x_li (z := e0) T_86_296 rfl ?_
    refine x_ri T_86_298 ?_
    exact hno2
/-- the length -/
theorem ws_246 {Post : Option AV → hM → Prop} (hP : PX σ0 W R σ) (hO : tX S = some (Sum.inl 7)) (hfo : tX fa = some (Sum.inl 9)) (hno : tX a = some (Sum.inl 8)) (hu : W fa 2290 = u) (hsf : sv = 0 ∨ sv = 1) (hmf : v = 0 ∨ v = 1) (hlr : sv = 1 → CL fb (d + 3) 89 [vR (some S), vR (some a), vI u, vL ln] σ (rP lr σ)) (hmr : v = 1 → CL fb (d + 3) 90 [vR (some a), vI u, vI m] σ (rP mr σ)) (hno2 : ∀ q : Int, ¬ q = 0 → (q = e0 ∨ (e0 = 0 ∧ sv = 1 ∧ q = lr) ∨ (e0 = 0 ∧ (sv = 1 → lr = 0) ∧ v = 1 ∧ q = mr)) → Post (some (vI q)) σ) (hgo : e0 = 0 → (sv = 1 → lr = 0) → (v = 1 → mr = 0) → WP fb (d + 4) 86 299 [some (vR (some S)), some (vR (some fa)), some (vR (some a)), some (vI 54), some (vI e), some (vI 38), some (vI nv), some (vI sv), some (vI v), some (vL ln), none, some (vI m), some (vR oth), some (vI 0)] [] σ Post) : WP fb (d + 4) 86 246 [some (vR (some S)), some (vR (some fa)), some (vR (some a)), some (vI 54), some (vI e), some (vI 38), some (vI nv), some (vI sv), some (vI v), some (vL ln), none, some (vI m), some (vR oth), some (vI e0)] [] σ Post := by
  by_cases q0 : e0 = 0
  · subst q0
    rcases hsf with rfl | rfl
    · have h9 := ws_269 (fb := fb) (d := d) (e := e) (nv := nv) (sv := 0) (v := v) (ln := ln) (m := m) (oth := oth) (e0 := 0) (mr := mr) hP hO hfo hno hu hmf hmr (fun q q1 q2 => hno2 q q1 (by
        rcases q2 with q2 | ⟨_, q3, q4⟩
        · exact Or.inl q2
        · exact Or.inr (Or.inr ⟨rfl, fun c => absurd c (by decide), q3, q4⟩))) (fun _ q => hgo rfl (fun c => absurd c (by decide)) q)
      refine x_li (z := 0) T_86_246 rfl ?_
      refine x_if T_86_248 (fun h => absurd (show ¬ (0 : Int) = 0 from h) (by decide)) (fun _ => ?_)
      refine x_li (z := 0) T_86_251 rfl ?_
      refine x_if T_86_253 (fun _ => ?_) (fun h => absurd (show (0 : Int) = 0 by decide) h)
      exact h9
    · have hlr := hlr rfl
      have h9 := ws_269 (fb := fb) (d := d) (e := e) (nv := nv) (sv := 1) (v := v) (ln := ln) (m := m) (oth := oth) (e0 := lr) (mr := mr) hP hO hfo hno hu hmf hmr (fun q q1 q2 => hno2 q q1 (by
        rcases q2 with q2 | ⟨q2, q3, q4⟩
        · exact Or.inr (Or.inl ⟨rfl, rfl, q2⟩)
        · exact Or.inr (Or.inr ⟨rfl, fun _ => q2, q3, q4⟩))) (fun q2 q => hgo rfl (fun _ => q2) q)
      refine x_li (z := 0) T_86_246 rfl ?_
      refine x_if T_86_248 (fun h => absurd (show ¬ (0 : Int) = 0 from h) (by decide)) (fun _ => ?_)
      refine x_li (z := 1) T_86_251 rfl ?_
      refine x_if T_86_253 (fun h => absurd (show (1 : Int) = 0 from h) (by decide)) (fun _ => ?_)
      refine x_lr (z := some S) T_86_256 rfl ?_
      refine x_lr (z := some a) T_86_257 rfl ?_
      refine x_lr (z := some fa) T_86_258 rfl ?_
      refine x_gI (z := u) T_86_259 (Or.inl F_9_2) (hP.o hfo) (Eq.trans (hP.gi hfo (key := 2290) rfl) hu) ?_
      refine x_ll (z := ln) T_86_262 rfl ?_
      refine x_cv4 T_86_264 mN_89 mL_89 (Nat.le_of_ble_eq_true rfl) mO_89 (hP.o hO) (Nat.le_of_ble_eq_true rfl) (hlr) ?_
      rintro _ σ ⟨rfl, rfl⟩
      refine cI ?_
      refine x_si (ls1 := [some (vR (some S)), some (vR (some fa)), some (vR (some a)), some (vI 54), some (vI e), some (vI 38), some (vI nv), some (vI 1), some (vI v), some (vL ln), none, some (vI m), some (vR oth), some (vI lr)]) T_86_267 rfl ?_
      exact h9
  · have h9 := ws_269 (fb := fb) (d := d) (e := e) (nv := nv) (sv := sv) (v := v) (ln := ln) (m := m) (oth := oth) (e0 := e0) (mr := mr) hP hO hfo hno hu hmf hmr (fun q q1 q2 => hno2 q q1 (by
      rcases q2 with q2 | ⟨q2, _, _⟩
      · exact Or.inl q2
      · exact absurd q2 q0)) (fun q => absurd q q0)
    refine x_li (z := e0) T_86_246 rfl ?_
    refine x_if T_86_248 (fun _ => ?_) (fun h => absurd (show ¬ e0 = 0 by omega) h)
    exact h9
end XWSTD
