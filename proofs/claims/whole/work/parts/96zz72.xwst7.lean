/-! The class's servers: a wstat's strings; a wstat of server 2. -/
theorem T_86_208 : hTab 86 208 = some ((0, 0, 3, []), 209) := rfl
theorem T_86_209 : hTab 86 209 = some ((22, 0, Int.ofNat 244, []), 212) := rfl
section XWSTG
variable {fb : Bool} {d S a c0 rp mb m0 N M fa pr bb pa : Nat} {σ0 σ σ' : hM} {W W1 W2 W3 P Q : qR} {R R1 R2 : rR} {b i k x z v s e w f u p g ln K T U C c y off cnt n md tb j m sv nv mr lr e0 ok : Int} {ord l l2 nm lo D L li : List Int} {t : Nat → Nat} {F : Int → Int} {oth : Option Nat}
theorem wkS_s {m : Nat} (h : ¬ sE F z p < 0) : wkS F z (m + 1) p = (p + 2, nu F p 2) :: wkS F z m (sE F z p) := if_neg h
/-- the four strings of a stat -/
theorem wsY_all (hw : wkE F z 4 54 = z) (hz : 0 ≤ z) (he : sE F z 54 = e) (hb : ∀ q : Int, 0 ≤ q → q < z → 0 ≤ F q ∧ F q ≤ 255) : 56 ≤ e ∧ e ≤ z ∧ wsY F z 0 = (56, e - 56) ∧ ((0 < (wsY F z 1).2 + (wsY F z 2).2 + (wsY F z 3).2) ↔ ¬ e + 6 = z) := by
  have hw4 : wkE F z 3 (sE F z 54) = z := hw
  rw [he] at hw4
  obtain ⟨e2, he2⟩ : ∃ q, sE F z e = q := ⟨_, rfl⟩
  have hw3 : wkE F z 2 (sE F z e) = z := hw4
  rw [he2] at hw3
  obtain ⟨e3, he3⟩ : ∃ q, sE F z e2 = q := ⟨_, rfl⟩
  have hw2 : wkE F z 1 (sE F z e2) = z := hw3
  rw [he3] at hw2
  have hw1 : sE F z e3 = z := hw2
  have n3 : ¬ e3 < 0 := fun q => by rw [sE_neg q] at hw1; omega
  have n2 : ¬ e2 < 0 := fun q => by rw [sE_neg q] at he3; omega
  have n1 : ¬ e < 0 := fun q => by rw [sE_neg q] at he2; omega
  have g1 := sE_ge (a := F) (z := z) (p := 54) (by rw [he]; omega)
  have g2 := sE_ge (a := F) (z := z) (p := e) (by rw [he2]; omega)
  have g3 := sE_ge (a := F) (z := z) (p := e2) (by rw [he3]; omega)
  have g4 := sE_ge (a := F) (z := z) (p := e3) (by rw [hw1]; omega)
  rw [he] at g1
  rw [he2] at g2
  rw [he3] at g3
  rw [hw1] at g4
  have k1 : wkS F z 4 54 = (56, nu F 54 2) :: wkS F z 3 e := by
    have h := wkS_s (F := F) (z := z) (m := 3) (p := 54) (by rw [he]; exact n1)
    rw [he] at h
    exact h
  have k2 : wkS F z 3 e = (e + 2, nu F e 2) :: wkS F z 2 e2 := by
    have h := wkS_s (F := F) (z := z) (m := 2) (p := e) (by rw [he2]; exact n2)
    rw [he2] at h
    exact h
  have k3 : wkS F z 2 e2 = (e2 + 2, nu F e2 2) :: wkS F z 1 e3 := by
    have h := wkS_s (F := F) (z := z) (m := 1) (p := e2) (by rw [he3]; exact n3)
    rw [he3] at h
    exact h
  have k4 : wkS F z 1 e3 = (e3 + 2, nu F e3 2) :: wkS F z 0 z := by
    have h := wkS_s (F := F) (z := z) (m := 0) (p := e3) (by rw [hw1]; omega)
    rw [hw1] at h
    exact h
  rw [k2, k3, k4] at k1
  have r : ∀ q : Int, 0 ≤ q → q + 2 ≤ z → 0 ≤ nu F q 2 := fun q q0 q1 => (nu_rng (f := F) (i := q) 2 (fun j _ => hb _ (by omega) (by omega))).1
  have r1 := r 54 (by omega) (by omega)
  have r2 := r e (by omega) (by omega)
  have r3 := r e2 (by omega) (by omega)
  have r4 := r e3 (by omega) (by omega)
  have y0 : wsY F z 0 = (56, nu F 54 2) := by unfold wsY; rw [k1]; rfl
  have y1 : wsY F z 1 = (e + 2, nu F e 2) := by unfold wsY; rw [k1]; rfl
  have y2 : wsY F z 2 = (e2 + 2, nu F e2 2) := by unfold wsY; rw [k1]; rfl
  have y3 : wsY F z 3 = (e3 + 2, nu F e3 2) := by unfold wsY; rw [k1]; rfl
  rw [y0, y1, y2, y3]
  refine ⟨by omega, by omega, by rw [show nu F 54 2 = e - 56 by omega], ?_⟩
  show 0 < nu F e 2 + nu F e2 2 + nu F e3 2 ↔ ¬ e + 6 = z
  omega
/-- server 2 lets nothing be changed -/
theorem ws_149s {Post : Option AV → hM → Prop} (hP : PX σ0 W R σ) (hO : tX S = some (Sum.inl 7)) (hfo : tX fa = some (Sum.inl 9)) (hno : tX a = some (Sum.inl 8)) (hsh : W S 2225 = 1) (hr : R S 2233 = some mb) (hB : BY W mb M l) (hz : (l.length : Int) = z) (h54 : 54 ≤ z) (hln : w64 (nu (lg l) 46 8) = ln) (hmd : nu (lg l) 34 4 = md) (hm : w32 md = m) (hpar : (R a 2257 = none ∧ oth = none) ∨ ∃ pa, R a 2257 = some pa ∧ tX pa = some (Sum.inl 8) ∧ CL fb (d + 3) 56 [vR (some S), vR (some pa), vI 56, vI e] σ (rPR oth σ)) (hend : Post (some (vI 3)) σ) : WP fb (d + 4) 86 149 [some (vR (some S)), some (vR (some fa)), some (vR (some a)), some (vI 54), some (vI e), some (vI 38), some (vI nv), some (vI sv), some (vI v), none, none, none, none, none] [] σ Post := by
  have hbm := hB.1
  have h1 := x_number (fb := fb) (d := d + 3) (s := 46) (k := 8) hP hB hz (by decide) (by decide)
  rw [if_pos (by omega), show ((8 : Int)).toNat = 8 from rfl, hln] at h1
  have h2 := x_num (fb := fb) (d := d + 3) (s := 34) (k := 4) 4 hP hB hz rfl (by decide) (by decide) (by omega) hmd
  have h56 : w32 (54 + 2) = 56 := w32_id (by decide) (by decide)
  rcases hpar with ⟨hp, rfl⟩ | ⟨pa, hp, hpo, hen⟩
  · skip
    refine x_lr (z := some S) T_86_149 rfl ?_
    refine x_gR (z := some mb) T_86_150 F_7_9 (hP.o hO) (Eq.trans (hP.rm hO rfl (key := 2233) rfl) hr) ?_
    refine x_ic T_86_153 ?_
    refine x_ic T_86_155 ?_
    refine x_cv3 T_86_157 mN_29 mL_29 (Nat.le_of_ble_eq_true rfl) mO_29 (hP.o hbm) (Nat.le_of_ble_eq_true rfl) (h1) ?_
    rintro _ σ ⟨rfl, rfl⟩
    refine cL ?_
    refine x_sl (ls1 := [some (vR (some S)), some (vR (some fa)), some (vR (some a)), some (vI 54), some (vI e), some (vI 38), some (vI nv), some (vI sv), some (vI v), some (vL ln), none, none, none, none]) T_86_160 rfl ?_
    refine x_lr (z := some S) T_86_162 rfl ?_
    refine x_gR (z := some mb) T_86_163 F_7_9 (hP.o hO) (Eq.trans (hP.rm hO rfl (key := 2233) rfl) hr) ?_
    refine x_ic T_86_166 ?_
    refine x_ic T_86_168 ?_
    refine x_cv3 T_86_169 mN_29 mL_29 (Nat.le_of_ble_eq_true rfl) mO_29 (hP.o hbm) (Nat.le_of_ble_eq_true rfl) (h2) ?_
    rintro _ σ ⟨rfl, rfl⟩
    refine cL ?_
    refine x_l2i (w := m) T_86_172 hm ?_
    refine x_si (ls1 := [some (vR (some S)), some (vR (some fa)), some (vR (some a)), some (vI 54), some (vI e), some (vI 38), some (vI nv), some (vI sv), some (vI v), some (vL ln), none, some (vI m), none, none]) T_86_173 rfl ?_
    refine x_lr (z := some a) T_86_175 rfl ?_
    refine x_gR (z := none) T_86_176 F_8_1 (hP.o hno) (Eq.trans (hP.rm hno rfl (key := 2257) rfl) hp) ?_
    refine x_nnul T_86_179 (fun a0 h0 => absurd h0 (by simp)) (fun _ => ?_)
    refine x_nu T_86_182 ?_
    refine x_goto T_86_183 ?_
    refine x_sr (ls1 := [some (vR (some S)), some (vR (some fa)), some (vR (some a)), some (vI 54), some (vI e), some (vI 38), some (vI nv), some (vI sv), some (vI v), some (vL ln), none, some (vI m), some (vR none), none]) T_86_199 rfl ?_
    refine x_lr (z := some S) T_86_201 rfl ?_
    refine x_gI (z := 1) T_86_202 (Or.inr (Or.inl F_7_1)) (hP.o hO) (Eq.trans (hP.gi hO (key := 2225) rfl) hsh) ?_
    refine x_if T_86_205 (fun h => absurd (show (1 : Int) = 0 from h) (by decide)) (fun _ => ?_)
    refine x_ic T_86_208 ?_
    refine x_goto T_86_209 ?_
    refine x_si (ls1 := [some (vR (some S)), some (vR (some fa)), some (vR (some a)), some (vI 54), some (vI e), some (vI 38), some (vI nv), some (vI sv), some (vI v), some (vL ln), none, some (vI m), some (vR none), some (vI 3)]) T_86_244 rfl ?_
    refine x_li (z := 3) T_86_246 rfl ?_
    refine x_if T_86_248 (fun _ => ?_) (fun h => absurd (show ¬ (3 : Int) = 0 by decide) h)
    refine x_li (z := 3) T_86_269 rfl ?_
    refine x_if T_86_271 (fun _ => ?_) (fun h => absurd (show ¬ (3 : Int) = 0 by decide) h)
    refine x_li (z := 3) T_86_291 rfl ?_
    refine x_if T_86_293 (fun h => absurd (show (3 : Int) = 0 from h) (by decide)) (fun _ => ?_)
    refine x_li (z := 3) T_86_296 rfl ?_
    refine x_ri T_86_298 ?_
    exact hend
  · skip
    refine x_lr (z := some S) T_86_149 rfl ?_
    refine x_gR (z := some mb) T_86_150 F_7_9 (hP.o hO) (Eq.trans (hP.rm hO rfl (key := 2233) rfl) hr) ?_
    refine x_ic T_86_153 ?_
    refine x_ic T_86_155 ?_
    refine x_cv3 T_86_157 mN_29 mL_29 (Nat.le_of_ble_eq_true rfl) mO_29 (hP.o hbm) (Nat.le_of_ble_eq_true rfl) (h1) ?_
    rintro _ σ ⟨rfl, rfl⟩
    refine cL ?_
    refine x_sl (ls1 := [some (vR (some S)), some (vR (some fa)), some (vR (some a)), some (vI 54), some (vI e), some (vI 38), some (vI nv), some (vI sv), some (vI v), some (vL ln), none, none, none, none]) T_86_160 rfl ?_
    refine x_lr (z := some S) T_86_162 rfl ?_
    refine x_gR (z := some mb) T_86_163 F_7_9 (hP.o hO) (Eq.trans (hP.rm hO rfl (key := 2233) rfl) hr) ?_
    refine x_ic T_86_166 ?_
    refine x_ic T_86_168 ?_
    refine x_cv3 T_86_169 mN_29 mL_29 (Nat.le_of_ble_eq_true rfl) mO_29 (hP.o hbm) (Nat.le_of_ble_eq_true rfl) (h2) ?_
    rintro _ σ ⟨rfl, rfl⟩
    refine cL ?_
    refine x_l2i (w := m) T_86_172 hm ?_
    refine x_si (ls1 := [some (vR (some S)), some (vR (some fa)), some (vR (some a)), some (vI 54), some (vI e), some (vI 38), some (vI nv), some (vI sv), some (vI v), some (vL ln), none, some (vI m), none, none]) T_86_173 rfl ?_
    refine x_lr (z := some a) T_86_175 rfl ?_
    refine x_gR (z := some pa) T_86_176 F_8_1 (hP.o hno) (Eq.trans (hP.rm hno rfl (key := 2257) rfl) hp) ?_
    refine x_nnul T_86_179 (fun _ _ => ?_) (fun h0 => absurd h0 (by simp))
    refine x_lr (z := some S) T_86_186 rfl ?_
    refine x_lr (z := some a) T_86_187 rfl ?_
    refine x_gR (z := some pa) T_86_188 F_8_1 (hP.o hno) (Eq.trans (hP.rm hno rfl (key := 2257) rfl) hp) ?_
    refine x_li (z := 54) T_86_191 rfl ?_
    refine x_ic T_86_192 ?_
    refine x_ib (w := 56) T_86_193 (fun h => absurd h.1 (by decide)) h56 ?_
    refine x_li (z := e) T_86_194 rfl ?_
    refine x_cv4 T_86_196 mN_56 mL_56 (Nat.le_of_ble_eq_true rfl) mO_56 (hP.o hO) (Nat.le_of_ble_eq_true rfl) (hen) ?_
    rintro _ σ ⟨rfl, rfl⟩
    refine cR ?_
    refine x_sr (ls1 := [some (vR (some S)), some (vR (some fa)), some (vR (some a)), some (vI 54), some (vI e), some (vI 38), some (vI nv), some (vI sv), some (vI v), some (vL ln), none, some (vI m), some (vR oth), none]) T_86_199 rfl ?_
    refine x_lr (z := some S) T_86_201 rfl ?_
    refine x_gI (z := 1) T_86_202 (Or.inr (Or.inl F_7_1)) (hP.o hO) (Eq.trans (hP.gi hO (key := 2225) rfl) hsh) ?_
    refine x_if T_86_205 (fun h => absurd (show (1 : Int) = 0 from h) (by decide)) (fun _ => ?_)
    refine x_ic T_86_208 ?_
    refine x_goto T_86_209 ?_
    refine x_si (ls1 := [some (vR (some S)), some (vR (some fa)), some (vR (some a)), some (vI 54), some (vI e), some (vI 38), some (vI nv), some (vI sv), some (vI v), some (vL ln), none, some (vI m), some (vR oth), some (vI 3)]) T_86_244 rfl ?_
    refine x_li (z := 3) T_86_246 rfl ?_
    refine x_if T_86_248 (fun _ => ?_) (fun h => absurd (show ¬ (3 : Int) = 0 by decide) h)
    refine x_li (z := 3) T_86_269 rfl ?_
    refine x_if T_86_271 (fun _ => ?_) (fun h => absurd (show ¬ (3 : Int) = 0 by decide) h)
    refine x_li (z := 3) T_86_291 rfl ?_
    refine x_if T_86_293 (fun h => absurd (show (3 : Int) = 0 from h) (by decide)) (fun _ => ?_)
    refine x_li (z := 3) T_86_296 rfl ?_
    refine x_ri T_86_298 ?_
    exact hend
end XWSTG
