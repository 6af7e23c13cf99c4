/-! The class's servers: a wstat's answer, but for the changes themselves. -/
section XWSTH
variable {fb : Bool} {d S a c0 rp mb m0 N M fa pr bb pa : Nat} {σ0 σ σ' : hM} {W W1 W2 W3 P Q : qR} {R R1 R2 : rR} {b i k x z v s e w f u p g ln K T U C c y off cnt n md tb j m sv nv mr lr e0 ok : Int} {ord l l2 nm lo D L li : List Int} {t : Nat → Nat} {F : Int → Int} {oth : Option Nat}
/-- what a wstat comes to, before its name, length and mode are looked at; hch: what the changes come to (server 0, 1) -/
theorem ws_main (hP : PX σ0 W R σ) (hS : VS S s) (hX : XV W R P S s ord t) (hK : CT K W R) (hG : GI T U P) (hD : TI P) (hr : R S 2233 = some mb) (hB : BY W mb M l) (hz : (l.length : Int) = z) (hw : 54 ≤ z ∧ wkE (lg l) z 4 54 = z ∧ nu (lg l) 13 2 = nu (lg l) 11 2 - 2 ∧ nu (lg l) 11 2 = z - 13) (hBr : BY W rp 300 l2) (hi : 0 ≤ i ∧ i < 96) (hk : qFid P s c (nu (lg l) 7 4) = 96 * s + i) (hu : ¬ P 2304 (96 * s + i) = 0) (hch : ∀ (a : Nat) (j e : Int), P 2310 (96 * s + i) = 0 → noA S ord t (P 2306 (96 * s + i)) = some a → (0 ≤ j ∧ j < ord.length) → S + 6 + 3 * t j.toNat = a → lg ord j = P 2306 (96 * s + i) → ND W P a s (P 2306 (96 * s + i)) → R (S + 198 + i.toNat) 2291 = some a → 56 ≤ e ∧ e + 6 = z ∧ wsQ P s c (lg l) z = wsP P s (96 * s + i) (e - 56) (nu (lg l) 34 4) (w64 (nu (lg l) 46 8)) (seg (lg l) 56 (e - 56).toNat) → ¬ (e = 56 ∧ w64 (nu (lg l) 46 8) = -1 ∧ nu (lg l) 34 4 = 4294967295) → wsE P s c (lg l) z = (if s < 2 then qChg P s (P 2306 (96 * s + i)) (P 2308 (96 * s + i)) (nu (lg l) 34 4) (w64 (nu (lg l) 46 8)) (e - 56) (seg (lg l) 56 (e - 56).toNat) else 3) → WP fb (d + 4) 86 149 [some (vR (some S)), some (vR (some (S + 198 + i.toNat))), some (vR (some a)), some (vI 54), some (vI e), some (vI 38), some (vI (if 56 < e then 1 else 0)), some (vI (if w64 (nu (lg l) 46 8) = -1 then 0 else 1)), some (vI (if nu (lg l) 34 4 = 4294967295 then 0 else 1)), none, none, none, none, none] [] σ (XS σ0 K W R S rp s (wsE P s c (lg l) z) (if wsE P s c (lg l) z = 0 then wsQ P s c (lg l) z else P) l2)) : CL fb (d + 4) 86 [vR (some S), vR (some (S + 198 + i.toNat))] σ (XS σ0 K W R S rp s (wsE P s c (lg l) z) (if wsE P s c (lg l) z = 0 then wsQ P s c (lg l) z else P) l2) := by
  have hO := hS.o
  have hsr := hS.1
  have hb8 := hB.2.2.2.2.2.1
  have hfo := hS.fd hi
  obtain ⟨f1, f2, f3, f4, f5, f6, f7, f8⟩ := (hX.2.1 i hi.1 hi.2).2.1 hu
  obtain ⟨e, he⟩ : ∃ q, sE (lg l) z 54 = q := ⟨_, rfl⟩
  obtain ⟨e0', e1', y0, ysi⟩ := wsY_all hw.2.1 (by omega) he (fun q q0 q1 => hb8 q (by omega))
  have h8 := nu_rng (f := lg l) (i := 46) 8 (fun j _ => hb8 _ (by omega))
  have o8 := ones_nu (f := lg l) (i := 46) (m := 8) (fun j j0 j1 => hb8 _ (by omega))
  have o4 := ones_nu (f := lg l) (i := 34) (m := 4) (fun j j0 j1 => hb8 _ (by omega))
  have w8 := w64_ones h8
  have hden := wsO_iff (f := lg l) (fun j j0 j1 => hb8 _ (by omega))
  rw [show (256 : Int) ^ 8 - 1 = 18446744073709551615 from rfl] at o8
  rw [show (256 : Int) ^ 4 - 1 = 4294967295 from rfl] at o4
  have o8 := o8.trans w8.symm
  obtain ⟨ln, hln⟩ : ∃ q, w64 (nu (lg l) 46 8) = q := ⟨_, rfl⟩
  obtain ⟨md, hmd⟩ : ∃ q, nu (lg l) 34 4 = q := ⟨_, rfl⟩
  obtain ⟨ys, hys⟩ : ∃ q, (wsY (lg l) z 1).2 + (wsY (lg l) z 2).2 + (wsY (lg l) z 3).2 = q := ⟨_, rfl⟩
  obtain ⟨oo, hoo⟩ : ∃ q, wsO (lg l) = q := ⟨_, rfl⟩
  rw [hys] at ysi
  rw [hoo] at hden
  rw [hln] at o8
  rw [hmd] at o4
  have eE : wsE P s c (lg l) z = wsX P s (96 * s + i) oo ys (e - 56) md ln (seg (lg l) 56 (e - 56).toNat) := by
    unfold wsE wsN
    rw [if_neg (fun q => q hw), hk, hoo, hys, y0, hmd, hln]
  have eQ : wsQ P s c (lg l) z = wsP P s (96 * s + i) (e - 56) md ln (seg (lg l) 56 (e - 56).toNat) := by
    unfold wsQ wsN
    rw [hk, y0, hmd, hln]
  unfold wsX at eE
  rw [if_neg (by omega)] at eE
  have hno : ∀ e0 : Int, ¬ e0 = 0 → wsE P s c (lg l) z = e0 → XS σ0 K W R S rp s (wsE P s c (lg l) z) (if wsE P s c (lg l) z = 0 then wsQ P s c (lg l) z else P) l2 (some (vI e0)) σ := fun e0 q1 q2 => by
    rw [q2, if_neg q1]
    exact ⟨rfl, W, R, ord, t, l2, hP, hBr, fun c => absurd c q1, hX, hK, FV_rfl⟩
  by_cases q1 : P 2310 (96 * s + i) = 0
  rotate_left
  · rw [if_pos q1] at eE
    rw [if_neg q1] at f8
    refine CL.mono (ws_no (fb := fb) (d := d) hP hfo f8) (fun r1 σ1 h => ?_)
    obtain ⟨rfl, rfl⟩ := h
    exact hno 1 (by decide) eE
  rw [if_neg (fun c => c q1)] at eE
  rw [if_pos q1] at f8
  have hlv := hD.live hG hsr hi hu q1
  obtain ⟨a, ix, hb2, hix, hbix, hlx, htx, hN⟩ := hX.fnode hlv
  rw [hb2] at f8
  have hn0 : tX a = some (Sum.inl 8) := hN.1
  refine ws_0 hP hO hfo f8 hn0 hr hB hz hw.1 he rfl rfl rfl (ws_84 hP hO hr hB hz hw.1 ⟨by omega, e1'⟩ (fun q => hno 3 (by decide) ?_) (fun q q2 => ?_))
  · rw [eE, if_pos (Or.inl ?_)]
    by_cases c1 : oo = 0
    · exact Or.inr (ysi.mpr (fun c2 => q ⟨hden.mp c1, c2⟩))
    · exact Or.inl c1
  · have hoo0 : oo = 0 := hden.mpr q
    have hys0 : ¬ 0 < ys := fun c2 => ysi.mp c2 q2
    rw [ifc o8, ifc o4]
    refine ws_132 hP (by split <;> simp) (by split <;> simp) (by split <;> simp) (fun c1 c2 c3 => ?_) (fun c1 => ?_)
    · have d1 : e = 56 := by
        by_cases c : 56 < e
        · rw [if_pos c] at c1
          omega
        · omega
      have d2 : ln = -1 := by
        apply Decidable.byContradiction
        intro c
        rw [if_neg c] at c2
        omega
      have d3 : md = 4294967295 := by
        apply Decidable.byContradiction
        intro c
        rw [if_neg c] at c3
        omega
      have e2 : wsE P s c (lg l) z = 0 := by
        rw [eE, if_neg (by omega)]
        split
        · unfold qChg
          rw [if_neg (by omega), if_neg (by omega), if_neg (by omega), if_neg (by omega), if_neg (by omega), if_neg (by omega), if_neg (by omega), if_neg (by omega), if_neg (by omega)]
        · rfl
      have e3 : wsQ P s c (lg l) z = P := by
        rw [eQ]
        unfold wsP
        rw [if_neg (by omega)]
      rw [e2, if_pos rfl, e3]
      exact ⟨rfl, W, R, ord, t, l2, hP, hBr, fun _ => rfl, hX, hK, FV_rfl⟩
    · have c3 : ¬ (e = 56 ∧ ln = -1 ∧ md = 4294967295) := fun c2 => c1 ⟨if_neg (by omega), if_pos c2.2.1, if_pos c2.2.2⟩
      have hgo := hch a ix e q1 hb2 hix hbix hlx hN f8 ⟨e0', q2, by rw [hln, hmd]; exact eQ⟩ (by rw [hln, hmd]; exact c3) (by
        rw [eE, hln, hmd]
        by_cases qs : s < 2
        · rw [if_pos qs, if_neg (by omega), if_pos qs]
        · rw [if_pos (by omega), if_neg qs])
      rw [hln, hmd] at hgo
      exact hgo
end XWSTH
