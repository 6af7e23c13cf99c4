/-! The class's servers: a wstat of a tree's file, all of it. -/
section XWSTK
variable {fb : Bool} {d S a c0 rp mb m0 N M fa pr bb pa : Nat} {σ0 σ σ' : hM} {W W1 W2 W3 P Q : qR} {R R1 R2 : rR} {b i k x z v s e w f u p g ln K T U C c y off cnt n md tb j m sv nv mr lr e0 ok E : Int} {ord l l2 nm lo D L li : List Int} {t : Nat → Nat} {F : Int → Int} {oth : Option Nat}
/-- the name's refusal -/
theorem ws_name (hP : PX σ0 W R σ) (hS : VS S s) (hX : XV W R P S s ord t) (hG : GI T U P) (hD : TI P) (hs : s < 2) (hr : R S 2233 = some mb) (hB : BY W mb M l) (hj : 0 ≤ j ∧ j < ord.length) (ha : S + 6 + 3 * t j.toNat = a) (hn : lg ord j = n) (he : 56 ≤ e ∧ e ≤ l.length) (hnm : seg (lg l) 56 (e - 56).toNat = nm) : ∃ oth : Option Nat, ((R a 2257 = none ∧ oth = none) ∨ ∃ pa, R a 2257 = some pa ∧ tX pa = some (Sum.inl 8) ∧ CL fb (d + 1) 56 [vR (some S), vR (some pa), vI 56, vI e] σ (rPR oth σ)) ∧ (56 < e → CL fb (d + 1) 88 [vR (some S), vR (some a), vI u, vI (if nmOk nm = true then 1 else 0), vR oth] σ (rP (nrE P s n u (e - 56) nm) σ)) := by
  have hO := hS.o
  have hsr := hS.1
  have hR := TRX_of hX.1 hG hsr
  have hND := hX.1.2.2.2.1 j hj.1 hj.2
  rw [ha, hn] at hND
  have hno : tX a = some (Sum.inl 8) := hND.1
  have hmn : n ∈ ord := by rw [← hn]; exact lg_mem hj.1 hj.2
  have hlv := (hX.1.1.1 _).mp hmn
  have h00 : qUp P s 0 = 0 := by
    unfold qUp
    rw [if_pos hs, Int.add_zero]
    exact (hG.2.1.1 s hsr.1 hs).2.1
  have eup : P 2290 (64 * s + n) = qUp P s n := by unfold qUp; rw [if_pos hs]
  rcases ws_par (fb := fb) (d := d) (e := e) hP hS hX hG hr hB hj ha hn he with ⟨q0, hp⟩ | ⟨q0, pa, hp, hna, hNp, hen⟩
  · refine ⟨none, Or.inl ⟨hp, rfl⟩, fun q => ?_⟩
    rw [show nrE P s n u (e - 56) nm = 3 from if_pos ⟨by omega, q0⟩]
    exact nr_root hP hO hno hp
  · obtain ⟨f1, f2⟩ := entry_to (nm := nm) hX.1 hR (hD.1 s hsr.1 hs) hG.iv hsr (hR.2.2.1 n hlv) hna (hR.2.2.2 n hlv q0) (fun c => by rw [c]; exact h00)
    rw [hnm, f1] at hen
    have hpo : tX pa = some (Sum.inl 8) := hNp.1
    refine ⟨_, Or.inr ⟨pa, hp, hpo, hen⟩, fun q => ?_⟩
    have e1 : nrE P s n u (e - 56) nm = if ¬ nmOk nm = true then 5 else if 0 ≤ qFind P s (qUp P s n) nm ∧ ¬ qFind P s (qUp P s n) nm = n then 4 else if qMv P s (qUp P s n) u 2 = 0 then 3 else 0 := by
      unfold nrE
      rw [eup, if_neg (fun c => q0 c.2)]
      by_cases c1 : nmOk nm = true
      · rw [if_neg (show ¬ (0 < e - 56 ∧ ¬ nmOk nm = true) from fun c => c.2 c1), if_neg (show ¬ ¬ nmOk nm = true from fun c => c c1), ifc (show (0 < e - 56 ∧ (0 ≤ qFind P s (qUp P s n) nm ∧ ¬ qFind P s (qUp P s n) nm = n)) ↔ (0 ≤ qFind P s (qUp P s n) nm ∧ ¬ qFind P s (qUp P s n) nm = n) from ⟨fun c => c.2, fun c => ⟨by omega, c⟩⟩), ifc (show (0 < e - 56 ∧ qMv P s (qUp P s n) u 2 = 0) ↔ qMv P s (qUp P s n) u 2 = 0 from ⟨fun c => c.2, fun c => ⟨by omega, c⟩⟩)]
      · rw [if_pos ⟨by omega, c1⟩, if_pos c1]
    rw [e1]
    by_cases c1 : nmOk nm = true
    rotate_left
    · rw [if_neg c1, if_pos c1]
      exact nr_bad hP hO hno hp hpo
    rw [if_pos c1, if_neg (show ¬ ¬ nmOk nm = true from fun c => c c1)]
    have eT : qTo P s (qUp P s n) nm = qFind P s (qUp P s n) nm := if_neg (nmOk_no c1).1
    rw [eT] at f2 ⊢
    by_cases c2 : 0 ≤ qFind P s (qUp P s n) nm
    · have hfm := (hX.1.1.1 _).mpr (f2 c2)
      rw [if_neg (show ¬ qFind P s (qUp P s n) nm < 0 by omega)]
      by_cases c3 : qFind P s (qUp P s n) nm = n
      · rw [if_neg (fun c => c.2 c3), c3, show noA S ord t n = some a by rw [← hn, ← ha]; exact noA_get (hX.1.nodup) hj.1 hj.2]
        exact nr_ok hP hO hno hp hNp (Or.inr rfl)
      · rw [if_pos ⟨c2, c3⟩]
        obtain ⟨ot, hot⟩ : ∃ ot, noA S ord t (qFind P s (qUp P s n) nm) = some ot := by
          unfold noA
          rw [if_pos hfm]
          exact ⟨_, rfl⟩
        have h9 : ot ≠ a := fun c => c3 ((noA_inj hX.1 hfm hmn).mp (by rw [hot, c, ← hn, ← ha]; exact (noA_get (hX.1.nodup) hj.1 hj.2).symm))
        obtain ⟨b, ix, hb2, _, _, _, _, hNo⟩ := hX.fnode (f2 c2)
        rw [hot] at hb2
        have hto : tX ot = some (Sum.inl 8) := by rw [Option.some.inj hb2]; exact hNo.1
        rw [hot]
        exact nr_ex hP hO hno hp hpo hto h9
    · rw [if_pos (show qFind P s (qUp P s n) nm < 0 by omega), if_neg (fun c => c2 c.1)]
      exact nr_ok hP hO hno hp hNp (Or.inl rfl)
/-- what is asked before anything is changed, and the changes -/
theorem ws_149t (hP : PX σ0 W R σ) (hS : VS S s) (hX : XV W R P S s ord t) (hK : CT K W R) (hG : GI T U P) (hD : TI P) (hT : T + 49 ≤ 2147483000) (hs : s < 2) (hi0 : 0 ≤ i ∧ i < 96) (hfa : S + 198 + i.toNat = fa) (hif : ¬ P 2304 (96 * s + i) = 0) (hus : P 2308 (96 * s + i) = u) (hu3 : 0 ≤ u ∧ u ≤ 3) (hr : R S 2233 = some mb) (hB : BY W mb M l) (hz : (l.length : Int) = z) (h54 : 54 ≤ z) (hmo : mb + 1 < S ∨ S + 294 ≤ mb) (hBr : BY W rp 300 l2) (hro : rp + 1 < S ∨ S + 294 ≤ rp) (hj : 0 ≤ j ∧ j < ord.length) (ha : S + 6 + 3 * t j.toNat = a) (hn : lg ord j = n) (he : 56 ≤ e ∧ e ≤ z) (hnm : seg (lg l) 56 (e - 56).toNat = nm) (hln : w64 (nu (lg l) 46 8) = ln) (hmd : nu (lg l) 34 4 = md) (hE : E = qChg P s n u md ln (e - 56) nm) (hQ : Q = gChg P s n u md ln (e - 56) nm) : WP fb (d + 4) 86 149 [some (vR (some S)), some (vR (some fa)), some (vR (some a)), some (vI 54), some (vI e), some (vI 38), some (vI (if 56 < e then 1 else 0)), some (vI (if ln = -1 then 0 else 1)), some (vI (if md = 4294967295 then 0 else 1)), none, none, none, none, none] [] σ (XS σ0 K W R S rp s E (if E = 0 then Q else P) l2) := by
  have hO := hS.o
  have hsr := hS.1
  have hfo := hS.fd hi0
  rw [hfa] at hfo
  have hb8 := hB.2.2.2.2.2.1
  have hND := hX.1.2.2.2.1 j hj.1 hj.2
  rw [ha, hn] at hND
  have hno : tX a = some (Sum.inl 8) := hND.1
  have hmn : n ∈ ord := by rw [← hn]; exact lg_mem hj.1 hj.2
  have hlv := (hX.1.1.1 _).mp hmn
  have hfu : W fa 2290 = u := by
    have f2 := ((hX.2.1 i hi0.1 hi0.2).2.1 hif).2.1
    rw [hfa, hus] at f2
    exact f2
  have hsh : W S 2225 = 0 := by rw [hX.2.2.1.2.2.1, if_pos hs]
  have hbn := byt_seg (f := lg l) (o := 56) (n := (e - 56).toNat) (fun k k0 k1 => hb8 _ (by omega))
  rw [hnm] at hbn
  have hok := x_isName (fb := fb) (d := d + 3) (s := 56) (e := e) hP hB hz (by decide) ⟨by omega, by have := hB.2.2.1; have := hB.2.2.2.2.1; omega⟩
  rw [hnm, ifc (show (0 ≤ (56 : Int) ∧ e ≤ z) ∧ nmOk nm = true ↔ nmOk nm = true from ⟨fun c => c.2, fun c => ⟨⟨by decide, he.2⟩, c⟩⟩)] at hok
  obtain ⟨oth, hpar, hnr⟩ := ws_name (fb := fb) (d := d + 2) (u := u) hP hS hX hG hD hs hr hB hj ha hn ⟨he.1, by omega⟩ hnm
  have hlr := x_lengthRefusal (fb := fb) (d := d + 2) (u := u) (x := ln) hP hS hX hG.iv hs hND hlv rfl
  have emd : qMode P s n = P 2293 (64 * s + n) := if_pos hs
  have hmr := x_modeRefusal (fb := fb) (d := d + 2) (u := u) (m := w32 md) hP hno hND.2.2.2.2.1.1 hND.2.1.1 hND.2.1.2
  have emr : (if ¬ u = qUid P s n then (3 : Int) else if ¬ and32 (xor32 (w32 md) (qMode P s n)) (-1073742336) = 0 ∨ (qMode P s n < 0 ∧ ¬ and32 (xor32 (w32 md) (qMode P s n)) 1073741824 = 0) then 16 else 0) = mrE P s n u md := by
    unfold mrE
    rw [show qUid P s n = P 2294 (64 * s + n) from if_pos hs, ← emd]
  rw [emr] at hmr
  have hlr : CL fb (d + 3) 89 [vR (some S), vR (some a), vI u, vL ln] σ (rP (lrE P s n u ln) σ) := hlr
  have hch := qChg_chain (P := P) (s := s) (n := n) (u := u) (md := md) (ln := ln) (y := e - 56) (nm := nm)
  rw [← hE] at hch
  obtain ⟨e0, he0⟩ : ∃ q, nrE P s n u (e - 56) nm = q := ⟨_, rfl⟩
  obtain ⟨lr, hlr0⟩ : ∃ q, lrE P s n u ln = q := ⟨_, rfl⟩
  obtain ⟨mr, hmr0⟩ : ∃ q, mrE P s n u md = q := ⟨_, rfl⟩
  rw [he0, hlr0, hmr0] at hch
  rw [he0] at hnr
  rw [hlr0] at hlr
  rw [hmr0] at hmr
  have hw := w32_rng md
  have e00 : ¬ 56 < e → e0 = 0 := fun q => by
    rw [← he0]
    unfold nrE
    rw [if_neg (by omega), if_neg (by omega), if_neg (by omega), if_neg (by omega)]
  have gnv : ∀ q : Int, (if 56 < e then (1 : Int) else 0) = q → (q = 0 ∨ q = 1) ∧ (q = 1 ↔ 56 < e) := fun q h => by
    rw [← h]
    split <;> simp [*]
  have gsv : ∀ q : Int, (if ln = -1 then (0 : Int) else 1) = q → (q = 0 ∨ q = 1) ∧ (q = 1 ↔ ¬ ln = -1) := fun q h => by
    rw [← h]
    split <;> simp [*]
  have gmv : ∀ q : Int, (if md = 4294967295 then (0 : Int) else 1) = q → (q = 0 ∨ q = 1) ∧ (q = 1 ↔ ¬ md = 4294967295) := fun q h => by
    rw [← h]
    split <;> simp [*]
  obtain ⟨nv, hnv⟩ : ∃ q, (if 56 < e then (1 : Int) else 0) = q := ⟨_, rfl⟩
  obtain ⟨sv, hsv⟩ : ∃ q, (if ln = -1 then (0 : Int) else 1) = q := ⟨_, rfl⟩
  obtain ⟨v, hv⟩ : ∃ q, (if md = 4294967295 then (0 : Int) else 1) = q := ⟨_, rfl⟩
  obtain ⟨nv1, nv2⟩ := gnv _ hnv
  obtain ⟨sv1, sv2⟩ := gsv _ hsv
  obtain ⟨v1, v2⟩ := gmv _ hv
  rw [hnv, hsv, hv]
  have hno0 : ∀ q : Int, ¬ q = 0 → E = q → XS σ0 K W R S rp s E (if E = 0 then Q else P) l2 (some (vI q)) σ := fun q q1 q2 => by
    rw [q2, if_neg q1]
    exact ⟨rfl, W, R, ord, t, l2, hP, hBr, fun c => absurd c q1, hX, hK, FV_rfl⟩
  refine ws_149 hP hO hfo hno hsh hfu hr hB hz h54 hln hmd rfl hpar nv1 hok (fun q => hnr (nv2.mp q)) (fun q => e00 (by omega)) (ws_246 hP hO hfo hno hfu sv1 v1 (fun _ => hlr) (fun _ => hmr) (fun q q1 q2 => hno0 q q1 ?_) (fun g1 g2 g3 => ?_))
  · rw [hch]
    by_cases c0 : e0 = 0
    · rw [if_neg (fun c => c c0)]
      by_cases c1 : ¬ ln = -1 ∧ ¬ lr = 0
      · rw [if_pos c1]
        rcases q2 with q2 | ⟨_, _, q2⟩ | ⟨_, q2, _, _⟩
        · omega
        · omega
        · exact absurd (q2 (sv2.mpr c1.1)) c1.2
      · rw [if_neg c1]
        rcases q2 with q2 | ⟨_, q3, q2⟩ | ⟨_, _, q3, q2⟩
        · omega
        · exact absurd ⟨sv2.mp q3, by omega⟩ c1
        · rw [if_pos (v2.mp q3)]
          omega
    · rw [if_pos c0]
      rcases q2 with q2 | ⟨q2, _, _⟩ | ⟨q2, _⟩
      · omega
      · exact absurd q2 c0
      · exact absurd q2 c0
  · have eE0 : E = 0 := by
      rw [hch, if_neg (fun c => c g1), if_neg (fun c => c.2 (g2 (sv2.mpr c.1)))]
      split
      · rename_i c
        exact g3 (v2.mpr c)
      · rfl
    rw [eE0, if_pos rfl]
    have hnok : 56 < e → nmOk nm = true := fun q => by
      apply Decidable.byContradiction
      intro c
      rw [← he0] at g1
      unfold nrE at g1
      by_cases c0 : n = 0
      · rw [if_pos ⟨by omega, c0⟩] at g1
        omega
      · rw [if_neg (fun c => c0 c.2), if_pos ⟨by omega, c⟩] at g1
        omega
    have h2 := ws_299 (fb := fb) (d := d) (Q := if nv = 1 then gName P s n nm else P) (m := w32 md) (oth := oth) (e := e) (ln := ln) (nm := nm) (nv := nv) (sv := sv) (v := v) (u := u) (n := n) hP hS hX hK hG hT hs hi0 hfa hif hus hj ha hn hu3 hr hB hmo hBr hro nv1 (fun q => ⟨⟨he.1, by omega⟩, hnm, hbn, (nmOk_no (hnok (nv2.mp q))).2.2⟩) sv1 (fun q => by
      have c := g2 q
      rw [← hlr0] at c
      unfold lrE at c
      by_cases c1 : qMode P s n < 0
      · rw [if_pos c1] at c
        omega
      rw [if_neg c1] at c
      by_cases c2 : qMv P s n u 2 = 0
      · rw [if_pos c2] at c
        omega
      rw [if_neg c2] at c
      by_cases c3 : ¬ (0 ≤ ln ∧ ln ≤ 600) ∨ 8192 < P 2301 s - P 2297 (64 * s + n) + ln
      · rw [if_pos c3] at c
        omega
      · exact ⟨⟨by omega, by omega⟩, by omega⟩) v1 hw (fun q => by
      have c := g3 q
      rw [← hmr0] at c
      unfold mrE at c
      by_cases c1 : ¬ u = P 2294 (64 * s + n)
      · rw [if_pos c1] at c
        omega
      rw [if_neg c1] at c
      by_cases c2 : ¬ and32 (xor32 (w32 md) (P 2293 (64 * s + n))) (-1073742336) = 0 ∨ (qMode P s n < 0 ∧ ¬ and32 (xor32 (w32 md) (P 2293 (64 * s + n))) 1073741824 = 0)
      · rw [if_pos c2] at c
        omega
      · rw [emd]
        have c3 := hND.2.1.2
        rw [emd] at c3
        exact xor_sign hw c3 (Decidable.byContradiction fun c4 => c2 (Or.inl c4))) rfl
    have eQ : rU (if v = 1 then rU (if sv = 1 then rU (gSize (if nv = 1 then gName P s n nm else P) s n ln) 2292 (64 * s + n) ((if nv = 1 then gName P s n nm else P) 2292 (64 * s + n) + 1) else (if nv = 1 then gName P s n nm else P)) 2293 (64 * s + n) (w32 md) else (if sv = 1 then rU (gSize (if nv = 1 then gName P s n nm else P) s n ln) 2292 (64 * s + n) ((if nv = 1 then gName P s n nm else P) 2292 (64 * s + n) + 1) else (if nv = 1 then gName P s n nm else P))) 2296 (64 * s + n) u = Q := by
      rw [hQ]
      unfold gChg gCh3 gCh2 gCh1
      rw [ifc (show 0 < e - 56 ↔ nv = 1 by omega), ifc (show (¬ ln = -1) ↔ sv = 1 from sv2.symm), ifc (show (¬ md = 4294967295) ↔ v = 1 from v2.symm)]
    rw [eQ] at h2
    exact h2
theorem x_doWstat (hP : PX σ0 W R σ) (hS : VS S s) (hX : XV W R P S s ord t) (hK : CT K W R) (hG : GI T U P) (hD : TI P) (hT : T + 49 ≤ 2147483000) (hr : R S 2233 = some mb) (hB : BY W mb M l) (hz : (l.length : Int) = z) (hmo : mb + 1 < S ∨ S + 294 ≤ mb) (hw : 54 ≤ z ∧ wkE (lg l) z 4 54 = z ∧ nu (lg l) 13 2 = nu (lg l) 11 2 - 2 ∧ nu (lg l) 11 2 = z - 13) (hBr : BY W rp 300 l2) (hro : rp + 1 < S ∨ S + 294 ≤ rp) (hi : 0 ≤ i ∧ i < 96) (hk : qFid P s c (nu (lg l) 7 4) = 96 * s + i) (hu : ¬ P 2304 (96 * s + i) = 0) : CL fb (d + 4) 86 [vR (some S), vR (some (S + 198 + i.toNat))] σ (XS σ0 K W R S rp s (wsE P s c (lg l) z) (if wsE P s c (lg l) z = 0 then wsQ P s c (lg l) z else P) l2) := by
  by_cases qs : s < 2
  rotate_left
  · have e : s = 2 := by have := hS.1; omega
    subst e
    exact x_doWstat2 hP hS hX hK hG hD hr hB hz hw hBr hi hk hu
  refine ws_main hP hS hX hK hG hD hr hB hz hw hBr hi hk hu (fun a j e q1 hb2 hj ha hn hN f8 he hch eE => ?_)
  obtain ⟨he1, he2, eQ⟩ := he
  rw [if_pos qs] at eE
  have hu3 := (fid_node hG hS.1 (k := 96 * s + i) (by omega)).2
  have e2 : wsQ P s c (lg l) z = gChg P s (P 2306 (96 * s + i)) (P 2308 (96 * s + i)) (nu (lg l) 34 4) (w64 (nu (lg l) 46 8)) (e - 56) (seg (lg l) 56 (e - 56).toNat) := by
    rw [eQ]
    unfold wsP
    rw [if_pos ⟨qs, by omega⟩]
  exact ws_149t (fb := fb) (d := d) hP hS hX hK hG hD hT qs hi rfl hu rfl hu3 hr hB hz hw.1 hmo hBr hro hj ha hn ⟨he1, by omega⟩ rfl rfl rfl eE e2
end XWSTK
