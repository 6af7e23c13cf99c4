/-! A message as a list of bytes: what a server asked it answers. -/
def msgA (l : List Int) : Int → Int := lg (leb 4 (4 + (l.length : Int)) ++ l)
def tE (P : qR) (s : Int) (l : List Int) : Int := trE P s (msgA l) (4 + (l.length : Int))
def tP (P : qR) (s : Int) (l : List Int) : qR := trP P s (msgA l) (4 + (l.length : Int))
def tA (P : qR) (s : Int) (l : List Int) : List Int := trA P s (msgA l) (4 + (l.length : Int))
section MTR
variable {fb : Bool} {d : Nat} {σ0 σ : hM} {P S S1 : qR} {T U s w : Int} {l : List Int}
theorem msgA_len : (leb 4 (4 + (l.length : Int)) ++ l).length = (4 + (l.length : Int)).toNat := by
  rw [List.length_append, leb_len]
  omega
theorem msgA_seg : seg (msgA l) 0 (4 + (l.length : Int)).toNat = leb 4 (4 + (l.length : Int)) ++ l := seg_eq.mpr ⟨msgA_len, fun i _ _ => by rw [Int.zero_add]; rfl⟩
theorem msgA_byt (hl : byt l) : byt (leb 4 (4 + (l.length : Int)) ++ l) := byt_app (byt_leb 4 _) hl
theorem msgA_eqz {a : Int → Int} (h : seg a 0 w.toNat = leb 4 w ++ l) (hw : w = 4 + (l.length : Int)) : eqz w a (msgA l) := fun i h0 h1 => by
  have e := (seg_eq.mp h).2 i h0 (by omega)
  rw [Int.zero_add] at e
  rw [e, hw]
  rfl
theorem tr_eq {a : Int → Int} (h : seg a 0 w.toNat = leb 4 w ++ l) (hw : w = 4 + (l.length : Int)) (hl : byt l) : trE P s a w = tE P s l ∧ trP P s a w = tP P s l ∧ trA P s a w = tA P s l := by
  have q := msgA_eqz h hw
  have hb : ∀ j : Int, 0 ≤ j → j < w → 0 ≤ msgA l j ∧ msgA l j ≤ 255 := fun j h0 _ => msgA_byt hl j h0
  have e0 : seg a 0 w.toNat = seg (msgA l) 0 w.toNat := by rw [h, hw, msgA_seg]
  refine ⟨?_, ?_, ?_⟩
  · unfold tE trE
    rw [← hw, e0, srvE_c q hb]
  · unfold tP trP
    rw [← hw, e0, srvP_c q hb, srvA_c q hb]
  · unfold tA trA
    rw [← hw, e0, srvA_c q hb]
/-- what was asked came back -/
abbrev rK (T U : Int) (σ0 : hM) (P S : qR) (s : Int) (l : List Int) : Option AV → hM → Prop := fun r σ' => ∃ S2 : qR, r = some (vI (tE P s l)) ∧ PM σ0 (tP P s l) S2 σ' ∧ TA (T + 1) U S S2 (tA P s l)
theorem m_tr (hP : PM σ0 P S1 σ) (hQ : RQ T U S S1 w l) (hI : SI T U s P) (hT : T + 49 ≤ 2147483000) (hs : 0 ≤ s ∧ s < 3) : CL fb (d + 10) 231 [vR (some 2281), vI s] σ (rK T U σ0 P S s l) := by
  refine CL.mono (m_trans hP hQ hI hT hs) ?_
  rintro r σ1 ⟨a, S2, h1, rfl, h2, h3⟩
  obtain ⟨e1, e2, e3⟩ := tr_eq (P := P) (s := s) h1 hQ.2.1 hQ.2.2.2.1
  rw [e1]
  rw [e2] at h2
  rw [e3] at h3
  exact ⟨S2, rfl, h2, h3⟩
theorem rT_rK (hl : byt l) (hw : w = 4 + (l.length : Int)) {r : Option AV} {σ1 : hM} (h : rT T U σ0 P S s w l r σ1) : rK T U σ0 P S s l r σ1 := by
  obtain ⟨a, S2, h1, rfl, h2, h3⟩ := h
  obtain ⟨e1, e2, e3⟩ := tr_eq (P := P) (s := s) h1 hw hl
  rw [e1]
  rw [e2] at h2
  rw [e3] at h3
  exact ⟨S2, rfl, h2, h3⟩
/-- the kernel's messages -/
def mOne (t f : Int) : List Int := leb 1 t ++ leb 2 1 ++ leb 4 f
def mCopy (f g : Int) : List Int := leb 1 110 ++ leb 2 1 ++ leb 4 f ++ leb 4 g ++ leb 2 0
def mOpen (f m : Int) : List Int := leb 1 112 ++ leb 2 1 ++ leb 4 f ++ leb 1 m
def mRead (f o n : Int) : List Int := leb 1 116 ++ leb 2 1 ++ leb 4 f ++ leb 8 o ++ leb 4 n
theorem k_askOne {t f : Int} (hP : PM σ0 P S σ) (hJ : IV true T U S) (hI : SI T U s P) (hT : T + 49 ≤ 2147483000) (hs : 0 ≤ s ∧ s < 3) : CL fb (d + 11) 345 [vR (some 2281), vI t, vI s, vI f] σ (rK T U σ0 P S s (mOne t f)) := CL.mono (m_askOne hP hJ hI hT hs) (fun _ _ h => rT_rK (byt_app (byt_app (byt_leb 1 _) (byt_leb 2 _)) (byt_leb 4 _)) rfl h)
theorem k_askCopy {f g : Int} (hP : PM σ0 P S σ) (hJ : IV true T U S) (hI : SI T U s P) (hT : T + 49 ≤ 2147483000) (hs : 0 ≤ s ∧ s < 3) : CL fb (d + 11) 335 [vR (some 2281), vI s, vI f, vI g] σ (rK T U σ0 P S s (mCopy f g)) := CL.mono (m_askCopy hP hJ hI hT hs) (fun _ _ h => rT_rK (byt_app (byt_app (byt_app (byt_app (byt_leb 1 _) (byt_leb 2 _)) (byt_leb 4 _)) (byt_leb 4 _)) (byt_leb 2 _)) rfl h)
theorem k_askOpen {f m : Int} (hP : PM σ0 P S σ) (hJ : IV true T U S) (hI : SI T U s P) (hT : T + 49 ≤ 2147483000) (hs : 0 ≤ s ∧ s < 3) : CL fb (d + 11) 349 [vR (some 2281), vI s, vI f, vI m] σ (rK T U σ0 P S s (mOpen f m)) := CL.mono (m_askOpen hP hJ hI hT hs) (fun _ _ h => rT_rK (byt_app (byt_app (byt_app (byt_leb 1 _) (byt_leb 2 _)) (byt_leb 4 _)) (byt_leb 1 _)) rfl h)
theorem k_askRead {f o n : Int} (hP : PM σ0 P S σ) (hJ : IV true T U S) (hI : SI T U s P) (hT : T + 49 ≤ 2147483000) (hs : 0 ≤ s ∧ s < 3) : CL fb (d + 11) 350 [vR (some 2281), vI s, vI f, vI o, vI n] σ (rK T U σ0 P S s (mRead f o n)) := CL.mono (m_askRead hP hJ hI hT hs) (fun _ _ h => rT_rK (byt_app (byt_app (byt_app (byt_app (byt_leb 1 _) (byt_leb 2 _)) (byt_leb 4 _)) (byt_leb 8 _)) (byt_leb 4 _)) rfl h)
end MTR
