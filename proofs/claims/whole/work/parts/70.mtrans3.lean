/-! A message asked of a server: the count is kept. -/
section MTRANS3
variable {fb : Bool} {d : Nat} {σ0 σ : hM} {P S S1 : qR} {T U s w : Int} {l : List Int}
theorem m_trans (hP : PM σ0 P S1 σ) (hQ : RQ T U S S1 w l) (hI : SI T U s P) (hT : T + 49 ≤ 2147483000) (hs : 0 ≤ s ∧ s < 3) : CL fb (d + 10) 231 [vR (some 2281), vI s] σ (fun r σ' => ∃ (a : Int → Int) (S2 : qR), seg a 0 w.toNat = leb 4 w ++ l ∧ r = some (vI (trE P s a w)) ∧ PM σ0 (trP P s a w) S2 σ' ∧ TA (T + 1) U S S2 (trA P s a w)) := by
  refine m_transact hP hQ hI hT hs (fun a _ => ?_)
  have hm : 0 ≤ P 2281 42 ∧ P 2281 42 ≤ T := IV.n hI.1.1.1 42 42 rfl rfl (by decide)
  have e1 : srvP (gM1 P (seg a 0 w.toNat)) s 0 a w 2281 42 = gM1 P (seg a 0 w.toNat) 2281 42 := SF_srvP 2281 42 rfl (by decide)
  have e2 : gM1 P (seg a 0 w.toNat) 2281 42 = P 2281 42 + 1 := rU_s
  rw [e1, e2]
  omega
end MTRANS3
