/-! The class's servers: a file's directory, asked for a name. -/
section XWSTI
variable {fb : Bool} {d S a c0 rp mb m0 N M fa pr bb pa : Nat} {σ0 σ σ' : hM} {W W1 W2 W3 P Q : qR} {R R1 R2 : rR} {b i k x z v s e w f u p g ln K T U C c y off cnt n md tb j m sv nv mr lr e0 ok : Int} {ord l l2 nm lo D L li : List Int} {t : Nat → Nat} {F : Int → Int}
theorem ws_par (hP : PX σ0 W R σ) (hS : VS S s) (hX : XV W R P S s ord t) (hG : GI T U P) (hr : R S 2233 = some mb) (hB : BY W mb M l) (hi : 0 ≤ j ∧ j < ord.length) (ha : S + 6 + 3 * t j.toNat = a) (hn : lg ord j = n) (he : 56 ≤ e ∧ e ≤ l.length) : (n = 0 ∧ R a 2257 = none) ∨ (¬ n = 0 ∧ ∃ pa : Nat, R a 2257 = some pa ∧ noA S ord t (qUp P s n) = some pa ∧ ND W P pa s (qUp P s n) ∧ CL fb (d + 1) 56 [vR (some S), vR (some pa), vI 56, vI e] σ (rPR (if seg (lg l) 56 (e - 56).toNat = [46, 46] then (if qUp P s n = 0 then some pa else noA S ord t (qUp P s (qUp P s n))) else enR P S s ord t (qUp P s n) (seg (lg l) 56 (e - 56).toNat) ord.length 0) σ)) := by
  have hR := TRX_of hX.1 hG hS.1
  have hpr := hX.1.2.2.2.2 j hi.1 hi.2
  rw [ha, hn] at hpr
  have hlv := (hX.1.1.1 _).mp (lg_mem hi.1 hi.2)
  rw [hn] at hlv
  by_cases q : n = 0
  · rw [if_pos q] at hpr
    exact Or.inl ⟨q, hpr⟩
  · rw [if_neg q] at hpr
    have hup := hR.2.2.1 n hlv
    obtain ⟨pa, ix, hb2, hix, hbix, hlx, htx, hN⟩ := hX.fnode hup
    refine Or.inr ⟨q, pa, hpr.trans hb2, hb2, hN, ?_⟩
    exact x_entry hP hS hX.1 hR.2.2.1 hr hB ((hX.1.1.1 _).mpr hup) hb2 ⟨by decide, he.1, he.2⟩
/-- a wstat of server 2 -/
theorem x_doWstat2 (hP : PX σ0 W R σ) (hS : VS S 2) (hX : XV W R P S 2 ord t) (hK : CT K W R) (hG : GI T U P) (hD : TI P) (hr : R S 2233 = some mb) (hB : BY W mb M l) (hz : (l.length : Int) = z) (hw : 54 ≤ z ∧ wkE (lg l) z 4 54 = z ∧ nu (lg l) 13 2 = nu (lg l) 11 2 - 2 ∧ nu (lg l) 11 2 = z - 13) (hBr : BY W rp 300 l2) (hi : 0 ≤ i ∧ i < 96) (hk : qFid P 2 c (nu (lg l) 7 4) = 96 * 2 + i) (hu : ¬ P 2304 (96 * 2 + i) = 0) : CL fb (d + 4) 86 [vR (some S), vR (some (S + 198 + i.toNat))] σ (XS σ0 K W R S rp 2 (wsE P 2 c (lg l) z) (if wsE P 2 c (lg l) z = 0 then wsQ P 2 c (lg l) z else P) l2) := by
  refine ws_main hP hS hX hK hG hD hr hB hz hw hBr hi hk hu (fun a j e q1 hb2 hj ha hn hN f8 he hch eE => ?_)
  rw [if_neg (by decide)] at eE
  rw [eE, if_neg (show ¬ (3 : Int) = 0 by decide)]
  have hend : XS σ0 K W R S rp 2 3 P l2 (some (vI 3)) σ := ⟨rfl, W, R, ord, t, l2, hP, hBr, fun c => absurd c (by decide), hX, hK, FV_rfl⟩
  have hsh : W S 2225 = 1 := hX.2.2.1.2.2.1
  rcases ws_par (fb := fb) (d := d + 2) (e := e) hP hS hX hG hr hB hj ha hn ⟨he.1, by have := he.2.1; omega⟩ with ⟨_, hp⟩ | ⟨_, pa, hp, _, hNp, hen⟩
  · exact ws_149s (oth := none) hP hS.o (hS.fd hi) hN.1 hsh hr hB hz hw.1 rfl rfl rfl (Or.inl ⟨hp, rfl⟩) hend
  · exact ws_149s hP hS.o (hS.fd hi) hN.1 hsh hr hB hz hw.1 rfl rfl rfl (Or.inr ⟨pa, hp, hNp.1, hen⟩) hend
end XWSTI
