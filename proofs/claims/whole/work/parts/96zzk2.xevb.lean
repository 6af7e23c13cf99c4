/-! The class's enter: a command begun is done, whatever it begins; and a frame goes on. -/
/-- what is asked of what stays true between commands -/
def JX (p : Int) (J : qR → Prop) : Prop := (∀ P, J P → ¬ P 2320 p = 0) ∧ (∀ (P : qR) (v : Int) (wd : List Int), 0 ≤ v ∧ v ≤ 25 → byt wd → wd.length ≤ 20 → J P → J (gVar P p v wd)) ∧ ∀ (T U : Int) (P : qR) (l : List Int), GI T U P → PKK P → GO P → PTS P → byt l → l.length ≤ 100 → T + 3200 ≤ 2147483000 → J P → CJ T P p l ∧ J (kDrops (cCmd P p l).2.1 (cCmd P p l).2.2) ∧ J (kDrops (cCat P 0 p (lnB l 1)).2.1 (cCat P 0 p (lnB l 1)).2.2.1) ∧ (P 2321 p = 0 → kDrops (cCat P 0 p (lnB l 1)).2.1 (cCat P 0 p (lnB l 1)).2.2.1 2321 p = 0)
section XEVBS
variable {fb : Bool} {d k : Nat} {σ0 σ : hM} {W P : qR} {R : rR} {i p c e K T U : Int} {L : List Int} {fs : List Fr} {Q : Option AV → hM → Prop} {J : qR → Prop} {m : Nat}
theorem ev_0B {x5 : Option AV} (hp : 0 ≤ p ∧ p < 8) (hN : ((lnW L).length : Int) = 0) (hm : evM (-1) (0, L, 0, 0, []) c < ((m + 1 : Nat) : Int)) (hn : fs.length < 12) (hP : PX σ0 W R σ) (hS : XST K T U W R P ((0, L, 0, 0, []) :: fs) c e 0) (hc : 0 ≤ c ∧ c ≤ 200) (hJP : J P) (hi : 0 ≤ i ∧ i + 2 * evM (-1) (0, L, 0, 0, []) c ≤ 900000) (hQ : XCT fb d σ0 K p J Q (-1) T U i (0, L, 0, 0, []) fs c (EV p (m + 1) (-1) ((fs.length : Int) + 1) (arOf fs) (0, L, 0, 0, []) P c)) : WP fb (d + 20) 96 70 [some (vR (some 128)), some (vI p), some (vR (some (prO p))), some (vI i), some (vR (some (cmO (fs.length : Int)))), x5] [] σ Q := by
  have eM : evM (-1) (0, L, 0, 0, []) c = 2000 * (200 - c) + 1500 := if_pos rfl
  have eE : EV p (m + 1) (-1) ((fs.length : Int) + 1) (arOf fs) (0, L, 0, 0, []) P c = (0, P, c) := by
    show (if (-1 : Int) = -1 then (if (lnW L).length = 0 then _ else _) else _) = _
    rw [if_pos rfl, if_pos (by omega)]
  rw [eE] at hQ
  rw [eM] at hm hi
  unfold XCT at hQ
  rw [eM, evK_1] at hQ
  have hC : CMD W (cmO (fs.length : Int)) L := hS.2.1.1.2.1
  have hvb := x_verb0 (fb := fb) (d := d + 19) hP hC hN
  have ho := hC.1
  have hfin := lp_done (fb := fb) (d := d) (p := p) (e2 := 0) (Q := Q) (x4 := some (vR (some (cmO (fs.length : Int))))) hP hS hn ⟨hi.1, by omega⟩ (fun σ V hP hS => hQ σ V R (i + 1) _ _ hP (hS.monoT (show T ≤ T + 3000 * (c - c) + 3000 * 1 by omega) (show U ≤ U + 400 * (c - c) + 400 * 1 by omega)) ⟨Int.le_refl c, hc.2⟩ (show (0 : Int) ≤ 0 by decide) hJP ⟨by omega, show i + 1 + 4000 * (200 - c) ≤ i + 2 * (2000 * (200 - c) + 1500) by omega⟩)
  obtain ⟨k, hk⟩ : ∃ q, cmO (fs.length : Int) = q := ⟨_, rfl⟩
  rw [hk] at hvb hfin ho ⊢
  obtain ⟨pr, hpr⟩ : ∃ q, prO p = q := ⟨_, rfl⟩
  rw [hpr] at hfin ⊢
  refine x_ic T_96_70 ?_
  refine x_si (ls1 := [some (vR (some 128)), some (vI p), some (vR (some pr)), some (vI i), some (vR (some k)), some (vI 18)]) T_96_72 rfl ?_
  refine x_lr (z := some k) T_96_74 rfl ?_
  refine x_cv1 T_96_76 mN_114 mL_114 (Nat.le_of_ble_eq_true rfl) mO_114 (hP.o ho) (Nat.le_of_ble_eq_true rfl) (hvb) ?_
  rintro _ σ ⟨rfl, rfl⟩
  refine cI ?_
  refine x_swIn T_96_79 (by decide) (by decide) rfl ?_
  refine x_ic T_96_196 ?_
  refine x_si (ls1 := [some (vR (some 128)), some (vI p), some (vR (some pr)), some (vI i), some (vR (some k)), some (vI 0)]) T_96_197 rfl ?_
  refine x_goto T_96_199 ?_
  exact hfin
theorem ev_cmdB {x5 : Option AV} (hp : 0 ≤ p ∧ p < 8) (hN : 0 < ((lnW L).length : Int)) (hv : ¬ (23 ≤ vbN (lnB L 0) ∧ vbN (lnB L 0) ≤ 25)) (hCJ : CJ T P p L) (hJC : J (kDrops (cCmd P p L).2.1 (cCmd P p L).2.2)) (hm : evM (-1) (0, L, 0, 0, []) c < ((m + 1 : Nat) : Int)) (hn : fs.length < 12) (hP : PX σ0 W R σ) (hS : XST K T U W R P ((0, L, 0, 0, []) :: fs) c e 0) (hc : 0 ≤ c ∧ c ≤ 200) (hi : 0 ≤ i ∧ i + 2 * evM (-1) (0, L, 0, 0, []) c ≤ 900000) (hT : T + 3000 * (202 - c) + 3000 + 1000 ≤ 2147483000) (hU : 10000 ≤ U ∧ U + 400 * (202 - c) + 400 ≤ 2147480000) (hQ : XCT fb d σ0 K p J Q (-1) T U i (0, L, 0, 0, []) fs c (EV p (m + 1) (-1) ((fs.length : Int) + 1) (arOf fs) (0, L, 0, 0, []) P c)) : WP fb (d + 20) 96 70 [some (vR (some 128)), some (vI p), some (vR (some (prO p))), some (vI i), some (vR (some (cmO (fs.length : Int)))), x5] [] σ Q := by
  have eM : evM (-1) (0, L, 0, 0, []) c = 2000 * (200 - c) + 1500 := if_pos rfl
  have hC : CMD W (cmO (fs.length : Int)) L := hS.2.1.1.2.1
  have hb : byt (lnB L 0) := byt_lnB hC.2.2.2.1.2.2.2.2.2.1
  have w1 : ¬ pkW (lnB L 0) = 26982 := fun h => by
    have h := (pk_txt (j := 44) (by decide) hb (by decide) (by decide) (by decide +kernel) (by decide)).mp h
    exact absurd (show vbN (lnB L 0) = 23 by rw [h]; decide +kernel) (by omega)
  have w2 : ¬ pkW (lnB L 0) = 6713202 := fun h => by
    have h := (pk_txt (j := 45) (by decide) hb (by decide) (by decide) (by decide +kernel) (by decide)).mp h
    exact absurd (show vbN (lnB L 0) = 24 by rw [h]; decide +kernel) (by omega)
  have w3 : ¬ pkW (lnB L 0) = 7501166 := fun h => by
    have h := (pk_txt (j := 46) (by decide) hb (by decide) (by decide) (by decide +kernel) (by decide)).mp h
    exact absurd (show vbN (lnB L 0) = 25 by rw [h]; decide +kernel) (by omega)
  have eE : EV p (m + 1) (-1) ((fs.length : Int) + 1) (arOf fs) (0, L, 0, 0, []) P c = ((cCmd P p L).1, kDrops (cCmd P p L).2.1 (cCmd P p L).2.2, c) := by
    show (if (-1 : Int) = -1 then (if (lnW L).length = 0 then _ else if pkW (lnB L 0) = 26982 then _ else if pkW (lnB L 0) = 6713202 then _ else if pkW (lnB L 0) = 7501166 then _ else _) else _) = _
    rw [if_pos rfl, if_neg (by omega), if_neg w1, if_neg w2, if_neg w3]
  rw [eE] at hQ
  rw [eM] at hm hi
  unfold XCT at hQ
  rw [eM, evK_1] at hQ
  have hr0 : 0 ≤ (cCmd P p L).1 := cCmd_rng hS.1.1.2.2.2.1.iv hS.1.1.2.2.2.2.2.2 hp
  exact ev_cmd hp hP hS.1 hC hN hv hCJ (by omega) ⟨hU.1, by omega⟩ (fun σ W2 R2 hP hX hF => lp_done hP (hS.fcm hX hF (show fs.length + 1 ≤ 12 by omega)) hn ⟨hi.1, by omega⟩ (fun σ V hP hS => hQ σ V R2 (i + 1) _ _ hP (hS.monoT (show T + 2712 ≤ T + 3000 * (c - c) + 3000 * 1 by omega) (show U + 400 ≤ U + 400 * (c - c) + 400 * 1 by omega)) ⟨Int.le_refl c, hc.2⟩ hr0 hJC ⟨by omega, show i + 1 + 4000 * (200 - c) ≤ i + 2 * (2000 * (200 - c) + 1500) by omega⟩))
theorem vb_pk {j : Nat} {y z : Int} (hj : vbN (lnB L 0) = y) (hw : lnB L 0 = txt j) (hz : pkW (txt j) = z) : pkW (lnB L 0) = z := by
  rw [hw]
  exact hz
theorem nb_if {q : Prop} [Decidable q] {a b : Int} (ha : ¬ (23 ≤ a ∧ a ≤ 25)) (hb : ¬ (23 ≤ b ∧ b ≤ 25)) : ¬ (23 ≤ (if q then a else b) ∧ (if q then a else b) ≤ 25) := by
  split <;> assumption
theorem vb_3 (h : 23 ≤ vbN (lnB L 0) ∧ vbN (lnB L 0) ≤ 25) : (vbN (lnB L 0) = 23 ∧ pkW (lnB L 0) = 26982) ∨ (vbN (lnB L 0) = 24 ∧ pkW (lnB L 0) = 6713202) ∨ (vbN (lnB L 0) = 25 ∧ pkW (lnB L 0) = 7501166) := by
  by_cases q1 : lnB L 0 = txt 44
  · exact Or.inl ⟨by rw [q1]; decide +kernel, by rw [q1]; decide +kernel⟩
  by_cases q2 : lnB L 0 = txt 45
  · exact Or.inr (Or.inl ⟨by rw [q2]; decide +kernel, by rw [q2]; decide +kernel⟩)
  by_cases q3 : lnB L 0 = txt 46
  · exact Or.inr (Or.inr ⟨by rw [q3]; decide +kernel, by rw [q3]; decide +kernel⟩)
  exfalso
  unfold vbN at h
  simp only [if_neg q1, if_neg q2, if_neg q3] at h
  refine absurd h ?_
  iterate 22 refine nb_if (by decide) ?_
  decide
theorem ev_begun (hp : 0 ≤ p ∧ p < 8) (hJX : JX p J) (hA : XEVB fb d σ0 K p J Q m) (hG : XEVG fb d σ0 K p J Q m) : XEVB fb d σ0 K p J Q (m + 1) := by
  intro L fs P W R σ c e T U i x5 hm hn hP hS hc hJP hdy hi hT hU hU2 hQ
  have hC : CMD W (cmO (fs.length : Int)) L := hS.2.1.1.2.1
  obtain ⟨j1, j2, j3⟩ := hJX
  obtain ⟨c1, c2, c3, c4⟩ := j3 T U P L hS.1.1.2.2.2.1 hS.1.1.2.2.2.2.1 hS.1.1.2.2.2.2.2.1 hS.1.1.2.2.2.2.2.2 hC.2.2.2.1.2.2.2.2.2.1 hC.2.2.2.1.2.2.2.2.1 (by omega) hJP
  by_cases q0 : ((lnW L).length : Int) = 0
  · exact ev_0B hp q0 hm hn hP hS hc hJP hi hQ
  have hN : 0 < ((lnW L).length : Int) := by omega
  by_cases qv : 23 ≤ vbN (lnB L 0) ∧ vbN (lnB L 0) ≤ 25
  · rcases vb_3 qv with ⟨v1, v2⟩ | ⟨v1, v2⟩ | ⟨v1, v2⟩
    · exact ev_if hp j1 hA hN v1 v2 hm hn hP hS hc hJP hdy hi hT ⟨hU, hU2⟩ hQ
    · exact ev_forB hp hG hN v1 v2 hm hn hP hS hc hJP hdy hi hT ⟨hU, hU2⟩ hQ
    · exact ev_runB hp j1 hG hN v1 v2 c1.2.1 c3 (c4 hdy) cCat_rng hm hn hP hS hc hJP hi hT ⟨hU, hU2⟩ hQ
  · exact ev_cmdB hp hN qv c1 c2 hm hn hP hS hc hi hT ⟨hU, hU2⟩ hQ
/-- both, for every measure -/
theorem ev_all (hp : 0 ≤ p ∧ p < 8) (hJX : JX p J) : ∀ m : Nat, XEVB fb d σ0 K p J Q m ∧ XEVG fb d σ0 K p J Q m
  | 0 => ⟨fun L fs P W R σ c e T U i x5 hm hn hP hS hc => by
      have eM : evM (-1) (0, L, 0, 0, []) c = 2000 * (200 - c) + 1500 := if_pos rfl
      rw [eM] at hm
      exact absurd hm (by omega), fun fr fs P W R σ c e T U i x4 x5 hm hf hn hP hS he hc => by
      have eM : evM (-2) fr c = 2000 * (200 - c) + 701 - fr.2.2.1 := if_neg (by decide)
      rw [eM] at hm
      have hps : fr.2.2.1 ≤ 601 := by
        rcases hf with h | h
        · have h8 := (lnW_ok (hS.2.1.1.2.1 : CMD _ _ fr.2.1).2.2.2.1.2.2.2.2.1).2
          have h9 : pdO fr.2.1 = -1 ∨ (3 ≤ pdO fr.2.1 ∧ pdO fr.2.1 < 3 + ((((lnW fr.2.1).length : Int) - 3).toNat : Int)) := by
            rcases pdR_rng (l := fr.2.1) (((lnW fr.2.1).length : Int) - 3).toNat 3 with h | h
            · exact Or.inl h
            · exact Or.inr ⟨h.1, h.2.1⟩
          have := h.2.2.2
          omega
        · exact h.2.2.1
      exact absurd hm (by omega)⟩
  | m + 1 => ⟨ev_begun hp hJX (ev_all hp hJX m).1 (ev_all hp hJX m).2, ev_go hp hJX.1 hJX.2.1 (ev_all hp hJX m).1 (ev_all hp hJX m).2⟩
end XEVBS
