/-! The class's enter: what is done as a command; a for goes on. -/
section XLP2
variable {fb : Bool} {d b k n : Nat} {σ0 σ : hM} {W W1 W2 V V0 V2 V3 P : qR} {R : rR} {i j x z v s e p D w K T U a c ex pos mu : Int} {l sc lo wd src L L2 t ss : List Int} {fs : List Fr} {fr : Fr} {Q : Option AV → hM → Prop} {J : qR → Prop} {m : Nat}
/-- what is done when a frame has answered -/
def XCT (fb : Bool) (d : Nat) (σ0 : hM) (K p : Int) (J : qR → Prop) (Q : Option AV → hM → Prop) (code : Int) (T U : Int) (i : Int) (fr : Fr) (fs : List Fr) (c : Int) (rr : R4) : Prop := ∀ (σ : hM) (W2 : qR) (R2 : rR) (i2 : Int) (x4 x5 : Option AV), PX σ0 W2 R2 σ → XST K (T + 3000 * (rr.2.2 - c) + 3000 * evK code) (U + 400 * (rr.2.2 - c) + 400 * evK code) W2 R2 rr.2.1 fs rr.2.2 rr.1 0 → c ≤ rr.2.2 ∧ rr.2.2 ≤ 200 → 0 ≤ rr.1 → J rr.2.1 → i ≤ i2 ∧ i2 + 4000 * (200 - rr.2.2) ≤ i + 2 * evM code fr c → LPH fb d p i2 x4 x5 σ Q
/-- a command begun is done, whatever it begins -/
def XEVB (fb : Bool) (d : Nat) (σ0 : hM) (K p : Int) (J : qR → Prop) (Q : Option AV → hM → Prop) (m : Nat) : Prop := ∀ (L : List Int) (fs : List Fr) (P W : qR) (R : rR) (σ : hM) (c e T U i : Int) (x5 : Option AV), evM (-1) (0, L, 0, 0, []) c < m → fs.length < 12 → PX σ0 W R σ → XST K T U W R P ((0, L, 0, 0, []) :: fs) c e 0 → 0 ≤ c ∧ c ≤ 200 → J P → P 2321 p = 0 → 0 ≤ i ∧ i + 2 * evM (-1) (0, L, 0, 0, []) c ≤ 900000 → T + 3000 * (202 - c) + 3000 + 1000 ≤ 2147483000 → 10000 ≤ U → U + 400 * (202 - c) + 400 ≤ 2147480000 → XCT fb d σ0 K p J Q (-1) T U i (0, L, 0, 0, []) fs c (EV p m (-1) ((fs.length : Int) + 1) (arOf fs) (0, L, 0, 0, []) P c) → WP fb (d + 20) 96 70 [some (vR (some 128)), some (vI p), some (vR (some (prO p))), some (vI i), some (vR (some (cmO (fs.length : Int)))), x5] [] σ Q
/-- a for or a SCRIPT goes on, to its end -/
def XEVG (fb : Bool) (d : Nat) (σ0 : hM) (K p : Int) (J : qR → Prop) (Q : Option AV → hM → Prop) (m : Nat) : Prop := ∀ (fr : Fr) (fs : List Fr) (P W : qR) (R : rR) (σ : hM) (c e T U i : Int) (x4 x5 : Option AV), evM (-2) fr c < m → frOk fr → fs.length < 12 → PX σ0 W R σ → XST K T U W R P (fr :: fs) c e 0 → (e = 0 ∨ (fr.1 = 3 ∧ ¬ fr.2.2.2.1 = 0)) → 0 ≤ c ∧ c ≤ 200 → J P → P 2321 p = 0 → 0 ≤ i ∧ i + 2 * evM (-2) fr c ≤ 900000 → T + 3000 * (202 - c) + 1000 ≤ 2147483000 → 10000 ≤ U → U + 400 * (202 - c) ≤ 2147480000 → XCT fb d σ0 K p J Q (-2) T U i fr fs c (EV p m (-2) ((fs.length : Int) + 1) (arOf fs) fr P c) → LPH fb d p i x4 x5 σ Q
theorem bgC_r2 (hc : c ≤ 200) : c ≤ bgC v c ∧ bgC v c ≤ 200 ∧ bgC v c ≤ c + 1 := by
  unfold bgC
  split
  · exact ⟨by omega, hc, by omega⟩
  · rename_i q
    exact ⟨by omega, by omega, by omega⟩
theorem XST.monoT (h : XST K T U W R P fs c e w) (h1 : T ≤ x) (h2 : U ≤ z) : XST K x z W R P fs c e w := ⟨(h.1.mono h1).monoU h2, h.2⟩
theorem bgE_r2 : bgE v c L = 0 ∨ 0 < bgE v c L := by
  have := bgE_rng (n := v) (c := c) (tx := L)
  omega
theorem XST.len (h : XST K T U W R P (fr :: fs) c e w) : W 2187 2482 = (fs.length : Int) + 1 := h.2.2.1
/-- a child's line, and the frame that goes on behind it: what is asked of the frame is at each end -/
theorem ev_line {x4 x5 : Option AV} (hp : 0 ≤ p ∧ p < 8) (hA : XEVB fb d σ0 K p J Q m) (hlv : ¬ P 2320 p = 0) (hP : PX σ0 W R σ) (hS : XST K T U W R P fs c 0 1) (hW : WTX W ex src) (hex : ex = 0 ∨ ex = 1) (hn : fs.length ≤ 12) (hc : 0 ≤ c ∧ c ≤ 200) (hi : 0 ≤ i ∧ i + 4000 * (200 - c) + 100 ≤ 900000) (hJ : J P) (hdy : P 2321 p = 0) (hT : T + 3000 * (202 - c) + 1000 ≤ 2147483000) (hU : 10000 ≤ U ∧ U + 400 * (202 - c) ≤ 2147480000) (hm : 2000 * (200 - c) - 500 < m) (hQ : ∀ (σ : hM) (W2 : qR) (R2 : rR) (i2 : Int) (x4 x5 : Option AV), PX σ0 W2 R2 σ → XST K (T + 3000 * ((evC (EV p m) (fs.length : Int) (arOf fs) (exL P p (arOf fs) ex src) P c).2.2 - c)) (U + 400 * ((evC (EV p m) (fs.length : Int) (arOf fs) (exL P p (arOf fs) ex src) P c).2.2 - c)) W2 R2 (evC (EV p m) (fs.length : Int) (arOf fs) (exL P p (arOf fs) ex src) P c).2.1 fs (evC (EV p m) (fs.length : Int) (arOf fs) (exL P p (arOf fs) ex src) P c).2.2 (evC (EV p m) (fs.length : Int) (arOf fs) (exL P p (arOf fs) ex src) P c).1 0 → c ≤ (evC (EV p m) (fs.length : Int) (arOf fs) (exL P p (arOf fs) ex src) P c).2.2 ∧ (evC (EV p m) (fs.length : Int) (arOf fs) (exL P p (arOf fs) ex src) P c).2.2 ≤ 200 → 0 ≤ (evC (EV p m) (fs.length : Int) (arOf fs) (exL P p (arOf fs) ex src) P c).1 → J (evC (EV p m) (fs.length : Int) (arOf fs) (exL P p (arOf fs) ex src) P c).2.1 → i ≤ i2 ∧ i2 + 4000 * (200 - (evC (EV p m) (fs.length : Int) (arOf fs) (exL P p (arOf fs) ex src) P c).2.2) ≤ i + 1 + 4000 * (200 - c) → LPH fb d p i2 x4 x5 σ Q) : LPH fb d p i x4 x5 σ Q := by
  obtain ⟨L, hL⟩ : ∃ q, exL P p (arOf fs) ex src = q := ⟨_, rfl⟩
  rw [hL] at hQ
  refine lp_line hP hS hp hlv hn hc hex hW ⟨hi.1, by omega⟩ hL (fun σ V hb hP hS => ?_) (fun σ V hb h12 hP hS => ?_)
  · have e1 : evC (EV p m) (fs.length : Int) (arOf fs) L P c = (bgE (fs.length : Int) c L, P, bgC (fs.length : Int) c) := if_neg hb
    rw [e1] at hQ
    have hr := bgC_r2 (v := (fs.length : Int)) hc.2
    have hr2 := bgE_rng (n := (fs.length : Int)) (c := c) (tx := L)
    exact hQ σ V R (i + 1) _ _ hP (hS.monoT (show T ≤ T + 3000 * (bgC (fs.length : Int) c - c) by omega) (show U ≤ U + 400 * (bgC (fs.length : Int) c - c) by omega)) ⟨hr.1, hr.2.1⟩ hr2 hJ ⟨by omega, show i + 1 + 4000 * (200 - bgC (fs.length : Int) c) ≤ i + 1 + 4000 * (200 - c) by omega⟩
  · have e1 : evC (EV p m) (fs.length : Int) (arOf fs) L P c = EV p m (-1) ((fs.length : Int) + 1) (arOf fs) (0, L, 0, 0, []) P (c + 1) := if_pos hb
    rw [e1] at hQ
    have hc2 : c + 1 ≤ 200 := by
      have := (bgE_0 hb).2
      omega
    have eM : evM (-1) (0, L, 0, 0, []) (c + 1) = 2000 * (200 - (c + 1)) + 1500 := if_pos rfl
    refine hA L fs P V R σ (c + 1) 0 T U i _ (by rw [eM]; omega) h12 hP hS ⟨by omega, hc2⟩ hJ hdy (by rw [eM]; omega) (by omega) hU.1 (by omega) ?_
    intro σ W2 R2 i2 x4 x5 hP hS h1 h2 h3 h4
    rw [eM] at h4
    rw [evK_1] at hS
    exact hQ σ W2 R2 i2 x4 x5 hP (hS.monoT (by omega) (by omega)) ⟨by omega, h1.2⟩ h2 h3 ⟨h4.1, by omega⟩
end XLP2
