/-! The class's kernel: a word's file is reached. -/
theorem T_117_0 : hTab 117 0 = some ((3, 0, 2, []), 1) := rfl
theorem T_117_1 : hTab 117 1 = some ((3, 1, 2, []), 2) := rfl
theorem T_117_2 : hTab 117 2 = some ((3, 2, 2, []), 3) := rfl
theorem T_117_3 : hTab 117 3 = some ((3, 3, 0, []), 4) := rfl
theorem T_117_4 : hTab 117 4 = some ((31, 118, 0, []), 7) := rfl
theorem T_117_7 : hTab 117 7 = some ((4, 6, 0, []), 9) := rfl
theorem T_117_9 : hTab 117 9 = some ((3, 6, 0, []), 11) := rfl
theorem T_117_11 : hTab 117 11 = some ((18, 1, Int.ofNat 30, []), 14) := rfl
theorem T_117_14 : hTab 117 14 = some ((3, 0, 2, []), 15) := rfl
theorem T_117_15 : hTab 117 15 = some ((3, 1, 2, []), 16) := rfl
theorem T_117_16 : hTab 117 16 = some ((3, 4, 2, []), 18) := rfl
theorem T_117_18 : hTab 117 18 = some ((3, 0, 2, []), 19) := rfl
theorem T_117_19 : hTab 117 19 = some ((24, 1, Int.ofNat 6, []), 22) := rfl
theorem T_117_22 : hTab 117 22 = some ((3, 5, 0, []), 24) := rfl
theorem T_117_24 : hTab 117 24 = some ((31, 121, 0, []), 27) := rfl
theorem T_117_27 : hTab 117 27 = some ((22, 0, Int.ofNat 32, []), 30) := rfl
theorem T_117_30 : hTab 117 30 = some ((3, 6, 0, []), 32) := rfl
theorem T_117_32 : hTab 117 32 = some ((33, 1, 0, []), 33) := rfl
theorem mN_117 : hmN 117 = 6 := by decide +kernel
theorem mL_117 : hmL 117 = 7 := by decide +kernel
theorem mK_117 : hmK 117 = 1 := by decide +kernel
theorem mO_117 : hmO 117 = 1 := by decide +kernel
/-- the processes', groups', openings' and commands' objects stay but one channel -/
def FK (c : Nat) (W W2 : qR) (R R2 : rR) : Prop := (∀ (x : Nat) (k : Int), x ≠ c → ((229 ≤ x ∧ x < 1293) ∨ (2175 ≤ x ∧ x < 2372)) → k ≠ 2198 → W2 x k = W x k) ∧ ∀ (x : Nat) (k : Int), x ≠ c → ((229 ≤ x ∧ x < 1293) ∨ 2175 ≤ x) → R2 x k = R x k
/-- what reaching a word's file comes to -/
abbrev XWW (σ0 : hM) (K T U : Int) (W : qR) (R : rR) (c : Nat) (raw : List Int) (a : Int × qR × Ch) : Option AV → hM → Prop := fun r σ' => r = some (vI a.1) ∧ ∃ W2 R2, PX σ0 W2 R2 σ' ∧ XW K T U W2 R2 a.2.1 ∧ (a.1 = 0 → (CHX W2 R2 c a.2.2 ∧ chR a.2.2) ∧ BY W2 136 60 (paL raw) ∧ BY W2 145 161 raw ∧ NQ W2 (paN raw) ∧ W2 129 2049 = paO raw ∧ (paN raw).length ≤ 10) ∧ FK c W W2 R R2
section XRCH
variable {fb : Bool} {d b q m k c : Nat} {σ0 σ : hM} {W W0 W1 W2 W3 P Q : qR} {R R1 R2 : rR} {i j x z v s e w p o n K T U thr : Int} {l l0 lo nm raw pre wd : List Int} {ns : List (Int × Int)} {f : Int → Int}
theorem FK_rfl : FK c W W R R := ⟨fun _ _ _ _ _ => rfl, fun _ _ _ _ => rfl⟩
theorem FK_tr (h1 : FK c W W1 R R1) (h2 : FK c W1 W2 R1 R2) : FK c W W2 R R2 := ⟨fun x k a b e => (h2.1 x k a b e).trans (h1.1 x k a b e), fun x k a b => (h2.2 x k a b).trans (h1.2 x k a b)⟩
theorem FK_fc (h : FC c W W2 R R2) : FK c W W2 R R2 := ⟨fun x k a b e => h.1 x k a (by omega) (by omega) (by omega) (by omega) (by omega) (by omega) (by omega) (by omega) (fun q => by unfold ioP at q; omega) (by omega), fun x k a b => h.2 x k a (by omega)⟩
theorem FK_fa (h : FA W W2 R R2) : FK c W W2 R R2 := FK_fc (FC_fa h)
theorem FK_rpf (h : RPF W W2) : FK c W W2 R R := ⟨fun x k a b e => h x k (by omega) (by omega) (by omega) (by omega) (by omega) (by omega) (by omega), fun _ _ _ _ => rfl⟩
theorem paN_nms (hB : BY W 145 161 raw) (h1 : 1 ≤ raw.length) (hN : NQ W (paN raw)) : NMs W raw 0 (paM raw) := fun j hj => by
  obtain ⟨hv, hl⟩ := paN_ok h1
  have hj2 : j < (paN raw).length := by
    unfold paM at hj
    rw [List.length_map] at hj
    exact hj
  obtain ⟨v1, v2, v3⟩ := hv j hj2
  obtain ⟨n1, n2⟩ := hN.2 j hj2
  have hl2 := hB.2.2.2.2.1
  have e : (paM raw).getD j [] = seg (lg raw) ((paN raw).getD j (0, 0)).1 (((paN raw).getD j (0, 0)).2 - ((paN raw).getD j (0, 0)).1).toNat := by
    unfold paM
    rw [List.getD_eq_getElem?_getD, List.getElem?_map, List.getD_eq_getElem?_getD, List.getElem?_eq_getElem hj2]
    rfl
  rw [e, Int.zero_add]
  refine ⟨⟨by omega, by omega, by omega, by rw [n1, n2]⟩, by rw [seg_len]; omega, byt_seg (fun i i0 i1 => hB.2.2.2.2.2.1 _ (by omega))⟩
theorem XR.rpf (h : XR K T U W R P) (hF : RPF W W2) : XR K T U W2 R P := by
  obtain ⟨⟨a1, a2, a3⟩, x2, x3, x4, x5, x6, x7⟩ := h
  have h6 := XQ.len7 ⟨a1, a2, a3⟩ x5.1
  refine ⟨⟨fun s s0 s1 => ?_, a2.fv (hF 0 0 (by omega) (by omega) (by omega) (by omega) (by omega) (by omega) (by omega)) (hF 0 1 (by omega) (by omega) (by omega) (by omega) (by omega) (by omega) (by omega)) (fun _ => rfl), ?_⟩, ?_, x3.fr x4.iv (fun x k x0 _ _ => hF x k (by omega) (by omega) (by omega) (by omega) (by omega) (by omega) (by omega)) (fun _ _ _ _ => rfl) (fun _ _ _ => rfl), x4, x5, x6, x7⟩
  · obtain ⟨o, t, h⟩ := a1 s s0 s1
    exact ⟨o, t, h.fr (fun x k _ _ => hF x k (by omega) (by omega) (by omega) (by omega) (by omega) (by omega) (by omega)) (fun _ _ _ _ => rfl) (fun _ c k _ _ _ q => hF c k (by omega) (by omega) (by omega) (by omega) (by omega) (by omega) (by omega)) (fun n q => h6 s n s0 q)⟩
  · obtain ⟨b1, b2, b3⟩ := a3
    exact ⟨hF.by b1 (by decide), hF.by b2 (by decide), fun p p0 p1 => (hF _ _ (by omega) (by omega) (by omega) (by omega) (by omega) (by omega) (by omega)).trans (b3 p p0 p1)⟩
  · obtain ⟨b1, b2, b3⟩ := x2
    exact ⟨(hF _ _ (by decide) (by decide) (by decide) (by decide) (by decide) (by decide) (by decide)).trans b1, (hF _ _ (by decide) (by decide) (by decide) (by decide) (by decide) (by decide) (by decide)).trans b2, fun i i0 i1 => ⟨(b3 i i0 i1).1, hF.by (b3 i i0 i1).2 (by omega)⟩⟩
theorem XW.rpf (h : XW K T U W R P) (hF : RPF W W2) : XW K T U W2 R P := by
  obtain ⟨l0, h0⟩ := h.2
  exact ⟨h.1.rpf hF, l0, hF.by h0 (by decide)⟩
theorem FC.by2 {N : Nat} (h : FC c W W2 R R2) (hB : BY W b N l) (hc : 2175 ≤ c) (hb : b = 136 ∨ b = 145) : BY W2 b N l := h.by hB hc (by omega) (by omega) (by omega)
theorem FC.nq (h : FC c W W2 R R2) (hc : 2175 ≤ c) (hN : NQ W ns) (hn : ns.length < 2000) : NQ W2 ns := ⟨(h.kn hc).1.trans hN.1, fun i hi => by
  obtain ⟨k1, k2⟩ := (h.kn hc).2.2 (i : Int) (by omega)
  exact ⟨k1.trans (hN.2 i hi).1, k2.trans (hN.2 i hi).2⟩⟩
theorem x_rd (hP : PX σ0 W R σ) (hX : XW K T U W R P) (hp : 0 ≤ p ∧ p < 8) (hlv : ¬ P 2320 p = 0) (hC : CMD W k l) (hw : 0 ≤ w ∧ w < ((lnW l).length : Int)) : CL fb (d + 2) 118 [vR (some 129), vR (some (prO p)), vR (some k), vI w] σ (XRP σ0 W R (paRaw P p (lnB l w))) ∧ 1 ≤ (paRaw P p (lnB l w)).length := by
  have hL := (hX.1.2.2.1.1 p hp.1 hp.2).2.2.2 hlv
  have hr := prO_rng hp
  obtain ⟨g1, a, e, ha, he, h1, h2, h3, h4⟩ := hC.word hw
  refine ⟨x_readPath (fb := fb) (d := d) hP hC hw (prO_o hp) ⟨by omega, by omega⟩ hL.2.2.2.1 ?_, ?_⟩
  · unfold paRaw
    rw [show seg (fun x => P 2325 (60 * p + x)) 0 (P 2326 p).toNat = seg (P 2325) (60 * p) (P 2326 p).toNat from seg_seg.mpr (fun i _ _ => by rw [Int.zero_add])]
  · unfold paRaw
    rw [List.length_append, h4, seg_len]
    omega
theorem x_reach (hP : PX σ0 W R σ) (hX : XW K T U W R P) (hT : T + 800 ≤ 2147483000) (hp : 0 ≤ p ∧ p < 8) (hlv : ¬ P 2320 p = 0) (hC : CMD W k l) (hw : 0 ≤ w ∧ w < ((lnW l).length : Int)) (hc : tX c = some (Sum.inl 5)) (hc2 : 2175 ≤ c) (ht : thr = 0 ∨ thr = 1) : CL fb (d + 9) 117 [vR (some 129), vR (some (prO p)), vR (some k), vI w, vR (some c), vI thr] σ (XWW σ0 K (T + 300) U W R c (paRaw P p (lnB l w)) (kWW P p thr (lnB l w))) := by
  obtain ⟨hrd, hr1⟩ := x_rd (fb := fb) (d := d + 6) hP hX hp hlv hC hw
  have eK : kWW P p thr (lnB l w) = if 0 < paE (paRaw P p (lnB l w)) then (paE (paRaw P p (lnB l w)), P, c0) else kWalk P p (paO (paRaw P p (lnB l w))) thr (paM (paRaw P p (lnB l w))) := rfl
  obtain ⟨raw, hraw⟩ : ∃ q, paRaw P p (lnB l w) = q := ⟨_, rfl⟩
  rw [hraw] at hrd hr1 eK ⊢
  have hpo := prO_o hp
  have hwk := fun (σ : hM) (V : qR) (hP : PX σ0 V R σ) (hF : RPF W V) (h : V 129 2049 = paO raw ∧ BY V 145 161 raw ∧ NQ V (paN raw) ∧ BY V 136 60 (paL raw)) (h10 : (paN raw).length ≤ 10) (hor : paO raw = -1 ∨ (0 ≤ paO raw ∧ paO raw < 3)) => x_walk (fb := fb) (d := d) (nms := paM raw) (most := ((paM raw).length : Int)) (thr := thr) hP (hX.rpf hF) (by have : (paM raw).length = (paN raw).length := List.length_map ..; omega) hp hlv hc hc2 ht rfl (n := ((paM raw).length : Int)) (by rw [h.2.2.1.1]; unfold paM; rw [List.length_map]) (by have : (paM raw).length = (paN raw).length := List.length_map ..; omega) h.2.1 (paN_nms h.2.1 hr1 h.2.2.1) h.1 hor
  have hml : (paM raw).length = (paN raw).length := List.length_map ..
  have hor : paE raw = 0 → (paN raw).length ≤ 10 ∧ (paO raw = -1 ∨ (0 ≤ paO raw ∧ paO raw < 3)) := fun h0 => by
    unfold paE at h0
    by_cases q : lg raw 0 = 35 ∧ (¬ (2 ≤ raw.length ∧ 48 ≤ lg raw 1 ∧ lg raw 1 ≤ 50) ∨ (3 ≤ raw.length ∧ ¬ lg raw 2 = 47))
    · rw [if_pos q] at h0; omega
    · rw [if_neg q] at h0
      by_cases q2 : 10 < (paN raw).length
      · rw [if_pos q2] at h0; omega
      · refine ⟨by omega, ?_⟩
        unfold paO
        by_cases q3 : lg raw 0 = 35
        · rw [if_pos q3]
          have := Classical.not_not.mp (fun c => q ⟨q3, Or.inl c⟩)
          omega
        · rw [if_neg q3]
          exact Or.inl rfl
  have hee : 0 ≤ paE raw := by unfold paE; (repeat' split) <;> decide
  obtain ⟨pr, hpr⟩ : ∃ q, prO p = q := ⟨_, rfl⟩
  rw [hpr] at hrd hpo
  simp only [hpr] at hwk
  rw [hpr]
  obtain ⟨nn, hnn⟩ : ∃ q : Int, ((paM raw).length : Int) = q := ⟨_, rfl⟩
  simp only [hnn] at hwk
  obtain ⟨A, hA⟩ : ∃ A, kWalk P p (paO raw) thr (paM raw) = A := ⟨_, rfl⟩
  simp only [hA] at hwk
  rw [hA] at eK
  obtain ⟨e, he⟩ : ∃ q, paE raw = q := ⟨_, rfl⟩
  rw [he] at hor hee eK
  unfold XRP at hrd
  rw [he] at hrd
  by_cases q : e = 0
  · subst q
    rw [if_neg (by decide)] at eK
    rw [eK]
    obtain ⟨h10, hor⟩ := hor rfl
    obtain ⟨a1, a2⟩ := A
    refine CL_in mL_117 rfl ?_
    show WP fb _ 117 0 [some (vR (some 129)), some (vR (some pr)), some (vR (some k)), some (vI w), some (vR (some c)), some (vI thr), none] [] σ _
    refine x_lr (z := some 129) T_117_0 rfl ?_
    refine x_lr (z := some pr) T_117_1 rfl ?_
    refine x_lr (z := some k) T_117_2 rfl ?_
    refine x_li (z := w) T_117_3 rfl ?_
    refine x_cv4 T_117_4 mN_118 mL_118 (Nat.le_of_ble_eq_true rfl) mO_118 (hP.o xo_129) (Nat.le_of_ble_eq_true rfl) (hrd) ?_
    clear hP hrd
    rintro _ σ ⟨rfl, V, hP, hF, hq⟩
    have hq := hq rfl
    have hn0 : V 129 2038 = nn := by rw [hq.2.2.1.1, ← hnn, hml]
    refine cI ?_
    refine x_si (ls1 := [some (vR (some 129)), some (vR (some pr)), some (vR (some k)), some (vI w), some (vR (some c)), some (vI thr), some (vI 0)]) T_117_7 rfl ?_
    refine x_li (z := 0) T_117_9 rfl ?_
    refine x_if T_117_11 (fun h => absurd (show ¬ (0 : Int) = 0 from h) (by decide)) (fun _ => ?_)
    refine x_lr (z := some 129) T_117_14 rfl ?_
    refine x_lr (z := some pr) T_117_15 rfl ?_
    refine x_lr (z := some c) T_117_16 rfl ?_
    refine x_lr (z := some 129) T_117_18 rfl ?_
    refine x_gI (z := nn) T_117_19 (Or.inl F_1_6) (hP.o xo_129) (Eq.trans (hP.gi xo_129 (key := 2038) rfl) hn0) ?_
    refine x_li (z := thr) T_117_22 rfl ?_
    refine x_cv5 T_117_24 mN_121 mL_121 (Nat.le_of_ble_eq_true rfl) mO_121 (hP.o xo_129) (Nat.le_of_ble_eq_true rfl) (hwk σ V hP hF hq h10 hor) ?_
    clear hP hwk
    rintro _ σ ⟨rfl, W3, R3, hP, hX3, hC3, hF3⟩
    refine cI ?_
    refine x_goto T_117_27 ?_
    refine x_ri T_117_32 ?_
    exact ⟨rfl, W3, R3, hP, XW.mono hX3 (by omega), fun c0 => ⟨hC3 c0, hF3.by2 hq.2.2.2 hc2 (Or.inl rfl), hF3.by2 hq.2.1 hc2 (Or.inr rfl), hF3.nq hc2 hq.2.2.1 (by omega), ((hF3.kn hc2).2.1).trans hq.1, h10⟩, FK_tr (FK_rpf hF) (FK_fc hF3)⟩
  · rw [if_pos (by omega)] at eK
    rw [eK]
    refine CL_in mL_117 rfl ?_
    show WP fb _ 117 0 [some (vR (some 129)), some (vR (some pr)), some (vR (some k)), some (vI w), some (vR (some c)), some (vI thr), none] [] σ _
    refine x_lr (z := some 129) T_117_0 rfl ?_
    refine x_lr (z := some pr) T_117_1 rfl ?_
    refine x_lr (z := some k) T_117_2 rfl ?_
    refine x_li (z := w) T_117_3 rfl ?_
    refine x_cv4 T_117_4 mN_118 mL_118 (Nat.le_of_ble_eq_true rfl) mO_118 (hP.o xo_129) (Nat.le_of_ble_eq_true rfl) (hrd) ?_
    clear hP hrd
    rintro _ σ ⟨rfl, V, hP, hF, hq⟩
    refine cI ?_
    refine x_si (ls1 := [some (vR (some 129)), some (vR (some pr)), some (vR (some k)), some (vI w), some (vR (some c)), some (vI thr), some (vI e)]) T_117_7 rfl ?_
    refine x_li (z := e) T_117_9 rfl ?_
    refine x_if T_117_11 (fun _ => ?_) (fun h => absurd (show ¬ e = 0 by omega) h)
    refine x_li (z := e) T_117_30 rfl ?_
    refine x_ri T_117_32 ?_
    exact ⟨rfl, V, R, hP, (hX.rpf hF).mono (by omega), fun c0 => absurd c0 q, FK_rpf hF⟩
end XRCH
