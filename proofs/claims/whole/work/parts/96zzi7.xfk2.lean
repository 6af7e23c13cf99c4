/-! The class's kernel: a group is copied. -/
theorem T_190_0 : hTab 190 0 = some ((3, 1, 2, []), 1) := rfl
theorem T_190_1 : hTab 190 1 = some ((20, 1, Int.ofNat 8, []), 4) := rfl
theorem T_190_8 : hTab 190 8 = some ((3, 1, 2, []), 9) := rfl
theorem T_190_9 : hTab 190 9 = some ((24, 4, Int.ofNat 3, []), 12) := rfl
theorem T_190_12 : hTab 190 12 = some ((0, 0, 1, []), 13) := rfl
theorem T_190_13 : hTab 190 13 = some ((10, 1, 0, []), 14) := rfl
theorem T_190_14 : hTab 190 14 = some ((4, 2, 0, []), 15) := rfl
theorem T_190_15 : hTab 190 15 = some ((3, 2, 0, []), 16) := rfl
theorem T_190_16 : hTab 190 16 = some ((18, 2, Int.ofNat 62, []), 19) := rfl
theorem T_190_19 : hTab 190 19 = some ((3, 1, 2, []), 20) := rfl
theorem T_190_20 : hTab 190 20 = some ((3, 2, 0, []), 21) := rfl
theorem T_190_21 : hTab 190 21 = some ((31, 130, 0, []), 24) := rfl
theorem T_190_24 : hTab 190 24 = some ((4, 3, 2, []), 25) := rfl
theorem T_190_25 : hTab 190 25 = some ((3, 3, 2, []), 26) := rfl
theorem T_190_26 : hTab 190 26 = some ((20, 0, Int.ofNat 56, []), 29) := rfl
theorem T_190_29 : hTab 190 29 = some ((3, 0, 2, []), 30) := rfl
theorem T_190_30 : hTab 190 30 = some ((3, 3, 2, []), 31) := rfl
theorem T_190_31 : hTab 190 31 = some ((24, 5, Int.ofNat 0, []), 34) := rfl
theorem T_190_34 : hTab 190 34 = some ((31, 122, 0, []), 37) := rfl
theorem T_190_37 : hTab 190 37 = some ((0, 0, 0, []), 38) := rfl
theorem T_190_38 : hTab 190 38 = some ((3, 0, 2, []), 39) := rfl
theorem T_190_39 : hTab 190 39 = some ((0, 0, 120, []), 41) := rfl
theorem T_190_41 : hTab 190 41 = some ((3, 3, 2, []), 42) := rfl
theorem T_190_42 : hTab 190 42 = some ((24, 5, Int.ofNat 1, []), 45) := rfl
theorem T_190_45 : hTab 190 45 = some ((31, 131, 0, []), 48) := rfl
theorem T_190_48 : hTab 190 48 = some ((3, 0, 2, []), 49) := rfl
theorem T_190_49 : hTab 190 49 = some ((24, 1, Int.ofNat 2, []), 52) := rfl
theorem T_190_52 : hTab 190 52 = some ((31, 26, 0, []), 55) := rfl
theorem T_190_55 : hTab 190 55 = some ((7, 0, 0, []), 56) := rfl
theorem T_190_56 : hTab 190 56 = some ((5, 2, (-1), []), 59) := rfl
theorem T_190_59 : hTab 190 59 = some ((22, 0, Int.ofNat 15, []), 62) := rfl
theorem T_190_62 : hTab 190 62 = some ((33, 0, 0, []), 63) := rfl
theorem mN_190 : hmN 190 = 2 := by decide +kernel
theorem mL_190 : hmL 190 = 4 := by decide +kernel
theorem mK_190 : hmK 190 = 1 := by decide +kernel
theorem mO_190 : hmO 190 = 1 := by decide +kernel
/-- what has been copied to a group, point by point -/
def CGD (W : qR) (R : rR) (P0 : qR) (g to : Int) (sg : List (List Ch)) : Prop := (W (grO to) 2097 = (sg.length : Int) ∧ W (grO to) 2098 = 0) ∧ ARP R (grO to + 1) 8 (grO to + 2) 8 ∧ (∀ i, i < 8 → ARP R (grO to + 3 + 8 * i) 6 (grO to + 4 + 8 * i) 1) ∧ ∀ k : Int, 0 ≤ k → k < sg.length → ∃ i, i < 8 ∧ R (grO to + 1) k = some (grO to + 2 + 8 * i) ∧ W (grO to + 2 + 8 * i) 2129 = P0 2335 (8 * g + k) ∧ W (grO to + 2 + 8 * i) 2130 = P0 2336 (8 * g + k) ∧ PTL W R (grO to + 2 + 8 * i) (nwL P0 (8 * g + k) 0 (sg.getD k.toNat []) 0) ∧ (sg.getD k.toNat []).length ≤ 6 ∧ ∀ c ∈ sg.getD k.toNat [], chR c
/-- the channels of a point are its members anew -/
def SG1 (P0 : qR) (fr : Int) (h : List Ch) : Prop := (h.length : Int) = P0 2337 fr ∧ ∀ i : Nat, i < h.length → (h.getD i c0).1 = P0 2338 (6 * fr + (i : Int)) ∧ (h.getD i c0).2.2.1 = P0 2340 (6 * fr + (i : Int)) ∧ (h.getD i c0).2.2.2.1 = P0 2341 (6 * fr + (i : Int))
section XFK2
variable {fb : Bool} {d b c n a0 a1 y y5 y6 i6 ga ga2 m2 : Nat} {σ0 σ : hM} {W W1 W2 V P P0 Q B : qR} {R R1 R2 V3 : rR} {i j k x z v s e w f g u p pt pa dr sv K T U t N C fr mk n6 to T0 : Int} {l l0 lo nm M wd : List Int} {c1 c2 ch : Ch} {h h0 h2 : List Ch} {sg : List (List Ch)} {x8 : Option AV}
theorem kCps_at : ∀ (m : Nat) (j : Int) (Q : qR) (h : List Ch), KF Q P0 → (kCps fr m j Q h).1 = 0 → ∃ t, (kCps fr m j Q h).2.2 = h ++ t ∧ t.length = m ∧ ∀ i : Nat, i < m → (t.getD i c0).1 = P0 2338 (6 * fr + (j + (i : Int))) ∧ (t.getD i c0).2.2.1 = P0 2340 (6 * fr + (j + (i : Int))) ∧ (t.getD i c0).2.2.2.1 = P0 2341 (6 * fr + (j + (i : Int)))
  | 0, _, _, h, _, _ => ⟨[], (List.append_nil h).symm, rfl, fun i hi => absurd hi (Nat.not_lt_zero _)⟩
  | m + 1, j, Q, h, hk, he => by
    unfold kCps at he ⊢
    split
    · rename_i q
      rw [if_pos q] at he
      dsimp only at he
      omega
    · rename_i q
      rw [if_neg q] at he
      obtain ⟨t, h1, h2, h3⟩ := kCps_at m (j + 1) _ _ (KF_tr KF_cp hk) he
      refine ⟨_ :: t, by rw [h1, List.append_assoc]; rfl, by rw [List.length_cons, h2], fun i hi => ?_⟩
      cases i with
      | zero =>
        rw [show j + ((0 : Nat) : Int) = j by omega]
        exact ⟨nsR_kf hk 2338 _ rfl, nsR_kf hk 2340 _ rfl, nsR_kf hk 2341 _ rfl⟩
      | succ i =>
        have := h3 i (by omega)
        rw [show j + 1 + (i : Int) = j + ((i + 1 : Nat) : Int) by omega] at this
        exact this
theorem kDrops_app : ∀ (a b : List Ch), kDrops B (a ++ b) = kDrops (kDrops B b) a := fun a b => by
  unfold kDrops
  rw [List.foldr_append]
theorem kDrops_kf : KF (kDrops B h) B := KF_drops h B
/-- a group's holder is none of the living -/
theorem XM.add (h : XM K T U W R P) (hto : 0 ≤ to ∧ to < 8) (hi : i6 < 8) (hy : y = grO to + 2 + 8 * i6) (hNL : ∀ p : Int, 0 ≤ p → p < 8 → ¬ P 2320 p = 0 → R (295 + 125 * p.toNat) 2201 ≠ some (grO to)) : XM K T U (rU (rU (rU (rU W (grO to) 2097 C) y 2129 s) y 2130 pa) y 2131 0) R P := by
  have hY : PYO y := by rw [hy]; exact PYO_of hto hi
  have hrg := grO_rng hto
  have egg : grO to = 229 + 125 * to.toNat := rfl
  have hW : ∀ (x : Nat) (k : Int), ¬ (x = grO to ∧ k = 2097) → ¬ (x = y ∧ (k = 2129 ∨ k = 2130 ∨ k = 2131)) → rU (rU (rU (rU W (grO to) 2097 C) y 2129 s) y 2130 pa) y 2131 0 x k = W x k := fun x k h1 h2 => (if_neg (fun c => h2 ⟨c.1, Or.inr (Or.inr c.2)⟩)).trans ((if_neg (fun c => h2 ⟨c.1, Or.inr (Or.inl c.2)⟩)).trans ((if_neg (fun c => h2 ⟨c.1, Or.inl c.2⟩)).trans (if_neg h1)))
  refine h.rowG RF_rfl h.2.2.1 (fun x k hx => hW x k (by omega) (by omega)) (fun _ _ _ => rfl) (fun p p0 p1 hl => ?_)
  obtain ⟨b1, b2, ⟨b3, b4⟩, ⟨ga, c1, c2, c3, c4⟩, b5⟩ := h.2.2.2.2.1 p p0 p1 hl
  have hne : ga ≠ grO to := fun c => hNL p p0 p1 hl (by rw [← c]; exact c1)
  exact ⟨b1, b2, ⟨(hW _ _ (by omega) (by omega)).trans b3, b4⟩, ⟨ga, c1, c2, (hW _ _ (fun c => hne c.1) (fun c => by omega)).trans c3, c4⟩, b5⟩
theorem flat_snoc (h : List Ch) : (sg ++ [h]).flatten = sg.flatten ++ h := by
  rw [List.flatten_append, List.flatten_cons, List.flatten_nil, List.append_nil]
theorem getD_snoc {k : Nat} (h : List Ch) : (sg ++ [h]).getD k [] = if k < sg.length then sg.getD k [] else if k = sg.length then h else [] := by
  simp only [List.getD_eq_getElem?_getD]
  by_cases q : k < sg.length
  · rw [if_pos q, List.getElem?_append_left q]
  · rw [if_neg q, List.getElem?_append_right (by omega)]
    by_cases q2 : k = sg.length
    · rw [if_pos q2, q2, Nat.sub_self]
      rfl
    · rw [if_neg q2]
      have : 1 ≤ k - sg.length := by omega
      rw [List.getElem?_eq_none (by simpa using this)]
      rfl
/-- one more point stands -/
theorem CGD.snoc {R2 : rR} (hto : 0 ≤ to ∧ to < 8) (h : CGD W R P0 g to sg) (hk : (sg.length : Int) = k) (hk8 : k < 8) (hi : i6 < 8) (hy : R (grO to + 1) k = some (grO to + 2 + 8 * i6)) (hW : W1 = rU (rU (rU (rU W (grO to) 2097 (k + 1)) (grO to + 2 + 8 * i6) 2129 (P0 2335 (8 * g + k))) (grO to + 2 + 8 * i6) 2130 (P0 2336 (8 * g + k))) (grO to + 2 + 8 * i6) 2131 0) (hF : FCY (grO to + 2 + 8 * i6) 8 W1 W2 R R2) (h29 : W2 (grO to + 2 + 8 * i6) 2129 = W1 (grO to + 2 + 8 * i6) 2129) (h30 : W2 (grO to + 2 + 8 * i6) 2130 = W1 (grO to + 2 + 8 * i6) 2130) (hL : PTL W2 R2 (grO to + 2 + 8 * i6) (nwL P0 (8 * g + k) 0 h2 0)) (hl6 : h2.length ≤ 6) (hr : ∀ c ∈ h2, chR c) : CGD W2 R2 P0 g to (sg ++ [h2]) := by
  have hrg := grO_rng hto
  obtain ⟨⟨a1, a2⟩, a3, a4, a5⟩ := h
  have hF1 : FCY (grO to) 1 W (rU W (grO to) 2097 (k + 1)) R R := ⟨fun x k _ _ _ _ c => if_neg (fun q => c (by omega)), fun _ _ _ _ => rfl⟩
  have hF2 : FCY (grO to + 2 + 8 * i6) 8 (rU W (grO to) 2097 (k + 1)) W1 R R := ⟨fun x k _ _ _ _ c => by
    rw [hW]
    exact (if_neg (fun q => c (by omega))).trans ((if_neg (fun q => c (by omega))).trans (if_neg (fun q => c (by omega)))), fun _ _ _ _ => rfl⟩
  have hFF := FCY_tr hF2 hF
  have w97 : W1 (grO to) 2097 = k + 1 := by rw [hW]; exact (rU_j (by decide)).trans ((rU_j (by decide)).trans ((rU_j (by decide)).trans rU_s))
  have w98 : W1 (grO to) 2098 = W (grO to) 2098 := by rw [hW]; exact (rU_j (by decide)).trans ((rU_j (by decide)).trans ((rU_j (by decide)).trans (rU_k (by decide))))
  have hlen : ((sg ++ [h2]).length : Int) = k + 1 := by rw [List.length_append]; show ((sg.length + 1 : Nat) : Int) = k + 1; omega
  refine ⟨⟨?_, ?_⟩, a3.eqv (fun k _ _ => hF.2 _ _ (Or.inl (by omega)) (by omega)), fun i hi2 => ?_, fun k2 k0 k1 => ?_⟩
  · rw [hF.1 _ _ (by omega) (Or.inl (by omega)) (by omega) (by decide) (by omega), w97, hlen]
  · rw [hF.1 _ _ (by omega) (Or.inl (by omega)) (by omega) (by decide) (by omega), w98]
    exact a2
  · by_cases q : i = i6
    · rw [q, show grO to + 3 + 8 * i6 = grO to + 2 + 8 * i6 + 1 by omega, show grO to + 4 + 8 * i6 = grO to + 2 + 8 * i6 + 2 by omega]
      exact hL.2.1
    · exact (a4 i hi2).eqv (fun k _ _ => hF.2 _ _ (Or.inl (by omega)) (by omega))
  · rw [hlen] at k1
    by_cases q : k2 = k
    · subst q
      refine ⟨i6, hi, (hF.2 _ _ (Or.inl (by omega)) (by omega)).trans hy, h29.trans ?_, h30.trans ?_, ?_⟩
      · rw [hW]; exact (rU_k (by decide)).trans ((rU_k (by decide)).trans rU_s)
      · rw [hW]; exact (rU_k (by decide)).trans rU_s
      · rw [getD_snoc, if_neg (by omega), if_pos (by omega)]
        exact ⟨hL, hl6, hr⟩
    · obtain ⟨i, hi2, b1, b2, b3, b4, b5, b6⟩ := a5 k2 k0 (by omega)
      have hne : i ≠ i6 := fun c => q (a3.2 k2 k k0 (by omega) (by omega) (by omega) (by rw [b1, hy, c]))
      have hg2 : (sg ++ [h2]).getD k2.toNat [] = sg.getD k2.toNat [] := by rw [getD_snoc, if_pos (by omega)]
      rw [hg2]
      have hw : ∀ v : Int, v ≠ 2198 → W2 (grO to + 2 + 8 * i) v = W (grO to + 2 + 8 * i) v := fun v hv => (hFF.1 _ _ (by omega) (Or.inl (by omega)) (by omega) hv (by omega)).trans (hF1.1 _ _ (by omega) (Or.inl (by omega)) (by omega) hv (by omega))
      exact ⟨i, hi2, (hF.2 _ _ (Or.inl (by omega)) (by omega)).trans b1, (hw _ (by decide)).trans b2, (hw _ (by decide)).trans b3, (b4.fcy (by rw [nwL_len]; exact b5) (PYO_of hto hi2) hF1 (by omega)).fcy (by rw [nwL_len]; exact b5) (PYO_of hto hi2) hFF (by omega), b5, b6⟩
theorem x_pointOfG (hP : PX σ0 W R σ) (hg : 0 ≤ g ∧ g < 8) (h97 : W (grO g) 2097 = C) (hC : C ≤ 8) (hk : 0 ≤ k ∧ k < C) (hy : R (grO g + 1) k = some y) : CL fb d 189 [vR (some (grO g)), vI k] σ (rPR (some y) σ) := by
  have hgo3 := grO_o hg
  have hgA := grO_a hg
  obtain ⟨ga, hga⟩ : ∃ q, grO g = q := ⟨_, rfl⟩
  rw [hga] at hgo3 hgA h97 hy ⊢
  have hmu : mutA (ga + 1) 14 8 = true := rfl
  refine CL_in mL_189 rfl ?_
  show WP fb _ 189 0 [some (vR (some ga)), some (vI k)] [] σ _
  refine x_li (z := k) T_189_0 rfl ?_
  refine x_if T_189_1 (fun h => absurd (show k < 0 from h) (by omega)) (fun _ => ?_)
  refine x_li (z := k) T_189_4 rfl ?_
  refine x_lr (z := some ga) T_189_5 rfl ?_
  refine x_gI (z := C) T_189_6 (Or.inl F_3_1) (hP.o hgo3) (Eq.trans (hP.gi hgo3 (key := 2097) rfl) h97) ?_
  refine x_ic2 T_189_9 (fun h => absurd (show C ≤ k from h) (by omega)) (fun _ => ?_)
  refine x_li (z := k) T_189_12 rfl ?_
  refine x_ic T_189_13 ?_
  refine x_ic2 T_189_15 (fun _ => ?_) (fun h => absurd (show k < 8 by omega) h)
  refine x_lr (z := some ga) T_189_22 rfl ?_
  refine x_gR (z := some (ga + 1)) T_189_23 F_3_0 (hP.o hgo3) (hP.rc hgo3 rfl rfl) ?_
  refine x_li (z := k) T_189_26 rfl ?_
  refine x_alR (z := some y) T_189_27 (hP.ta hgA) (by decide) (by omega) (by omega) (Eq.trans (hP.arm hgA hmu (by omega)) hy) ?_
  refine x_rr T_189_28 ?_
  exact ⟨rfl, rfl⟩
/-- the members of a point that doesn't come about go, the latest first -/
theorem cb_loop (hY : PYO y) (hh6 : h2.length ≤ 6) (hr : ∀ c ∈ h2, chR c) {ns : List Nw} (hns : ns.length = h2.length) (hsf : ∀ i : Int, 0 ≤ i → i < h2.length → (ns.getD i.toNat nw0).1 = (h2.getD i.toNat c0).1 ∧ (ns.getD i.toNat nw0).2.1 = (h2.getD i.toNat c0).2.1) {Qf : Option AV → hM → Prop} : ∀ (m : Nat) (T : Int) (σ : hM) (V : qR) (V3 : rR) (x3 : Option AV), m ≤ h2.length → T + 4 * m + 150 ≤ 2147483000 → PX σ0 V V3 σ → XM K T U V V3 (kDrops B (h2.drop m)) → PTL V V3 y ns → (∀ (σ : hM) (V2 : qR) (V4 : rR), PX σ0 V2 V4 σ → XM K (T + 4 * m) U V2 V4 (kDrops B h2) → FA V V2 V3 V4 → Qf none σ) → WP fb (d + 8) 190 15 [some (vR (some 129)), some (vR (some y)), some (vI ((m : Int) - 1)), x3] [] σ Qf := by
  obtain ⟨hyo, hya, hyr, hym⟩ := id hY
  intro m
  induction m with
  | zero =>
    intro T σ V V3 x3 h1 g2 hP hX hL hc
    have hX : XM K T U V V3 (kDrops B (List.drop 0 _)) := hX
    rw [List.drop_zero] at hX
    have hgo := hc σ V V3 hP (hX.mono (by omega)) FA_rfl
    refine x_li (z := (((0 : Nat) : Int) - 1)) T_190_15 rfl ?_
    refine x_if T_190_16 (fun _ => ?_) (fun h => absurd (show (((0 : Nat) : Int) - 1) < 0 by omega) h)
    refine x_rv T_190_62 ?_
    exact hgo
  | succ m ih =>
    intro T σ V V3 x3 h1 g2 hP hX hL hc
    rw [show ((m + 1 : Nat) : Int) - 1 = (m : Int) by omega]
    have hm : m < h2.length := by omega
    have hcm := hr _ (List.getElem_mem hm)
    have hget : h2.getD m c0 = h2[m] := by rw [List.getD_eq_getElem?_getD, List.getElem?_eq_getElem hm]; rfl
    have eD : kDrops B (h2.drop m) = kDrop (kDrops B (h2.drop (m + 1))) h2[m] := by
      rw [List.drop_eq_getElem_cons hm]
      rfl
    obtain ⟨cj, hcj, n1, n2, -⟩ := hL.2.2 (m : Int) (by omega) (by omega)
    obtain ⟨t9, ht9, hc9⟩ := hL.2.1.1 (m : Int) (by omega) (by omega)
    rw [Nat.one_mul] at hc9
    have ec : cj = y + 2 + t9 := Option.some.inj (hcj.symm.trans hc9)
    have hco : tX cj = some (Sum.inl 5) := by rw [ec]; exact hym t9 ht9
    obtain ⟨s1, s2⟩ := hsf (m : Int) (by omega) (by omega)
    rw [Int.toNat_natCast] at n1 n2 s1 s2
    rw [hget] at s1 s2
    have z1 := n1.trans s1
    have z2 := n2.trans s2
    obtain ⟨s, hsv⟩ : ∃ q, (h2[m]).1 = q := ⟨_, rfl⟩
    obtain ⟨f, hfd⟩ : ∃ q, (h2[m]).2.1 = q := ⟨_, rfl⟩
    unfold kDrop at eD
    rw [hsv, hfd] at eD
    rw [hsv] at z1
    rw [hfd] at z2
    have hs : 0 ≤ s ∧ s < 3 := by rw [← hsv]; exact hcm.1
    have hf : 0 ≤ f ∧ f ≤ 47 := by rw [← hfd]; exact hcm.2.1
    have hyc := hL.1
    have hmo := x_memberOf (fb := fb) (d := d + 7) (k := (m : Int)) (r := some cj) hP hyo hya (by omega) hyc ⟨by omega, by omega⟩ (fun _ _ => hcj)
    rw [if_pos ⟨by omega, by omega⟩] at hmo
    have hho := x_host (fb := fb) (d := d + 7) (s := s) hP hs
    have hO := srv_o hs
    have hab := x_about (fb := fb) (d := d + 4) (t := 120) (f := f) hP (by decide) ⟨by omega, by omega⟩
    obtain ⟨o1, o2, o3, o4⟩ := mOne_ok (t := 120) (f := f) (Or.inl rfl)
    have hak := fun (σ : hM) (V2 : qR) (hP : PX σ0 V2 V3 σ) (hF : FR1 V V2) (hB : BY V2 138 300 (mFr (mOne 120 f))) => x_askX (fb := fb) (d := d) hP (hX.fr1 hF) (by omega) hs hB o1 o2 o3 o4
    obtain ⟨e9, he9⟩ : ∃ q, tE (kDrops B (h2.drop (m + 1))) s (mOne 120 f) = q := ⟨_, rfl⟩
    rw [← eD] at hak
    simp only [he9] at hak
    have hgo := fun (σ : hM) (V5 : qR) (V6 : rR) (x3 : Option AV) (hP : PX σ0 V5 V6 σ) (hX5 : XM K (T + 4) U V5 V6 (kDrops B (h2.drop m))) (hA : FA V V5 V3 V6) => ih (T + 4) σ V5 V6 x3 (by omega) (by omega) hP hX5 (hL.fcy (a0 := 0) (n := 0) (by omega) hY (FCY_fa hA) (Or.inr (by omega))) (fun σ V2 V4 a1 a2 a3 => hc σ V2 V4 a1 (a2.mono (by omega)) (FA_tr hA a3))
    obtain ⟨j, hj⟩ : ∃ j : Int, (m : Int) = j := ⟨_, rfl⟩
    have hj0 : 0 ≤ j := by omega
    simp only [hj] at hgo hmo ⊢
    obtain ⟨sv, hsw⟩ : ∃ q, 1293 + 294 * s.toNat = q := ⟨_, rfl⟩
    rw [hsw] at hho hO
    simp only [hsw] at hak
    refine x_li (z := j) T_190_15 rfl ?_
    refine x_if T_190_16 (fun h => absurd (show j < 0 from h) (by omega)) (fun _ => ?_)
    refine x_lr (z := some y) T_190_19 rfl ?_
    refine x_li (z := j) T_190_20 rfl ?_
    refine x_cv2 T_190_21 mN_130 mL_130 (Nat.le_of_ble_eq_true rfl) mO_130 (hP.o hyo) (Nat.le_of_ble_eq_true rfl) (hmo) ?_
    rintro _ σ ⟨rfl, rfl⟩
    refine cR ?_
    refine x_sr (ls1 := [some (vR (some 129)), some (vR (some y)), some (vI j), some (vR (some cj))]) T_190_24 rfl ?_
    refine x_lr (z := some cj) T_190_25 rfl ?_
    refine x_nul T_190_26 (fun h0 => absurd h0 (by simp)) (fun _ _ => ?_)
    refine x_lr (z := some 129) T_190_29 rfl ?_
    refine x_lr (z := some cj) T_190_30 rfl ?_
    refine x_gI (z := s) T_190_31 (Or.inl F_5_0) (hP.o hco) (Eq.trans (hP.gi hco (key := 2160) rfl) z1) ?_
    refine x_cv2 T_190_34 mN_122 mL_122 (Nat.le_of_ble_eq_true rfl) mO_122 (hP.o xo_129) (Nat.le_of_ble_eq_true rfl) (hho) ?_
    rintro _ σ ⟨rfl, rfl⟩
    refine cR ?_
    refine x_ic T_190_37 ?_
    refine x_lr (z := some 129) T_190_38 rfl ?_
    refine x_ic T_190_39 ?_
    refine x_lr (z := some cj) T_190_41 rfl ?_
    refine x_gI (z := f) T_190_42 (Or.inl F_5_1) (hP.o hco) (Eq.trans (hP.gi hco (key := 2161) rfl) z2) ?_
    refine x_cv3 T_190_45 mN_131 mL_131 (Nat.le_of_ble_eq_true rfl) mO_131 (hP.o xo_129) (Nat.le_of_ble_eq_true rfl) (hab) ?_
    clear hP hab
    rintro _ σ ⟨rfl, V4, hP, hB4, hF4⟩
    refine cR ?_
    refine x_lr (z := some 129) T_190_48 rfl ?_
    refine x_gR (z := some 134) T_190_49 F_1_2 (hP.o xo_129) (hP.rc xo_129 rfl rfl) ?_
    refine x_cv4 T_190_52 mN_26 mL_26 (Nat.le_of_ble_eq_true rfl) mO_26 (hP.o hO) (Nat.le_of_ble_eq_true rfl) (hak σ V4 hP hF4 hB4) ?_
    clear hP hak
    rintro _ σ ⟨rfl, V5, V6, hP, hX5, hB5, hF5⟩
    refine cI ?_
    refine x_popI T_190_55 ?_
    refine x_inc (w := (j + (-1))) (ls1 := [some (vR (some 129)), some (vR (some y)), some (vI (j + (-1))), some (vR (some cj))]) T_190_56 rfl (w32_id (by omega) (by omega)) rfl ?_
    refine x_goto T_190_59 ?_
    exact hgo σ V5 V6 _ hP hX5 (FA_tr (FA_fr hF4) (FA_fs hF5))
theorem x_clunkBack (hP : PX σ0 W R σ) (hX : XM K T U W R B) (hT : T + 200 ≤ 2147483000) (hY : PYO y) (hh6 : h2.length ≤ 6) (hr : ∀ c ∈ h2, chR c) (hL : PTL W R y (nwL P0 fr mk h2 0)) : CL fb (d + 8) 190 [vR (some 129), vR (some y)] σ (fun r σ' => r = none ∧ ∃ W2 R2, PX σ0 W2 R2 σ' ∧ XM K (T + 24) U W2 R2 (kDrops B h2) ∧ FA W W2 R R2) := by
  have hyo := hY.1
  have hcn := hL.1
  rw [nwL_len] at hcn
  have hlo := fun (σ : hM) (hP : PX σ0 W R σ) => cb_loop (fb := fb) (d := d) (σ0 := σ0) (K := K) (U := U) (B := B) (h2 := h2) (ns := nwL P0 fr mk h2 0) (Qf := fun r σ' => r = none ∧ ∃ W2 R2, PX σ0 W2 R2 σ' ∧ XM K (T + 24) U W2 R2 (kDrops B h2) ∧ FA W W2 R R2) hY hh6 hr (nwL_len _ _) (fun i i0 i1 => nwL_sf h2 0 i.toNat (by omega)) h2.length T σ W R none (Nat.le_refl _) (by omega) hP (by rw [List.drop_length]; exact hX) hL (fun σ V2 V4 a1 a2 a3 => ⟨rfl, V2, V4, a1, a2.mono (by omega), a3⟩)
  obtain ⟨nn, hnn⟩ : ∃ q : Int, (h2.length : Int) = q := ⟨_, rfl⟩
  rw [hnn] at hcn
  simp only [hnn] at hlo
  have hnr : 0 ≤ nn ∧ nn ≤ 6 := by omega
  refine CL_in mL_190 rfl ?_
  show WP fb _ 190 0 [some (vR (some 129)), some (vR (some y)), none, none] [] σ _
  refine x_lr (z := some y) T_190_0 rfl ?_
  refine x_nnul T_190_1 (fun _ _ => ?_) (fun h0 => absurd h0 (by simp))
  refine x_lr (z := some y) T_190_8 rfl ?_
  refine x_gI (z := nn) T_190_9 (Or.inl F_4_3) (hP.o hyo) (Eq.trans (hP.gi hyo (key := 2131) rfl) hcn) ?_
  refine x_ic T_190_12 ?_
  refine x_ib (w := (nn - 1)) T_190_13 (fun h => absurd h.1 (by decide)) (w32_id (by omega) (by omega)) ?_
  refine x_si (ls1 := [some (vR (some 129)), some (vR (some y)), some (vI (nn - 1)), none]) T_190_14 rfl ?_
  exact hlo σ hP
end XFK2
