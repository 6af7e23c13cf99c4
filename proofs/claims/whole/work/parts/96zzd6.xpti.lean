/-! The class's points: a member comes. -/
theorem T_179_0 : hTab 179 0 = some ((3, 0, 2, []), 1) := rfl
theorem T_179_1 : hTab 179 1 = some ((24, 4, Int.ofNat 3, []), 4) := rfl
theorem T_179_4 : hTab 179 4 = some ((0, 0, 6, []), 6) := rfl
theorem T_179_6 : hTab 179 6 = some ((19, 3, Int.ofNat 21, []), 9) := rfl
theorem T_179_9 : hTab 179 9 = some ((3, 1, 0, []), 10) := rfl
theorem T_179_10 : hTab 179 10 = some ((18, 2, Int.ofNat 21, []), 13) := rfl
theorem T_179_13 : hTab 179 13 = some ((3, 1, 0, []), 14) := rfl
theorem T_179_14 : hTab 179 14 = some ((3, 0, 2, []), 15) := rfl
theorem T_179_15 : hTab 179 15 = some ((24, 4, Int.ofNat 3, []), 18) := rfl
theorem T_179_18 : hTab 179 18 = some ((19, 5, Int.ofNat 22, []), 21) := rfl
theorem T_179_22 : hTab 179 22 = some ((3, 0, 2, []), 23) := rfl
theorem T_179_23 : hTab 179 23 = some ((24, 4, Int.ofNat 0, []), 26) := rfl
theorem T_179_26 : hTab 179 26 = some ((3, 0, 2, []), 27) := rfl
theorem T_179_27 : hTab 179 27 = some ((24, 4, Int.ofNat 3, []), 30) := rfl
theorem T_179_30 : hTab 179 30 = some ((26, 10, 0, []), 31) := rfl
theorem T_179_31 : hTab 179 31 = some ((4, 5, 2, []), 33) := rfl
theorem T_179_33 : hTab 179 33 = some ((3, 0, 2, []), 34) := rfl
theorem T_179_34 : hTab 179 34 = some ((24, 4, Int.ofNat 3, []), 37) := rfl
theorem T_179_37 : hTab 179 37 = some ((4, 6, 0, []), 39) := rfl
theorem T_179_39 : hTab 179 39 = some ((3, 6, 0, []), 41) := rfl
theorem T_179_41 : hTab 179 41 = some ((3, 1, 0, []), 42) := rfl
theorem T_179_42 : hTab 179 42 = some ((19, 5, Int.ofNat 67, []), 45) := rfl
theorem T_179_45 : hTab 179 45 = some ((3, 0, 2, []), 46) := rfl
theorem T_179_46 : hTab 179 46 = some ((24, 4, Int.ofNat 0, []), 49) := rfl
theorem T_179_49 : hTab 179 49 = some ((3, 6, 0, []), 51) := rfl
theorem T_179_51 : hTab 179 51 = some ((3, 0, 2, []), 52) := rfl
theorem T_179_52 : hTab 179 52 = some ((24, 4, Int.ofNat 0, []), 55) := rfl
theorem T_179_55 : hTab 179 55 = some ((3, 6, 0, []), 57) := rfl
theorem T_179_57 : hTab 179 57 = some ((0, 0, 1, []), 58) := rfl
theorem T_179_58 : hTab 179 58 = some ((10, 1, 0, []), 59) := rfl
theorem T_179_59 : hTab 179 59 = some ((26, 10, 0, []), 60) := rfl
theorem T_179_60 : hTab 179 60 = some ((27, 10, 0, []), 61) := rfl
theorem T_179_61 : hTab 179 61 = some ((5, 6, (-1), []), 64) := rfl
theorem T_179_64 : hTab 179 64 = some ((22, 0, Int.ofNat 39, []), 67) := rfl
theorem T_179_67 : hTab 179 67 = some ((3, 0, 2, []), 68) := rfl
theorem T_179_68 : hTab 179 68 = some ((24, 4, Int.ofNat 0, []), 71) := rfl
theorem T_179_71 : hTab 179 71 = some ((3, 1, 0, []), 72) := rfl
theorem T_179_72 : hTab 179 72 = some ((3, 5, 2, []), 74) := rfl
theorem T_179_74 : hTab 179 74 = some ((27, 10, 0, []), 75) := rfl
theorem T_179_75 : hTab 179 75 = some ((3, 0, 2, []), 76) := rfl
theorem T_179_76 : hTab 179 76 = some ((6, 0, 0, []), 77) := rfl
theorem T_179_77 : hTab 179 77 = some ((24, 4, Int.ofNat 3, []), 80) := rfl
theorem T_179_80 : hTab 179 80 = some ((0, 0, 1, []), 81) := rfl
theorem T_179_81 : hTab 179 81 = some ((10, 0, 0, []), 82) := rfl
theorem T_179_82 : hTab 179 82 = some ((25, 4, Int.ofNat 3, []), 85) := rfl
theorem T_179_85 : hTab 179 85 = some ((3, 5, 2, []), 87) := rfl
theorem T_179_87 : hTab 179 87 = some ((3, 2, 2, []), 88) := rfl
theorem T_179_88 : hTab 179 88 = some ((24, 5, Int.ofNat 0, []), 91) := rfl
theorem T_179_91 : hTab 179 91 = some ((3, 3, 0, []), 92) := rfl
theorem T_179_92 : hTab 179 92 = some ((3, 2, 2, []), 93) := rfl
theorem T_179_93 : hTab 179 93 = some ((24, 5, Int.ofNat 2, []), 96) := rfl
theorem T_179_96 : hTab 179 96 = some ((3, 2, 2, []), 97) := rfl
theorem T_179_97 : hTab 179 97 = some ((24, 5, Int.ofNat 3, []), 100) := rfl
theorem T_179_100 : hTab 179 100 = some ((31, 128, 0, []), 103) := rfl
theorem T_179_103 : hTab 179 103 = some ((3, 5, 2, []), 105) := rfl
theorem T_179_105 : hTab 179 105 = some ((3, 4, 0, []), 107) := rfl
theorem T_179_107 : hTab 179 107 = some ((25, 5, Int.ofNat 5, []), 110) := rfl
theorem T_179_110 : hTab 179 110 = some ((33, 0, 0, []), 111) := rfl
theorem mN_179 : hmN 179 = 5 := by decide +kernel
theorem mL_179 : hmL 179 = 7 := by decide +kernel
theorem mK_179 : hmK 179 = 1 := by decide +kernel
theorem mO_179 : hmO 179 = 4 := by decide +kernel
def NWC (W : qR) (c : Nat) (x : Nw) : Prop := W c 2160 = x.1 ∧ W c 2161 = x.2.1 ∧ W c 2162 = x.2.2.1 ∧ W c 2163 = (if x.2.2.2.1 = 128 then 1 else 0) ∧ W c 2165 = x.2.2.2.2
/-- a point's object holds these members -/
def PTL (W : qR) (R : rR) (y : Nat) (ns : List Nw) : Prop := W y 2131 = (ns.length : Int) ∧ ARP R (y + 1) 6 (y + 2) 1 ∧ ∀ j : Int, 0 ≤ j → j < ns.length → ∃ c : Nat, R (y + 1) j = some c ∧ NWC W c (ns.getD j.toNat nw0)
/-- what is fixed of a point's object -/
def PYO (y : Nat) : Prop := tX y = some (Sum.inl 4) ∧ isA (y + 1) 15 6 ∧ (229 ≤ y ∧ y + 8 < 1293) ∧ ∀ i, i < 6 → tX (y + 2 + i) = some (Sum.inl 5)
/-- only a point's members and how many they are change -/
def PTF (y : Nat) (W W2 : qR) (R R2 : rR) : Prop := (∀ (x : Nat) (k : Int), ¬ (y ≤ x ∧ x < y + 8) → W2 x k = W x k) ∧ (∀ k : Int, k ≠ 2131 → W2 y k = W y k) ∧ (∀ x : Nat, W2 x 2198 = W x 2198) ∧ (∀ (x : Nat) (k : Int), ¬ (y + 1 ≤ x ∧ x < y + 8) → R2 x k = R x k) ∧ ∀ x : Nat, R2 x 2267 = R x 2267
def insL (ns : List Nw) (j : Int) (x : Nw) : List Nw := ns.take j.toNat ++ x :: ns.drop j.toNat
section XPTI
variable {fb : Bool} {d y a b : Nat} {σ0 σ : hM} {W W1 W2 : qR} {R R1 R2 : rR} {i j k s f pa dr g mk C : Int} {ns : List Nw} {x : Nw}
theorem PYO_of (hg : 0 ≤ g ∧ g < 8) {i : Nat} (hi : i < 8) : PYO (grO g + 2 + 8 * i) := by
  have := grO_rng hg
  refine ⟨ptO_o hg hi, ?_, by omega, fun m hm => ?_⟩
  · rw [show grO g + 2 + 8 * i + 1 = grO g + 3 + 8 * i by omega]
    exact ptO_a hg hi
  · rw [show grO g + 2 + 8 * i + 2 + m = grO g + 4 + 8 * i + m by omega]
    exact mbO_o hg hi hm
theorem PTF_rfl : PTF y W W R R := ⟨fun _ _ _ => rfl, fun _ _ => rfl, fun _ => rfl, fun _ _ _ => rfl, fun _ => rfl⟩
theorem PTF_tr (h1 : PTF y W W1 R R1) (h2 : PTF y W1 W2 R1 R2) : PTF y W W2 R R2 := ⟨fun x k h => (h2.1 x k h).trans (h1.1 x k h), fun k h => (h2.2.1 k h).trans (h1.2.1 k h), fun x => (h2.2.2.1 x).trans (h1.2.2.1 x), fun x k h => (h2.2.2.2.1 x k h).trans (h1.2.2.2.1 x k h), fun x => (h2.2.2.2.2 x).trans (h1.2.2.2.2 x)⟩
theorem insL_len (hj : 0 ≤ j ∧ j ≤ (ns.length : Int)) : ((insL ns j x).length : Int) = ns.length + 1 := by
  unfold insL
  rw [List.length_append, List.length_take, List.length_cons, List.length_drop]
  omega
theorem insL_get (hj : 0 ≤ j ∧ j ≤ (ns.length : Int)) (hk : 0 ≤ k) : (insL ns j x).getD k.toNat nw0 = if k < j then ns.getD k.toNat nw0 else if k = j then x else ns.getD (k - 1).toNat nw0 := by
  unfold insL
  have hl : (ns.take j.toNat).length = j.toNat := by rw [List.length_take]; omega
  simp only [List.getD_eq_getElem?_getD]
  by_cases q1 : k < j
  · rw [if_pos q1, List.getElem?_append_left (by omega), List.getElem?_take, if_pos (by omega)]
  · rw [if_neg q1, List.getElem?_append_right (by omega), hl]
    by_cases q2 : k = j
    · rw [if_pos q2, q2, Nat.sub_self]
      rfl
    · rw [if_neg q2, show k.toNat - j.toNat = (k - 1 - j).toNat + 1 by omega, List.getElem?_cons_succ, List.getElem?_drop, show j.toNat + (k - 1 - j).toNat = (k - 1).toNat by omega]
theorem pins_loop (hY : PYO y) (hA : ARP R (y + 1) 6 (y + 2) 1) (hC : C < 6) (hj : 0 ≤ j) {r : Option Nat} {Q : Option AV → hM → Prop} (hQ : ∀ σ : hM, PX σ0 W (dnR R y j C) σ → WP fb d 179 67 [some (vR (some y)), some (vI j), some (vR (some a)), some (vI f), some (vI mk), some (vR r), some (vI j)] [] σ Q) : ∀ (m : Nat) (i : Int) (σ : hM), i = j + m → i ≤ C → PX σ0 W (dnR R y i C) σ → WP fb d 179 39 [some (vR (some y)), some (vI j), some (vR (some a)), some (vI f), some (vI mk), some (vR r), some (vI i)] [] σ Q := by
  obtain ⟨h1, h2, h3, h4⟩ := hY
  have hmu := mut_pt (a := y + 1) (by omega)
  intro m
  induction m with
  | zero =>
    intro i σ e1 e2 hP
    have hi : i = j := by omega
    subst hi
    have hgo := hQ σ hP
    refine x_li (z := i) T_179_39 rfl ?_
    refine x_li (z := i) T_179_41 rfl ?_
    refine x_ic2 T_179_42 (fun _ => ?_) (fun h => absurd (show i ≤ i by omega) h)
    exact hgo
  | succ m ih =>
    intro i σ e1 e2 hP
    have hgo := fun (σ : hM) => ih (i - 1) σ (by omega) (by omega)
    obtain ⟨t, ht, hni⟩ := hA.1 (i - 1) (by omega) (by omega)
    have hno := h4 t ht
    rw [Nat.one_mul] at hni
    have hn := (dnR_at (R := R) (S := y) (i := i) (C := C)).trans hni
    have hst := dnR_step (R := R) (S := y) e2
    rw [hni] at hst
    obtain ⟨na, hna⟩ : ∃ na, y + 2 + t = na := ⟨_, rfl⟩
    rw [hna] at hn hno hst
    have hgo := fun (σ : hM) (hP : PX σ0 W (oU (dnR R y i C) (y + 1) i (some na)) σ) => hgo σ (by rw [← hst]; exact hP)
    refine x_li (z := i) T_179_39 rfl ?_
    refine x_li (z := j) T_179_41 rfl ?_
    refine x_ic2 T_179_42 (fun h => absurd (show i ≤ j from h) (by omega)) (fun _ => ?_)
    refine x_lr (z := some y) T_179_45 rfl ?_
    refine x_gR (z := some (y + 1)) T_179_46 F_4_0 (hP.o h1) (hP.rc h1 rfl rfl) ?_
    refine x_li (z := i) T_179_49 rfl ?_
    refine x_lr (z := some y) T_179_51 rfl ?_
    refine x_gR (z := some (y + 1)) T_179_52 F_4_0 (hP.o h1) (hP.rc h1 rfl rfl) ?_
    refine x_li (z := i) T_179_55 rfl ?_
    refine x_ic T_179_57 ?_
    refine x_ib (w := (i - 1)) T_179_58 (fun h => absurd h.1 (by decide)) (w32_id (by omega) (by omega)) ?_
    refine x_alR (z := some na) T_179_59 (hP.ta h2) (by decide) (by omega) (by omega) (Eq.trans (hP.arm h2 hmu (by omega)) hn) ?_
    refine z_aR hP T_179_60 (by decide) (fun _ e => by cases e; exact hno) hmu h2 (by omega) (by omega) (fun σ hP => ?_)
    refine x_inc (w := (i + (-1))) (ls1 := [some (vR (some y)), some (vI j), some (vR (some a)), some (vI f), some (vI mk), some (vR r), some (vI (i + (-1)))]) T_179_61 rfl (w32_id (by omega) (by omega)) rfl ?_
    refine x_goto T_179_64 ?_
    rw [show i + (-1) = i - 1 by omega]
    exact hgo σ hP
theorem x_insertP (hP : PX σ0 W R σ) (hY : PYO y) (h : PTL W R y ns) (hn : ns.length < 6) (hj : 0 ≤ j ∧ j ≤ (ns.length : Int)) (ha : tX a = some (Sum.inl 5)) (hao : ¬ (y ≤ a ∧ a < y + 8)) (g0 : W a 2160 = x.1) (gf : x.2.1 = f) (g2 : W a 2162 = x.2.2.1) (g3 : W a 2163 = if x.2.2.2.1 = 128 then 1 else 0) (gm : x.2.2.2.2 = mk) (hmk : mk = 0 ∨ mk = 1) : CL fb (d + 1) 179 [vR (some y), vI j, vR (some a), vI f, vI mk] σ (fun r σ' => r = none ∧ ∃ W2 R2, PX σ0 W2 R2 σ' ∧ PTL W2 R2 y (insL ns j x) ∧ PTF y W W2 R R2) := by
  obtain ⟨C, hC⟩ : ∃ C : Int, (ns.length : Int) = C := ⟨_, rfl⟩
  obtain ⟨s, f2, pa, kd, mk2⟩ := x
  have gf : f2 = f := gf
  have gm : mk2 = mk := gm
  subst gf
  subst gm
  obtain ⟨dr, hdr⟩ : ∃ z : Int, (if kd = 128 then 1 else 0) = z := ⟨_, rfl⟩
  have hdr2 : dr = 0 ∨ dr = 1 := by rw [← hdr]; split <;> decide
  have g0 : W a 2160 = s := g0
  have g2 : W a 2162 = pa := g2
  have g3 : W a 2163 = dr := g3.trans hdr
  obtain ⟨p1, p2, p3⟩ := h
  rw [hC] at p1
  rw [hC] at hj
  obtain ⟨h1, h2, h3, h4⟩ := id hY
  have hmu := mut_pt (a := y + 1) (by omega)
  obtain ⟨tb, htb, hnb⟩ := p2.1 C (by omega) (by omega)
  rw [Nat.one_mul] at hnb
  have hbo := h4 tb htb
  obtain ⟨b, hb⟩ : ∃ b, y + 2 + tb = b := ⟨_, rfl⟩
  have hb1 : y + 2 ≤ b ∧ b < y + 8 := by omega
  rw [hb] at hnb hbo
  have hbe := fun (σ : hM) (hP : PX σ0 (rU W y 2131 (C + 1)) (oU (dnR R y j C) (y + 1) j (some b)) σ) => x_become (fb := fb) (d := d) (s := s) (f2 := f2) (p := pa) (e := dr) hP hbo hdr2
  have hfin : ∀ W2 R2, W2 = rU (chW (rU W y 2131 (C + 1)) b s f2 pa dr) b 2165 mk2 → R2 = oU (oU (dnR R y j C) (y + 1) j (some b)) b 2164 none → PTL W2 R2 y (insL ns j (s, f2, pa, kd, mk2)) ∧ PTF y W W2 R R2 := fun W2 R2 e1 e2 => by
    have hW : ∀ (x : Nat) (k : Int), x ≠ b → ¬ (x = y ∧ k = 2131) → W2 x k = W x k := fun x k hx hy => by
      rw [e1]
      unfold chW
      rw [rU_f hx, rU_f hx, rU_f hx, rU_f hx, rU_f hx, rU_f hx, rU_f hx, rU_f hx]
      exact if_neg hy
    have hRr : ∀ k : Int, R2 (y + 1) k = if k = j then some b else if j < k ∧ k ≤ C then R (y + 1) (k - 1) else R (y + 1) k := fun k => by
      rw [e2]
      have e3 : oU (oU (dnR R y j C) (y + 1) j (some b)) b 2164 none (y + 1) k = oU (dnR R y j C) (y + 1) j (some b) (y + 1) k := if_neg (fun c => by omega)
      rw [e3]
      by_cases q : k = j
      · rw [if_pos q]
        exact if_pos ⟨rfl, q⟩
      · rw [if_neg q]
        have e4 : oU (dnR R y j C) (y + 1) j (some b) (y + 1) k = dnR R y j C (y + 1) k := if_neg (fun c => q c.2)
        rw [e4]
        unfold dnR
        by_cases q2 : j < k ∧ k ≤ C
        · rw [if_pos ⟨rfl, q2⟩, if_pos q2]
        · rw [if_neg (fun c => q2 c.2), if_neg q2]
    have hWb : NWC W2 b (s, f2, pa, kd, mk2) := by
      rw [e1]
      exact ⟨(rU_k (by decide)).trans chW_at.1, (rU_k (by decide)).trans chW_at.2.1, (rU_k (by decide)).trans chW_at.2.2.1, (rU_k (by decide)).trans (chW_at.2.2.2.1.trans hdr.symm), rU_s⟩
    refine ⟨⟨?_, ⟨fun k k0 k1 => ?_, fun k i k0 k1 i0 i1 e => ?_⟩, fun k k0 k1 => ?_⟩, fun x k hx => hW x k (by omega) (by omega), fun k hk => hW y k (by omega) (fun c => hk c.2), fun x => ?_, fun x k hx => ?_, fun x => ?_⟩
    · rw [insL_len (by rw [hC]; exact hj), hC, e1]
      unfold chW
      have hyb : y ≠ b := by omega
      rw [rU_f hyb, rU_f hyb, rU_f hyb, rU_f hyb, rU_f hyb, rU_f hyb, rU_f hyb, rU_f hyb]
      exact rU_s
    · rw [hRr]
      split
      · exact ⟨tb, htb, by rw [Nat.one_mul, hb]⟩
      · split
        · exact p2.1 (k - 1) (by omega) (by omega)
        · exact p2.1 k k0 k1
    · rw [hRr, hRr] at e
      have inj := p2.2
      have hnn : ∀ z : Int, 0 ≤ z → z < 6 → R (y + 1) z = some b → z = C := fun z z0 z1 h => inj z C z0 (by omega) (by omega) (by omega) (h.trans hnb.symm)
      by_cases a1 : k = j
      · rw [if_pos a1] at e
        by_cases a2 : i = j
        · omega
        · rw [if_neg a2] at e
          by_cases a3 : j < i ∧ i ≤ C
          · rw [if_pos a3] at e
            have := hnn (i - 1) (by omega) (by omega) e.symm
            omega
          · rw [if_neg a3] at e
            have := hnn i i0 (by omega) e.symm
            omega
      · rw [if_neg a1] at e
        by_cases a2 : i = j
        · rw [if_pos a2] at e
          by_cases a3 : j < k ∧ k ≤ C
          · rw [if_pos a3] at e
            have := hnn (k - 1) (by omega) (by omega) e
            omega
          · rw [if_neg a3] at e
            have := hnn k k0 (by omega) e
            omega
        · rw [if_neg a2] at e
          by_cases a3 : j < k ∧ k ≤ C
          · rw [if_pos a3] at e
            by_cases a4 : j < i ∧ i ≤ C
            · rw [if_pos a4] at e
              have := inj (k - 1) (i - 1) (by omega) (by omega) (by omega) (by omega) e
              omega
            · rw [if_neg a4] at e
              have := inj (k - 1) i (by omega) (by omega) i0 (by omega) e
              omega
          · rw [if_neg a3] at e
            by_cases a4 : j < i ∧ i ≤ C
            · rw [if_pos a4] at e
              have := inj k (i - 1) k0 (by omega) (by omega) (by omega) e
              omega
            · rw [if_neg a4] at e
              exact inj k i k0 (by omega) i0 (by omega) e
    · rw [insL_len (by rw [hC]; exact hj), hC] at k1
      have hold : ∀ z : Int, 0 ≤ z → z < C → ∃ c : Nat, R (y + 1) z = some c ∧ NWC W2 c (ns.getD z.toNat nw0) := fun z z0 z1 => by
        obtain ⟨c, c1, m1, m2, m3, m4, m5⟩ := p3 z z0 (by omega)
        obtain ⟨t, ht, hni⟩ := p2.1 z z0 (by omega)
        have hcy : c = y + 2 + 1 * t := Option.some.inj (c1.symm.trans hni)
        have hcb : c ≠ b := fun e => by
          have := p2.2 z C z0 (by omega) (by omega) (by omega) (c1.trans (by rw [e]; exact hnb.symm))
          omega
        refine ⟨c, c1, ?_⟩
        unfold NWC
        rw [hW c _ hcb (by omega), hW c _ hcb (by omega), hW c _ hcb (by omega), hW c _ hcb (by omega), hW c _ hcb (by omega)]
        exact ⟨m1, m2, m3, m4, m5⟩
      rw [hRr, insL_get (by rw [hC]; exact hj) k0]
      by_cases q1 : k = j
      · rw [if_pos q1, if_neg (by omega), if_pos q1]
        exact ⟨b, rfl, hWb⟩
      · rw [if_neg q1]
        by_cases q2 : k < j
        · rw [if_neg (fun c => by omega), if_pos q2]
          exact hold k k0 (by omega)
        · rw [if_pos ⟨by omega, by omega⟩, if_neg q2, if_neg q1]
          exact hold (k - 1) (by omega) (by omega)
    · rw [e1]
      unfold chW
      rw [rU_j (by decide), rU_j (by decide), rU_j (by decide), rU_j (by decide), rU_j (by decide), rU_j (by decide), rU_j (by decide), rU_j (by decide), rU_j (by decide)]
    · rw [e2]
      refine (if_neg (fun c => by omega)).trans ((if_neg (fun c => by omega)).trans (if_neg (fun c => by omega)))
    · rw [e2]
      refine (if_neg (fun c => by omega)).trans ((if_neg (fun c => by omega)).trans (if_neg (fun c => by omega)))
  have h67 : ∀ σ : hM, PX σ0 W (dnR R y j C) σ → WP fb (d + 1) 179 67 [some (vR (some y)), some (vI j), some (vR (some a)), some (vI f2), some (vI mk2), some (vR (some b)), some (vI j)] [] σ (fun r σ' => r = none ∧ ∃ W2 R2, PX σ0 W2 R2 σ' ∧ PTL W2 R2 y (insL ns j (s, f2, pa, kd, mk2)) ∧ PTF y W W2 R R2) := fun σ hP => by
    refine x_lr (z := some y) T_179_67 rfl ?_
    refine x_gR (z := some (y + 1)) T_179_68 F_4_0 (hP.o h1) (hP.rc h1 rfl rfl) ?_
    refine x_li (z := j) T_179_71 rfl ?_
    refine x_lr (z := some b) T_179_72 rfl ?_
    refine z_aR hP T_179_74 (by decide) (fun _ e => by cases e; exact hbo) hmu h2 (by omega) (by omega) (fun σ hP => ?_)
    refine x_lr (z := some y) T_179_75 rfl ?_
    refine x_dupR T_179_76 ?_
    refine x_gI (z := C) T_179_77 (Or.inl F_4_3) (hP.o h1) (Eq.trans (hP.gi h1 (key := 2131) rfl) p1) ?_
    refine x_ic T_179_80 ?_
    refine x_ib (w := (C + 1)) T_179_81 (fun h => absurd h.1 (by decide)) (w32_id (by omega) (by omega)) ?_
    refine z_pI hP T_179_82 F_4_3 h1 (key := 2131) rfl (fun σ hP => ?_)
    refine x_lr (z := some b) T_179_85 rfl ?_
    refine x_lr (z := some a) T_179_87 rfl ?_
    refine x_gI (z := s) T_179_88 (Or.inl F_5_0) (hP.o ha) (Eq.trans (Eq.trans (hP.gi ha (key := 2160) rfl) (rU_j (by decide))) g0) ?_
    refine x_li (z := f2) T_179_91 rfl ?_
    refine x_lr (z := some a) T_179_92 rfl ?_
    refine x_gI (z := pa) T_179_93 (Or.inl F_5_2) (hP.o ha) (Eq.trans (Eq.trans (hP.gi ha (key := 2162) rfl) (rU_j (by decide))) g2) ?_
    refine x_lr (z := some a) T_179_96 rfl ?_
    refine x_gI (z := dr) T_179_97 (Or.inr (Or.inl F_5_3)) (hP.o ha) (Eq.trans (Eq.trans (hP.gi ha (key := 2163) rfl) (rU_j (by decide))) g3) ?_
    refine x_cv5 T_179_100 mN_128 mL_128 (Nat.le_of_ble_eq_true rfl) mO_128 (hP.o hbo) (Nat.le_of_ble_eq_true rfl) (hbe σ hP) ?_
    clear hP hbe
    rintro _ σ ⟨rfl, hP⟩
    refine cV ?_
    refine x_lr (z := some b) T_179_103 rfl ?_
    refine x_li (z := mk2) T_179_105 rfl ?_
    refine z_pZ hP T_179_107 F_5_5 (h01_of (by omega)) hbo (key := 2165) rfl (fun σ hP => ?_)
    refine x_rv T_179_110 ?_
    exact ⟨rfl, _, _, hP, hfin _ _ rfl rfl⟩
  have hlo := pins_loop (fb := fb) (d := d + 1) (σ0 := σ0) (W := W) (a := a) (f := f2) (mk := mk2) (r := some b) hY p2 (show C < 6 by omega) hj.1 h67 (C - j).toNat C σ (by omega) (Int.le_refl C) (by rw [dnR_C]; exact hP)
  refine CL_in mL_179 rfl ?_
  show WP fb _ 179 0 [some (vR (some y)), some (vI j), some (vR (some a)), some (vI f2), some (vI mk2), none, none] [] σ _
  refine x_lr (z := some y) T_179_0 rfl ?_
  refine x_gI (z := C) T_179_1 (Or.inl F_4_3) (hP.o h1) (Eq.trans (hP.gi h1 (key := 2131) rfl) p1) ?_
  refine x_ic T_179_4 ?_
  refine x_ic2 T_179_6 (fun h => absurd (show 6 ≤ C from h) (by omega)) (fun _ => ?_)
  refine x_li (z := j) T_179_9 rfl ?_
  refine x_if T_179_10 (fun h => absurd (show j < 0 from h) (by omega)) (fun _ => ?_)
  refine x_li (z := j) T_179_13 rfl ?_
  refine x_lr (z := some y) T_179_14 rfl ?_
  refine x_gI (z := C) T_179_15 (Or.inl F_4_3) (hP.o h1) (Eq.trans (hP.gi h1 (key := 2131) rfl) p1) ?_
  refine x_ic2 T_179_18 (fun _ => ?_) (fun h => absurd (show j ≤ C by omega) h)
  refine x_lr (z := some y) T_179_22 rfl ?_
  refine x_gR (z := some (y + 1)) T_179_23 F_4_0 (hP.o h1) (hP.rc h1 rfl rfl) ?_
  refine x_lr (z := some y) T_179_26 rfl ?_
  refine x_gI (z := C) T_179_27 (Or.inl F_4_3) (hP.o h1) (Eq.trans (hP.gi h1 (key := 2131) rfl) p1) ?_
  refine x_alR (z := some b) T_179_30 (hP.ta h2) (by decide) (by omega) (by omega) (Eq.trans (hP.arm h2 hmu (by omega)) hnb) ?_
  refine x_sr (ls1 := [some (vR (some y)), some (vI j), some (vR (some a)), some (vI f2), some (vI mk2), some (vR (some b)), none]) T_179_31 rfl ?_
  refine x_lr (z := some y) T_179_33 rfl ?_
  refine x_gI (z := C) T_179_34 (Or.inl F_4_3) (hP.o h1) (Eq.trans (hP.gi h1 (key := 2131) rfl) p1) ?_
  refine x_si (ls1 := [some (vR (some y)), some (vI j), some (vR (some a)), some (vI f2), some (vI mk2), some (vR (some b)), some (vI C)]) T_179_37 rfl ?_
  exact hlo
end XPTI
