/-! The class's commands: may it be bound; what is to be bound. -/
theorem T_175_0 : hTab 175 0 = some ((3, 0, 2, []), 1) := rfl
theorem T_175_1 : hTab 175 1 = some ((24, 14, Int.ofNat 2, []), 4) := rfl
theorem T_175_4 : hTab 175 4 = some ((24, 5, Int.ofNat 3, []), 7) := rfl
theorem T_175_7 : hTab 175 7 = some ((3, 0, 2, []), 8) := rfl
theorem T_175_8 : hTab 175 8 = some ((24, 14, Int.ofNat 3, []), 11) := rfl
theorem T_175_11 : hTab 175 11 = some ((24, 5, Int.ofNat 3, []), 14) := rfl
theorem T_175_14 : hTab 175 14 = some ((19, 1, Int.ofNat 32, []), 17) := rfl
theorem T_175_17 : hTab 175 17 = some ((3, 0, 2, []), 18) := rfl
theorem T_175_18 : hTab 175 18 = some ((24, 14, Int.ofNat 2, []), 21) := rfl
theorem T_175_21 : hTab 175 21 = some ((24, 5, Int.ofNat 3, []), 24) := rfl
theorem T_175_24 : hTab 175 24 = some ((18, 1, Int.ofNat 35, []), 27) := rfl
theorem T_175_27 : hTab 175 27 = some ((3, 4, 0, []), 29) := rfl
theorem T_175_29 : hTab 175 29 = some ((18, 0, Int.ofNat 35, []), 32) := rfl
theorem T_175_32 : hTab 175 32 = some ((0, 0, 16, []), 34) := rfl
theorem T_175_34 : hTab 175 34 = some ((33, 1, 0, []), 35) := rfl
theorem T_175_35 : hTab 175 35 = some ((3, 4, 0, []), 37) := rfl
theorem T_175_37 : hTab 175 37 = some ((0, 0, 3, []), 38) := rfl
theorem T_175_38 : hTab 175 38 = some ((10, 5, 0, []), 39) := rfl
theorem T_175_39 : hTab 175 39 = some ((18, 0, Int.ofNat 46, []), 42) := rfl
theorem T_175_42 : hTab 175 42 = some ((0, 0, 1, []), 43) := rfl
theorem T_175_43 : hTab 175 43 = some ((22, 0, Int.ofNat 47, []), 46) := rfl
theorem T_175_46 : hTab 175 46 = some ((0, 0, 0, []), 47) := rfl
theorem T_175_47 : hTab 175 47 = some ((4, 5, 0, []), 49) := rfl
theorem T_175_49 : hTab 175 49 = some ((3, 5, 0, []), 51) := rfl
theorem T_175_51 : hTab 175 51 = some ((18, 1, Int.ofNat 58, []), 54) := rfl
theorem T_175_54 : hTab 175 54 = some ((0, 0, 0, []), 55) := rfl
theorem T_175_55 : hTab 175 55 = some ((22, 0, Int.ofNat 70, []), 58) := rfl
theorem T_175_58 : hTab 175 58 = some ((3, 2, 2, []), 59) := rfl
theorem T_175_59 : hTab 175 59 = some ((20, 1, Int.ofNat 66, []), 62) := rfl
theorem T_175_62 : hTab 175 62 = some ((0, 0, 1, []), 63) := rfl
theorem T_175_63 : hTab 175 63 = some ((22, 0, Int.ofNat 70, []), 66) := rfl
theorem T_175_66 : hTab 175 66 = some ((3, 2, 2, []), 67) := rfl
theorem T_175_67 : hTab 175 67 = some ((24, 4, Int.ofNat 3, []), 70) := rfl
theorem T_175_70 : hTab 175 70 = some ((4, 6, 0, []), 72) := rfl
theorem T_175_72 : hTab 175 72 = some ((3, 6, 0, []), 74) := rfl
theorem T_175_74 : hTab 175 74 = some ((3, 3, 2, []), 75) := rfl
theorem T_175_75 : hTab 175 75 = some ((20, 1, Int.ofNat 82, []), 78) := rfl
theorem T_175_78 : hTab 175 78 = some ((0, 0, 1, []), 79) := rfl
theorem T_175_79 : hTab 175 79 = some ((22, 0, Int.ofNat 86, []), 82) := rfl
theorem T_175_82 : hTab 175 82 = some ((3, 3, 2, []), 83) := rfl
theorem T_175_83 : hTab 175 83 = some ((24, 4, Int.ofNat 3, []), 86) := rfl
theorem T_175_86 : hTab 175 86 = some ((10, 0, 0, []), 87) := rfl
theorem T_175_87 : hTab 175 87 = some ((4, 7, 0, []), 89) := rfl
theorem T_175_89 : hTab 175 89 = some ((3, 7, 0, []), 91) := rfl
theorem T_175_91 : hTab 175 91 = some ((0, 0, 6, []), 93) := rfl
theorem T_175_93 : hTab 175 93 = some ((19, 4, Int.ofNat 109, []), 96) := rfl
theorem T_175_96 : hTab 175 96 = some ((3, 2, 2, []), 97) := rfl
theorem T_175_97 : hTab 175 97 = some ((20, 1, Int.ofNat 114, []), 100) := rfl
theorem T_175_100 : hTab 175 100 = some ((3, 1, 2, []), 101) := rfl
theorem T_175_101 : hTab 175 101 = some ((24, 3, Int.ofNat 1, []), 104) := rfl
theorem T_175_104 : hTab 175 104 = some ((0, 0, 8, []), 106) := rfl
theorem T_175_106 : hTab 175 106 = some ((19, 2, Int.ofNat 114, []), 109) := rfl
theorem T_175_109 : hTab 175 109 = some ((0, 0, 20, []), 111) := rfl
theorem T_175_111 : hTab 175 111 = some ((22, 0, Int.ofNat 115, []), 114) := rfl
theorem T_175_114 : hTab 175 114 = some ((0, 0, 0, []), 115) := rfl
theorem T_175_115 : hTab 175 115 = some ((33, 1, 0, []), 116) := rfl
theorem T_176_0 : hTab 176 0 = some ((3, 0, 2, []), 1) := rfl
theorem T_176_1 : hTab 176 1 = some ((0, 0, 0, []), 2) := rfl
theorem T_176_2 : hTab 176 2 = some ((25, 14, Int.ofNat 5, []), 5) := rfl
theorem T_176_5 : hTab 176 5 = some ((3, 1, 2, []), 6) := rfl
theorem T_176_6 : hTab 176 6 = some ((20, 1, Int.ofNat 63, []), 9) := rfl
theorem T_176_9 : hTab 176 9 = some ((3, 0, 2, []), 10) := rfl
theorem T_176_10 : hTab 176 10 = some ((24, 14, Int.ofNat 4, []), 13) := rfl
theorem T_176_13 : hTab 176 13 = some ((0, 0, 0, []), 14) := rfl
theorem T_176_14 : hTab 176 14 = some ((26, 10, 0, []), 15) := rfl
theorem T_176_15 : hTab 176 15 = some ((3, 0, 2, []), 16) := rfl
theorem T_176_16 : hTab 176 16 = some ((24, 14, Int.ofNat 2, []), 19) := rfl
theorem T_176_19 : hTab 176 19 = some ((24, 5, Int.ofNat 0, []), 22) := rfl
theorem T_176_22 : hTab 176 22 = some ((3, 0, 2, []), 23) := rfl
theorem T_176_23 : hTab 176 23 = some ((24, 14, Int.ofNat 2, []), 26) := rfl
theorem T_176_26 : hTab 176 26 = some ((24, 5, Int.ofNat 1, []), 29) := rfl
theorem T_176_29 : hTab 176 29 = some ((3, 0, 2, []), 30) := rfl
theorem T_176_30 : hTab 176 30 = some ((24, 14, Int.ofNat 2, []), 33) := rfl
theorem T_176_33 : hTab 176 33 = some ((24, 5, Int.ofNat 2, []), 36) := rfl
theorem T_176_36 : hTab 176 36 = some ((3, 0, 2, []), 37) := rfl
theorem T_176_37 : hTab 176 37 = some ((24, 14, Int.ofNat 2, []), 40) := rfl
theorem T_176_40 : hTab 176 40 = some ((24, 5, Int.ofNat 3, []), 43) := rfl
theorem T_176_43 : hTab 176 43 = some ((31, 128, 0, []), 46) := rfl
theorem T_176_46 : hTab 176 46 = some ((3, 0, 2, []), 47) := rfl
theorem T_176_47 : hTab 176 47 = some ((24, 14, Int.ofNat 4, []), 50) := rfl
theorem T_176_50 : hTab 176 50 = some ((0, 0, 0, []), 51) := rfl
theorem T_176_51 : hTab 176 51 = some ((26, 10, 0, []), 52) := rfl
theorem T_176_52 : hTab 176 52 = some ((3, 2, 0, []), 53) := rfl
theorem T_176_53 : hTab 176 53 = some ((25, 5, Int.ofNat 5, []), 56) := rfl
theorem T_176_56 : hTab 176 56 = some ((3, 0, 2, []), 57) := rfl
theorem T_176_57 : hTab 176 57 = some ((0, 0, 1, []), 58) := rfl
theorem T_176_58 : hTab 176 58 = some ((25, 14, Int.ofNat 5, []), 61) := rfl
theorem T_176_61 : hTab 176 61 = some ((0, 0, 0, []), 62) := rfl
theorem T_176_62 : hTab 176 62 = some ((33, 1, 0, []), 63) := rfl
theorem F_14_4 : (hFd 14 4).2.2.1 = 4 := rfl
theorem F_14_5 : (hFd 14 5).2.2.1 = 0 := rfl
theorem mN_175 : hmN 175 = 5 := by decide +kernel
theorem mL_175 : hmL 175 = 8 := by decide +kernel
theorem mK_175 : hmK 175 = 1 := by decide +kernel
theorem mO_175 : hmO 175 = 14 := by decide +kernel
theorem mN_176 : hmN 176 = 3 := by decide +kernel
theorem mL_176 : hmL 176 = 6 := by decide +kernel
theorem mK_176 : hmK 176 = 1 := by decide +kernel
theorem mO_176 : hmO 176 = 14 := by decide +kernel
/-- what is to be bound stands in these channels -/
def CPS (W : qR) (ns : List Nw) : Prop := W 2175 2453 = (ns.length : Int) ∧ ∀ j : Int, 0 ≤ j → j < ns.length → NWC W (2181 + j.toNat) (ns.getD j.toNat nw0)
/-- what gathering leaves -/
def FGA (W W2 : qR) (R R2 : rR) : Prop := (∀ (x : Nat) (k : Int), ((229 ≤ x ∧ x < 1293) ∨ (2175 ≤ x ∧ x < 2372)) → ¬ (2181 ≤ x ∧ x < 2187) → ¬ (x = 2175 ∧ k = 2453) → k ≠ 2198 → W2 x k = W x k) ∧ ∀ (x : Nat) (k : Int), ((229 ≤ x ∧ x < 1293) ∨ 2175 ≤ x) → ¬ (2181 ≤ x ∧ x < 2187) → R2 x k = R x k
section XBND
variable {fb : Bool} {d b c n a0 y0 ga : Nat} {σ0 σ : hM} {W W1 W2 V P P0 Q : qR} {R R1 R2 V3 : rR} {i j k x z v s e w f g u p pt pa sv K T U t N C d1 d2 F v3 th mm n1 n2 fr mk : Int} {l l0 lo nm M A wd : List Int} {c1 c2 ch : Ch} {kk : Nat} {y1 y2 : Option Nat} {h h0 : List Ch} {x5 : Option AV}
theorem pr_89 (hP : PX σ0 W R σ) (hga : tX ga = some (Sum.inl 3)) (hC : W ga 2097 = C) : WP fb d 175 89 [some (vR (some 2175)), some (vR (some ga)), some (vR y2), some (vR y1), some (vI F), some (vI v), some (vI th), some (vI mm)] [] σ (rP (if 6 < mm ∨ (y2 = none ∧ 8 ≤ C) then 20 else 0) σ) := by
  by_cases q : 6 < mm
  · rw [if_pos (Or.inl q)]
    refine x_li (z := mm) T_175_89 rfl ?_
    refine x_ic T_175_91 ?_
    refine x_ic2 T_175_93 (fun _ => ?_) (fun h => absurd (show 6 < mm by omega) h)
    refine x_ic T_175_109 ?_
    refine x_goto T_175_111 ?_
    refine x_ri T_175_115 ?_
    exact ⟨rfl, rfl⟩
  · rcases y2 with _ | y
    · by_cases q2 : 8 ≤ C
      · rw [if_pos (Or.inr ⟨rfl, q2⟩)]
        refine x_li (z := mm) T_175_89 rfl ?_
        refine x_ic T_175_91 ?_
        refine x_ic2 T_175_93 (fun h => absurd (show 6 < mm from h) (by omega)) (fun _ => ?_)
        refine x_lr (z := none) T_175_96 rfl ?_
        refine x_nnul T_175_97 (fun a0 h0 => absurd h0 (by simp)) (fun _ => ?_)
        refine x_lr (z := some ga) T_175_100 rfl ?_
        refine x_gI (z := C) T_175_101 (Or.inl F_3_1) (hP.o hga) (Eq.trans (hP.gi hga (key := 2097) rfl) hC) ?_
        refine x_ic T_175_104 ?_
        refine x_ic2 T_175_106 (fun h => absurd (show C < 8 from h) (by omega)) (fun _ => ?_)
        refine x_ic T_175_109 ?_
        refine x_goto T_175_111 ?_
        refine x_ri T_175_115 ?_
        exact ⟨rfl, rfl⟩
      · rw [if_neg (fun c => by rcases c with c | c; exact q c; exact q2 c.2)]
        refine x_li (z := mm) T_175_89 rfl ?_
        refine x_ic T_175_91 ?_
        refine x_ic2 T_175_93 (fun h => absurd (show 6 < mm from h) (by omega)) (fun _ => ?_)
        refine x_lr (z := none) T_175_96 rfl ?_
        refine x_nnul T_175_97 (fun a0 h0 => absurd h0 (by simp)) (fun _ => ?_)
        refine x_lr (z := some ga) T_175_100 rfl ?_
        refine x_gI (z := C) T_175_101 (Or.inl F_3_1) (hP.o hga) (Eq.trans (hP.gi hga (key := 2097) rfl) hC) ?_
        refine x_ic T_175_104 ?_
        refine x_ic2 T_175_106 (fun _ => ?_) (fun h => absurd (show C < 8 by omega) h)
        refine x_ic T_175_114 ?_
        refine x_ri T_175_115 ?_
        exact ⟨rfl, rfl⟩
    · rw [if_neg (fun c => by rcases c with c | c; exact q c; exact absurd c.1 (by simp))]
      refine x_li (z := mm) T_175_89 rfl ?_
      refine x_ic T_175_91 ?_
      refine x_ic2 T_175_93 (fun h => absurd (show 6 < mm from h) (by omega)) (fun _ => ?_)
      refine x_lr (z := some y) T_175_96 rfl ?_
      refine x_nnul T_175_97 (fun _ _ => ?_) (fun h0 => absurd h0 (by simp))
      refine x_ic T_175_114 ?_
      refine x_ri T_175_115 ?_
      exact ⟨rfl, rfl⟩
theorem pr_72 (hP : PX σ0 W R σ) (hga : tX ga = some (Sum.inl 3)) (hC : W ga 2097 = C) (hth : 0 ≤ th ∧ th ≤ 6) (h1 : ∀ y, y1 = some y → tX y = some (Sum.inl 4) ∧ W y 2131 = n1) (hn1 : 0 ≤ n1 ∧ n1 ≤ 6) : WP fb d 175 72 [some (vR (some 2175)), some (vR (some ga)), some (vR y2), some (vR y1), some (vI F), some (vI v), some (vI th), none] [] σ (rP (if 6 < th + (if y1 = none then 1 else n1) ∨ (y2 = none ∧ 8 ≤ C) then 20 else 0) σ) := by
  rcases y1 with _ | y
  · rw [if_pos rfl]
    have hgo := pr_89 (fb := fb) (d := d) (y1 := none) (y2 := y2) (F := F) (v := v) (th := th) (mm := th + 1) hP hga hC
    refine x_li (z := th) T_175_72 rfl ?_
    refine x_lr (z := none) T_175_74 rfl ?_
    refine x_nnul T_175_75 (fun a0 h0 => absurd h0 (by simp)) (fun _ => ?_)
    refine x_ic T_175_78 ?_
    refine x_goto T_175_79 ?_
    refine x_ib (w := (th + 1)) T_175_86 (fun h => absurd h.1 (by decide)) (w32_id (by omega) (by omega)) ?_
    refine x_si (ls1 := [some (vR (some 2175)), some (vR (some ga)), some (vR y2), some (vR none), some (vI F), some (vI v), some (vI th), some (vI (th + 1))]) T_175_87 rfl ?_
    exact hgo
  · rw [if_neg (show ¬ (some y : Option Nat) = none by simp)]
    obtain ⟨hy, hy1⟩ := h1 y rfl
    have hgo := pr_89 (fb := fb) (d := d) (y1 := some y) (y2 := y2) (F := F) (v := v) (th := th) (mm := th + n1) hP hga hC
    refine x_li (z := th) T_175_72 rfl ?_
    refine x_lr (z := some y) T_175_74 rfl ?_
    refine x_nnul T_175_75 (fun _ _ => ?_) (fun h0 => absurd h0 (by simp))
    refine x_lr (z := some y) T_175_82 rfl ?_
    refine x_gI (z := n1) T_175_83 (Or.inl F_4_3) (hP.o hy) (Eq.trans (hP.gi hy (key := 2131) rfl) hy1) ?_
    refine x_ib (w := (th + n1)) T_175_86 (fun h => absurd h.1 (by decide)) (w32_id (by omega) (by omega)) ?_
    refine x_si (ls1 := [some (vR (some 2175)), some (vR (some ga)), some (vR y2), some (vR (some y)), some (vI F), some (vI v), some (vI th), some (vI (th + n1))]) T_175_87 rfl ?_
    exact hgo
theorem pr_35 (hP : PX σ0 W R σ) (hga : tX ga = some (Sum.inl 3)) (hC : W ga 2097 = C) (hF : and32 F 3 = v3) (h2 : ∀ y, y2 = some y → tX y = some (Sum.inl 4) ∧ W y 2131 = n2) (hn2 : 0 ≤ n2 ∧ n2 ≤ 6) (h1 : ∀ y, y1 = some y → tX y = some (Sum.inl 4) ∧ W y 2131 = n1) (hn1 : 0 ≤ n1 ∧ n1 ≤ 6) : WP fb d 175 35 [some (vR (some 2175)), some (vR (some ga)), some (vR y2), some (vR y1), some (vI F), none, none, none] [] σ (rP (if 6 < (if v3 = 0 then 0 else if y2 = none then 1 else n2) + (if y1 = none then 1 else n1) ∨ (y2 = none ∧ 8 ≤ C) then 20 else 0) σ) := by
  by_cases q : v3 = 0
  · rw [if_pos q]
    have hgo := pr_72 (fb := fb) (d := d) (y1 := y1) (y2 := y2) (F := F) (v := 0) (th := 0) hP hga hC (by decide) h1 hn1
    refine x_li (z := F) T_175_35 rfl ?_
    refine x_ic T_175_37 ?_
    refine x_ib (w := v3) T_175_38 (fun h => absurd h.1 (by decide)) hF ?_
    refine x_if T_175_39 (fun _ => ?_) (fun h => absurd (show v3 = 0 by omega) h)
    refine x_ic T_175_46 ?_
    refine x_si (ls1 := [some (vR (some 2175)), some (vR (some ga)), some (vR y2), some (vR y1), some (vI F), some (vI 0), none, none]) T_175_47 rfl ?_
    refine x_li (z := 0) T_175_49 rfl ?_
    refine x_if T_175_51 (fun h => absurd (show ¬ (0 : Int) = 0 from h) (by decide)) (fun _ => ?_)
    refine x_ic T_175_54 ?_
    refine x_goto T_175_55 ?_
    refine x_si (ls1 := [some (vR (some 2175)), some (vR (some ga)), some (vR y2), some (vR y1), some (vI F), some (vI 0), some (vI 0), none]) T_175_70 rfl ?_
    exact hgo
  · rw [if_neg q]
    rcases y2 with _ | y
    · rw [if_pos rfl]
      have hgo := pr_72 (fb := fb) (d := d) (y1 := y1) (y2 := none) (F := F) (v := 1) (th := 1) hP hga hC (by decide) h1 hn1
      refine x_li (z := F) T_175_35 rfl ?_
      refine x_ic T_175_37 ?_
      refine x_ib (w := v3) T_175_38 (fun h => absurd h.1 (by decide)) hF ?_
      refine x_if T_175_39 (fun h => absurd (show v3 = 0 from h) (by omega)) (fun _ => ?_)
      refine x_ic T_175_42 ?_
      refine x_goto T_175_43 ?_
      refine x_si (ls1 := [some (vR (some 2175)), some (vR (some ga)), some (vR none), some (vR y1), some (vI F), some (vI 1), none, none]) T_175_47 rfl ?_
      refine x_li (z := 1) T_175_49 rfl ?_
      refine x_if T_175_51 (fun _ => ?_) (fun h => absurd (show ¬ (1 : Int) = 0 by decide) h)
      refine x_lr (z := none) T_175_58 rfl ?_
      refine x_nnul T_175_59 (fun a0 h0 => absurd h0 (by simp)) (fun _ => ?_)
      refine x_ic T_175_62 ?_
      refine x_goto T_175_63 ?_
      refine x_si (ls1 := [some (vR (some 2175)), some (vR (some ga)), some (vR none), some (vR y1), some (vI F), some (vI 1), some (vI 1), none]) T_175_70 rfl ?_
      exact hgo
    · rw [if_neg (show ¬ some y = none by simp)]
      obtain ⟨hy, hy1⟩ := h2 y rfl
      have hgo := pr_72 (fb := fb) (d := d) (y1 := y1) (y2 := some y) (F := F) (v := 1) (th := n2) hP hga hC hn2 h1 hn1
      refine x_li (z := F) T_175_35 rfl ?_
      refine x_ic T_175_37 ?_
      refine x_ib (w := v3) T_175_38 (fun h => absurd h.1 (by decide)) hF ?_
      refine x_if T_175_39 (fun h => absurd (show v3 = 0 from h) (by omega)) (fun _ => ?_)
      refine x_ic T_175_42 ?_
      refine x_goto T_175_43 ?_
      refine x_si (ls1 := [some (vR (some 2175)), some (vR (some ga)), some (vR (some y)), some (vR y1), some (vI F), some (vI 1), none, none]) T_175_47 rfl ?_
      refine x_li (z := 1) T_175_49 rfl ?_
      refine x_if T_175_51 (fun _ => ?_) (fun h => absurd (show ¬ (1 : Int) = 0 by decide) h)
      refine x_lr (z := some y) T_175_58 rfl ?_
      refine x_nnul T_175_59 (fun _ _ => ?_) (fun h0 => absurd h0 (by simp))
      refine x_lr (z := some y) T_175_66 rfl ?_
      refine x_gI (z := n2) T_175_67 (Or.inl F_4_3) (hP.o hy) (Eq.trans (hP.gi hy (key := 2131) rfl) hy1) ?_
      refine x_si (ls1 := [some (vR (some 2175)), some (vR (some ga)), some (vR (some y)), some (vR y1), some (vI F), some (vI 1), some (vI n2), none]) T_175_70 rfl ?_
      exact hgo
theorem x_placeRefusal (hP : PX σ0 W R σ) (hga : tX ga = some (Sum.inl 3)) (hC : W ga 2097 = C) (hd1 : W 2178 2163 = d1) (hd2 : W 2179 2163 = d2) (hF : and32 F 3 = v3) (h2 : ∀ y, y2 = some y → tX y = some (Sum.inl 4) ∧ W y 2131 = n2) (hn2 : 0 ≤ n2 ∧ n2 ≤ 6) (h1 : ∀ y, y1 = some y → tX y = some (Sum.inl 4) ∧ W y 2131 = n1) (hn1 : 0 ≤ n1 ∧ n1 ≤ 6) : CL fb d 175 [vR (some 2175), vR (some ga), vR y2, vR y1, vI F] σ (rP (if ¬ d1 = d2 ∨ (d1 = 0 ∧ ¬ F = 0) then 16 else if 6 < (if v3 = 0 then 0 else if y2 = none then 1 else n2) + (if y1 = none then 1 else n1) ∨ (y2 = none ∧ 8 ≤ C) then 20 else 0) σ) := by
  have hgo := pr_35 (fb := fb) (d := d) (y1 := y1) (y2 := y2) (F := F) hP hga hC hF h2 hn2 h1 hn1
  by_cases q1 : d1 = d2
  · by_cases q2 : d1 = 0
    · by_cases q3 : F = 0
      · rw [if_neg (fun c => by rcases c with c | c; exact c q1; exact c.2 q3)]
        refine CL_in mL_175 rfl ?_
        show WP fb _ 175 0 [some (vR (some 2175)), some (vR (some ga)), some (vR y2), some (vR y1), some (vI F), none, none, none] [] σ _
        refine x_lr (z := some 2175) T_175_0 rfl ?_
        refine x_gR (z := some 2178) T_175_1 F_14_2 (hP.o xo_2175) (hP.rc xo_2175 rfl rfl) ?_
        refine x_gI (z := d1) T_175_4 (Or.inr (Or.inl F_5_3)) (hP.o xo_2178) (Eq.trans (hP.gi xo_2178 (key := 2163) rfl) hd1) ?_
        refine x_lr (z := some 2175) T_175_7 rfl ?_
        refine x_gR (z := some 2179) T_175_8 F_14_3 (hP.o xo_2175) (hP.rc xo_2175 rfl rfl) ?_
        refine x_gI (z := d2) T_175_11 (Or.inr (Or.inl F_5_3)) (hP.o xo_2179) (Eq.trans (hP.gi xo_2179 (key := 2163) rfl) hd2) ?_
        refine x_ic2 T_175_14 (fun h => absurd (show ¬ d1 = d2 from h) (by omega)) (fun _ => ?_)
        refine x_lr (z := some 2175) T_175_17 rfl ?_
        refine x_gR (z := some 2178) T_175_18 F_14_2 (hP.o xo_2175) (hP.rc xo_2175 rfl rfl) ?_
        refine x_gI (z := d1) T_175_21 (Or.inr (Or.inl F_5_3)) (hP.o xo_2178) (Eq.trans (hP.gi xo_2178 (key := 2163) rfl) hd1) ?_
        refine x_if T_175_24 (fun h => absurd (show ¬ d1 = 0 from h) (by omega)) (fun _ => ?_)
        refine x_li (z := F) T_175_27 rfl ?_
        refine x_if T_175_29 (fun _ => ?_) (fun h => absurd (show F = 0 by omega) h)
        exact hgo
      · rw [if_pos (Or.inr ⟨q2, q3⟩)]
        refine CL_in mL_175 rfl ?_
        show WP fb _ 175 0 [some (vR (some 2175)), some (vR (some ga)), some (vR y2), some (vR y1), some (vI F), none, none, none] [] σ _
        refine x_lr (z := some 2175) T_175_0 rfl ?_
        refine x_gR (z := some 2178) T_175_1 F_14_2 (hP.o xo_2175) (hP.rc xo_2175 rfl rfl) ?_
        refine x_gI (z := d1) T_175_4 (Or.inr (Or.inl F_5_3)) (hP.o xo_2178) (Eq.trans (hP.gi xo_2178 (key := 2163) rfl) hd1) ?_
        refine x_lr (z := some 2175) T_175_7 rfl ?_
        refine x_gR (z := some 2179) T_175_8 F_14_3 (hP.o xo_2175) (hP.rc xo_2175 rfl rfl) ?_
        refine x_gI (z := d2) T_175_11 (Or.inr (Or.inl F_5_3)) (hP.o xo_2179) (Eq.trans (hP.gi xo_2179 (key := 2163) rfl) hd2) ?_
        refine x_ic2 T_175_14 (fun h => absurd (show ¬ d1 = d2 from h) (by omega)) (fun _ => ?_)
        refine x_lr (z := some 2175) T_175_17 rfl ?_
        refine x_gR (z := some 2178) T_175_18 F_14_2 (hP.o xo_2175) (hP.rc xo_2175 rfl rfl) ?_
        refine x_gI (z := d1) T_175_21 (Or.inr (Or.inl F_5_3)) (hP.o xo_2178) (Eq.trans (hP.gi xo_2178 (key := 2163) rfl) hd1) ?_
        refine x_if T_175_24 (fun h => absurd (show ¬ d1 = 0 from h) (by omega)) (fun _ => ?_)
        refine x_li (z := F) T_175_27 rfl ?_
        refine x_if T_175_29 (fun h => absurd (show F = 0 from h) (by omega)) (fun _ => ?_)
        refine x_ic T_175_32 ?_
        refine x_ri T_175_34 ?_
        exact ⟨rfl, rfl⟩
    · rw [if_neg (fun c => by rcases c with c | c; exact c q1; exact q2 c.1)]
      refine CL_in mL_175 rfl ?_
      show WP fb _ 175 0 [some (vR (some 2175)), some (vR (some ga)), some (vR y2), some (vR y1), some (vI F), none, none, none] [] σ _
      refine x_lr (z := some 2175) T_175_0 rfl ?_
      refine x_gR (z := some 2178) T_175_1 F_14_2 (hP.o xo_2175) (hP.rc xo_2175 rfl rfl) ?_
      refine x_gI (z := d1) T_175_4 (Or.inr (Or.inl F_5_3)) (hP.o xo_2178) (Eq.trans (hP.gi xo_2178 (key := 2163) rfl) hd1) ?_
      refine x_lr (z := some 2175) T_175_7 rfl ?_
      refine x_gR (z := some 2179) T_175_8 F_14_3 (hP.o xo_2175) (hP.rc xo_2175 rfl rfl) ?_
      refine x_gI (z := d2) T_175_11 (Or.inr (Or.inl F_5_3)) (hP.o xo_2179) (Eq.trans (hP.gi xo_2179 (key := 2163) rfl) hd2) ?_
      refine x_ic2 T_175_14 (fun h => absurd (show ¬ d1 = d2 from h) (by omega)) (fun _ => ?_)
      refine x_lr (z := some 2175) T_175_17 rfl ?_
      refine x_gR (z := some 2178) T_175_18 F_14_2 (hP.o xo_2175) (hP.rc xo_2175 rfl rfl) ?_
      refine x_gI (z := d1) T_175_21 (Or.inr (Or.inl F_5_3)) (hP.o xo_2178) (Eq.trans (hP.gi xo_2178 (key := 2163) rfl) hd1) ?_
      refine x_if T_175_24 (fun _ => ?_) (fun h => absurd (show ¬ d1 = 0 by omega) h)
      exact hgo
  · rw [if_pos (Or.inl q1)]
    refine CL_in mL_175 rfl ?_
    show WP fb _ 175 0 [some (vR (some 2175)), some (vR (some ga)), some (vR y2), some (vR y1), some (vI F), none, none, none] [] σ _
    refine x_lr (z := some 2175) T_175_0 rfl ?_
    refine x_gR (z := some 2178) T_175_1 F_14_2 (hP.o xo_2175) (hP.rc xo_2175 rfl rfl) ?_
    refine x_gI (z := d1) T_175_4 (Or.inr (Or.inl F_5_3)) (hP.o xo_2178) (Eq.trans (hP.gi xo_2178 (key := 2163) rfl) hd1) ?_
    refine x_lr (z := some 2175) T_175_7 rfl ?_
    refine x_gR (z := some 2179) T_175_8 F_14_3 (hP.o xo_2175) (hP.rc xo_2175 rfl rfl) ?_
    refine x_gI (z := d2) T_175_11 (Or.inr (Or.inl F_5_3)) (hP.o xo_2179) (Eq.trans (hP.gi xo_2179 (key := 2163) rfl) hd2) ?_
    refine x_ic2 T_175_14 (fun _ => ?_) (fun h => absurd (show ¬ d1 = d2 by omega) h)
    refine x_ic T_175_32 ?_
    refine x_ri T_175_34 ?_
    exact ⟨rfl, rfl⟩
theorem cp_o (hj : 0 ≤ j ∧ j < 6) : tX (2181 + j.toNat) = some (Sum.inl 5) := by
  have h6 : j = 0 ∨ j = 1 ∨ j = 2 ∨ j = 3 ∨ j = 4 ∨ j = 5 := by omega
  rcases h6 with rfl | rfl | rfl | rfl | rfl | rfl <;> rfl
theorem rA_cp (hj : 0 ≤ j ∧ j < 6) : rAr 2180 15 6 j.toNat = some (2181 + j.toNat) := by
  have h6 : j = 0 ∨ j = 1 ∨ j = 2 ∨ j = 3 ∨ j = 4 ∨ j = 5 := by omega
  rcases h6 with rfl | rfl | rfl | rfl | rfl | rfl <;> rfl
theorem FGA_rfl : FGA W W R R := ⟨fun _ _ _ _ _ _ => rfl, fun _ _ _ _ => rfl⟩
theorem FGA_tr (h1 : FGA W W1 R R1) (h2 : FGA W1 W2 R1 R2) : FGA W W2 R R2 := ⟨fun x k a b c e => (h2.1 x k a b c e).trans (h1.1 x k a b c e), fun x k a b => (h2.2 x k a b).trans (h1.2 x k a b)⟩
theorem FGA_fk (h : FK c W W2 R R2) (hc : 2181 ≤ c ∧ c < 2187) : FGA W W2 R R2 := ⟨fun x k a b _ e => h.1 x k (by omega) a e, fun x k a b => h.2 x k (by omega) a⟩
theorem FGA_fa (h : FA W W2 R R2) : FGA W W2 R R2 := FGA_fk (c := 2181) (FK_fa h) (by decide)
theorem FGA_fcm (h : FGA W W2 R R2) : FCM W W2 R R2 := ⟨fun x k a b c => h.1 x k (Or.inr ⟨by omega, b⟩) (by omega) (by omega) c, fun x k a => h.2 x k (Or.inr (by omega)) (by omega)⟩
theorem CHX.fga (h : CHX W R c ch) (hF : FGA W W2 R R2) (hc2 : 2175 < c) (hc : c < 2181) (hp : ch.2.2.2.2 < 64) : CHX W2 R2 c ch := by
  obtain ⟨a1, a2, a3, a4, a5⟩ := h
  have hw := fun (k : Int) (hk : k ≠ 2198) => hF.1 c k (Or.inr ⟨by omega, by omega⟩) (by omega) (by omega) hk
  refine ⟨(hw _ (by decide)).trans a1, (hw _ (by decide)).trans a2, (hw _ (by decide)).trans a3, (hw _ (by decide)).trans a4, ((hF.2 _ _ (Or.inr (by omega)) (by omega)).trans a5).trans ?_⟩
  by_cases q : ch.2.2.2.2 < 0
  · rw [if_pos q, if_pos q]
  · rw [if_neg q, if_neg q]
    have hr := grO_rng (g := ch.2.2.2.2 / 8) ⟨by omega, by omega⟩
    exact (hF.2 _ _ (Or.inl (by omega)) (by omega)).symm
theorem NWC.eqv {y : Nw} (h : NWC W c y) (hW : ∀ k : Int, k ≠ 2198 → W2 c k = W c k) : NWC W2 c y := ⟨(hW _ (by decide)).trans h.1, (hW _ (by decide)).trans h.2.1, (hW _ (by decide)).trans h.2.2.1, (hW _ (by decide)).trans h.2.2.2.1, (hW _ (by decide)).trans h.2.2.2.2⟩
theorem CPS.fa {ns : List Nw} (h : CPS W ns) (hn : ns.length ≤ 6) (hF : FA W W2 R R2) : CPS W2 ns := ⟨(hF.cm.1 _ _ (by decide) (by decide) (by decide)).trans h.1, fun j j0 j1 => (h.2 j j0 j1).eqv (fun k hk => hF.cm.1 _ _ (by omega) (by omega) hk)⟩
/-- channel one itself -/
theorem x_gather0 (hP : PX σ0 W R σ) (hX : XW K T U W R P) (h1 : CHX W R 2178 c1) (hmk : mk = 0 ∨ mk = 1) : CL fb (d + 9) 176 [vR (some 2175), vR none, vI mk] σ (fun r σ' => r = some (vI 0) ∧ ∃ W2 R2, PX σ0 W2 R2 σ' ∧ XW K T U W2 R2 P ∧ CPS W2 [chN c1 mk] ∧ FGA W W2 R R2) := by
  obtain ⟨s, f, pa, kd, cp⟩ := c1
  obtain ⟨m1, m2, m3, m4, -⟩ := h1
  have m1 : W 2178 2160 = s := m1
  have m2 : W 2178 2161 = f := m2
  have m3 : W 2178 2162 = pa := m3
  obtain ⟨dr, hdr⟩ : ∃ q : Int, (if kd = 128 then 1 else 0) = q := ⟨_, rfl⟩
  have m4 : W 2178 2163 = dr := m4.trans hdr
  have hdr2 : dr = 0 ∨ dr = 1 := by rw [← hdr]; split <;> decide
  have ho : tX 2181 = some (Sum.inl 5) := rfl
  have hr0 : rAr 2180 15 6 0 = some 2181 := rfl
  have hbc := fun (σ : hM) (hP : PX σ0 (rU W 2175 2453 0) R σ) => x_become (fb := fb) (d := d + 8) (s := s) (f2 := f) (p := pa) (e := dr) hP ho hdr2
  have hfin : XW K T U (rU (rU (chW (rU W 2175 2453 0) 2181 s f pa dr) 2181 2165 mk) 2175 2453 1) (oU R 2181 2164 none) P ∧ CPS (rU (rU (chW (rU W 2175 2453 0) 2181 s f pa dr) 2181 2165 mk) 2175 2453 1) [chN (s, f, pa, kd, cp) mk] ∧ FGA W (rU (rU (chW (rU W 2175 2453 0) 2181 s f pa dr) 2181 2165 mk) 2175 2453 1) R (oU R 2181 2164 none) := by
    have hW : ∀ (x : Nat) (k : Int), x ≠ 2181 → ¬ (x = 2175 ∧ k = 2453) → rU (rU (chW (rU W 2175 2453 0) 2181 s f pa dr) 2181 2165 mk) 2175 2453 1 x k = W x k := fun x k hx hy => by
      unfold chW
      exact (if_neg hy).trans ((rU_f hx).trans ((rU_f hx).trans ((rU_f hx).trans ((rU_f hx).trans ((rU_f hx).trans ((rU_f hx).trans ((rU_f hx).trans ((rU_f hx).trans (if_neg hy)))))))))
    have hR : ∀ (x : Nat) (k : Int), ¬ (x = 2181 ∧ k = 2164) → oU R 2181 2164 none x k = R x k := fun x k hx => if_neg hx
    refine ⟨hX.hiw (fun x k hx => hW x k (by omega) (by omega)) (fun x k hx => hR x k (by omega)), ⟨rU_s, fun j j0 j1 => ?_⟩, fun x k a b c e => hW x k (by omega) c, fun x k a b => hR x k (by omega)⟩
    have j1 : j < ((1 : Nat) : Int) := j1
    have hj : j = 0 := by omega
    subst hj
    show NWC _ 2181 (chN (s, f, pa, kd, cp) mk)
    have e : ∀ k : Int, rU (rU (chW (rU W 2175 2453 0) 2181 s f pa dr) 2181 2165 mk) 2175 2453 1 2181 k = rU (chW (rU W 2175 2453 0) 2181 s f pa dr) 2181 2165 mk 2181 k := fun k => rU_f (by decide)
    exact ⟨(e _).trans ((rU_k (by decide)).trans chW_at.1), (e _).trans ((rU_k (by decide)).trans chW_at.2.1), (e _).trans ((rU_k (by decide)).trans chW_at.2.2.1), (e _).trans ((rU_k (by decide)).trans (chW_at.2.2.2.1.trans hdr.symm)), (e _).trans rU_s⟩
  obtain ⟨WF, hWF⟩ : ∃ q, rU (rU (chW (rU W 2175 2453 0) 2181 s f pa dr) 2181 2165 mk) 2175 2453 1 = q := ⟨_, rfl⟩
  refine CL_in mL_176 rfl ?_
  show WP fb _ 176 0 [some (vR (some 2175)), some (vR none), some (vI mk), none, none, none] [] σ _
  refine x_lr (z := some 2175) T_176_0 rfl ?_
  refine x_ic T_176_1 ?_
  refine z_pI hP T_176_2 F_14_5 xo_2175 (key := 2453) rfl (fun σ hP => ?_)
  refine x_lr (z := none) T_176_5 rfl ?_
  refine x_nnul T_176_6 (fun a0 h0 => absurd h0 (by simp)) (fun _ => ?_)
  refine x_lr (z := some 2175) T_176_9 rfl ?_
  refine x_gR (z := some 2180) T_176_10 F_14_4 (hP.o xo_2175) (hP.rc xo_2175 rfl rfl) ?_
  refine x_ic T_176_13 ?_
  refine x_alR (z := some 2181) T_176_14 (hP.ta xa_2180) (by decide) (by omega) (by omega) (hP.arc xa_2180 rfl hr0) ?_
  refine x_lr (z := some 2175) T_176_15 rfl ?_
  refine x_gR (z := some 2178) T_176_16 F_14_2 (hP.o xo_2175) (hP.rc xo_2175 rfl rfl) ?_
  refine x_gI (z := s) T_176_19 (Or.inl F_5_0) (hP.o xo_2178) (Eq.trans (Eq.trans (hP.gi xo_2178 (key := 2160) rfl) (rU_j (by decide))) m1) ?_
  refine x_lr (z := some 2175) T_176_22 rfl ?_
  refine x_gR (z := some 2178) T_176_23 F_14_2 (hP.o xo_2175) (hP.rc xo_2175 rfl rfl) ?_
  refine x_gI (z := f) T_176_26 (Or.inl F_5_1) (hP.o xo_2178) (Eq.trans (Eq.trans (hP.gi xo_2178 (key := 2161) rfl) (rU_j (by decide))) m2) ?_
  refine x_lr (z := some 2175) T_176_29 rfl ?_
  refine x_gR (z := some 2178) T_176_30 F_14_2 (hP.o xo_2175) (hP.rc xo_2175 rfl rfl) ?_
  refine x_gI (z := pa) T_176_33 (Or.inl F_5_2) (hP.o xo_2178) (Eq.trans (Eq.trans (hP.gi xo_2178 (key := 2162) rfl) (rU_j (by decide))) m3) ?_
  refine x_lr (z := some 2175) T_176_36 rfl ?_
  refine x_gR (z := some 2178) T_176_37 F_14_2 (hP.o xo_2175) (hP.rc xo_2175 rfl rfl) ?_
  refine x_gI (z := dr) T_176_40 (Or.inr (Or.inl F_5_3)) (hP.o xo_2178) (Eq.trans (Eq.trans (hP.gi xo_2178 (key := 2163) rfl) (rU_j (by decide))) m4) ?_
  refine x_cv5 T_176_43 mN_128 mL_128 (Nat.le_of_ble_eq_true rfl) mO_128 (hP.o ho) (Nat.le_of_ble_eq_true rfl) (hbc σ hP) ?_
  clear hP hbc
  rintro _ σ ⟨rfl, hP⟩
  refine cV ?_
  refine x_lr (z := some 2175) T_176_46 rfl ?_
  refine x_gR (z := some 2180) T_176_47 F_14_4 (hP.o xo_2175) (hP.rc xo_2175 rfl rfl) ?_
  refine x_ic T_176_50 ?_
  refine x_alR (z := some 2181) T_176_51 (hP.ta xa_2180) (by decide) (by omega) (by omega) (hP.arc xa_2180 rfl hr0) ?_
  refine x_li (z := mk) T_176_52 rfl ?_
  refine z_pZ hP T_176_53 F_5_5 (h01_of (by omega)) ho (key := 2165) rfl (fun σ hP => ?_)
  refine x_lr (z := some 2175) T_176_56 rfl ?_
  refine x_ic T_176_57 ?_
  refine z_pI hP T_176_58 F_14_5 xo_2175 (key := 2453) rfl (fun σ hP => ?_)
  refine x_ic T_176_61 ?_
  refine x_ri T_176_62 ?_
  exact ⟨rfl, _, _, hP, hfin⟩
end XBND
