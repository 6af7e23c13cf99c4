/-! Members to be: what a bind or a mount gathers. -/
theorem T_364_0 : hTab 364 0 = some ((3, 0, 2, []), 1) := rfl
theorem T_364_1 : hTab 364 1 = some ((24, 17, Int.ofNat 94, []), 4) := rfl
theorem T_364_4 : hTab 364 4 = some ((3, 0, 2, []), 5) := rfl
theorem T_364_5 : hTab 364 5 = some ((24, 17, Int.ofNat 99, []), 8) := rfl
theorem T_364_8 : hTab 364 8 = some ((3, 0, 2, []), 9) := rfl
theorem T_364_9 : hTab 364 9 = some ((24, 17, Int.ofNat 86, []), 12) := rfl
theorem T_364_12 : hTab 364 12 = some ((3, 1, 0, []), 13) := rfl
theorem T_364_13 : hTab 364 13 = some ((26, 0, 0, []), 14) := rfl
theorem T_364_14 : hTab 364 14 = some ((27, 0, 0, []), 15) := rfl
theorem T_364_15 : hTab 364 15 = some ((3, 0, 2, []), 16) := rfl
theorem T_364_16 : hTab 364 16 = some ((24, 17, Int.ofNat 95, []), 19) := rfl
theorem T_364_19 : hTab 364 19 = some ((3, 0, 2, []), 20) := rfl
theorem T_364_20 : hTab 364 20 = some ((24, 17, Int.ofNat 99, []), 23) := rfl
theorem T_364_23 : hTab 364 23 = some ((3, 0, 2, []), 24) := rfl
theorem T_364_24 : hTab 364 24 = some ((24, 17, Int.ofNat 87, []), 27) := rfl
theorem T_364_27 : hTab 364 27 = some ((3, 1, 0, []), 28) := rfl
theorem T_364_28 : hTab 364 28 = some ((26, 0, 0, []), 29) := rfl
theorem T_364_29 : hTab 364 29 = some ((27, 0, 0, []), 30) := rfl
theorem T_364_30 : hTab 364 30 = some ((3, 0, 2, []), 31) := rfl
theorem T_364_31 : hTab 364 31 = some ((24, 17, Int.ofNat 96, []), 34) := rfl
theorem T_364_34 : hTab 364 34 = some ((3, 0, 2, []), 35) := rfl
theorem T_364_35 : hTab 364 35 = some ((24, 17, Int.ofNat 99, []), 38) := rfl
theorem T_364_38 : hTab 364 38 = some ((3, 0, 2, []), 39) := rfl
theorem T_364_39 : hTab 364 39 = some ((24, 17, Int.ofNat 88, []), 42) := rfl
theorem T_364_42 : hTab 364 42 = some ((3, 1, 0, []), 43) := rfl
theorem T_364_43 : hTab 364 43 = some ((26, 0, 0, []), 44) := rfl
theorem T_364_44 : hTab 364 44 = some ((27, 0, 0, []), 45) := rfl
theorem T_364_45 : hTab 364 45 = some ((3, 0, 2, []), 46) := rfl
theorem T_364_46 : hTab 364 46 = some ((24, 17, Int.ofNat 97, []), 49) := rfl
theorem T_364_49 : hTab 364 49 = some ((3, 0, 2, []), 50) := rfl
theorem T_364_50 : hTab 364 50 = some ((24, 17, Int.ofNat 99, []), 53) := rfl
theorem T_364_53 : hTab 364 53 = some ((3, 0, 2, []), 54) := rfl
theorem T_364_54 : hTab 364 54 = some ((24, 17, Int.ofNat 89, []), 57) := rfl
theorem T_364_57 : hTab 364 57 = some ((3, 1, 0, []), 58) := rfl
theorem T_364_58 : hTab 364 58 = some ((26, 0, 0, []), 59) := rfl
theorem T_364_59 : hTab 364 59 = some ((27, 0, 0, []), 60) := rfl
theorem T_364_60 : hTab 364 60 = some ((3, 0, 2, []), 61) := rfl
theorem T_364_61 : hTab 364 61 = some ((24, 17, Int.ofNat 98, []), 64) := rfl
theorem T_364_64 : hTab 364 64 = some ((3, 0, 2, []), 65) := rfl
theorem T_364_65 : hTab 364 65 = some ((24, 17, Int.ofNat 99, []), 68) := rfl
theorem T_364_68 : hTab 364 68 = some ((3, 2, 0, []), 69) := rfl
theorem T_364_69 : hTab 364 69 = some ((27, 2, 0, []), 70) := rfl
theorem T_364_70 : hTab 364 70 = some ((3, 0, 2, []), 71) := rfl
theorem T_364_71 : hTab 364 71 = some ((6, 0, 0, []), 72) := rfl
theorem T_364_72 : hTab 364 72 = some ((24, 17, Int.ofNat 99, []), 75) := rfl
theorem T_364_75 : hTab 364 75 = some ((0, 0, 1, []), 76) := rfl
theorem T_364_76 : hTab 364 76 = some ((10, 0, 0, []), 77) := rfl
theorem T_364_77 : hTab 364 77 = some ((25, 17, Int.ofNat 99, []), 80) := rfl
theorem T_364_80 : hTab 364 80 = some ((33, 0, 0, []), 81) := rfl
theorem T_365_0 : hTab 365 0 = some ((0, 0, 0, []), 1) := rfl
theorem T_365_1 : hTab 365 1 = some ((4, 2, 0, []), 2) := rfl
theorem T_365_2 : hTab 365 2 = some ((3, 1, 0, []), 3) := rfl
theorem T_365_3 : hTab 365 3 = some ((18, 2, Int.ofNat 114, []), 6) := rfl
theorem T_365_6 : hTab 365 6 = some ((3, 2, 0, []), 7) := rfl
theorem T_365_7 : hTab 365 7 = some ((3, 0, 2, []), 8) := rfl
theorem T_365_8 : hTab 365 8 = some ((24, 17, Int.ofNat 67, []), 11) := rfl
theorem T_365_11 : hTab 365 11 = some ((3, 1, 0, []), 12) := rfl
theorem T_365_12 : hTab 365 12 = some ((26, 0, 0, []), 13) := rfl
theorem T_365_13 : hTab 365 13 = some ((19, 3, Int.ofNat 114, []), 16) := rfl
theorem T_365_16 : hTab 365 16 = some ((0, 0, 6, []), 18) := rfl
theorem T_365_18 : hTab 365 18 = some ((3, 1, 0, []), 19) := rfl
theorem T_365_19 : hTab 365 19 = some ((10, 2, 0, []), 20) := rfl
theorem T_365_20 : hTab 365 20 = some ((3, 2, 0, []), 21) := rfl
theorem T_365_21 : hTab 365 21 = some ((10, 0, 0, []), 22) := rfl
theorem T_365_22 : hTab 365 22 = some ((4, 3, 0, []), 23) := rfl
theorem T_365_23 : hTab 365 23 = some ((3, 0, 2, []), 24) := rfl
theorem T_365_24 : hTab 365 24 = some ((24, 17, Int.ofNat 94, []), 27) := rfl
theorem T_365_27 : hTab 365 27 = some ((3, 0, 2, []), 28) := rfl
theorem T_365_28 : hTab 365 28 = some ((24, 17, Int.ofNat 99, []), 31) := rfl
theorem T_365_31 : hTab 365 31 = some ((3, 0, 2, []), 32) := rfl
theorem T_365_32 : hTab 365 32 = some ((24, 17, Int.ofNat 68, []), 35) := rfl
theorem T_365_35 : hTab 365 35 = some ((3, 3, 0, []), 36) := rfl
theorem T_365_36 : hTab 365 36 = some ((26, 0, 0, []), 37) := rfl
theorem T_365_37 : hTab 365 37 = some ((27, 0, 0, []), 38) := rfl
theorem T_365_38 : hTab 365 38 = some ((3, 0, 2, []), 39) := rfl
theorem T_365_39 : hTab 365 39 = some ((24, 17, Int.ofNat 95, []), 42) := rfl
theorem T_365_42 : hTab 365 42 = some ((3, 0, 2, []), 43) := rfl
theorem T_365_43 : hTab 365 43 = some ((24, 17, Int.ofNat 99, []), 46) := rfl
theorem T_365_46 : hTab 365 46 = some ((3, 0, 2, []), 47) := rfl
theorem T_365_47 : hTab 365 47 = some ((24, 17, Int.ofNat 69, []), 50) := rfl
theorem T_365_50 : hTab 365 50 = some ((3, 3, 0, []), 51) := rfl
theorem T_365_51 : hTab 365 51 = some ((26, 0, 0, []), 52) := rfl
theorem T_365_52 : hTab 365 52 = some ((27, 0, 0, []), 53) := rfl
theorem T_365_53 : hTab 365 53 = some ((3, 0, 2, []), 54) := rfl
theorem T_365_54 : hTab 365 54 = some ((24, 17, Int.ofNat 96, []), 57) := rfl
theorem T_365_57 : hTab 365 57 = some ((3, 0, 2, []), 58) := rfl
theorem T_365_58 : hTab 365 58 = some ((24, 17, Int.ofNat 99, []), 61) := rfl
theorem T_365_61 : hTab 365 61 = some ((3, 0, 2, []), 62) := rfl
theorem T_365_62 : hTab 365 62 = some ((24, 17, Int.ofNat 70, []), 65) := rfl
theorem T_365_65 : hTab 365 65 = some ((3, 3, 0, []), 66) := rfl
theorem T_365_66 : hTab 365 66 = some ((26, 0, 0, []), 67) := rfl
theorem T_365_67 : hTab 365 67 = some ((27, 0, 0, []), 68) := rfl
theorem T_365_68 : hTab 365 68 = some ((3, 0, 2, []), 69) := rfl
theorem T_365_69 : hTab 365 69 = some ((24, 17, Int.ofNat 97, []), 72) := rfl
theorem T_365_72 : hTab 365 72 = some ((3, 0, 2, []), 73) := rfl
theorem T_365_73 : hTab 365 73 = some ((24, 17, Int.ofNat 99, []), 76) := rfl
theorem T_365_76 : hTab 365 76 = some ((3, 0, 2, []), 77) := rfl
theorem T_365_77 : hTab 365 77 = some ((24, 17, Int.ofNat 71, []), 80) := rfl
theorem T_365_80 : hTab 365 80 = some ((3, 3, 0, []), 81) := rfl
theorem T_365_81 : hTab 365 81 = some ((26, 0, 0, []), 82) := rfl
theorem T_365_82 : hTab 365 82 = some ((27, 0, 0, []), 83) := rfl
theorem T_365_83 : hTab 365 83 = some ((3, 0, 2, []), 84) := rfl
theorem T_365_84 : hTab 365 84 = some ((24, 17, Int.ofNat 98, []), 87) := rfl
theorem T_365_87 : hTab 365 87 = some ((3, 0, 2, []), 88) := rfl
theorem T_365_88 : hTab 365 88 = some ((24, 17, Int.ofNat 99, []), 91) := rfl
theorem T_365_91 : hTab 365 91 = some ((3, 0, 2, []), 92) := rfl
theorem T_365_92 : hTab 365 92 = some ((24, 17, Int.ofNat 72, []), 95) := rfl
theorem T_365_95 : hTab 365 95 = some ((3, 3, 0, []), 96) := rfl
theorem T_365_96 : hTab 365 96 = some ((26, 2, 0, []), 97) := rfl
theorem T_365_97 : hTab 365 97 = some ((27, 2, 0, []), 98) := rfl
theorem T_365_98 : hTab 365 98 = some ((3, 0, 2, []), 99) := rfl
theorem T_365_99 : hTab 365 99 = some ((6, 0, 0, []), 100) := rfl
theorem T_365_100 : hTab 365 100 = some ((24, 17, Int.ofNat 99, []), 103) := rfl
theorem T_365_103 : hTab 365 103 = some ((0, 0, 1, []), 104) := rfl
theorem T_365_104 : hTab 365 104 = some ((10, 0, 0, []), 105) := rfl
theorem T_365_105 : hTab 365 105 = some ((25, 17, Int.ofNat 99, []), 108) := rfl
theorem T_365_108 : hTab 365 108 = some ((5, 2, 1, []), 111) := rfl
theorem T_365_111 : hTab 365 111 = some ((22, 0, Int.ofNat 2, []), 114) := rfl
theorem T_365_114 : hTab 365 114 = some ((33, 0, 0, []), 115) := rfl
theorem F_17_94 : (hFd 17 94).2.2.1 = 4 := rfl
theorem F_17_95 : (hFd 17 95).2.2.1 = 4 := rfl
theorem F_17_96 : (hFd 17 96).2.2.1 = 4 := rfl
theorem F_17_97 : (hFd 17 97).2.2.1 = 4 := rfl
theorem F_17_98 : (hFd 17 98).2.2.1 = 4 := rfl
theorem F_17_99 : (hFd 17 99).2.2.1 = 0 := rfl
theorem mN_364 : hmN 364 = 3 := by decide +kernel
theorem mL_364 : hmL 364 = 3 := by decide +kernel
theorem mK_364 : hmK 364 = 1 := by decide +kernel
theorem mO_364 : hmO 364 = 17 := by decide +kernel
theorem mN_365 : hmN 365 = 2 := by decide +kernel
theorem mL_365 : hmL 365 = 4 := by decide +kernel
theorem mK_365 : hmK 365 = 1 := by decide +kernel
theorem mO_365 : hmO 365 = 17 := by decide +kernel
abbrev Nw : Type := Int × Int × Int × Int × Int
def nw0 : Nw := (0, 0, 0, 0, 0)
def NW (S : qR) (ns : List Nw) : Prop := S 2281 99 = (ns.length : Int) ∧ ns.length ≤ 6 ∧ ∀ i : Nat, i < ns.length → S 2356 (i : Int) = (ns.getD i nw0).1 ∧ S 2357 (i : Int) = (ns.getD i nw0).2.1 ∧ S 2358 (i : Int) = (ns.getD i nw0).2.2.1 ∧ S 2359 (i : Int) = (ns.getD i nw0).2.2.2.1 ∧ S 2360 (i : Int) = (ns.getD i nw0).2.2.2.2
def gNw (S : qR) (n : Int) (x : Nw) : qR := rU (rU (rU (rU (rU (rU S 2356 n x.1) 2357 n x.2.1) 2358 n x.2.2.1) 2359 n x.2.2.2.1) 2360 n x.2.2.2.2) 2281 99 (n + 1)
def nwR : List Nat := [2356, 2357, 2358, 2359, 2360]
def nwN : List Int := [99]
def mbT (P : qR) (m : Int) : Nw := (P 2338 m, P 2339 m, P 2340 m, P 2341 m, P 2342 m)
def mbL (P : qR) (pt : Int) : Nat → Int → List Nw
  | 0, _ => []
  | m + 1, j => mbT P (6 * pt + j) :: mbL P pt m (j + 1)
def mbs (P : qR) (pt : Int) : List Nw := if pt < 0 then [] else mbL P pt (P 2337 pt).toNat 0
def chN (c : Ch) (mk : Int) : Nw := (c.1, c.2.1, c.2.2.1, c.2.2.2.1, mk)
section MNEWS
variable {fb : Bool} {d : Nat} {σ0 σ : hM} {P Q R S S1 S2 : qR} {T U s w g u p k e t z o thr pt off n N v mk : Int} {l l1 l2 nm wd A : List Int} {h : List Ch} {f : Int → Int} {x : Nw} {c : Ch} {ns : List Nw}
theorem gNw_f {f : Nat} (h1 : f ≠ 2281) (h2 : nwR.elem f = false) : gNw S n x f k = S f k := by
  have hn : ∀ g : Nat, nwR.elem g = true → f ≠ g := fun g hg q => by rw [q, hg] at h2; cases h2
  unfold gNw
  rw [rU_f h1, rU_f (hn _ rfl), rU_f (hn _ rfl), rU_f (hn _ rfl), rU_f (hn _ rfl), rU_f (hn _ rfl)]
theorem gNw_k (hk : k ≠ 99) : gNw S n x 2281 k = S 2281 k := by
  unfold gNw
  rw [rU_k hk, rU_f (by decide), rU_f (by decide), rU_f (by decide), rU_f (by decide), rU_f (by decide)]
theorem SX_nw : SX nwR nwN S (gNw S n x) := ⟨fun k hk => gNw_k (fun q => by rw [q] at hk; exact absurd hk (by decide)), fun f k a b => gNw_f (fun q => by rw [q] at a; exact absurd a (by decide)) b⟩
theorem gNw_1 : gNw S n x 2356 k = if k = n then x.1 else S 2356 k := by
  unfold gNw
  rw [rU_f (by decide), rU_f (by decide), rU_f (by decide), rU_f (by decide), rU_f (by decide)]
  by_cases q : k = n
  · rw [if_pos q, q, rU_s]
  · rw [if_neg q, rU_k q]
theorem gNw_2 : gNw S n x 2357 k = if k = n then x.2.1 else S 2357 k := by
  unfold gNw
  rw [rU_f (by decide), rU_f (by decide), rU_f (by decide), rU_f (by decide)]
  by_cases q : k = n
  · rw [if_pos q, q, rU_s]
  · rw [if_neg q, rU_k q, rU_f (by decide)]
theorem gNw_3 : gNw S n x 2358 k = if k = n then x.2.2.1 else S 2358 k := by
  unfold gNw
  rw [rU_f (by decide), rU_f (by decide), rU_f (by decide)]
  by_cases q : k = n
  · rw [if_pos q, q, rU_s]
  · rw [if_neg q, rU_k q, rU_f (by decide), rU_f (by decide)]
theorem gNw_4 : gNw S n x 2359 k = if k = n then x.2.2.2.1 else S 2359 k := by
  unfold gNw
  rw [rU_f (by decide), rU_f (by decide)]
  by_cases q : k = n
  · rw [if_pos q, q, rU_s]
  · rw [if_neg q, rU_k q, rU_f (by decide), rU_f (by decide), rU_f (by decide)]
theorem gNw_5 : gNw S n x 2360 k = if k = n then x.2.2.2.2 else S 2360 k := by
  unfold gNw
  rw [rU_f (by decide)]
  by_cases q : k = n
  · rw [if_pos q, q, rU_s]
  · rw [if_neg q, rU_k q, rU_f (by decide), rU_f (by decide), rU_f (by decide), rU_f (by decide)]
theorem NW.push (hN : NW S ns) (h6 : ns.length < 6) : NW (gNw S (ns.length : Int) x) (ns ++ [x]) := by
  have hl : (ns ++ [x]).length = ns.length + 1 := by rw [List.length_append]; rfl
  refine ⟨by unfold gNw; rw [rU_s, hl]; omega, by omega, fun i hi => ?_⟩
  rw [hl] at hi
  rw [gNw_1, gNw_2, gNw_3, gNw_4, gNw_5]
  by_cases q : i = ns.length
  · subst q
    have e : (ns ++ [x]).getD ns.length nw0 = x := by
      rw [List.getD_eq_getElem?_getD, List.getElem?_append_right (Nat.le_refl _), Nat.sub_self]
      rfl
    rw [e, if_pos rfl, if_pos rfl, if_pos rfl, if_pos rfl, if_pos rfl]
    exact ⟨rfl, rfl, rfl, rfl, rfl⟩
  · have e : (ns ++ [x]).getD i nw0 = ns.getD i nw0 := by
      rw [List.getD_eq_getElem?_getD, List.getElem?_append_left (by omega), ← List.getD_eq_getElem?_getD]
    have qi : ¬ (i : Int) = (ns.length : Int) := by omega
    rw [e, if_neg qi, if_neg qi, if_neg qi, if_neg qi, if_neg qi]
    exact hN.2.2 i (by omega)
theorem KS.nw (hK : KS T U P S l h) (hn : 0 ≤ n ∧ n < 6) (hx : (0 ≤ x.1 ∧ x.1 ≤ 2) ∧ (0 ≤ x.2.1 ∧ x.2.1 ≤ 47) ∧ (0 ≤ x.2.2.1 ∧ x.2.2.1 ≤ T + 200) ∧ (0 ≤ x.2.2.2.1 ∧ x.2.2.2.1 ≤ 255) ∧ (0 ≤ x.2.2.2.2 ∧ x.2.2.2.2 ≤ 1)) : KS T U P (gNw S n x) l h := by
  obtain ⟨a1, a2, a3, a4, a5⟩ := hK
  have hg : ∀ f : Nat, f ≠ 2281 → nwR.elem f = false → ∀ k, gNw S n x f k = S f k := fun f h1 h2 k => gNw_f h1 h2
  refine ⟨a1, a2, (((((a3.uA 2356 rfl hx.1).uA 2357 rfl hx.2.1).uA 2358 rfl hx.2.2.1).uA 2359 rfl hx.2.2.2.1).uA 2360 rfl hx.2.2.2.2).uN 99 99 rfl (by show 0 ≤ n + 1 ∧ n + 1 ≤ 6; omega), ⟨(gNw_k (by decide)).trans a4.1, a4.2.1, fun i hi => ?_⟩, a5.of (gNw_k (by decide)) (gNw_k (by decide)) (fun _ => hg _ (by decide) rfl _) (fun _ => hg _ (by decide) rfl _) (fun _ => hg _ (by decide) rfl _)⟩
  rw [hg _ (by decide) rfl, hg _ (by decide) rfl, hg _ (by decide) rfl, hg _ (by decide) rfl, hg _ (by decide) rfl]
  exact a4.2.2 i hi
/-- what is left when members are gathered -/
abbrev KN (T U : Int) (σ0 : hM) (P S : qR) (l : List Int) (h : List Ch) (ns : List Nw) : Option AV → hM → Prop := fun r σ' => ∃ S2 : qR, r = none ∧ PM σ0 P S2 σ' ∧ KS T U P S2 l h ∧ NW S2 ns ∧ SX nwR nwN S S2
theorem HS.ci (hJ : IV true T U S) (hh : HS S h) {i : Nat} (hi : h[i]? = some c) : (0 ≤ c.1 ∧ c.1 ≤ 2) ∧ (0 ≤ c.2.1 ∧ c.2.1 ≤ 47) ∧ (0 ≤ c.2.2.1 ∧ c.2.2.1 ≤ T + 200) ∧ (0 ≤ c.2.2.2.1 ∧ c.2.2.2.1 ≤ 255) := by
  have hl : i < h.length := by
    rcases Nat.lt_or_ge i h.length with q | q
    · exact q
    · rw [List.getElem?_eq_none q] at hi
      cases hi
  have h60 := hh.2.1
  obtain ⟨g1, g2, g3, g4, g5⟩ := hh.get (z := (i : Int)) rfl hi
  rw [← g1, ← g2, ← g3, ← g4]
  exact ⟨IV.a hJ 2350 0 64 rfl rfl rfl (by omega) (by omega), IV.a hJ 2351 0 64 rfl rfl rfl (by omega) (by omega), IV.a hJ 2352 0 64 rfl rfl rfl (by omega) (by omega), IV.a hJ 2353 0 64 rfl rfl rfl (by omega) (by omega)⟩
theorem mbT_rng (hG : GI T U P) {m : Int} (hm : 0 ≤ m ∧ m < 384) : (0 ≤ (mbT P m).1 ∧ (mbT P m).1 ≤ 2) ∧ (0 ≤ (mbT P m).2.1 ∧ (mbT P m).2.1 ≤ 47) ∧ (0 ≤ (mbT P m).2.2.1 ∧ (mbT P m).2.2.1 ≤ T + 200) ∧ (0 ≤ (mbT P m).2.2.2.1 ∧ (mbT P m).2.2.2.1 ≤ 255) ∧ (0 ≤ (mbT P m).2.2.2.2 ∧ (mbT P m).2.2.2.2 ≤ 1) := ⟨IV.a hG.iv 2338 0 384 rfl rfl rfl (by omega) (by omega), IV.a hG.iv 2339 0 384 rfl rfl rfl (by omega) (by omega), IV.a hG.iv 2340 0 384 rfl rfl rfl (by omega) (by omega), IV.a hG.iv 2341 0 384 rfl rfl rfl (by omega) (by omega), IV.a hG.iv 2342 2 384 rfl rfl rfl (by omega) (by omega)⟩
theorem mbL_len : ∀ (m : Nat) (j : Int), (mbL P pt m j).length = m
  | 0, _ => rfl
  | m + 1, j => by
    show (mbL P pt m (j + 1)).length + 1 = m + 1
    rw [mbL_len m (j + 1)]
theorem m_addHeld {i : Nat} (hz : (i : Int) = z) (hi : h[i]? = some c) (hP : PM σ0 P S σ) (hK : KS T U P S l h) (hN : NW S ns) (h6 : ns.length < 6) (hm : mk = 0 ∨ mk = 1) : CL fb d 364 [vR (some 2281), vI z, vI mk] σ (KN T U σ0 P S l h (ns ++ [chN c mk])) := by
  have hl : i < h.length := by
    rcases Nat.lt_or_ge i h.length with q | q
    · exact q
    · rw [List.getElem?_eq_none q] at hi
      cases hi
  have h60 := hK.2.2.2.1.2.1
  have hc := HS.ci hK.2.2.1 hK.2.2.2.1 hi
  obtain ⟨g1, g2, g3, g4, g5⟩ := hK.2.2.2.1.get hz hi
  have hKn := hK.nw (n := (ns.length : Int)) (x := chN c mk) ⟨by omega, by omega⟩ ⟨hc.1, hc.2.1, hc.2.2.1, hc.2.2.2, by show 0 ≤ mk ∧ mk ≤ 1; omega⟩
  have hNn := hN.push (x := chN c mk) h6
  have h99 := hN.1
  obtain ⟨n, hn⟩ : ∃ n : Int, (ns.length : Int) = n := ⟨_, rfl⟩
  rw [hn] at h99 hKn hNn
  refine CL_in mL_364 rfl ?_
  show WP fb _ 364 0 [some (vR (some 2281)), some (vI z), some (vI mk)] [] σ _
  refine x_lr (z := some 2281) T_364_0 rfl ?_
  refine x_gR (z := some 2356) T_364_1 F_17_94 (PM.t hP) (PM.r hP 94 2356 rfl) ?_
  refine x_lr (z := some 2281) T_364_4 rfl ?_
  refine x_gI (z := n) T_364_5 (Or.inl F_17_99) (PM.t hP) (Eq.trans (PM.nS hP 2281 99 99 rfl rfl rfl) h99) ?_
  refine x_lr (z := some 2281) T_364_8 rfl ?_
  refine x_gR (z := some 2350) T_364_9 F_17_86 (PM.t hP) (PM.r hP 86 2350 rfl) ?_
  refine x_li (z := z) T_364_12 rfl ?_
  refine x_alI (z := c.1) T_364_13 (by decide) (PM.ta hP 2350 0 64 rfl rfl) (by omega) (by omega) (Eq.trans (PM.aS hP 2350 rfl rfl (by omega)) g1) ?_
  refine y_aIS hP T_364_14 2356 6 rfl rfl rfl (by omega) (by omega) (fun σ hP => ?_)
  refine x_lr (z := some 2281) T_364_15 rfl ?_
  refine x_gR (z := some 2357) T_364_16 F_17_95 (PM.t hP) (PM.r hP 95 2357 rfl) ?_
  refine x_lr (z := some 2281) T_364_19 rfl ?_
  refine x_gI (z := n) T_364_20 (Or.inl F_17_99) (PM.t hP) (Eq.trans (Eq.trans (PM.nS hP 2281 99 99 rfl rfl rfl) (rU_f (Nat.ne_of_beq_eq_false rfl))) h99) ?_
  refine x_lr (z := some 2281) T_364_23 rfl ?_
  refine x_gR (z := some 2351) T_364_24 F_17_87 (PM.t hP) (PM.r hP 87 2351 rfl) ?_
  refine x_li (z := z) T_364_27 rfl ?_
  refine x_alI (z := c.2.1) T_364_28 (by decide) (PM.ta hP 2351 0 64 rfl rfl) (by omega) (by omega) (Eq.trans (Eq.trans (PM.aS hP 2351 rfl rfl (by omega)) (rU_f (Nat.ne_of_beq_eq_false rfl))) g2) ?_
  refine y_aIS hP T_364_29 2357 6 rfl rfl rfl (by omega) (by omega) (fun σ hP => ?_)
  refine x_lr (z := some 2281) T_364_30 rfl ?_
  refine x_gR (z := some 2358) T_364_31 F_17_96 (PM.t hP) (PM.r hP 96 2358 rfl) ?_
  refine x_lr (z := some 2281) T_364_34 rfl ?_
  refine x_gI (z := n) T_364_35 (Or.inl F_17_99) (PM.t hP) (Eq.trans (Eq.trans (PM.nS hP 2281 99 99 rfl rfl rfl) (Eq.trans (rU_f (Nat.ne_of_beq_eq_false rfl)) (rU_f (Nat.ne_of_beq_eq_false rfl)))) h99) ?_
  refine x_lr (z := some 2281) T_364_38 rfl ?_
  refine x_gR (z := some 2352) T_364_39 F_17_88 (PM.t hP) (PM.r hP 88 2352 rfl) ?_
  refine x_li (z := z) T_364_42 rfl ?_
  refine x_alI (z := c.2.2.1) T_364_43 (by decide) (PM.ta hP 2352 0 64 rfl rfl) (by omega) (by omega) (Eq.trans (Eq.trans (PM.aS hP 2352 rfl rfl (by omega)) (Eq.trans (rU_f (Nat.ne_of_beq_eq_false rfl)) (rU_f (Nat.ne_of_beq_eq_false rfl)))) g3) ?_
  refine y_aIS hP T_364_44 2358 6 rfl rfl rfl (by omega) (by omega) (fun σ hP => ?_)
  refine x_lr (z := some 2281) T_364_45 rfl ?_
  refine x_gR (z := some 2359) T_364_46 F_17_97 (PM.t hP) (PM.r hP 97 2359 rfl) ?_
  refine x_lr (z := some 2281) T_364_49 rfl ?_
  refine x_gI (z := n) T_364_50 (Or.inl F_17_99) (PM.t hP) (Eq.trans (Eq.trans (PM.nS hP 2281 99 99 rfl rfl rfl) (Eq.trans (rU_f (Nat.ne_of_beq_eq_false rfl)) (Eq.trans (rU_f (Nat.ne_of_beq_eq_false rfl)) (rU_f (Nat.ne_of_beq_eq_false rfl))))) h99) ?_
  refine x_lr (z := some 2281) T_364_53 rfl ?_
  refine x_gR (z := some 2353) T_364_54 F_17_89 (PM.t hP) (PM.r hP 89 2353 rfl) ?_
  refine x_li (z := z) T_364_57 rfl ?_
  refine x_alI (z := c.2.2.2.1) T_364_58 (by decide) (PM.ta hP 2353 0 64 rfl rfl) (by omega) (by omega) (Eq.trans (Eq.trans (PM.aS hP 2353 rfl rfl (by omega)) (Eq.trans (rU_f (Nat.ne_of_beq_eq_false rfl)) (Eq.trans (rU_f (Nat.ne_of_beq_eq_false rfl)) (rU_f (Nat.ne_of_beq_eq_false rfl))))) g4) ?_
  refine y_aIS hP T_364_59 2359 6 rfl rfl rfl (by omega) (by omega) (fun σ hP => ?_)
  refine x_lr (z := some 2281) T_364_60 rfl ?_
  refine x_gR (z := some 2360) T_364_61 F_17_98 (PM.t hP) (PM.r hP 98 2360 rfl) ?_
  refine x_lr (z := some 2281) T_364_64 rfl ?_
  refine x_gI (z := n) T_364_65 (Or.inl F_17_99) (PM.t hP) (Eq.trans (Eq.trans (PM.nS hP 2281 99 99 rfl rfl rfl) (Eq.trans (rU_f (Nat.ne_of_beq_eq_false rfl)) (Eq.trans (rU_f (Nat.ne_of_beq_eq_false rfl)) (Eq.trans (rU_f (Nat.ne_of_beq_eq_false rfl)) (rU_f (Nat.ne_of_beq_eq_false rfl)))))) h99) ?_
  refine x_li (z := mk) T_364_68 rfl ?_
  refine y_aZS hP T_364_69 (by rcases hm with q | q <;> rw [q] <;> rfl) 2360 6 rfl rfl rfl (by omega) (by omega) (fun σ hP => ?_)
  refine x_lr (z := some 2281) T_364_70 rfl ?_
  refine x_dupR T_364_71 ?_
  refine x_gI (z := n) T_364_72 (Or.inl F_17_99) (PM.t hP) (Eq.trans (Eq.trans (PM.nS hP 2281 99 99 rfl rfl rfl) (Eq.trans (rU_f (Nat.ne_of_beq_eq_false rfl)) (Eq.trans (rU_f (Nat.ne_of_beq_eq_false rfl)) (Eq.trans (rU_f (Nat.ne_of_beq_eq_false rfl)) (Eq.trans (rU_f (Nat.ne_of_beq_eq_false rfl)) (rU_f (Nat.ne_of_beq_eq_false rfl))))))) h99) ?_
  refine x_ic T_364_75 ?_
  refine x_ib (w := (n + 1)) T_364_76 (fun h => absurd h.1 (by decide)) (w32_id (by omega) (by omega)) ?_
  refine y_pIS hP T_364_77 F_17_99 99 rfl rfl (fun σ hP => ?_)
  refine x_rv T_364_80 ?_
  exact ⟨_, rfl, hP, hKn, hNn, SX_nw (n := n) (x := chN c mk)⟩
theorem m_addOld_loop (hG : GI T U P) (hpt : 0 ≤ pt ∧ pt < 64) : ∀ (m : Nat) (j : Int) (ns : List Nw) (S : qR) (σ : hM) (l3 : Option AV), j + m = P 2337 pt → 0 ≤ j → ns.length + m ≤ 6 → PM σ0 P S σ → KS T U P S l h → NW S ns → WP fb d 365 2 [some (vR (some 2281)), some (vI pt), some (vI j), l3] [] σ (KN T U σ0 P S l h (ns ++ mbL P pt m j)) := by
  have bm : 0 ≤ P 2337 pt ∧ P 2337 pt ≤ 6 := IV.a hG.iv 2337 0 64 rfl rfl rfl (by omega) (by omega)
  intro m
  induction m with
  | zero =>
    intro j ns S σ l3 h1 h2 h3 hP hK hN
    rw [show ns ++ mbL P pt 0 j = ns from List.append_nil ns]
    have h1 : j + ((0 : Nat) : Int) = P 2337 pt := h1
    refine x_li (z := pt) T_365_2 rfl ?_
    refine x_if T_365_3 (fun h => absurd (show pt < 0 from h) (by omega)) (fun _ => ?_)
    refine x_li (z := j) T_365_6 rfl ?_
    refine x_lr (z := some 2281) T_365_7 rfl ?_
    refine x_gR (z := some 2337) T_365_8 F_17_67 (PM.t hP) (PM.r hP 67 2337 rfl) ?_
    refine x_li (z := pt) T_365_11 rfl ?_
    refine x_alI (z := P 2337 pt) T_365_12 (by decide) (PM.ta hP 2337 0 64 rfl rfl) (by omega) (by omega) (PM.aP hP 2337 rfl rfl (by omega)) ?_
    refine x_ic2 T_365_13 (fun _ => ?_) (fun h => absurd (show P 2337 pt ≤ j by omega) h)
    refine x_rv T_365_114 ?_
    exact ⟨S, rfl, hP, hK, hN, SX_rfl⟩
  | succ m ih =>
    intro j ns S σ l3 h1 h2 h3 hP hK hN
    have hx := mbT_rng hG (m := 6 * pt + j) ⟨by omega, by omega⟩
    have hKn := hK.nw (n := (ns.length : Int)) (x := mbT P (6 * pt + j)) ⟨by omega, by omega⟩ hx
    have hNn := hN.push (x := mbT P (6 * pt + j)) (by omega)
    have h99 := hN.1
    have b5 : 0 ≤ P 2342 (6 * pt + j) ∧ P 2342 (6 * pt + j) ≤ 1 := hx.2.2.2.2
    have hgo := fun (σ : hM) (l3 : Option AV) (hP : PM σ0 P (gNw S (ns.length : Int) (mbT P (6 * pt + j))) σ) => WP.mono (ih (j + 1) (ns ++ [mbT P (6 * pt + j)]) _ σ l3 (by omega) (by omega) (by rw [List.length_append]; show ns.length + 1 + m ≤ 6; omega) hP hKn hNn) (Q := KN T U σ0 P S l h (ns ++ mbL P pt (m + 1) j)) (fun r σ1 hr => by
      obtain ⟨S2, r1, r2, r3, r4, r5⟩ := hr
      refine ⟨S2, r1, r2, r3, ?_, SX_tr SX_nw r5⟩
      rw [List.append_assoc] at r4
      exact r4)
    obtain ⟨n, hn⟩ : ∃ n : Int, (ns.length : Int) = n := ⟨_, rfl⟩
    rw [hn] at h99 hgo
    refine x_li (z := pt) T_365_2 rfl ?_
    refine x_if T_365_3 (fun h => absurd (show pt < 0 from h) (by omega)) (fun _ => ?_)
    refine x_li (z := j) T_365_6 rfl ?_
    refine x_lr (z := some 2281) T_365_7 rfl ?_
    refine x_gR (z := some 2337) T_365_8 F_17_67 (PM.t hP) (PM.r hP 67 2337 rfl) ?_
    refine x_li (z := pt) T_365_11 rfl ?_
    refine x_alI (z := P 2337 pt) T_365_12 (by decide) (PM.ta hP 2337 0 64 rfl rfl) (by omega) (by omega) (PM.aP hP 2337 rfl rfl (by omega)) ?_
    refine x_ic2 T_365_13 (fun h => absurd (show P 2337 pt ≤ j from h) (by omega)) (fun _ => ?_)
    refine x_ic T_365_16 ?_
    refine x_li (z := pt) T_365_18 rfl ?_
    refine x_ib (w := (6 * pt)) T_365_19 (fun h => absurd h.1 (by decide)) (w32_id (by omega) (by omega)) ?_
    refine x_li (z := j) T_365_20 rfl ?_
    refine x_ib (w := ((6 * pt) + j)) T_365_21 (fun h => absurd h.1 (by decide)) (w32_id (by omega) (by omega)) ?_
    refine x_si (ls1 := [some (vR (some 2281)), some (vI pt), some (vI j), some (vI ((6 * pt) + j))]) T_365_22 rfl ?_
    refine x_lr (z := some 2281) T_365_23 rfl ?_
    refine x_gR (z := some 2356) T_365_24 F_17_94 (PM.t hP) (PM.r hP 94 2356 rfl) ?_
    refine x_lr (z := some 2281) T_365_27 rfl ?_
    refine x_gI (z := n) T_365_28 (Or.inl F_17_99) (PM.t hP) (Eq.trans (PM.nS hP 2281 99 99 rfl rfl rfl) h99) ?_
    refine x_lr (z := some 2281) T_365_31 rfl ?_
    refine x_gR (z := some 2338) T_365_32 F_17_68 (PM.t hP) (PM.r hP 68 2338 rfl) ?_
    refine x_li (z := ((6 * pt) + j)) T_365_35 rfl ?_
    refine x_alI (z := P 2338 ((6 * pt) + j)) T_365_36 (by decide) (PM.ta hP 2338 0 384 rfl rfl) (by omega) (by omega) (PM.aP hP 2338 rfl rfl (by omega)) ?_
    refine y_aIS hP T_365_37 2356 6 rfl rfl rfl (by omega) (by omega) (fun σ hP => ?_)
    refine x_lr (z := some 2281) T_365_38 rfl ?_
    refine x_gR (z := some 2357) T_365_39 F_17_95 (PM.t hP) (PM.r hP 95 2357 rfl) ?_
    refine x_lr (z := some 2281) T_365_42 rfl ?_
    refine x_gI (z := n) T_365_43 (Or.inl F_17_99) (PM.t hP) (Eq.trans (Eq.trans (PM.nS hP 2281 99 99 rfl rfl rfl) (rU_f (Nat.ne_of_beq_eq_false rfl))) h99) ?_
    refine x_lr (z := some 2281) T_365_46 rfl ?_
    refine x_gR (z := some 2339) T_365_47 F_17_69 (PM.t hP) (PM.r hP 69 2339 rfl) ?_
    refine x_li (z := ((6 * pt) + j)) T_365_50 rfl ?_
    refine x_alI (z := P 2339 ((6 * pt) + j)) T_365_51 (by decide) (PM.ta hP 2339 0 384 rfl rfl) (by omega) (by omega) (PM.aP hP 2339 rfl rfl (by omega)) ?_
    refine y_aIS hP T_365_52 2357 6 rfl rfl rfl (by omega) (by omega) (fun σ hP => ?_)
    refine x_lr (z := some 2281) T_365_53 rfl ?_
    refine x_gR (z := some 2358) T_365_54 F_17_96 (PM.t hP) (PM.r hP 96 2358 rfl) ?_
    refine x_lr (z := some 2281) T_365_57 rfl ?_
    refine x_gI (z := n) T_365_58 (Or.inl F_17_99) (PM.t hP) (Eq.trans (Eq.trans (PM.nS hP 2281 99 99 rfl rfl rfl) (Eq.trans (rU_f (Nat.ne_of_beq_eq_false rfl)) (rU_f (Nat.ne_of_beq_eq_false rfl)))) h99) ?_
    refine x_lr (z := some 2281) T_365_61 rfl ?_
    refine x_gR (z := some 2340) T_365_62 F_17_70 (PM.t hP) (PM.r hP 70 2340 rfl) ?_
    refine x_li (z := ((6 * pt) + j)) T_365_65 rfl ?_
    refine x_alI (z := P 2340 ((6 * pt) + j)) T_365_66 (by decide) (PM.ta hP 2340 0 384 rfl rfl) (by omega) (by omega) (PM.aP hP 2340 rfl rfl (by omega)) ?_
    refine y_aIS hP T_365_67 2358 6 rfl rfl rfl (by omega) (by omega) (fun σ hP => ?_)
    refine x_lr (z := some 2281) T_365_68 rfl ?_
    refine x_gR (z := some 2359) T_365_69 F_17_97 (PM.t hP) (PM.r hP 97 2359 rfl) ?_
    refine x_lr (z := some 2281) T_365_72 rfl ?_
    refine x_gI (z := n) T_365_73 (Or.inl F_17_99) (PM.t hP) (Eq.trans (Eq.trans (PM.nS hP 2281 99 99 rfl rfl rfl) (Eq.trans (rU_f (Nat.ne_of_beq_eq_false rfl)) (Eq.trans (rU_f (Nat.ne_of_beq_eq_false rfl)) (rU_f (Nat.ne_of_beq_eq_false rfl))))) h99) ?_
    refine x_lr (z := some 2281) T_365_76 rfl ?_
    refine x_gR (z := some 2341) T_365_77 F_17_71 (PM.t hP) (PM.r hP 71 2341 rfl) ?_
    refine x_li (z := ((6 * pt) + j)) T_365_80 rfl ?_
    refine x_alI (z := P 2341 ((6 * pt) + j)) T_365_81 (by decide) (PM.ta hP 2341 0 384 rfl rfl) (by omega) (by omega) (PM.aP hP 2341 rfl rfl (by omega)) ?_
    refine y_aIS hP T_365_82 2359 6 rfl rfl rfl (by omega) (by omega) (fun σ hP => ?_)
    refine x_lr (z := some 2281) T_365_83 rfl ?_
    refine x_gR (z := some 2360) T_365_84 F_17_98 (PM.t hP) (PM.r hP 98 2360 rfl) ?_
    refine x_lr (z := some 2281) T_365_87 rfl ?_
    refine x_gI (z := n) T_365_88 (Or.inl F_17_99) (PM.t hP) (Eq.trans (Eq.trans (PM.nS hP 2281 99 99 rfl rfl rfl) (Eq.trans (rU_f (Nat.ne_of_beq_eq_false rfl)) (Eq.trans (rU_f (Nat.ne_of_beq_eq_false rfl)) (Eq.trans (rU_f (Nat.ne_of_beq_eq_false rfl)) (rU_f (Nat.ne_of_beq_eq_false rfl)))))) h99) ?_
    refine x_lr (z := some 2281) T_365_91 rfl ?_
    refine x_gR (z := some 2342) T_365_92 F_17_72 (PM.t hP) (PM.r hP 72 2342 rfl) ?_
    refine x_li (z := ((6 * pt) + j)) T_365_95 rfl ?_
    refine x_alI (z := P 2342 ((6 * pt) + j)) T_365_96 (by decide) (PM.ta hP 2342 2 384 rfl rfl) (by omega) (by omega) (PM.aP hP 2342 rfl rfl (by omega)) ?_
    refine y_aZS hP T_365_97 (by rcases (show P 2342 (6 * pt + j) = 0 ∨ P 2342 (6 * pt + j) = 1 by omega) with q | q <;> rw [q] <;> rfl) 2360 6 rfl rfl rfl (by omega) (by omega) (fun σ hP => ?_)
    refine x_lr (z := some 2281) T_365_98 rfl ?_
    refine x_dupR T_365_99 ?_
    refine x_gI (z := n) T_365_100 (Or.inl F_17_99) (PM.t hP) (Eq.trans (Eq.trans (PM.nS hP 2281 99 99 rfl rfl rfl) (Eq.trans (rU_f (Nat.ne_of_beq_eq_false rfl)) (Eq.trans (rU_f (Nat.ne_of_beq_eq_false rfl)) (Eq.trans (rU_f (Nat.ne_of_beq_eq_false rfl)) (Eq.trans (rU_f (Nat.ne_of_beq_eq_false rfl)) (rU_f (Nat.ne_of_beq_eq_false rfl))))))) h99) ?_
    refine x_ic T_365_103 ?_
    refine x_ib (w := (n + 1)) T_365_104 (fun h => absurd h.1 (by decide)) (w32_id (by omega) (by omega)) ?_
    refine y_pIS hP T_365_105 F_17_99 99 rfl rfl (fun σ hP => ?_)
    refine x_inc (w := (j + 1)) (ls1 := [some (vR (some 2281)), some (vI pt), some (vI (j + 1)), some (vI ((6 * pt) + j))]) T_365_108 rfl (w32_id (by omega) (by omega)) rfl ?_
    refine x_goto T_365_111 ?_
    exact hgo σ _ hP
theorem m_addOld (hP : PM σ0 P S σ) (hK : KS T U P S l h) (hN : NW S ns) (hpt : pt < 64) (h6 : (ns ++ mbs P pt).length ≤ 6) : CL fb d 365 [vR (some 2281), vI pt] σ (KN T U σ0 P S l h (ns ++ mbs P pt)) := by
  unfold mbs at h6 ⊢
  by_cases q : pt < 0
  · rw [if_pos q, List.append_nil]
    refine CL_in mL_365 rfl ?_
    show WP fb _ 365 0 [some (vR (some 2281)), some (vI pt), none, none] [] σ _
    refine x_ic T_365_0 ?_
    refine x_si (ls1 := [some (vR (some 2281)), some (vI pt), some (vI 0), none]) T_365_1 rfl ?_
    refine x_li (z := pt) T_365_2 rfl ?_
    refine x_if T_365_3 (fun _ => ?_) (fun h => absurd (show pt < 0 by omega) h)
    refine x_rv T_365_114 ?_
    exact ⟨S, rfl, hP, hK, hN, SX_rfl⟩
  · rw [if_neg q] at h6 ⊢
    rw [List.length_append, mbL_len] at h6
    have bm : 0 ≤ P 2337 pt ∧ P 2337 pt ≤ 6 := IV.a hK.1.iv 2337 0 64 rfl rfl rfl (by omega) (by omega)
    have hgo := m_addOld_loop (fb := fb) (d := d) hK.1 ⟨by omega, hpt⟩ (P 2337 pt).toNat 0 ns S σ none (by omega) (by decide) h6 hP hK hN
    refine CL_in mL_365 rfl ?_
    show WP fb _ 365 0 [some (vR (some 2281)), some (vI pt), none, none] [] σ _
    refine x_ic T_365_0 ?_
    refine x_si (ls1 := [some (vR (some 2281)), some (vI pt), some (vI 0), none]) T_365_1 rfl ?_
    exact hgo
end MNEWS
