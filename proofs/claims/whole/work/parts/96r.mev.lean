/-! Commands in one another: what they come to; if and for begin. -/
theorem T_320_0 : hTab 320 0 = some ((3, 0, 2, []), 1) := rfl
theorem T_320_1 : hTab 320 1 = some ((24, 17, Int.ofNat 77, []), 4) := rfl
theorem T_320_4 : hTab 320 4 = some ((0, 0, 4, []), 5) := rfl
theorem T_320_5 : hTab 320 5 = some ((19, 5, Int.ofNat 32, []), 8) := rfl
theorem T_320_8 : hTab 320 8 = some ((3, 0, 2, []), 9) := rfl
theorem T_320_9 : hTab 320 9 = some ((0, 0, 2, []), 10) := rfl
theorem T_320_10 : hTab 320 10 = some ((31, 318, 0, []), 13) := rfl
theorem T_320_13 : hTab 320 13 = some ((0, 0, 1, []), 14) := rfl
theorem T_320_14 : hTab 320 14 = some ((19, 1, Int.ofNat 32, []), 17) := rfl
theorem T_320_17 : hTab 320 17 = some ((3, 0, 2, []), 18) := rfl
theorem T_320_18 : hTab 320 18 = some ((0, 0, 2, []), 19) := rfl
theorem T_320_19 : hTab 320 19 = some ((0, 0, 0, []), 20) := rfl
theorem T_320_20 : hTab 320 20 = some ((31, 319, 0, []), 23) := rfl
theorem T_320_23 : hTab 320 23 = some ((0, 0, 61, []), 25) := rfl
theorem T_320_25 : hTab 320 25 = some ((19, 1, Int.ofNat 32, []), 28) := rfl
theorem T_320_28 : hTab 320 28 = some ((0, 0, 1, []), 29) := rfl
theorem T_320_29 : hTab 320 29 = some ((22, 0, Int.ofNat 33, []), 32) := rfl
theorem T_320_32 : hTab 320 32 = some ((0, 0, 0, []), 33) := rfl
theorem T_320_33 : hTab 320 33 = some ((4, 2, 0, []), 34) := rfl
theorem T_320_34 : hTab 320 34 = some ((3, 0, 2, []), 35) := rfl
theorem T_320_35 : hTab 320 35 = some ((24, 17, Int.ofNat 77, []), 38) := rfl
theorem T_320_38 : hTab 320 38 = some ((0, 0, 4, []), 39) := rfl
theorem T_320_39 : hTab 320 39 = some ((19, 5, Int.ofNat 77, []), 42) := rfl
theorem T_320_42 : hTab 320 42 = some ((3, 0, 2, []), 43) := rfl
theorem T_320_43 : hTab 320 43 = some ((0, 0, 2, []), 44) := rfl
theorem T_320_44 : hTab 320 44 = some ((31, 318, 0, []), 47) := rfl
theorem T_320_47 : hTab 320 47 = some ((0, 0, 2, []), 48) := rfl
theorem T_320_48 : hTab 320 48 = some ((19, 1, Int.ofNat 77, []), 51) := rfl
theorem T_320_51 : hTab 320 51 = some ((3, 0, 2, []), 52) := rfl
theorem T_320_52 : hTab 320 52 = some ((0, 0, 2, []), 53) := rfl
theorem T_320_53 : hTab 320 53 = some ((0, 0, 0, []), 54) := rfl
theorem T_320_54 : hTab 320 54 = some ((31, 319, 0, []), 57) := rfl
theorem T_320_57 : hTab 320 57 = some ((0, 0, 33, []), 59) := rfl
theorem T_320_59 : hTab 320 59 = some ((19, 1, Int.ofNat 77, []), 62) := rfl
theorem T_320_62 : hTab 320 62 = some ((3, 0, 2, []), 63) := rfl
theorem T_320_63 : hTab 320 63 = some ((0, 0, 2, []), 64) := rfl
theorem T_320_64 : hTab 320 64 = some ((0, 0, 1, []), 65) := rfl
theorem T_320_65 : hTab 320 65 = some ((31, 319, 0, []), 68) := rfl
theorem T_320_68 : hTab 320 68 = some ((0, 0, 61, []), 70) := rfl
theorem T_320_70 : hTab 320 70 = some ((19, 1, Int.ofNat 77, []), 73) := rfl
theorem T_320_73 : hTab 320 73 = some ((0, 0, 1, []), 74) := rfl
theorem T_320_74 : hTab 320 74 = some ((22, 0, Int.ofNat 78, []), 77) := rfl
theorem T_320_77 : hTab 320 77 = some ((0, 0, 0, []), 78) := rfl
theorem T_320_78 : hTab 320 78 = some ((4, 3, 0, []), 79) := rfl
theorem T_320_79 : hTab 320 79 = some ((3, 2, 0, []), 80) := rfl
theorem T_320_80 : hTab 320 80 = some ((18, 1, Int.ofNat 90, []), 83) := rfl
theorem T_320_83 : hTab 320 83 = some ((3, 3, 0, []), 84) := rfl
theorem T_320_84 : hTab 320 84 = some ((18, 1, Int.ofNat 90, []), 87) := rfl
theorem T_320_87 : hTab 320 87 = some ((0, 0, 18, []), 89) := rfl
theorem T_320_89 : hTab 320 89 = some ((33, 1, 0, []), 90) := rfl
theorem T_320_90 : hTab 320 90 = some ((3, 0, 2, []), 91) := rfl
theorem T_320_91 : hTab 320 91 = some ((0, 0, 1, []), 92) := rfl
theorem T_320_92 : hTab 320 92 = some ((0, 0, 3, []), 93) := rfl
theorem T_320_93 : hTab 320 93 = some ((31, 321, 0, []), 96) := rfl
theorem T_320_96 : hTab 320 96 = some ((3, 2, 0, []), 97) := rfl
theorem T_320_97 : hTab 320 97 = some ((19, 0, Int.ofNat 102, []), 100) := rfl
theorem T_320_100 : hTab 320 100 = some ((0, 0, 0, []), 101) := rfl
theorem T_320_101 : hTab 320 101 = some ((33, 1, 0, []), 102) := rfl
theorem T_320_102 : hTab 320 102 = some ((3, 0, 2, []), 103) := rfl
theorem T_320_103 : hTab 320 103 = some ((24, 17, Int.ofNat 108, []), 106) := rfl
theorem T_320_106 : hTab 320 106 = some ((3, 0, 2, []), 107) := rfl
theorem T_320_107 : hTab 320 107 = some ((24, 17, Int.ofNat 113, []), 110) := rfl
theorem T_320_110 : hTab 320 110 = some ((0, 0, 1, []), 111) := rfl
theorem T_320_111 : hTab 320 111 = some ((27, 0, 0, []), 112) := rfl
theorem T_320_112 : hTab 320 112 = some ((3, 0, 2, []), 113) := rfl
theorem T_320_113 : hTab 320 113 = some ((0, 0, 4, []), 114) := rfl
theorem T_320_114 : hTab 320 114 = some ((31, 322, 0, []), 117) := rfl
theorem T_320_117 : hTab 320 117 = some ((3, 0, 2, []), 118) := rfl
theorem T_320_118 : hTab 320 118 = some ((3, 1, 0, []), 119) := rfl
theorem T_320_119 : hTab 320 119 = some ((0, 0, 0, []), 120) := rfl
theorem T_320_120 : hTab 320 120 = some ((31, 310, 0, []), 123) := rfl
theorem T_320_123 : hTab 320 123 = some ((4, 4, 0, []), 125) := rfl
theorem T_320_125 : hTab 320 125 = some ((3, 4, 0, []), 127) := rfl
theorem T_320_127 : hTab 320 127 = some ((18, 5, Int.ofNat 135, []), 130) := rfl
theorem T_320_130 : hTab 320 130 = some ((3, 4, 0, []), 132) := rfl
theorem T_320_132 : hTab 320 132 = some ((22, 0, Int.ofNat 136, []), 135) := rfl
theorem T_320_135 : hTab 320 135 = some ((0, 0, (-1), []), 136) := rfl
theorem T_320_136 : hTab 320 136 = some ((33, 1, 0, []), 137) := rfl
theorem mN_320 : hmN 320 = 2 := by decide +kernel
theorem mL_320 : hmL 320 = 5 := by decide +kernel
theorem mK_320 : hmK 320 = 1 := by decide +kernel
theorem mO_320 : hmO 320 = 17 := by decide +kernel
def ifK (t : List Int) : Int := if 4 < ((lnW t).length : Int) ∧ lnB t 2 = [61] then 1 else if 4 < ((lnW t).length : Int) ∧ lnB t 2 = [33, 61] then 2 else 0
abbrev foK (t : List Int) : Prop := (4 < ((lnW t).length : Int) ∧ (lnB t 1).length = 1 ∧ (97 ≤ lg (lnB t 1) 0 ∧ lg (lnB t 1) 0 ≤ 122) ∧ lnB t 2 = [105, 110]) ∧ 3 ≤ pdO t ∧ ¬ pdO t = ((lnW t).length : Int) - 1
/-- where the line of a script that begins at a place ends -/
def neE (sc : List Int) : Nat → Int → Int
  | 0, e => e
  | m + 1, e => if e < (sc.length : Int) ∧ ¬ lg sc e = 10 then neE sc m (e + 1) else e
def lnE (sc : List Int) (pl : Int) : Int := neE sc sc.length pl
def lnM (sc : List Int) (pl : Int) : Int := if pl < lnE sc pl ∧ lg sc pl = 45 then 1 else 0
def lnT (sc : List Int) (pl : Int) : List Int := seg (lg sc) (pl + lnM sc pl) (lnE sc pl - (pl + lnM sc pl)).toNat
abbrev R4 : Type := Int × qR × Int
/-- a child that is refused, or done -/
def evC (ev : Int → Int → Option (List Int) → Fr → qR → Int → R4) (n : Int) (ar : Option (List Int)) (tx : List Int) (P : qR) (c : Int) : R4 := if bgE n c tx = 0 then ev (-1) (n + 1) ar (0, tx, 0, 0, []) P (c + 1) else (bgE n c tx, P, bgC n c)
/-- behind a child -/
def evR (p mu : Int) (R : R4) (ag : qR → Int → R4) : R4 := if 0 < R.1 ∧ mu = 0 then R else if ¬ R.2.1 2321 p = 0 then (0, R.2.1, R.2.2) else ag R.2.1 R.2.2
/-- the frame on top of n - 1 others, begun (-1) or to go on (-2): its answer, the rows, how many are done -/
def EV (p : Int) : Nat → Int → Int → Option (List Int) → Fr → qR → Int → R4
  | 0, _, _, _, _, P, c => (0, P, c)
  | m + 1, code, n, ar, fr, P, c => if code = -1 then (if (lnW fr.2.1).length = 0 then (0, P, c) else if pkW (lnB fr.2.1 0) = 26982 then (if ifK fr.2.1 = 0 then (18, P, c) else if (if lnB fr.2.1 1 = lnB fr.2.1 3 then (1 : Int) else 0) = (if ifK fr.2.1 = 1 then 1 else 0) then evC (EV p m) n ar (exL P p ar 0 (jnS fr.2.1 4)) P c else (0, P, c)) else if pkW (lnB fr.2.1 0) = 6713202 then (if foK fr.2.1 then EV p m (-2) n ar (2, fr.2.1, 3, 0, []) P c else (18, P, c)) else if pkW (lnB fr.2.1 0) = 7501166 then (if 2 ≤ ((lnW fr.2.1).length : Int) ∧ ((lnW fr.2.1).length : Int) ≤ 11 then (if 0 < (cCat P n p (lnB fr.2.1 1)).1 then ((cCat P n p (lnB fr.2.1 1)).1, kDrops (cCat P n p (lnB fr.2.1 1)).2.1 (cCat P n p (lnB fr.2.1 1)).2.2.1, c) else EV p m (-2) n ar (3, fr.2.1, 0, 0, (cCat P n p (lnB fr.2.1 1)).2.2.2.take 600) (kDrops (cCat P n p (lnB fr.2.1 1)).2.1 (cCat P n p (lnB fr.2.1 1)).2.2.1) c) else (18, P, c)) else ((cCmd P p fr.2.1).1, kDrops (cCmd P p fr.2.1).2.1 (cCmd P p fr.2.1).2.2, c)) else if fr.1 = 2 then (if fr.2.2.1 = pdO fr.2.1 then (0, P, c) else if 20 < (lnB fr.2.1 fr.2.2.1).length then (18, P, c) else evR p 0 (evC (EV p m) n ar (exL (gVar P p (lg (lnB fr.2.1 1) 0 - 97) (lnB fr.2.1 fr.2.2.1)) p ar 1 (jnS fr.2.1 (pdO fr.2.1 + 1))) (gVar P p (lg (lnB fr.2.1 1) 0 - 97) (lnB fr.2.1 fr.2.2.1)) c) (fun P1 c1 => EV p m (-2) n ar (2, fr.2.1, fr.2.2.1 + 1, 0, []) P1 c1)) else (if (fr.2.2.2.2.length : Int) ≤ fr.2.2.1 then (0, P, c) else evR p (lnM fr.2.2.2.2 fr.2.2.1) (if 100 < lnE fr.2.2.2.2 fr.2.2.1 - fr.2.2.1 then (18, P, c) else evC (EV p m) n (some fr.2.1) (exL P p (some fr.2.1) 1 (lnT fr.2.2.2.2 fr.2.2.1)) P c) (fun P1 c1 => EV p m (-2) n ar (3, fr.2.1, lnE fr.2.2.2.2 fr.2.2.1 + 1, lnM fr.2.2.2.2 fr.2.2.1, fr.2.2.2.2) P1 c1))
/-- frames that go on -/
def frOk (fr : Fr) : Prop := (fr.1 = 2 ∧ foK fr.2.1 ∧ 3 ≤ fr.2.2.1 ∧ fr.2.2.1 ≤ pdO fr.2.1) ∨ (fr.1 = 3 ∧ 0 ≤ fr.2.2.1 ∧ fr.2.2.1 ≤ 601 ∧ fr.2.2.2.2.length ≤ 600 ∧ byt fr.2.2.2.2)
/-- what a frame's turn comes to: an answer; a child begun; or it goes on -/
def STP (p code : Int) (fr : Fr) (fs : List Fr) (P : qR) (c : Int) (code2 : Int) (P2 S2 : qR) : Prop :=
  (∃ c2 : Int, 0 ≤ code2 ∧ c ≤ c2 ∧ c2 ≤ 200 ∧ S2 2281 113 = (fs.length : Int) + 1 ∧ S2 2281 114 = c2 ∧ FST S2 fs ∧ ∀ m, EV p (m + 1) code ((fs.length : Int) + 1) (arOf fs) fr P c = (code2, P2, c2)) ∨
  (code2 = -1 ∧ c < 200 ∧ (fs.length : Int) + 1 < 12 ∧ ∃ (tx : List Int) (fr2 : Fr), S2 2281 113 = (fs.length : Int) + 2 ∧ S2 2281 114 = c + 1 ∧ FST S2 ((0, tx, 0, 0, []) :: fr2 :: fs) ∧ ((fr2.1 = 1 ∧ code = -1 ∧ ∀ m, EV p (m + 1) code ((fs.length : Int) + 1) (arOf fs) fr P c = EV p m (-1) ((fs.length : Int) + 2) (arOf (fr2 :: fs)) (0, tx, 0, 0, []) P2 (c + 1)) ∨ (frOk fr2 ∧ frGo fr2 ∧ code = -2 ∧ fr2.1 = fr.1 ∧ fr.2.2.1 < fr2.2.2.1 ∧ (fr2.2.2.2.1 = 0 ∨ fr2.2.2.2.1 = 1) ∧ ∀ m, EV p (m + 1) code ((fs.length : Int) + 1) (arOf fs) fr P c = evR p fr2.2.2.2.1 (EV p m (-1) ((fs.length : Int) + 2) (arOf (fr2 :: fs)) (0, tx, 0, 0, []) P2 (c + 1)) (fun P1 c1 => EV p m (-2) ((fs.length : Int) + 1) (arOf fs) fr2 P1 c1)))) ∨
  (code2 = -2 ∧ ∃ (fr2 : Fr) (c2 : Int), c ≤ c2 ∧ c2 ≤ 200 ∧ S2 2281 113 = (fs.length : Int) + 1 ∧ S2 2281 114 = c2 ∧ FST S2 (fr2 :: fs) ∧ frOk fr2 ∧ (code = -1 ∨ (fr2.1 = fr.1 ∧ fr.2.2.1 < fr2.2.2.1)) ∧ ∀ m, EV p (m + 1) code ((fs.length : Int) + 1) (arOf fs) fr P c = EV p m (-2) ((fs.length : Int) + 1) (arOf fs) fr2 P2 c2)
section MEV
variable {fb : Bool} {d : Nat} {σ0 σ : hM} {P Q R S S0 S1 S2 : qR} {T U s w g u p k e t z o n N v b c i : Int} {l L tx tt : List Int} {h : List Ch} {fs : List Fr} {f fr : Fr}
theorem KS.fm (hK : KS T U P S l h) (hX : SX fmR fmN S S1) (hJ : IV true T U S1) : KS T U P S1 l h := by
  obtain ⟨a1, a2, a3, a4, a5⟩ := hK
  refine ⟨a1, a2, hJ, ⟨(hX.1 _ rfl).trans a4.1, a4.2.1, fun i hi => ?_⟩, a5.of (hX.1 _ rfl) (hX.1 _ rfl) (fun _ => hX.2 _ _ rfl rfl) (fun _ => hX.2 _ _ rfl rfl) (fun _ => hX.2 _ _ rfl rfl)⟩
  rw [hX.2 _ _ rfl rfl, hX.2 _ _ rfl rfl, hX.2 _ _ rfl rfl, hX.2 _ _ rfl rfl, hX.2 _ _ rfl rfl]
  exact a4.2.2 i hi
theorem SX_fm (h : SX soR soN S S1) : SX fmR fmN S S1 := h.mono (fun _ => elem_sub (by decide)) (fun _ => elem_sub (by decide))
theorem FX.so (h : FX S i f) (hX : SX soR soN S S1) : FX S1 i f := by
  obtain ⟨a1, ⟨a2, a3, a4, a5⟩, a6, a7, a8⟩ := h
  exact ⟨(hX.2 _ _ rfl rfl).trans a1, ⟨a2, a3, (hX.2 _ _ rfl rfl).trans a4, fun j b1 b2 b3 => (hX.2 _ _ rfl rfl).trans (a5 j b1 b2 b3)⟩, fun q => (hX.2 _ _ rfl rfl).trans (a6 q), fun q => (hX.2 _ _ rfl rfl).trans (a7 q), fun q => ⟨(hX.2 _ _ rfl rfl).trans (a8 q).1, (a8 q).2.1, fun j b1 b2 => (hX.2 _ _ rfl rfl).trans ((a8 q).2.2 j b1 b2)⟩⟩
theorem FST.so : ∀ {fs : List Fr}, FST S fs → SX soR soN S S1 → FST S1 fs
  | [], _, _ => trivial
  | f :: r, h, hX => ⟨h.1.so hX, FST.so h.2 hX⟩
/-- a place of another frame written -/
theorem FX.ne {g : Nat} (h : FX S i f) (hi : i ≠ k) (h1 : 2365 ≠ g) (h2 : 2370 ≠ g) : FX (rU S g k v) i f := by
  have e : ∀ r : Nat, rU S g k v r i = S r i := fun r => if_neg (fun c => hi c.2)
  obtain ⟨a1, ⟨a2, a3, a4, a5⟩, a6, a7, a8⟩ := h
  exact ⟨(e _).trans a1, ⟨a2, a3, (e _).trans a4, fun j b1 b2 b3 => (rU_f h1).trans (a5 j b1 b2 b3)⟩, fun q => (e _).trans (a6 q), fun q => (e _).trans (a7 q), fun q => ⟨(e _).trans (a8 q).1, (a8 q).2.1, fun j b1 b2 => (rU_f h2).trans ((a8 q).2.2 j b1 b2)⟩⟩
theorem FST.ne {g : Nat} : ∀ {fs : List Fr}, FST S fs → (fs.length : Int) < k → 2365 ≠ g → 2370 ≠ g → FST (rU S g k v) fs
  | [], _, _, _, _ => trivial
  | f :: r, h, hk, h1, h2 => by
    have hk : ((r.length + 1 : Nat) : Int) < k := hk
    exact ⟨h.1.ne (by omega) h1 h2, FST.ne h.2 (by omega) h1 h2⟩
theorem FX.txt (h : FX S i f) : f.2.1.length ≤ 100 ∧ byt f.2.1 ∧ TX S i f.2.1 := h.2.1
theorem TX.row {g : Nat} (h : TX S i tx) (h1 : 2365 ≠ g) (h2 : 2366 ≠ g) : TX (rU S g k v) i tx := ⟨(rU_f h2).trans h.1, fun j a b c => (rU_f h1).trans (h.2 j a b c)⟩
theorem SRC.of {src : List Int} (h : SRC S src) (h1 : S1 2281 105 = S 2281 105) (h2 : ∀ j, S1 2364 j = S 2364 j) : SRC S1 src := ⟨h1.trans h.1, h.2.1, h.2.2.1, fun j a b => (h2 j).trans (h.2.2.2 j a b)⟩
theorem arOf_n (h : ¬ f.1 = 3) : arOf (f :: fs) = arOf fs := if_neg h
theorem bgE_0 {tx : List Int} (h : bgE n c tx = 0) : ¬ n = 12 ∧ ¬ c = 200 := by
  unfold bgE at h
  by_cases q : n = 12 ∨ c = 200
  · rw [if_pos q] at h
    cases h
  · exact ⟨fun e => q (Or.inl e), fun e => q (Or.inr e)⟩
theorem bgE_rng {tx : List Int} : 0 ≤ bgE n c tx := by
  unfold bgE
  split
  · decide
  · split <;> decide
theorem bgC_rng (hc : 0 ≤ c ∧ c ≤ 200) : c ≤ bgC n c ∧ bgC n c ≤ 200 := by
  unfold bgC
  split <;> omega
abbrev EC (T U : Int) (σ0 : hM) (l : List Int) (p code : Int) (fr : Fr) (fs : List Fr) (P : qR) (c : Int) : Option AV → hM → Prop := fun r σ' => ∃ (code2 : Int) (S2 : qR), r = some (vI code2) ∧ PM σ0 P S2 σ' ∧ KS T U P S2 l [] ∧ STP p code fr fs P c code2 P S2
theorem m_choose (hP : PM σ0 P S σ) (hK : KS T U P S tt []) (hp : 0 ≤ p ∧ p < 8) (hF : FST S (fr :: fs)) (ht : fr.2.1 = tt) (hfk : fr.1 = 0) (hN : 0 < (lnW tt).length) (hv : pkW (lnB tt 0) = 26982) (hd : S 2281 113 = (fs.length : Int) + 1) (hd12 : (fs.length : Int) + 1 ≤ 12) (hc : S 2281 114 = c) (hc0 : 0 ≤ c ∧ c ≤ 200) : CL fb (d + 3) 320 [vR (some 2281), vI p] σ (EC T U σ0 tt p (-1) fr fs P c) := by
  have hL := hK.2.2.2.2
  obtain ⟨N, hN0⟩ : ∃ N : Int, ((lnW tt).length : Int) = N := ⟨_, rfl⟩
  have h77 : S 2281 77 = N := hL.2.2.2.2.1.trans hN0
  have hev : ∀ m, EV p (m + 1) (-1) ((fs.length : Int) + 1) (arOf fs) fr P c = if ifK tt = 0 then (18, P, c) else if (if lnB tt 1 = lnB tt 3 then (1 : Int) else 0) = (if ifK tt = 1 then 1 else 0) then evC (EV p m) ((fs.length : Int) + 1) (arOf fs) (exL P p (arOf fs) 0 (jnS tt 4)) P c else (0, P, c) := fun m => by
    show (if (-1 : Int) = -1 then _ else _) = _
    rw [if_pos rfl, ht, if_neg (by omega), if_pos hv]
  have hbad : ifK tt = 0 → ∀ σ : hM, PM σ0 P S σ → EC T U σ0 tt p (-1) fr fs P c (some (vI 18)) σ := fun q σ hP => ⟨18, S, rfl, hP, hK, Or.inl ⟨c, by decide, Int.le_refl c, hc0.2, hd, hc, hF.2, fun m => by rw [hev, if_pos q]⟩⟩
  -- from the comparison on
  have h90 : ∀ (sm ot : Int), 4 < N → ¬ ifK tt = 0 → (if ifK tt = 1 then (1 : Int) else 0) = sm → WP fb (d + 3) 320 90 [some (vR (some 2281)), some (vI p), some (vI sm), some (vI ot), none] [] σ (EC T U σ0 tt p (-1) fr fs P c) := fun sm ot h4 hk hsm => by
    have hal := m_isAlike (fb := fb) (d := d + 1) (a := 1) (b := 3) hP hL ⟨by decide, by omega⟩ ⟨by decide, by omega⟩
    obtain ⟨al, hal0⟩ : ∃ al, (if lnB tt 1 = lnB tt 3 then (1 : Int) else 0) = al := ⟨_, rfl⟩
    rw [hal0] at hal
    by_cases q : al = sm
    · have hJ0 : IV true T U (rU S 2367 ((fs.length : Int) + 1) 1) := hK.2.2.1.uA 2367 rfl (by show (0 : Int) ≤ 1 ∧ (1 : Int) ≤ 3; decide)
      have hX0 : SX fmR fmN S (rU S 2367 ((fs.length : Int) + 1) 1) := SX_up SX_rfl rfl rfl
      have hF0 : FST (rU S 2367 ((fs.length : Int) + 1) 1) ((1, tt, 0, 0, []) :: fs) := by
        refine ⟨⟨rU_s, ⟨by rw [← ht]; exact hF.1.txt.1, by rw [← ht]; exact hF.1.txt.2.1, by rw [← ht]; exact hF.1.txt.2.2.row (by decide) (by decide)⟩, fun q => absurd q (show ¬ (2 : Int) ≤ 1 by decide), fun q => q.elim (fun c => absurd c.1 (show ¬ (1 : Int) = 2 by decide)) (fun c => absurd c.1 (show ¬ (1 : Int) = 3 by decide)), fun q => absurd q (show ¬ (1 : Int) = 3 by decide)⟩, hF.2.ne (by omega) (by decide) (by decide)⟩
      have hK0 : KS T U P (rU S 2367 ((fs.length : Int) + 1) 1) tt [] := hK.fm hX0 hJ0
      obtain ⟨dn, hdn⟩ : ∃ dn : Int, (fs.length : Int) + 1 = dn := ⟨_, rfl⟩
      rw [hdn] at hJ0 hX0 hF0 hK0 hd hd12 hev
      have hjo := fun (σ : hM) (hP : PM σ0 P (rU S 2367 dn 1) σ) => m_join (fb := fb) (d := d + 1) (fst := 4) hP hJ0 hK0.2.2.2.2 ⟨by decide, by omega⟩
      have hfin : ∀ (σ : hM) (S1 : qR), PM σ0 P S1 σ → IV true T U S1 → SRC S1 (jnS tt 4) → SX soR soN (rU S 2367 dn 1) S1 → WP fb (d + 3) 320 117 [some (vR (some 2281)), some (vI p), some (vI sm), some (vI ot), none] [] σ (EC T U σ0 tt p (-1) fr fs P c) := fun σ S1 a1 a2 a3 a4 => by
        have hF1 := hF0.so a4
        have hd1 : S1 2281 113 = dn := (a4.1 _ rfl).trans ((rU_f (by decide)).trans hd)
        have hc1 : S1 2281 114 = c := (a4.1 _ rfl).trans ((rU_f (by decide)).trans hc)
        have hK1 : KS T U P S1 tt [] := hK0.fm (SX_fm a4) a2
        have hbg := fun (σ : hM) (hP : PM σ0 P S1 σ) => m_begin2 (fb := fb) (d := d) (ex := 0) (n := dn) (fs := (1, tt, 0, 0, []) :: fs) hP hK.1.iv a2 hp (Or.inl rfl) a3 hF1 (by show ((fs.length + 1 : Nat) : Int) = dn; omega) hd12 hd1 hc1 hc0
        have har : arOf ((1, tt, 0, 0, []) :: fs) = arOf fs := arOf_n (show ¬ (1 : Int) = 3 by decide)
        rw [har] at hbg
        obtain ⟨tx, htx⟩ : ∃ tx, exL P p (arOf fs) 0 (jnS tt 4) = tx := ⟨_, rfl⟩
        have hev2 : ∀ m, EV p (m + 1) (-1) dn (arOf fs) fr P c = evC (EV p m) dn (arOf fs) tx P c := fun m => by
          rw [hev, if_neg hk, hal0, hsm, if_pos q, htx]
        rw [htx] at hbg
        have hrg := bgE_rng (n := dn) (c := c) (tx := tx)
        by_cases q2 : bgE dn c tx = 0
        · have hP := a1
          refine x_lr (z := some 2281) T_320_117 rfl ?_
          refine x_li (z := p) T_320_118 rfl ?_
          refine x_ic T_320_119 ?_
          refine x_cv3 T_320_120 mN_310 mL_310 (Nat.le_of_ble_eq_true rfl) mO_310 (PM.t hP) (Nat.le_of_ble_eq_true rfl) (hbg σ hP) ?_
          clear hbg
          intro r σ hr
          obtain ⟨S2, hr0, hP, hJ2, hX2, hc2, hg, -⟩ := hr
          rw [q2] at hr0
          subst hr0
          refine cI ?_
          refine x_si (ls1 := [some (vR (some 2281)), some (vI p), some (vI sm), some (vI ot), some (vI 0)]) T_320_123 rfl ?_
          refine x_li (z := 0) T_320_125 rfl ?_
          refine x_if T_320_127 (fun _ => ?_) (fun h => absurd (show (0 : Int) ≤ 0 by decide) h)
          refine x_ic T_320_135 ?_
          refine x_ri T_320_136 ?_
          skip
          obtain ⟨g1, g2⟩ := hg q2
          obtain ⟨b1, b2⟩ := bgE_0 q2
          have e2 : bgC dn c = c + 1 := if_neg (fun e => e.elim b1 b2)
          rw [e2] at hc2
          refine ⟨-1, S2, rfl, hP, hK1.fm hX2 hJ2, Or.inr (Or.inl ⟨rfl, by omega, by omega, tx, (1, tt, 0, 0, []), by omega, hc2, g2, Or.inl ⟨rfl, rfl, fun m => ?_⟩⟩)⟩
          rw [hdn, hev2]
          unfold evC
          rw [if_pos q2, har, show dn + 1 = (fs.length : Int) + 2 by omega]
        · have hP := a1
          obtain ⟨e0, he0⟩ : ∃ e, bgE dn c tx = e := ⟨_, rfl⟩
          rw [he0] at hrg q2
          refine x_lr (z := some 2281) T_320_117 rfl ?_
          refine x_li (z := p) T_320_118 rfl ?_
          refine x_ic T_320_119 ?_
          refine x_cv3 T_320_120 mN_310 mL_310 (Nat.le_of_ble_eq_true rfl) mO_310 (PM.t hP) (Nat.le_of_ble_eq_true rfl) (hbg σ hP) ?_
          clear hbg
          intro r σ hr
          obtain ⟨S2, hr0, hP, hJ2, hX2, hc2, -, hg⟩ := hr
          rw [he0] at hr0 hg
          subst hr0
          refine cI ?_
          refine x_si (ls1 := [some (vR (some 2281)), some (vI p), some (vI sm), some (vI ot), some (vI e0)]) T_320_123 rfl ?_
          refine x_li (z := e0) T_320_125 rfl ?_
          refine x_if T_320_127 (fun h => absurd (show e0 ≤ 0 from h) (by omega)) (fun _ => ?_)
          refine x_li (z := e0) T_320_130 rfl ?_
          refine x_goto T_320_132 ?_
          refine x_ri T_320_136 ?_
          skip
          obtain ⟨g1, g2⟩ := hg q2
          have hcr := bgC_rng (n := dn) hc0
          refine ⟨e0, S2, rfl, hP, hK1.fm hX2 hJ2, Or.inl ⟨bgC dn c, hrg, hcr.1, hcr.2, by omega, hc2, g2.2, fun m => ?_⟩⟩
          rw [hdn, hev2]
          unfold evC
          rw [he0, if_neg q2]
      refine x_lr (z := some 2281) T_320_90 rfl ?_
      refine x_ic T_320_91 ?_
      refine x_ic T_320_92 ?_
      refine x_cv3 T_320_93 mN_321 mL_321 (Nat.le_of_ble_eq_true rfl) mO_321 (PM.t hP) (Nat.le_of_ble_eq_true rfl) (hal) ?_
      rintro _ σ ⟨rfl, rfl⟩
      refine cI ?_
      refine x_li (z := sm) T_320_96 rfl ?_
      refine x_ic2 T_320_97 (fun _ => ?_) (fun h => absurd (show al = sm by omega) h)
      refine x_lr (z := some 2281) T_320_102 rfl ?_
      refine x_gR (z := some 2367) T_320_103 F_17_108 (PM.t hP) (PM.r hP 108 2367 rfl) ?_
      refine x_lr (z := some 2281) T_320_106 rfl ?_
      refine x_gI (z := dn) T_320_107 (Or.inl F_17_113) (PM.t hP) (Eq.trans (PM.nS hP 2281 113 113 rfl rfl rfl) hd) ?_
      refine x_ic T_320_110 ?_
      refine y_aIS hP T_320_111 2367 13 rfl rfl rfl (by omega) (by omega) (fun σ hP => ?_)
      refine x_lr (z := some 2281) T_320_112 rfl ?_
      refine x_ic T_320_113 ?_
      refine x_cv2 T_320_114 mN_322 mL_322 (Nat.le_of_ble_eq_true rfl) mO_322 (PM.t hP) (Nat.le_of_ble_eq_true rfl) (hjo σ hP) ?_
      clear hP hjo
      rintro _ σ ⟨S1, rfl, hP, hJ1, hS1, hX1⟩
      refine cV ?_
      exact hfin σ S1 hP hJ1 hS1 hX1
    · skip
      refine x_lr (z := some 2281) T_320_90 rfl ?_
      refine x_ic T_320_91 ?_
      refine x_ic T_320_92 ?_
      refine x_cv3 T_320_93 mN_321 mL_321 (Nat.le_of_ble_eq_true rfl) mO_321 (PM.t hP) (Nat.le_of_ble_eq_true rfl) (hal) ?_
      rintro _ σ ⟨rfl, rfl⟩
      refine cI ?_
      refine x_li (z := sm) T_320_96 rfl ?_
      refine x_ic2 T_320_97 (fun h => absurd (show al = sm from h) (by omega)) (fun _ => ?_)
      refine x_ic T_320_100 ?_
      refine x_ri T_320_101 ?_
      exact ⟨0, S, rfl, hP, hK, Or.inl ⟨c, by decide, Int.le_refl c, hc0.2, hd, hc, hF.2, fun m => by rw [hev, if_neg hk, hal0, hsm, if_neg q]⟩⟩
  by_cases h4 : 4 < N
  · obtain ⟨n2, hn2⟩ : ∃ n : Int, ((lnB tt 2).length : Int) = n := ⟨_, rfl⟩
    have hw2 : (0 : Int) ≤ 2 ∧ 2 < ((lnW tt).length : Int) := ⟨by decide, by omega⟩
    have hsz := CL_val (m_size (fb := fb) (d := d + 2) hP hL hw2) hn2
    have hl1 := (lnB_len hL.2.1 hw2).1
    have s0 := m_sign (fb := fb) (d := d + 2) (k := 0) hP hL hw2 ⟨by decide, by omega⟩
    obtain ⟨y0, hy0⟩ : ∃ y, lg (lnB tt 2) 0 = y := ⟨_, rfl⟩
    rw [hy0] at s0
    have e1 := one_eq (lnB tt 2) 61
    have e2 := two_eq (lnB tt 2) 33 61
    rw [hy0, hn2] at e1 e2
    by_cases q1 : n2 = 1
    · by_cases q0 : y0 = 61
      · have hk1 : ifK tt = 1 := if_pos ⟨by omega, e1.mpr ⟨q1, q0⟩⟩
        have hgo := h90 1 0 h4 (by rw [hk1]; decide) (if_pos hk1)
        refine CL_in mL_320 rfl ?_
        show WP fb _ 320 0 [some (vR (some 2281)), some (vI p), none, none, none] [] σ _
        refine x_lr (z := some 2281) T_320_0 rfl ?_
        refine x_gI (z := N) T_320_1 (Or.inl F_17_77) (PM.t hP) (Eq.trans (PM.nS hP 2281 77 77 rfl rfl rfl) h77) ?_
        refine x_ic T_320_4 ?_
        refine x_ic2 T_320_5 (fun h => absurd (show N ≤ 4 from h) (by omega)) (fun _ => ?_)
        refine x_lr (z := some 2281) T_320_8 rfl ?_
        refine x_ic T_320_9 ?_
        refine x_cv2 T_320_10 mN_318 mL_318 (Nat.le_of_ble_eq_true rfl) mO_318 (PM.t hP) (Nat.le_of_ble_eq_true rfl) (hsz) ?_
        rintro _ σ ⟨rfl, rfl⟩
        refine cI ?_
        refine x_ic T_320_13 ?_
        refine x_ic2 T_320_14 (fun h => absurd (show ¬ n2 = 1 from h) (by omega)) (fun _ => ?_)
        refine x_lr (z := some 2281) T_320_17 rfl ?_
        refine x_ic T_320_18 ?_
        refine x_ic T_320_19 ?_
        refine x_cv3 T_320_20 mN_319 mL_319 (Nat.le_of_ble_eq_true rfl) mO_319 (PM.t hP) (Nat.le_of_ble_eq_true rfl) (s0) ?_
        rintro _ σ ⟨rfl, rfl⟩
        refine cI ?_
        refine x_ic T_320_23 ?_
        refine x_ic2 T_320_25 (fun h => absurd (show ¬ y0 = 61 from h) (by omega)) (fun _ => ?_)
        refine x_ic T_320_28 ?_
        refine x_goto T_320_29 ?_
        refine x_si (ls1 := [some (vR (some 2281)), some (vI p), some (vI 1), none, none]) T_320_33 rfl ?_
        refine x_lr (z := some 2281) T_320_34 rfl ?_
        refine x_gI (z := N) T_320_35 (Or.inl F_17_77) (PM.t hP) (Eq.trans (PM.nS hP 2281 77 77 rfl rfl rfl) h77) ?_
        refine x_ic T_320_38 ?_
        refine x_ic2 T_320_39 (fun h => absurd (show N ≤ 4 from h) (by omega)) (fun _ => ?_)
        refine x_lr (z := some 2281) T_320_42 rfl ?_
        refine x_ic T_320_43 ?_
        refine x_cv2 T_320_44 mN_318 mL_318 (Nat.le_of_ble_eq_true rfl) mO_318 (PM.t hP) (Nat.le_of_ble_eq_true rfl) (hsz) ?_
        rintro _ σ ⟨rfl, rfl⟩
        refine cI ?_
        refine x_ic T_320_47 ?_
        refine x_ic2 T_320_48 (fun _ => ?_) (fun h => absurd (show ¬ n2 = 2 by omega) h)
        refine x_ic T_320_77 ?_
        refine x_si (ls1 := [some (vR (some 2281)), some (vI p), some (vI 1), some (vI 0), none]) T_320_78 rfl ?_
        refine x_li (z := 1) T_320_79 rfl ?_
        refine x_if T_320_80 (fun _ => ?_) (fun h => absurd (show ¬ (1 : Int) = 0 by decide) h)
        exact hgo
      · have hk0 : ifK tt = 0 := by
          unfold ifK
          rw [if_neg (fun c => q0 (e1.mp c.2).2), if_neg (fun c => by have := (e2.mp c.2).1; omega)]
        refine CL_in mL_320 rfl ?_
        show WP fb _ 320 0 [some (vR (some 2281)), some (vI p), none, none, none] [] σ _
        refine x_lr (z := some 2281) T_320_0 rfl ?_
        refine x_gI (z := N) T_320_1 (Or.inl F_17_77) (PM.t hP) (Eq.trans (PM.nS hP 2281 77 77 rfl rfl rfl) h77) ?_
        refine x_ic T_320_4 ?_
        refine x_ic2 T_320_5 (fun h => absurd (show N ≤ 4 from h) (by omega)) (fun _ => ?_)
        refine x_lr (z := some 2281) T_320_8 rfl ?_
        refine x_ic T_320_9 ?_
        refine x_cv2 T_320_10 mN_318 mL_318 (Nat.le_of_ble_eq_true rfl) mO_318 (PM.t hP) (Nat.le_of_ble_eq_true rfl) (hsz) ?_
        rintro _ σ ⟨rfl, rfl⟩
        refine cI ?_
        refine x_ic T_320_13 ?_
        refine x_ic2 T_320_14 (fun h => absurd (show ¬ n2 = 1 from h) (by omega)) (fun _ => ?_)
        refine x_lr (z := some 2281) T_320_17 rfl ?_
        refine x_ic T_320_18 ?_
        refine x_ic T_320_19 ?_
        refine x_cv3 T_320_20 mN_319 mL_319 (Nat.le_of_ble_eq_true rfl) mO_319 (PM.t hP) (Nat.le_of_ble_eq_true rfl) (s0) ?_
        rintro _ σ ⟨rfl, rfl⟩
        refine cI ?_
        refine x_ic T_320_23 ?_
        refine x_ic2 T_320_25 (fun _ => ?_) (fun h => absurd (show ¬ y0 = 61 by omega) h)
        refine x_ic T_320_32 ?_
        refine x_si (ls1 := [some (vR (some 2281)), some (vI p), some (vI 0), none, none]) T_320_33 rfl ?_
        refine x_lr (z := some 2281) T_320_34 rfl ?_
        refine x_gI (z := N) T_320_35 (Or.inl F_17_77) (PM.t hP) (Eq.trans (PM.nS hP 2281 77 77 rfl rfl rfl) h77) ?_
        refine x_ic T_320_38 ?_
        refine x_ic2 T_320_39 (fun h => absurd (show N ≤ 4 from h) (by omega)) (fun _ => ?_)
        refine x_lr (z := some 2281) T_320_42 rfl ?_
        refine x_ic T_320_43 ?_
        refine x_cv2 T_320_44 mN_318 mL_318 (Nat.le_of_ble_eq_true rfl) mO_318 (PM.t hP) (Nat.le_of_ble_eq_true rfl) (hsz) ?_
        rintro _ σ ⟨rfl, rfl⟩
        refine cI ?_
        refine x_ic T_320_47 ?_
        refine x_ic2 T_320_48 (fun _ => ?_) (fun h => absurd (show ¬ n2 = 2 by omega) h)
        refine x_ic T_320_77 ?_
        refine x_si (ls1 := [some (vR (some 2281)), some (vI p), some (vI 0), some (vI 0), none]) T_320_78 rfl ?_
        refine x_li (z := 0) T_320_79 rfl ?_
        refine x_if T_320_80 (fun h => absurd (show ¬ (0 : Int) = 0 from h) (by decide)) (fun _ => ?_)
        refine x_li (z := 0) T_320_83 rfl ?_
        refine x_if T_320_84 (fun h => absurd (show ¬ (0 : Int) = 0 from h) (by decide)) (fun _ => ?_)
        refine x_ic T_320_87 ?_
        refine x_ri T_320_89 ?_
        exact hbad hk0 _ hP
    · by_cases q2 : n2 = 2
      · have s1 := m_sign (fb := fb) (d := d + 2) (k := 1) hP hL hw2 ⟨by decide, by omega⟩
        obtain ⟨y1, hy1⟩ : ∃ y, lg (lnB tt 2) 1 = y := ⟨_, rfl⟩
        rw [hy1] at s1 e2
        by_cases q0 : y0 = 33
        · by_cases q3 : y1 = 61
          · have hk2 : ifK tt = 2 := by
              unfold ifK
              rw [if_neg (fun c => by have := (e1.mp c.2).1; omega), if_pos ⟨by omega, e2.mpr ⟨q2, q0, q3⟩⟩]
            have hgo := h90 0 1 h4 (by rw [hk2]; decide) (if_neg (by rw [hk2]; decide))
            refine CL_in mL_320 rfl ?_
            show WP fb _ 320 0 [some (vR (some 2281)), some (vI p), none, none, none] [] σ _
            refine x_lr (z := some 2281) T_320_0 rfl ?_
            refine x_gI (z := N) T_320_1 (Or.inl F_17_77) (PM.t hP) (Eq.trans (PM.nS hP 2281 77 77 rfl rfl rfl) h77) ?_
            refine x_ic T_320_4 ?_
            refine x_ic2 T_320_5 (fun h => absurd (show N ≤ 4 from h) (by omega)) (fun _ => ?_)
            refine x_lr (z := some 2281) T_320_8 rfl ?_
            refine x_ic T_320_9 ?_
            refine x_cv2 T_320_10 mN_318 mL_318 (Nat.le_of_ble_eq_true rfl) mO_318 (PM.t hP) (Nat.le_of_ble_eq_true rfl) (hsz) ?_
            rintro _ σ ⟨rfl, rfl⟩
            refine cI ?_
            refine x_ic T_320_13 ?_
            refine x_ic2 T_320_14 (fun _ => ?_) (fun h => absurd (show ¬ n2 = 1 by omega) h)
            refine x_ic T_320_32 ?_
            refine x_si (ls1 := [some (vR (some 2281)), some (vI p), some (vI 0), none, none]) T_320_33 rfl ?_
            refine x_lr (z := some 2281) T_320_34 rfl ?_
            refine x_gI (z := N) T_320_35 (Or.inl F_17_77) (PM.t hP) (Eq.trans (PM.nS hP 2281 77 77 rfl rfl rfl) h77) ?_
            refine x_ic T_320_38 ?_
            refine x_ic2 T_320_39 (fun h => absurd (show N ≤ 4 from h) (by omega)) (fun _ => ?_)
            refine x_lr (z := some 2281) T_320_42 rfl ?_
            refine x_ic T_320_43 ?_
            refine x_cv2 T_320_44 mN_318 mL_318 (Nat.le_of_ble_eq_true rfl) mO_318 (PM.t hP) (Nat.le_of_ble_eq_true rfl) (hsz) ?_
            rintro _ σ ⟨rfl, rfl⟩
            refine cI ?_
            refine x_ic T_320_47 ?_
            refine x_ic2 T_320_48 (fun h => absurd (show ¬ n2 = 2 from h) (by omega)) (fun _ => ?_)
            refine x_lr (z := some 2281) T_320_51 rfl ?_
            refine x_ic T_320_52 ?_
            refine x_ic T_320_53 ?_
            refine x_cv3 T_320_54 mN_319 mL_319 (Nat.le_of_ble_eq_true rfl) mO_319 (PM.t hP) (Nat.le_of_ble_eq_true rfl) (s0) ?_
            rintro _ σ ⟨rfl, rfl⟩
            refine cI ?_
            refine x_ic T_320_57 ?_
            refine x_ic2 T_320_59 (fun h => absurd (show ¬ y0 = 33 from h) (by omega)) (fun _ => ?_)
            refine x_lr (z := some 2281) T_320_62 rfl ?_
            refine x_ic T_320_63 ?_
            refine x_ic T_320_64 ?_
            refine x_cv3 T_320_65 mN_319 mL_319 (Nat.le_of_ble_eq_true rfl) mO_319 (PM.t hP) (Nat.le_of_ble_eq_true rfl) (s1) ?_
            rintro _ σ ⟨rfl, rfl⟩
            refine cI ?_
            refine x_ic T_320_68 ?_
            refine x_ic2 T_320_70 (fun h => absurd (show ¬ y1 = 61 from h) (by omega)) (fun _ => ?_)
            refine x_ic T_320_73 ?_
            refine x_goto T_320_74 ?_
            refine x_si (ls1 := [some (vR (some 2281)), some (vI p), some (vI 0), some (vI 1), none]) T_320_78 rfl ?_
            refine x_li (z := 0) T_320_79 rfl ?_
            refine x_if T_320_80 (fun h => absurd (show ¬ (0 : Int) = 0 from h) (by decide)) (fun _ => ?_)
            refine x_li (z := 1) T_320_83 rfl ?_
            refine x_if T_320_84 (fun _ => ?_) (fun h => absurd (show ¬ (1 : Int) = 0 by decide) h)
            exact hgo
          · have hk0 : ifK tt = 0 := by
              unfold ifK
              rw [if_neg (fun c => by have := (e1.mp c.2).1; omega), if_neg (fun c => q3 (e2.mp c.2).2.2)]
            refine CL_in mL_320 rfl ?_
            show WP fb _ 320 0 [some (vR (some 2281)), some (vI p), none, none, none] [] σ _
            refine x_lr (z := some 2281) T_320_0 rfl ?_
            refine x_gI (z := N) T_320_1 (Or.inl F_17_77) (PM.t hP) (Eq.trans (PM.nS hP 2281 77 77 rfl rfl rfl) h77) ?_
            refine x_ic T_320_4 ?_
            refine x_ic2 T_320_5 (fun h => absurd (show N ≤ 4 from h) (by omega)) (fun _ => ?_)
            refine x_lr (z := some 2281) T_320_8 rfl ?_
            refine x_ic T_320_9 ?_
            refine x_cv2 T_320_10 mN_318 mL_318 (Nat.le_of_ble_eq_true rfl) mO_318 (PM.t hP) (Nat.le_of_ble_eq_true rfl) (hsz) ?_
            rintro _ σ ⟨rfl, rfl⟩
            refine cI ?_
            refine x_ic T_320_13 ?_
            refine x_ic2 T_320_14 (fun _ => ?_) (fun h => absurd (show ¬ n2 = 1 by omega) h)
            refine x_ic T_320_32 ?_
            refine x_si (ls1 := [some (vR (some 2281)), some (vI p), some (vI 0), none, none]) T_320_33 rfl ?_
            refine x_lr (z := some 2281) T_320_34 rfl ?_
            refine x_gI (z := N) T_320_35 (Or.inl F_17_77) (PM.t hP) (Eq.trans (PM.nS hP 2281 77 77 rfl rfl rfl) h77) ?_
            refine x_ic T_320_38 ?_
            refine x_ic2 T_320_39 (fun h => absurd (show N ≤ 4 from h) (by omega)) (fun _ => ?_)
            refine x_lr (z := some 2281) T_320_42 rfl ?_
            refine x_ic T_320_43 ?_
            refine x_cv2 T_320_44 mN_318 mL_318 (Nat.le_of_ble_eq_true rfl) mO_318 (PM.t hP) (Nat.le_of_ble_eq_true rfl) (hsz) ?_
            rintro _ σ ⟨rfl, rfl⟩
            refine cI ?_
            refine x_ic T_320_47 ?_
            refine x_ic2 T_320_48 (fun h => absurd (show ¬ n2 = 2 from h) (by omega)) (fun _ => ?_)
            refine x_lr (z := some 2281) T_320_51 rfl ?_
            refine x_ic T_320_52 ?_
            refine x_ic T_320_53 ?_
            refine x_cv3 T_320_54 mN_319 mL_319 (Nat.le_of_ble_eq_true rfl) mO_319 (PM.t hP) (Nat.le_of_ble_eq_true rfl) (s0) ?_
            rintro _ σ ⟨rfl, rfl⟩
            refine cI ?_
            refine x_ic T_320_57 ?_
            refine x_ic2 T_320_59 (fun h => absurd (show ¬ y0 = 33 from h) (by omega)) (fun _ => ?_)
            refine x_lr (z := some 2281) T_320_62 rfl ?_
            refine x_ic T_320_63 ?_
            refine x_ic T_320_64 ?_
            refine x_cv3 T_320_65 mN_319 mL_319 (Nat.le_of_ble_eq_true rfl) mO_319 (PM.t hP) (Nat.le_of_ble_eq_true rfl) (s1) ?_
            rintro _ σ ⟨rfl, rfl⟩
            refine cI ?_
            refine x_ic T_320_68 ?_
            refine x_ic2 T_320_70 (fun _ => ?_) (fun h => absurd (show ¬ y1 = 61 by omega) h)
            refine x_ic T_320_77 ?_
            refine x_si (ls1 := [some (vR (some 2281)), some (vI p), some (vI 0), some (vI 0), none]) T_320_78 rfl ?_
            refine x_li (z := 0) T_320_79 rfl ?_
            refine x_if T_320_80 (fun h => absurd (show ¬ (0 : Int) = 0 from h) (by decide)) (fun _ => ?_)
            refine x_li (z := 0) T_320_83 rfl ?_
            refine x_if T_320_84 (fun h => absurd (show ¬ (0 : Int) = 0 from h) (by decide)) (fun _ => ?_)
            refine x_ic T_320_87 ?_
            refine x_ri T_320_89 ?_
            exact hbad hk0 _ hP
        · have hk0 : ifK tt = 0 := by
            unfold ifK
            rw [if_neg (fun c => by have := (e1.mp c.2).1; omega), if_neg (fun c => q0 (e2.mp c.2).2.1)]
          refine CL_in mL_320 rfl ?_
          show WP fb _ 320 0 [some (vR (some 2281)), some (vI p), none, none, none] [] σ _
          refine x_lr (z := some 2281) T_320_0 rfl ?_
          refine x_gI (z := N) T_320_1 (Or.inl F_17_77) (PM.t hP) (Eq.trans (PM.nS hP 2281 77 77 rfl rfl rfl) h77) ?_
          refine x_ic T_320_4 ?_
          refine x_ic2 T_320_5 (fun h => absurd (show N ≤ 4 from h) (by omega)) (fun _ => ?_)
          refine x_lr (z := some 2281) T_320_8 rfl ?_
          refine x_ic T_320_9 ?_
          refine x_cv2 T_320_10 mN_318 mL_318 (Nat.le_of_ble_eq_true rfl) mO_318 (PM.t hP) (Nat.le_of_ble_eq_true rfl) (hsz) ?_
          rintro _ σ ⟨rfl, rfl⟩
          refine cI ?_
          refine x_ic T_320_13 ?_
          refine x_ic2 T_320_14 (fun _ => ?_) (fun h => absurd (show ¬ n2 = 1 by omega) h)
          refine x_ic T_320_32 ?_
          refine x_si (ls1 := [some (vR (some 2281)), some (vI p), some (vI 0), none, none]) T_320_33 rfl ?_
          refine x_lr (z := some 2281) T_320_34 rfl ?_
          refine x_gI (z := N) T_320_35 (Or.inl F_17_77) (PM.t hP) (Eq.trans (PM.nS hP 2281 77 77 rfl rfl rfl) h77) ?_
          refine x_ic T_320_38 ?_
          refine x_ic2 T_320_39 (fun h => absurd (show N ≤ 4 from h) (by omega)) (fun _ => ?_)
          refine x_lr (z := some 2281) T_320_42 rfl ?_
          refine x_ic T_320_43 ?_
          refine x_cv2 T_320_44 mN_318 mL_318 (Nat.le_of_ble_eq_true rfl) mO_318 (PM.t hP) (Nat.le_of_ble_eq_true rfl) (hsz) ?_
          rintro _ σ ⟨rfl, rfl⟩
          refine cI ?_
          refine x_ic T_320_47 ?_
          refine x_ic2 T_320_48 (fun h => absurd (show ¬ n2 = 2 from h) (by omega)) (fun _ => ?_)
          refine x_lr (z := some 2281) T_320_51 rfl ?_
          refine x_ic T_320_52 ?_
          refine x_ic T_320_53 ?_
          refine x_cv3 T_320_54 mN_319 mL_319 (Nat.le_of_ble_eq_true rfl) mO_319 (PM.t hP) (Nat.le_of_ble_eq_true rfl) (s0) ?_
          rintro _ σ ⟨rfl, rfl⟩
          refine cI ?_
          refine x_ic T_320_57 ?_
          refine x_ic2 T_320_59 (fun _ => ?_) (fun h => absurd (show ¬ y0 = 33 by omega) h)
          refine x_ic T_320_77 ?_
          refine x_si (ls1 := [some (vR (some 2281)), some (vI p), some (vI 0), some (vI 0), none]) T_320_78 rfl ?_
          refine x_li (z := 0) T_320_79 rfl ?_
          refine x_if T_320_80 (fun h => absurd (show ¬ (0 : Int) = 0 from h) (by decide)) (fun _ => ?_)
          refine x_li (z := 0) T_320_83 rfl ?_
          refine x_if T_320_84 (fun h => absurd (show ¬ (0 : Int) = 0 from h) (by decide)) (fun _ => ?_)
          refine x_ic T_320_87 ?_
          refine x_ri T_320_89 ?_
          exact hbad hk0 _ hP
      · have hk0 : ifK tt = 0 := by
          unfold ifK
          rw [if_neg (fun c => q1 (e1.mp c.2).1), if_neg (fun c => q2 (e2.mp c.2).1)]
        refine CL_in mL_320 rfl ?_
        show WP fb _ 320 0 [some (vR (some 2281)), some (vI p), none, none, none] [] σ _
        refine x_lr (z := some 2281) T_320_0 rfl ?_
        refine x_gI (z := N) T_320_1 (Or.inl F_17_77) (PM.t hP) (Eq.trans (PM.nS hP 2281 77 77 rfl rfl rfl) h77) ?_
        refine x_ic T_320_4 ?_
        refine x_ic2 T_320_5 (fun h => absurd (show N ≤ 4 from h) (by omega)) (fun _ => ?_)
        refine x_lr (z := some 2281) T_320_8 rfl ?_
        refine x_ic T_320_9 ?_
        refine x_cv2 T_320_10 mN_318 mL_318 (Nat.le_of_ble_eq_true rfl) mO_318 (PM.t hP) (Nat.le_of_ble_eq_true rfl) (hsz) ?_
        rintro _ σ ⟨rfl, rfl⟩
        refine cI ?_
        refine x_ic T_320_13 ?_
        refine x_ic2 T_320_14 (fun _ => ?_) (fun h => absurd (show ¬ n2 = 1 by omega) h)
        refine x_ic T_320_32 ?_
        refine x_si (ls1 := [some (vR (some 2281)), some (vI p), some (vI 0), none, none]) T_320_33 rfl ?_
        refine x_lr (z := some 2281) T_320_34 rfl ?_
        refine x_gI (z := N) T_320_35 (Or.inl F_17_77) (PM.t hP) (Eq.trans (PM.nS hP 2281 77 77 rfl rfl rfl) h77) ?_
        refine x_ic T_320_38 ?_
        refine x_ic2 T_320_39 (fun h => absurd (show N ≤ 4 from h) (by omega)) (fun _ => ?_)
        refine x_lr (z := some 2281) T_320_42 rfl ?_
        refine x_ic T_320_43 ?_
        refine x_cv2 T_320_44 mN_318 mL_318 (Nat.le_of_ble_eq_true rfl) mO_318 (PM.t hP) (Nat.le_of_ble_eq_true rfl) (hsz) ?_
        rintro _ σ ⟨rfl, rfl⟩
        refine cI ?_
        refine x_ic T_320_47 ?_
        refine x_ic2 T_320_48 (fun _ => ?_) (fun h => absurd (show ¬ n2 = 2 by omega) h)
        refine x_ic T_320_77 ?_
        refine x_si (ls1 := [some (vR (some 2281)), some (vI p), some (vI 0), some (vI 0), none]) T_320_78 rfl ?_
        refine x_li (z := 0) T_320_79 rfl ?_
        refine x_if T_320_80 (fun h => absurd (show ¬ (0 : Int) = 0 from h) (by decide)) (fun _ => ?_)
        refine x_li (z := 0) T_320_83 rfl ?_
        refine x_if T_320_84 (fun h => absurd (show ¬ (0 : Int) = 0 from h) (by decide)) (fun _ => ?_)
        refine x_ic T_320_87 ?_
        refine x_ri T_320_89 ?_
        exact hbad hk0 _ hP
  · have hk0 : ifK tt = 0 := by
      unfold ifK
      rw [if_neg (fun c => by have := c.1; omega), if_neg (fun c => by have := c.1; omega)]
    refine CL_in mL_320 rfl ?_
    show WP fb _ 320 0 [some (vR (some 2281)), some (vI p), none, none, none] [] σ _
    refine x_lr (z := some 2281) T_320_0 rfl ?_
    refine x_gI (z := N) T_320_1 (Or.inl F_17_77) (PM.t hP) (Eq.trans (PM.nS hP 2281 77 77 rfl rfl rfl) h77) ?_
    refine x_ic T_320_4 ?_
    refine x_ic2 T_320_5 (fun _ => ?_) (fun h => absurd (show N ≤ 4 by omega) h)
    refine x_ic T_320_32 ?_
    refine x_si (ls1 := [some (vR (some 2281)), some (vI p), some (vI 0), none, none]) T_320_33 rfl ?_
    refine x_lr (z := some 2281) T_320_34 rfl ?_
    refine x_gI (z := N) T_320_35 (Or.inl F_17_77) (PM.t hP) (Eq.trans (PM.nS hP 2281 77 77 rfl rfl rfl) h77) ?_
    refine x_ic T_320_38 ?_
    refine x_ic2 T_320_39 (fun _ => ?_) (fun h => absurd (show N ≤ 4 by omega) h)
    refine x_ic T_320_77 ?_
    refine x_si (ls1 := [some (vR (some 2281)), some (vI p), some (vI 0), some (vI 0), none]) T_320_78 rfl ?_
    refine x_li (z := 0) T_320_79 rfl ?_
    refine x_if T_320_80 (fun h => absurd (show ¬ (0 : Int) = 0 from h) (by decide)) (fun _ => ?_)
    refine x_li (z := 0) T_320_83 rfl ?_
    refine x_if T_320_84 (fun h => absurd (show ¬ (0 : Int) = 0 from h) (by decide)) (fun _ => ?_)
    refine x_ic T_320_87 ?_
    refine x_ri T_320_89 ?_
    exact hbad hk0 _ hP
end MEV
