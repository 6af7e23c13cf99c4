/-! for, run and a command begin. -/
theorem T_316_0 : hTab 316 0 = some ((3, 0, 2, []), 1) := rfl
theorem T_316_1 : hTab 316 1 = some ((24, 17, Int.ofNat 77, []), 4) := rfl
theorem T_316_4 : hTab 316 4 = some ((18, 1, Int.ofNat 9, []), 7) := rfl
theorem T_316_7 : hTab 316 7 = some ((0, 0, 0, []), 8) := rfl
theorem T_316_8 : hTab 316 8 = some ((33, 1, 0, []), 9) := rfl
theorem T_316_9 : hTab 316 9 = some ((3, 0, 2, []), 10) := rfl
theorem T_316_10 : hTab 316 10 = some ((0, 0, 0, []), 11) := rfl
theorem T_316_11 : hTab 316 11 = some ((31, 317, 0, []), 14) := rfl
theorem T_316_14 : hTab 316 14 = some ((4, 2, 1, []), 15) := rfl
theorem T_316_15 : hTab 316 15 = some ((3, 2, 1, []), 16) := rfl
theorem T_316_16 : hTab 316 16 = some ((1, 0, 26982, []), 19) := rfl
theorem T_316_19 : hTab 316 19 = some ((17, 0, 0, []), 20) := rfl
theorem T_316_20 : hTab 316 20 = some ((18, 1, Int.ofNat 29, []), 23) := rfl
theorem T_316_23 : hTab 316 23 = some ((3, 0, 2, []), 24) := rfl
theorem T_316_24 : hTab 316 24 = some ((3, 1, 0, []), 25) := rfl
theorem T_316_25 : hTab 316 25 = some ((31, 320, 0, []), 28) := rfl
theorem T_316_28 : hTab 316 28 = some ((33, 1, 0, []), 29) := rfl
theorem T_316_29 : hTab 316 29 = some ((3, 2, 1, []), 30) := rfl
theorem T_316_30 : hTab 316 30 = some ((1, 0, 6713202, []), 33) := rfl
theorem T_316_33 : hTab 316 33 = some ((17, 0, 0, []), 34) := rfl
theorem T_316_34 : hTab 316 34 = some ((18, 1, Int.ofNat 42, []), 37) := rfl
theorem T_316_37 : hTab 316 37 = some ((3, 0, 2, []), 38) := rfl
theorem T_316_38 : hTab 316 38 = some ((31, 323, 0, []), 41) := rfl
theorem T_316_41 : hTab 316 41 = some ((33, 1, 0, []), 42) := rfl
theorem T_316_42 : hTab 316 42 = some ((3, 2, 1, []), 43) := rfl
theorem T_316_43 : hTab 316 43 = some ((1, 0, 7501166, []), 46) := rfl
theorem T_316_46 : hTab 316 46 = some ((17, 0, 0, []), 47) := rfl
theorem T_316_47 : hTab 316 47 = some ((18, 1, Int.ofNat 56, []), 50) := rfl
theorem T_316_50 : hTab 316 50 = some ((3, 0, 2, []), 51) := rfl
theorem T_316_51 : hTab 316 51 = some ((3, 1, 0, []), 52) := rfl
theorem T_316_52 : hTab 316 52 = some ((31, 325, 0, []), 55) := rfl
theorem T_316_55 : hTab 316 55 = some ((33, 1, 0, []), 56) := rfl
theorem T_316_56 : hTab 316 56 = some ((3, 0, 2, []), 57) := rfl
theorem T_316_57 : hTab 316 57 = some ((3, 1, 0, []), 58) := rfl
theorem T_316_58 : hTab 316 58 = some ((31, 353, 0, []), 61) := rfl
theorem T_316_61 : hTab 316 61 = some ((4, 4, 0, []), 63) := rfl
theorem T_316_63 : hTab 316 63 = some ((3, 0, 2, []), 64) := rfl
theorem T_316_64 : hTab 316 64 = some ((31, 352, 0, []), 67) := rfl
theorem T_316_67 : hTab 316 67 = some ((3, 4, 0, []), 69) := rfl
theorem T_316_69 : hTab 316 69 = some ((33, 1, 0, []), 70) := rfl
theorem T_323_0 : hTab 323 0 = some ((3, 0, 2, []), 1) := rfl
theorem T_323_1 : hTab 323 1 = some ((24, 17, Int.ofNat 77, []), 4) := rfl
theorem T_323_4 : hTab 323 4 = some ((0, 0, 4, []), 5) := rfl
theorem T_323_5 : hTab 323 5 = some ((19, 5, Int.ofNat 71, []), 8) := rfl
theorem T_323_8 : hTab 323 8 = some ((3, 0, 2, []), 9) := rfl
theorem T_323_9 : hTab 323 9 = some ((0, 0, 1, []), 10) := rfl
theorem T_323_10 : hTab 323 10 = some ((31, 318, 0, []), 13) := rfl
theorem T_323_13 : hTab 323 13 = some ((0, 0, 1, []), 14) := rfl
theorem T_323_14 : hTab 323 14 = some ((19, 1, Int.ofNat 71, []), 17) := rfl
theorem T_323_17 : hTab 323 17 = some ((3, 0, 2, []), 18) := rfl
theorem T_323_18 : hTab 323 18 = some ((0, 0, 1, []), 19) := rfl
theorem T_323_19 : hTab 323 19 = some ((0, 0, 0, []), 20) := rfl
theorem T_323_20 : hTab 323 20 = some ((31, 319, 0, []), 23) := rfl
theorem T_323_23 : hTab 323 23 = some ((14, 0, 0, []), 24) := rfl
theorem T_323_24 : hTab 323 24 = some ((1, 0, 97, []), 27) := rfl
theorem T_323_27 : hTab 323 27 = some ((1, 0, 122, []), 30) := rfl
theorem T_323_30 : hTab 323 30 = some ((31, 282, 0, []), 33) := rfl
theorem T_323_33 : hTab 323 33 = some ((18, 0, Int.ofNat 71, []), 36) := rfl
theorem T_323_36 : hTab 323 36 = some ((3, 0, 2, []), 37) := rfl
theorem T_323_37 : hTab 323 37 = some ((0, 0, 2, []), 38) := rfl
theorem T_323_38 : hTab 323 38 = some ((31, 318, 0, []), 41) := rfl
theorem T_323_41 : hTab 323 41 = some ((0, 0, 2, []), 42) := rfl
theorem T_323_42 : hTab 323 42 = some ((19, 1, Int.ofNat 71, []), 45) := rfl
theorem T_323_45 : hTab 323 45 = some ((3, 0, 2, []), 46) := rfl
theorem T_323_46 : hTab 323 46 = some ((0, 0, 2, []), 47) := rfl
theorem T_323_47 : hTab 323 47 = some ((0, 0, 0, []), 48) := rfl
theorem T_323_48 : hTab 323 48 = some ((31, 319, 0, []), 51) := rfl
theorem T_323_51 : hTab 323 51 = some ((0, 0, 105, []), 53) := rfl
theorem T_323_53 : hTab 323 53 = some ((19, 1, Int.ofNat 71, []), 56) := rfl
theorem T_323_56 : hTab 323 56 = some ((3, 0, 2, []), 57) := rfl
theorem T_323_57 : hTab 323 57 = some ((0, 0, 2, []), 58) := rfl
theorem T_323_58 : hTab 323 58 = some ((0, 0, 1, []), 59) := rfl
theorem T_323_59 : hTab 323 59 = some ((31, 319, 0, []), 62) := rfl
theorem T_323_62 : hTab 323 62 = some ((0, 0, 110, []), 64) := rfl
theorem T_323_64 : hTab 323 64 = some ((19, 1, Int.ofNat 71, []), 67) := rfl
theorem T_323_67 : hTab 323 67 = some ((0, 0, 1, []), 68) := rfl
theorem T_323_68 : hTab 323 68 = some ((22, 0, Int.ofNat 72, []), 71) := rfl
theorem T_323_71 : hTab 323 71 = some ((0, 0, 0, []), 72) := rfl
theorem T_323_72 : hTab 323 72 = some ((4, 1, 0, []), 73) := rfl
theorem T_323_73 : hTab 323 73 = some ((3, 1, 0, []), 74) := rfl
theorem T_323_74 : hTab 323 74 = some ((18, 0, Int.ofNat 84, []), 77) := rfl
theorem T_323_77 : hTab 323 77 = some ((3, 0, 2, []), 78) := rfl
theorem T_323_78 : hTab 323 78 = some ((31, 324, 0, []), 81) := rfl
theorem T_323_81 : hTab 323 81 = some ((22, 0, Int.ofNat 85, []), 84) := rfl
theorem T_323_84 : hTab 323 84 = some ((0, 0, (-1), []), 85) := rfl
theorem T_323_85 : hTab 323 85 = some ((4, 2, 0, []), 86) := rfl
theorem T_323_86 : hTab 323 86 = some ((3, 2, 0, []), 87) := rfl
theorem T_323_87 : hTab 323 87 = some ((18, 2, Int.ofNat 100, []), 90) := rfl
theorem T_323_90 : hTab 323 90 = some ((3, 2, 0, []), 91) := rfl
theorem T_323_91 : hTab 323 91 = some ((3, 0, 2, []), 92) := rfl
theorem T_323_92 : hTab 323 92 = some ((24, 17, Int.ofNat 77, []), 95) := rfl
theorem T_323_95 : hTab 323 95 = some ((0, 0, 1, []), 96) := rfl
theorem T_323_96 : hTab 323 96 = some ((10, 1, 0, []), 97) := rfl
theorem T_323_97 : hTab 323 97 = some ((19, 1, Int.ofNat 103, []), 100) := rfl
theorem T_323_100 : hTab 323 100 = some ((0, 0, 18, []), 102) := rfl
theorem T_323_102 : hTab 323 102 = some ((33, 1, 0, []), 103) := rfl
theorem T_323_103 : hTab 323 103 = some ((3, 0, 2, []), 104) := rfl
theorem T_323_104 : hTab 323 104 = some ((24, 17, Int.ofNat 108, []), 107) := rfl
theorem T_323_107 : hTab 323 107 = some ((3, 0, 2, []), 108) := rfl
theorem T_323_108 : hTab 323 108 = some ((24, 17, Int.ofNat 113, []), 111) := rfl
theorem T_323_111 : hTab 323 111 = some ((0, 0, 2, []), 112) := rfl
theorem T_323_112 : hTab 323 112 = some ((27, 0, 0, []), 113) := rfl
theorem T_323_113 : hTab 323 113 = some ((3, 0, 2, []), 114) := rfl
theorem T_323_114 : hTab 323 114 = some ((24, 17, Int.ofNat 109, []), 117) := rfl
theorem T_323_117 : hTab 323 117 = some ((3, 0, 2, []), 118) := rfl
theorem T_323_118 : hTab 323 118 = some ((24, 17, Int.ofNat 113, []), 121) := rfl
theorem T_323_121 : hTab 323 121 = some ((0, 0, 3, []), 122) := rfl
theorem T_323_122 : hTab 323 122 = some ((27, 0, 0, []), 123) := rfl
theorem T_323_123 : hTab 323 123 = some ((0, 0, (-2), []), 125) := rfl
theorem T_323_125 : hTab 323 125 = some ((33, 1, 0, []), 126) := rfl
theorem T_325_0 : hTab 325 0 = some ((3, 0, 2, []), 1) := rfl
theorem T_325_1 : hTab 325 1 = some ((24, 17, Int.ofNat 77, []), 4) := rfl
theorem T_325_4 : hTab 325 4 = some ((14, 0, 0, []), 5) := rfl
theorem T_325_5 : hTab 325 5 = some ((1, 0, 2, []), 8) := rfl
theorem T_325_8 : hTab 325 8 = some ((1, 0, 11, []), 11) := rfl
theorem T_325_11 : hTab 325 11 = some ((31, 282, 0, []), 14) := rfl
theorem T_325_14 : hTab 325 14 = some ((18, 1, Int.ofNat 20, []), 17) := rfl
theorem T_325_17 : hTab 325 17 = some ((0, 0, 18, []), 19) := rfl
theorem T_325_19 : hTab 325 19 = some ((33, 1, 0, []), 20) := rfl
theorem T_325_20 : hTab 325 20 = some ((3, 0, 2, []), 21) := rfl
theorem T_325_21 : hTab 325 21 = some ((24, 17, Int.ofNat 112, []), 24) := rfl
theorem T_325_24 : hTab 325 24 = some ((3, 0, 2, []), 25) := rfl
theorem T_325_25 : hTab 325 25 = some ((24, 17, Int.ofNat 113, []), 28) := rfl
theorem T_325_28 : hTab 325 28 = some ((0, 0, 0, []), 29) := rfl
theorem T_325_29 : hTab 325 29 = some ((27, 0, 0, []), 30) := rfl
theorem T_325_30 : hTab 325 30 = some ((3, 0, 2, []), 31) := rfl
theorem T_325_31 : hTab 325 31 = some ((3, 1, 0, []), 32) := rfl
theorem T_325_32 : hTab 325 32 = some ((3, 0, 2, []), 33) := rfl
theorem T_325_33 : hTab 325 33 = some ((24, 17, Int.ofNat 113, []), 36) := rfl
theorem T_325_36 : hTab 325 36 = some ((31, 326, 0, []), 39) := rfl
theorem T_325_39 : hTab 325 39 = some ((4, 2, 0, []), 40) := rfl
theorem T_325_40 : hTab 325 40 = some ((3, 0, 2, []), 41) := rfl
theorem T_325_41 : hTab 325 41 = some ((31, 352, 0, []), 44) := rfl
theorem T_325_44 : hTab 325 44 = some ((3, 2, 0, []), 45) := rfl
theorem T_325_45 : hTab 325 45 = some ((18, 5, Int.ofNat 50, []), 48) := rfl
theorem T_325_48 : hTab 325 48 = some ((3, 2, 0, []), 49) := rfl
theorem T_325_49 : hTab 325 49 = some ((33, 1, 0, []), 50) := rfl
theorem T_325_50 : hTab 325 50 = some ((3, 0, 2, []), 51) := rfl
theorem T_325_51 : hTab 325 51 = some ((24, 17, Int.ofNat 108, []), 54) := rfl
theorem T_325_54 : hTab 325 54 = some ((3, 0, 2, []), 55) := rfl
theorem T_325_55 : hTab 325 55 = some ((24, 17, Int.ofNat 113, []), 58) := rfl
theorem T_325_58 : hTab 325 58 = some ((0, 0, 3, []), 59) := rfl
theorem T_325_59 : hTab 325 59 = some ((27, 0, 0, []), 60) := rfl
theorem T_325_60 : hTab 325 60 = some ((3, 0, 2, []), 61) := rfl
theorem T_325_61 : hTab 325 61 = some ((24, 17, Int.ofNat 109, []), 64) := rfl
theorem T_325_64 : hTab 325 64 = some ((3, 0, 2, []), 65) := rfl
theorem T_325_65 : hTab 325 65 = some ((24, 17, Int.ofNat 113, []), 68) := rfl
theorem T_325_68 : hTab 325 68 = some ((0, 0, 0, []), 69) := rfl
theorem T_325_69 : hTab 325 69 = some ((27, 0, 0, []), 70) := rfl
theorem T_325_70 : hTab 325 70 = some ((0, 0, (-2), []), 72) := rfl
theorem T_325_72 : hTab 325 72 = some ((33, 1, 0, []), 73) := rfl
theorem F_17_109 : (hFd 17 109).2.2.1 = 4 := rfl
theorem mN_316 : hmN 316 = 2 := by decide +kernel
theorem mL_316 : hmL 316 = 5 := by decide +kernel
theorem mK_316 : hmK 316 = 1 := by decide +kernel
theorem mO_316 : hmO 316 = 17 := by decide +kernel
theorem mN_323 : hmN 323 = 1 := by decide +kernel
theorem mL_323 : hmL 323 = 3 := by decide +kernel
theorem mK_323 : hmK 323 = 1 := by decide +kernel
theorem mO_323 : hmO 323 = 17 := by decide +kernel
theorem mN_325 : hmN 325 = 2 := by decide +kernel
theorem mL_325 : hmL 325 = 3 := by decide +kernel
theorem mK_325 : hmK 325 = 1 := by decide +kernel
theorem mO_325 : hmO 325 = 17 := by decide +kernel
/-- what must stay true between commands, for the next ones to go through -/
def JH (p : Int) (J : qR → Prop) : Prop := (∀ P, J P → GO P ∧ ¬ P 2320 p = 0) ∧ (∀ (T U : Int) (P : qR) (wd : List Int), GI T U P → PTS P → byt wd → wd.length ≤ 100 → J P → lsOk P p wd) ∧ (∀ (T U : Int) (P : qR) (l : List Int), GI T U P → PTS P → byt l → l.length ≤ 100 → T + 3000 ≤ 2147483000 → J P → J (kDrops (cCmd P p l).2.1 (cCmd P p l).2.2)) ∧ (∀ (T U : Int) (P : qR) (n : Int) (wd : List Int), GI T U P → PTS P → byt wd → wd.length ≤ 100 → T + 3000 ≤ 2147483000 → J P → J (kDrops (cCat P n p wd).2.1 (cCat P n p wd).2.2.1)) ∧ ∀ (P : qR) (v : Int) (wd : List Int), 0 ≤ v ∧ v ≤ 25 → byt wd → wd.length ≤ 20 → J P → J (gVar P p v wd)
abbrev EJ (T U : Int) (σ0 : hM) (J : qR → Prop) (l : List Int) (p code : Int) (fr : Fr) (fs : List Fr) (P : qR) (c : Int) : Option AV → hM → Prop := fun r σ' => ∃ (code2 : Int) (P2 S2 : qR), r = some (vI code2) ∧ PM σ0 P2 S2 σ' ∧ KS T U P2 S2 l [] ∧ J P2 ∧ STP p code fr fs P c code2 P2 S2
section MEV2
variable {fb : Bool} {d : Nat} {σ0 σ : hM} {P Q R S S0 S1 S2 : qR} {T U s w g u p k e t z o n N v b c i : Int} {l L tx tt : List Int} {h : List Ch} {fs : List Fr} {f fr : Fr} {J : qR → Prop}
theorem FX.xc (h : FX S i f) (hX : XC S S1) (hi : 0 ≤ i) : FX S1 i f := by
  obtain ⟨a1, ⟨a2, a3, a4, a5⟩, a6, a7, a8⟩ := h
  exact ⟨(hX.1.2 _ _ rfl rfl).trans a1, ⟨a2, a3, (hX.1.2 _ _ rfl rfl).trans a4, fun j b1 b2 b3 => (hX.1.2 _ _ rfl rfl).trans (a5 j b1 b2 b3)⟩, fun q => (hX.1.2 _ _ rfl rfl).trans (a6 q), fun q => (hX.1.2 _ _ rfl rfl).trans (a7 q), fun q => ⟨(hX.2.1 i hi).trans (a8 q).1, (a8 q).2.1, fun j b1 b2 => (hX.2.2 _ (by omega)).trans ((a8 q).2.2 j b1 b2)⟩⟩
theorem FST.xc : ∀ {fs : List Fr}, FST S fs → XC S S1 → FST S1 fs
  | [], _, _ => trivial
  | f :: r, h, hX => ⟨h.1.xc hX (by omega), FST.xc h.2 hX⟩
theorem FX.sox {A : List Int} (h : FX S i f) (hX : SO k S S1 A) (hi : i ≠ k) : FX S1 i f := by
  obtain ⟨a1, ⟨a2, a3, a4, a5⟩, a6, a7, a8⟩ := h
  exact ⟨(hX.1.2 _ _ rfl rfl).trans a1, ⟨a2, a3, (hX.1.2 _ _ rfl rfl).trans a4, fun j b1 b2 b3 => (hX.1.2 _ _ rfl rfl).trans (a5 j b1 b2 b3)⟩, fun q => (hX.1.2 _ _ rfl rfl).trans (a6 q), fun q => (hX.1.2 _ _ rfl rfl).trans (a7 q), fun q => ⟨(hX.2.1 i hi).1.trans (a8 q).1, (a8 q).2.1, fun j b1 b2 => ((hX.2.1 i hi).2 j b1 (by have := (a8 q).2.1; omega)).trans ((a8 q).2.2 j b1 b2)⟩⟩
theorem FST.sox {A : List Int} : ∀ {fs : List Fr}, FST S fs → SO k S S1 A → (fs.length : Int) < k → FST S1 fs
  | [], _, _, _ => trivial
  | f :: r, h, hX, hk => by
    have hk : ((r.length + 1 : Nat) : Int) < k := hk
    exact ⟨h.1.sox hX (by omega), FST.sox h.2 hX (by omega)⟩
theorem m_repeat (hP : PM σ0 P S σ) (hK : KS T U P S tt []) (hF : FST S (fr :: fs)) (ht : fr.2.1 = tt) (hN : 0 < (lnW tt).length) (hv : pkW (lnB tt 0) = 6713202) (hd : S 2281 113 = (fs.length : Int) + 1) (hd12 : (fs.length : Int) + 1 ≤ 12) (hc : S 2281 114 = c) (hc0 : 0 ≤ c ∧ c ≤ 200) : CL fb (d + 3) 323 [vR (some 2281)] σ (EC T U σ0 tt p (-1) fr fs P c) := by
  have hL := hK.2.2.2.2
  obtain ⟨N, hN0⟩ : ∃ N : Int, ((lnW tt).length : Int) = N := ⟨_, rfl⟩
  have h77 : S 2281 77 = N := hL.2.2.2.2.1.trans hN0
  have h50 := (lnW_ok hL.2.1).2
  have hev : ∀ m, EV p (m + 1) (-1) ((fs.length : Int) + 1) (arOf fs) fr P c = if foK tt then EV p m (-2) ((fs.length : Int) + 1) (arOf fs) (2, tt, 3, 0, []) P c else (18, P, c) := fun m => by
    show (if (-1 : Int) = -1 then _ else _) = _
    rw [if_pos rfl, ht, if_neg (by omega), if_neg (by rw [hv]; decide), if_pos hv]
  have hbad : ¬ foK tt → ∀ σ : hM, PM σ0 P S σ → EC T U σ0 tt p (-1) fr fs P c (some (vI 18)) σ := fun q σ hP => ⟨18, S, rfl, hP, hK, Or.inl ⟨c, by decide, Int.le_refl c, hc0.2, hd, hc, hF.2, fun m => by rw [hev, if_neg q]⟩⟩
  obtain ⟨dn, hdn⟩ : ∃ dn : Int, (fs.length : Int) + 1 = dn := ⟨_, rfl⟩
  have hgood : foK tt → ∀ σ : hM, PM σ0 P (rU (rU S 2367 dn 2) 2368 dn 3) σ → EC T U σ0 tt p (-1) fr fs P c (some (vI (-2))) σ := fun q σ hP => by
    have hJ0 : IV true T U (rU (rU S 2367 dn 2) 2368 dn 3) := (hK.2.2.1.uA 2367 rfl (by show (0 : Int) ≤ 2 ∧ (2 : Int) ≤ 3; decide)).uA 2368 rfl (by show (0 : Int) ≤ 3 ∧ (3 : Int) ≤ 700; decide)
    have hX0 : SX fmR fmN S (rU (rU S 2367 dn 2) 2368 dn 3) := SX_up (SX_up SX_rfl rfl rfl) rfl rfl
    refine ⟨-2, _, rfl, hP, hK.fm hX0 hJ0, Or.inr (Or.inr ⟨rfl, (2, tt, 3, 0, []), c, Int.le_refl c, hc0.2, (rU_f (by decide)).trans ((rU_f (by decide)).trans hd), (rU_f (by decide)).trans ((rU_f (by decide)).trans hc), ⟨⟨?_, ⟨by rw [← ht]; exact hF.1.txt.1, by rw [← ht]; exact hF.1.txt.2.1, ?_⟩, fun _ => ?_, fun q2 => ?_, fun q2 => absurd q2 (show ¬ (2 : Int) = 3 by decide)⟩, ?_⟩, Or.inl ⟨rfl, q, Int.le_refl 3, q.2.1⟩, Or.inl rfl, fun m => by rw [hev, if_pos q]⟩)⟩
    · rw [hdn, rU_f (by decide), rU_s]
    · rw [← ht]
      exact (hF.1.txt.2.2.row (by decide) (by decide)).row (by decide) (by decide)
    · rw [hdn]
      exact rU_s
    · exact q2.elim (fun c => absurd c.2 (show ¬ (3 : Int) < 3 by decide)) (fun c => absurd c.1 (show ¬ (2 : Int) = 3 by decide))
    · exact (hF.2.ne (by omega) (by decide) (by decide)).ne (by omega) (by decide) (by decide)
  obtain ⟨n1, hn1⟩ : ∃ n : Int, ((lnB tt 1).length : Int) = n := ⟨_, rfl⟩
  obtain ⟨n2, hn2⟩ : ∃ n : Int, ((lnB tt 2).length : Int) = n := ⟨_, rfl⟩
  obtain ⟨y, hy⟩ : ∃ y, lg (lnB tt 1) 0 = y := ⟨_, rfl⟩
  obtain ⟨y0, hy0⟩ : ∃ y, lg (lnB tt 2) 0 = y := ⟨_, rfl⟩
  obtain ⟨y1, hy1⟩ : ∃ y, lg (lnB tt 2) 1 = y := ⟨_, rfl⟩
  obtain ⟨at0, hat⟩ : ∃ a, pdO tt = a := ⟨_, rfl⟩
  have hpr : at0 = -1 ∨ 3 ≤ at0 := by
    rw [← hat]
    rcases pdR_rng (l := tt) (((lnW tt).length : Int) - 3).toNat 3 with q | q
    · exact Or.inl q
    · exact Or.inr q.1
  have e2 := two_eq (lnB tt 2) 105 110
  rw [hy0, hy1, hn2] at e2
  have hfk : foK tt ↔ (4 < N ∧ n1 = 1 ∧ (97 ≤ y ∧ y ≤ 122) ∧ (n2 = 2 ∧ y0 = 105 ∧ y1 = 110)) ∧ 3 ≤ at0 ∧ ¬ at0 = N - 1 := by
    unfold foK
    rw [hN0, hat, hy, e2, show (lnB tt 1).length = 1 ↔ n1 = 1 by omega]
  have z1 := fun (q : 4 < N) (σ : hM) (hP : PM σ0 P S σ) => CL_val (m_size (fb := fb) (d := d + 2) hP hL (w := 1) ⟨by decide, by omega⟩) hn1
  have z2 := fun (q : 4 < N) (σ : hM) (hP : PM σ0 P S σ) => CL_val (m_size (fb := fb) (d := d + 2) hP hL (w := 2) ⟨by decide, by omega⟩) hn2
  have s1 := fun (q : 4 < N) (q2 : n1 = 1) (σ : hM) (hP : PM σ0 P S σ) => CL_val (m_sign (fb := fb) (d := d + 2) (k := 0) hP hL (w := 1) ⟨by decide, by omega⟩ ⟨by decide, by omega⟩) hy
  have s2 := fun (q : 4 < N) (q2 : n2 = 2) (σ : hM) (hP : PM σ0 P S σ) => CL_val (m_sign (fb := fb) (d := d + 2) (k := 0) hP hL (w := 2) ⟨by decide, by omega⟩ ⟨by decide, by omega⟩) hy0
  have s3 := fun (q : 4 < N) (q2 : n2 = 2) (σ : hM) (hP : PM σ0 P S σ) => CL_val (m_sign (fb := fb) (d := d + 2) (k := 1) hP hL (w := 2) ⟨by decide, by omega⟩ ⟨by decide, by omega⟩) hy1
  have hpd := CL_val (m_placeOfDo (fb := fb) (d := d + 1) hP hL) hat
  rw [hdn] at hd
  -- behind the test of the head
  have h72 : ∀ z : Int, z = (if 4 < N ∧ n1 = 1 ∧ (97 ≤ y ∧ y ≤ 122) ∧ (n2 = 2 ∧ y0 = 105 ∧ y1 = 110) then (1 : Int) else 0) → WP fb (d + 3) 323 72 [some (vR (some 2281)), none, none] [vI z] σ (EC T U σ0 tt p (-1) fr fs P c) := fun z hz => by
    by_cases q : 4 < N ∧ n1 = 1 ∧ (97 ≤ y ∧ y ≤ 122) ∧ (n2 = 2 ∧ y0 = 105 ∧ y1 = 110)
    · rw [if_pos q] at hz
      subst hz
      by_cases q1 : at0 < 0
      · skip
        refine x_si (ls1 := [some (vR (some 2281)), some (vI 1), none]) T_323_72 rfl ?_
        refine x_li (z := 1) T_323_73 rfl ?_
        refine x_if T_323_74 (fun h => absurd (show (1 : Int) = 0 from h) (by decide)) (fun _ => ?_)
        refine x_lr (z := some 2281) T_323_77 rfl ?_
        refine x_cv1 T_323_78 mN_324 mL_324 (Nat.le_of_ble_eq_true rfl) mO_324 (PM.t hP) (Nat.le_of_ble_eq_true rfl) (hpd) ?_
        rintro _ σ ⟨rfl, rfl⟩
        refine cI ?_
        refine x_goto T_323_81 ?_
        refine x_si (ls1 := [some (vR (some 2281)), some (vI 1), some (vI at0)]) T_323_85 rfl ?_
        refine x_li (z := at0) T_323_86 rfl ?_
        refine x_if T_323_87 (fun _ => ?_) (fun h => absurd (show at0 < 0 by omega) h)
        refine x_ic T_323_100 ?_
        refine x_ri T_323_102 ?_
        exact hbad (by rw [hfk]; omega) _ hP
      · by_cases q2 : at0 = N - 1
        · skip
          refine x_si (ls1 := [some (vR (some 2281)), some (vI 1), none]) T_323_72 rfl ?_
          refine x_li (z := 1) T_323_73 rfl ?_
          refine x_if T_323_74 (fun h => absurd (show (1 : Int) = 0 from h) (by decide)) (fun _ => ?_)
          refine x_lr (z := some 2281) T_323_77 rfl ?_
          refine x_cv1 T_323_78 mN_324 mL_324 (Nat.le_of_ble_eq_true rfl) mO_324 (PM.t hP) (Nat.le_of_ble_eq_true rfl) (hpd) ?_
          rintro _ σ ⟨rfl, rfl⟩
          refine cI ?_
          refine x_goto T_323_81 ?_
          refine x_si (ls1 := [some (vR (some 2281)), some (vI 1), some (vI at0)]) T_323_85 rfl ?_
          refine x_li (z := at0) T_323_86 rfl ?_
          refine x_if T_323_87 (fun h => absurd (show at0 < 0 from h) (by omega)) (fun _ => ?_)
          refine x_li (z := at0) T_323_90 rfl ?_
          refine x_lr (z := some 2281) T_323_91 rfl ?_
          refine x_gI (z := N) T_323_92 (Or.inl F_17_77) (PM.t hP) (Eq.trans (PM.nS hP 2281 77 77 rfl rfl rfl) h77) ?_
          refine x_ic T_323_95 ?_
          refine x_ib (w := (N - 1)) T_323_96 (fun h => absurd h.1 (by decide)) (w32_id (by omega) (by omega)) ?_
          refine x_ic2 T_323_97 (fun h => absurd (show ¬ at0 = (N - 1) from h) (by omega)) (fun _ => ?_)
          refine x_ic T_323_100 ?_
          refine x_ri T_323_102 ?_
          exact hbad (by rw [hfk]; omega) _ hP
        · skip
          refine x_si (ls1 := [some (vR (some 2281)), some (vI 1), none]) T_323_72 rfl ?_
          refine x_li (z := 1) T_323_73 rfl ?_
          refine x_if T_323_74 (fun h => absurd (show (1 : Int) = 0 from h) (by decide)) (fun _ => ?_)
          refine x_lr (z := some 2281) T_323_77 rfl ?_
          refine x_cv1 T_323_78 mN_324 mL_324 (Nat.le_of_ble_eq_true rfl) mO_324 (PM.t hP) (Nat.le_of_ble_eq_true rfl) (hpd) ?_
          rintro _ σ ⟨rfl, rfl⟩
          refine cI ?_
          refine x_goto T_323_81 ?_
          refine x_si (ls1 := [some (vR (some 2281)), some (vI 1), some (vI at0)]) T_323_85 rfl ?_
          refine x_li (z := at0) T_323_86 rfl ?_
          refine x_if T_323_87 (fun h => absurd (show at0 < 0 from h) (by omega)) (fun _ => ?_)
          refine x_li (z := at0) T_323_90 rfl ?_
          refine x_lr (z := some 2281) T_323_91 rfl ?_
          refine x_gI (z := N) T_323_92 (Or.inl F_17_77) (PM.t hP) (Eq.trans (PM.nS hP 2281 77 77 rfl rfl rfl) h77) ?_
          refine x_ic T_323_95 ?_
          refine x_ib (w := (N - 1)) T_323_96 (fun h => absurd h.1 (by decide)) (w32_id (by omega) (by omega)) ?_
          refine x_ic2 T_323_97 (fun _ => ?_) (fun h => absurd (show ¬ at0 = (N - 1) by omega) h)
          refine x_lr (z := some 2281) T_323_103 rfl ?_
          refine x_gR (z := some 2367) T_323_104 F_17_108 (PM.t hP) (PM.r hP 108 2367 rfl) ?_
          refine x_lr (z := some 2281) T_323_107 rfl ?_
          refine x_gI (z := dn) T_323_108 (Or.inl F_17_113) (PM.t hP) (Eq.trans (PM.nS hP 2281 113 113 rfl rfl rfl) hd) ?_
          refine x_ic T_323_111 ?_
          refine y_aIS hP T_323_112 2367 13 rfl rfl rfl (by omega) (by omega) (fun σ hP => ?_)
          refine x_lr (z := some 2281) T_323_113 rfl ?_
          refine x_gR (z := some 2368) T_323_114 F_17_109 (PM.t hP) (PM.r hP 109 2368 rfl) ?_
          refine x_lr (z := some 2281) T_323_117 rfl ?_
          refine x_gI (z := dn) T_323_118 (Or.inl F_17_113) (PM.t hP) (Eq.trans (Eq.trans (PM.nS hP 2281 113 113 rfl rfl rfl) (rU_f (Nat.ne_of_beq_eq_false rfl))) hd) ?_
          refine x_ic T_323_121 ?_
          refine y_aIS hP T_323_122 2368 13 rfl rfl rfl (by omega) (by omega) (fun σ hP => ?_)
          refine x_ic T_323_123 ?_
          refine x_ri T_323_125 ?_
          exact hgood (by rw [hfk]; omega) _ hP
    · rw [if_neg q] at hz
      subst hz
      have hnf : ¬ foK tt := fun c => q (hfk.mp c).1
      refine x_si (ls1 := [some (vR (some 2281)), some (vI 0), none]) T_323_72 rfl ?_
      refine x_li (z := 0) T_323_73 rfl ?_
      refine x_if T_323_74 (fun _ => ?_) (fun h => absurd (show (0 : Int) = 0 by decide) h)
      refine x_ic T_323_84 ?_
      refine x_si (ls1 := [some (vR (some 2281)), some (vI 0), some (vI (-1))]) T_323_85 rfl ?_
      refine x_li (z := (-1)) T_323_86 rfl ?_
      refine x_if T_323_87 (fun _ => ?_) (fun h => absurd (show ((-1) : Int) < 0 by decide) h)
      refine x_ic T_323_100 ?_
      refine x_ri T_323_102 ?_
      exact hbad hnf _ hP
  have hno : ¬ (4 < N ∧ n1 = 1 ∧ (97 ≤ y ∧ y ≤ 122) ∧ (n2 = 2 ∧ y0 = 105 ∧ y1 = 110)) → WP fb (d + 3) 323 71 [some (vR (some 2281)), none, none] [] σ (EC T U σ0 tt p (-1) fr fs P c) := fun q => by
    have hgo := h72 0 (if_neg q).symm
    refine x_ic T_323_71 ?_
    exact hgo
  refine CL_in mL_323 rfl ?_
  show WP fb _ 323 0 [some (vR (some 2281)), none, none] [] σ _
  by_cases q1 : 4 < N
  · by_cases q2 : n1 = 1
    · by_cases q3 : 97 ≤ y ∧ y ≤ 122
      · by_cases q4 : n2 = 2
        · by_cases q5 : y0 = 105
          · by_cases q6 : y1 = 110
            · have hgo := h72 1 (if_pos ⟨q1, q2, q3, q4, q5, q6⟩).symm
              refine x_lr (z := some 2281) T_323_0 rfl ?_
              refine x_gI (z := N) T_323_1 (Or.inl F_17_77) (PM.t hP) (Eq.trans (PM.nS hP 2281 77 77 rfl rfl rfl) h77) ?_
              refine x_ic T_323_4 ?_
              refine x_ic2 T_323_5 (fun h => absurd (show N ≤ 4 from h) (by omega)) (fun _ => ?_)
              refine x_lr (z := some 2281) T_323_8 rfl ?_
              refine x_ic T_323_9 ?_
              refine x_cv2 T_323_10 mN_318 mL_318 (Nat.le_of_ble_eq_true rfl) mO_318 (PM.t hP) (Nat.le_of_ble_eq_true rfl) (z1 q1 σ hP) ?_
              rintro _ σ ⟨rfl, rfl⟩
              refine cI ?_
              refine x_ic T_323_13 ?_
              refine x_ic2 T_323_14 (fun h => absurd (show ¬ n1 = 1 from h) (by omega)) (fun _ => ?_)
              refine x_lr (z := some 2281) T_323_17 rfl ?_
              refine x_ic T_323_18 ?_
              refine x_ic T_323_19 ?_
              refine x_cv3 T_323_20 mN_319 mL_319 (Nat.le_of_ble_eq_true rfl) mO_319 (PM.t hP) (Nat.le_of_ble_eq_true rfl) (s1 q1 q2 σ hP) ?_
              rintro _ σ ⟨rfl, rfl⟩
              refine cI ?_
              refine x_i2l T_323_23 ?_
              refine x_lc T_323_24 ?_
              refine x_lc T_323_27 ?_
              refine x_cs3 T_323_30 mN_282 mL_282 (Nat.le_of_ble_eq_true rfl) mK_282 (Nat.le_of_ble_eq_true rfl) (CL_val m_in (if_pos q3)) ?_
              rintro _ σ ⟨rfl, rfl⟩
              refine cI ?_
              refine x_if T_323_33 (fun h => absurd (show (1 : Int) = 0 from h) (by decide)) (fun _ => ?_)
              refine x_lr (z := some 2281) T_323_36 rfl ?_
              refine x_ic T_323_37 ?_
              refine x_cv2 T_323_38 mN_318 mL_318 (Nat.le_of_ble_eq_true rfl) mO_318 (PM.t hP) (Nat.le_of_ble_eq_true rfl) (z2 q1 σ hP) ?_
              rintro _ σ ⟨rfl, rfl⟩
              refine cI ?_
              refine x_ic T_323_41 ?_
              refine x_ic2 T_323_42 (fun h => absurd (show ¬ n2 = 2 from h) (by omega)) (fun _ => ?_)
              refine x_lr (z := some 2281) T_323_45 rfl ?_
              refine x_ic T_323_46 ?_
              refine x_ic T_323_47 ?_
              refine x_cv3 T_323_48 mN_319 mL_319 (Nat.le_of_ble_eq_true rfl) mO_319 (PM.t hP) (Nat.le_of_ble_eq_true rfl) (s2 q1 q4 σ hP) ?_
              rintro _ σ ⟨rfl, rfl⟩
              refine cI ?_
              refine x_ic T_323_51 ?_
              refine x_ic2 T_323_53 (fun h => absurd (show ¬ y0 = 105 from h) (by omega)) (fun _ => ?_)
              refine x_lr (z := some 2281) T_323_56 rfl ?_
              refine x_ic T_323_57 ?_
              refine x_ic T_323_58 ?_
              refine x_cv3 T_323_59 mN_319 mL_319 (Nat.le_of_ble_eq_true rfl) mO_319 (PM.t hP) (Nat.le_of_ble_eq_true rfl) (s3 q1 q4 σ hP) ?_
              rintro _ σ ⟨rfl, rfl⟩
              refine cI ?_
              refine x_ic T_323_62 ?_
              refine x_ic2 T_323_64 (fun h => absurd (show ¬ y1 = 110 from h) (by omega)) (fun _ => ?_)
              refine x_ic T_323_67 ?_
              refine x_goto T_323_68 ?_
              exact hgo
            · have hgo := hno (fun c => q6 c.2.2.2.2.2)
              refine x_lr (z := some 2281) T_323_0 rfl ?_
              refine x_gI (z := N) T_323_1 (Or.inl F_17_77) (PM.t hP) (Eq.trans (PM.nS hP 2281 77 77 rfl rfl rfl) h77) ?_
              refine x_ic T_323_4 ?_
              refine x_ic2 T_323_5 (fun h => absurd (show N ≤ 4 from h) (by omega)) (fun _ => ?_)
              refine x_lr (z := some 2281) T_323_8 rfl ?_
              refine x_ic T_323_9 ?_
              refine x_cv2 T_323_10 mN_318 mL_318 (Nat.le_of_ble_eq_true rfl) mO_318 (PM.t hP) (Nat.le_of_ble_eq_true rfl) (z1 q1 σ hP) ?_
              rintro _ σ ⟨rfl, rfl⟩
              refine cI ?_
              refine x_ic T_323_13 ?_
              refine x_ic2 T_323_14 (fun h => absurd (show ¬ n1 = 1 from h) (by omega)) (fun _ => ?_)
              refine x_lr (z := some 2281) T_323_17 rfl ?_
              refine x_ic T_323_18 ?_
              refine x_ic T_323_19 ?_
              refine x_cv3 T_323_20 mN_319 mL_319 (Nat.le_of_ble_eq_true rfl) mO_319 (PM.t hP) (Nat.le_of_ble_eq_true rfl) (s1 q1 q2 σ hP) ?_
              rintro _ σ ⟨rfl, rfl⟩
              refine cI ?_
              refine x_i2l T_323_23 ?_
              refine x_lc T_323_24 ?_
              refine x_lc T_323_27 ?_
              refine x_cs3 T_323_30 mN_282 mL_282 (Nat.le_of_ble_eq_true rfl) mK_282 (Nat.le_of_ble_eq_true rfl) (CL_val m_in (if_pos q3)) ?_
              rintro _ σ ⟨rfl, rfl⟩
              refine cI ?_
              refine x_if T_323_33 (fun h => absurd (show (1 : Int) = 0 from h) (by decide)) (fun _ => ?_)
              refine x_lr (z := some 2281) T_323_36 rfl ?_
              refine x_ic T_323_37 ?_
              refine x_cv2 T_323_38 mN_318 mL_318 (Nat.le_of_ble_eq_true rfl) mO_318 (PM.t hP) (Nat.le_of_ble_eq_true rfl) (z2 q1 σ hP) ?_
              rintro _ σ ⟨rfl, rfl⟩
              refine cI ?_
              refine x_ic T_323_41 ?_
              refine x_ic2 T_323_42 (fun h => absurd (show ¬ n2 = 2 from h) (by omega)) (fun _ => ?_)
              refine x_lr (z := some 2281) T_323_45 rfl ?_
              refine x_ic T_323_46 ?_
              refine x_ic T_323_47 ?_
              refine x_cv3 T_323_48 mN_319 mL_319 (Nat.le_of_ble_eq_true rfl) mO_319 (PM.t hP) (Nat.le_of_ble_eq_true rfl) (s2 q1 q4 σ hP) ?_
              rintro _ σ ⟨rfl, rfl⟩
              refine cI ?_
              refine x_ic T_323_51 ?_
              refine x_ic2 T_323_53 (fun h => absurd (show ¬ y0 = 105 from h) (by omega)) (fun _ => ?_)
              refine x_lr (z := some 2281) T_323_56 rfl ?_
              refine x_ic T_323_57 ?_
              refine x_ic T_323_58 ?_
              refine x_cv3 T_323_59 mN_319 mL_319 (Nat.le_of_ble_eq_true rfl) mO_319 (PM.t hP) (Nat.le_of_ble_eq_true rfl) (s3 q1 q4 σ hP) ?_
              rintro _ σ ⟨rfl, rfl⟩
              refine cI ?_
              refine x_ic T_323_62 ?_
              refine x_ic2 T_323_64 (fun _ => ?_) (fun h => absurd (show ¬ y1 = 110 by omega) h)
              exact hgo
          · have hgo := hno (fun c => q5 c.2.2.2.2.1)
            refine x_lr (z := some 2281) T_323_0 rfl ?_
            refine x_gI (z := N) T_323_1 (Or.inl F_17_77) (PM.t hP) (Eq.trans (PM.nS hP 2281 77 77 rfl rfl rfl) h77) ?_
            refine x_ic T_323_4 ?_
            refine x_ic2 T_323_5 (fun h => absurd (show N ≤ 4 from h) (by omega)) (fun _ => ?_)
            refine x_lr (z := some 2281) T_323_8 rfl ?_
            refine x_ic T_323_9 ?_
            refine x_cv2 T_323_10 mN_318 mL_318 (Nat.le_of_ble_eq_true rfl) mO_318 (PM.t hP) (Nat.le_of_ble_eq_true rfl) (z1 q1 σ hP) ?_
            rintro _ σ ⟨rfl, rfl⟩
            refine cI ?_
            refine x_ic T_323_13 ?_
            refine x_ic2 T_323_14 (fun h => absurd (show ¬ n1 = 1 from h) (by omega)) (fun _ => ?_)
            refine x_lr (z := some 2281) T_323_17 rfl ?_
            refine x_ic T_323_18 ?_
            refine x_ic T_323_19 ?_
            refine x_cv3 T_323_20 mN_319 mL_319 (Nat.le_of_ble_eq_true rfl) mO_319 (PM.t hP) (Nat.le_of_ble_eq_true rfl) (s1 q1 q2 σ hP) ?_
            rintro _ σ ⟨rfl, rfl⟩
            refine cI ?_
            refine x_i2l T_323_23 ?_
            refine x_lc T_323_24 ?_
            refine x_lc T_323_27 ?_
            refine x_cs3 T_323_30 mN_282 mL_282 (Nat.le_of_ble_eq_true rfl) mK_282 (Nat.le_of_ble_eq_true rfl) (CL_val m_in (if_pos q3)) ?_
            rintro _ σ ⟨rfl, rfl⟩
            refine cI ?_
            refine x_if T_323_33 (fun h => absurd (show (1 : Int) = 0 from h) (by decide)) (fun _ => ?_)
            refine x_lr (z := some 2281) T_323_36 rfl ?_
            refine x_ic T_323_37 ?_
            refine x_cv2 T_323_38 mN_318 mL_318 (Nat.le_of_ble_eq_true rfl) mO_318 (PM.t hP) (Nat.le_of_ble_eq_true rfl) (z2 q1 σ hP) ?_
            rintro _ σ ⟨rfl, rfl⟩
            refine cI ?_
            refine x_ic T_323_41 ?_
            refine x_ic2 T_323_42 (fun h => absurd (show ¬ n2 = 2 from h) (by omega)) (fun _ => ?_)
            refine x_lr (z := some 2281) T_323_45 rfl ?_
            refine x_ic T_323_46 ?_
            refine x_ic T_323_47 ?_
            refine x_cv3 T_323_48 mN_319 mL_319 (Nat.le_of_ble_eq_true rfl) mO_319 (PM.t hP) (Nat.le_of_ble_eq_true rfl) (s2 q1 q4 σ hP) ?_
            rintro _ σ ⟨rfl, rfl⟩
            refine cI ?_
            refine x_ic T_323_51 ?_
            refine x_ic2 T_323_53 (fun _ => ?_) (fun h => absurd (show ¬ y0 = 105 by omega) h)
            exact hgo
        · have hgo := hno (fun c => q4 c.2.2.2.1)
          refine x_lr (z := some 2281) T_323_0 rfl ?_
          refine x_gI (z := N) T_323_1 (Or.inl F_17_77) (PM.t hP) (Eq.trans (PM.nS hP 2281 77 77 rfl rfl rfl) h77) ?_
          refine x_ic T_323_4 ?_
          refine x_ic2 T_323_5 (fun h => absurd (show N ≤ 4 from h) (by omega)) (fun _ => ?_)
          refine x_lr (z := some 2281) T_323_8 rfl ?_
          refine x_ic T_323_9 ?_
          refine x_cv2 T_323_10 mN_318 mL_318 (Nat.le_of_ble_eq_true rfl) mO_318 (PM.t hP) (Nat.le_of_ble_eq_true rfl) (z1 q1 σ hP) ?_
          rintro _ σ ⟨rfl, rfl⟩
          refine cI ?_
          refine x_ic T_323_13 ?_
          refine x_ic2 T_323_14 (fun h => absurd (show ¬ n1 = 1 from h) (by omega)) (fun _ => ?_)
          refine x_lr (z := some 2281) T_323_17 rfl ?_
          refine x_ic T_323_18 ?_
          refine x_ic T_323_19 ?_
          refine x_cv3 T_323_20 mN_319 mL_319 (Nat.le_of_ble_eq_true rfl) mO_319 (PM.t hP) (Nat.le_of_ble_eq_true rfl) (s1 q1 q2 σ hP) ?_
          rintro _ σ ⟨rfl, rfl⟩
          refine cI ?_
          refine x_i2l T_323_23 ?_
          refine x_lc T_323_24 ?_
          refine x_lc T_323_27 ?_
          refine x_cs3 T_323_30 mN_282 mL_282 (Nat.le_of_ble_eq_true rfl) mK_282 (Nat.le_of_ble_eq_true rfl) (CL_val m_in (if_pos q3)) ?_
          rintro _ σ ⟨rfl, rfl⟩
          refine cI ?_
          refine x_if T_323_33 (fun h => absurd (show (1 : Int) = 0 from h) (by decide)) (fun _ => ?_)
          refine x_lr (z := some 2281) T_323_36 rfl ?_
          refine x_ic T_323_37 ?_
          refine x_cv2 T_323_38 mN_318 mL_318 (Nat.le_of_ble_eq_true rfl) mO_318 (PM.t hP) (Nat.le_of_ble_eq_true rfl) (z2 q1 σ hP) ?_
          rintro _ σ ⟨rfl, rfl⟩
          refine cI ?_
          refine x_ic T_323_41 ?_
          refine x_ic2 T_323_42 (fun _ => ?_) (fun h => absurd (show ¬ n2 = 2 by omega) h)
          exact hgo
      · have hgo := hno (fun c => q3 c.2.2.1)
        refine x_lr (z := some 2281) T_323_0 rfl ?_
        refine x_gI (z := N) T_323_1 (Or.inl F_17_77) (PM.t hP) (Eq.trans (PM.nS hP 2281 77 77 rfl rfl rfl) h77) ?_
        refine x_ic T_323_4 ?_
        refine x_ic2 T_323_5 (fun h => absurd (show N ≤ 4 from h) (by omega)) (fun _ => ?_)
        refine x_lr (z := some 2281) T_323_8 rfl ?_
        refine x_ic T_323_9 ?_
        refine x_cv2 T_323_10 mN_318 mL_318 (Nat.le_of_ble_eq_true rfl) mO_318 (PM.t hP) (Nat.le_of_ble_eq_true rfl) (z1 q1 σ hP) ?_
        rintro _ σ ⟨rfl, rfl⟩
        refine cI ?_
        refine x_ic T_323_13 ?_
        refine x_ic2 T_323_14 (fun h => absurd (show ¬ n1 = 1 from h) (by omega)) (fun _ => ?_)
        refine x_lr (z := some 2281) T_323_17 rfl ?_
        refine x_ic T_323_18 ?_
        refine x_ic T_323_19 ?_
        refine x_cv3 T_323_20 mN_319 mL_319 (Nat.le_of_ble_eq_true rfl) mO_319 (PM.t hP) (Nat.le_of_ble_eq_true rfl) (s1 q1 q2 σ hP) ?_
        rintro _ σ ⟨rfl, rfl⟩
        refine cI ?_
        refine x_i2l T_323_23 ?_
        refine x_lc T_323_24 ?_
        refine x_lc T_323_27 ?_
        refine x_cs3 T_323_30 mN_282 mL_282 (Nat.le_of_ble_eq_true rfl) mK_282 (Nat.le_of_ble_eq_true rfl) (CL_val m_in (if_neg q3)) ?_
        rintro _ σ ⟨rfl, rfl⟩
        refine cI ?_
        refine x_if T_323_33 (fun _ => ?_) (fun h => absurd (show (0 : Int) = 0 by decide) h)
        exact hgo
    · have hgo := hno (fun c => q2 c.2.1)
      refine x_lr (z := some 2281) T_323_0 rfl ?_
      refine x_gI (z := N) T_323_1 (Or.inl F_17_77) (PM.t hP) (Eq.trans (PM.nS hP 2281 77 77 rfl rfl rfl) h77) ?_
      refine x_ic T_323_4 ?_
      refine x_ic2 T_323_5 (fun h => absurd (show N ≤ 4 from h) (by omega)) (fun _ => ?_)
      refine x_lr (z := some 2281) T_323_8 rfl ?_
      refine x_ic T_323_9 ?_
      refine x_cv2 T_323_10 mN_318 mL_318 (Nat.le_of_ble_eq_true rfl) mO_318 (PM.t hP) (Nat.le_of_ble_eq_true rfl) (z1 q1 σ hP) ?_
      rintro _ σ ⟨rfl, rfl⟩
      refine cI ?_
      refine x_ic T_323_13 ?_
      refine x_ic2 T_323_14 (fun _ => ?_) (fun h => absurd (show ¬ n1 = 1 by omega) h)
      exact hgo
  · have hgo := hno (fun c => q1 c.1)
    refine x_lr (z := some 2281) T_323_0 rfl ?_
    refine x_gI (z := N) T_323_1 (Or.inl F_17_77) (PM.t hP) (Eq.trans (PM.nS hP 2281 77 77 rfl rfl rfl) h77) ?_
    refine x_ic T_323_4 ?_
    refine x_ic2 T_323_5 (fun _ => ?_) (fun h => absurd (show N ≤ 4 by omega) h)
    exact hgo
theorem m_script (hP : PM σ0 P S σ) (hK : KS T U P S tt []) (hp : 0 ≤ p ∧ p < 8) (hF : FST S (fr :: fs)) (ht : fr.2.1 = tt) (hN : 0 < (lnW tt).length) (hv : pkW (lnB tt 0) = 7501166) (hd : S 2281 113 = (fs.length : Int) + 1) (hd12 : (fs.length : Int) + 1 ≤ 12) (hc : S 2281 114 = c) (hc0 : 0 ≤ c ∧ c ≤ 200) (hT : T + 3200 ≤ 2147483000) (hJH : JH p J) (hJp : J P) : CL fb (d + 17) 325 [vR (some 2281), vI p] σ (EJ (T + 3000) U σ0 J tt p (-1) fr fs P c) := by
  have hL := hK.2.2.2.2
  obtain ⟨N, hN0⟩ : ∃ N : Int, ((lnW tt).length : Int) = N := ⟨_, rfl⟩
  have h77 : S 2281 77 = N := hL.2.2.2.2.1.trans hN0
  obtain ⟨dn, hdn⟩ : ∃ dn : Int, (fs.length : Int) + 1 = dn := ⟨_, rfl⟩
  have hev : ∀ m, EV p (m + 1) (-1) ((fs.length : Int) + 1) (arOf fs) fr P c = if 2 ≤ N ∧ N ≤ 11 then (if 0 < (cCat P dn p (lnB tt 1)).1 then ((cCat P dn p (lnB tt 1)).1, kDrops (cCat P dn p (lnB tt 1)).2.1 (cCat P dn p (lnB tt 1)).2.2.1, c) else EV p m (-2) ((fs.length : Int) + 1) (arOf fs) (3, tt, 0, 0, (cCat P dn p (lnB tt 1)).2.2.2.take 600) (kDrops (cCat P dn p (lnB tt 1)).2.1 (cCat P dn p (lnB tt 1)).2.2.1) c) else (18, P, c) := fun m => by
    show (if (-1 : Int) = -1 then _ else _) = _
    rw [if_pos rfl, ht, if_neg (by omega), if_neg (by rw [hv]; decide), if_neg (by rw [hv]; decide), if_pos hv, hN0, hdn]
  by_cases q : 2 ≤ N ∧ N ≤ 11
  · have hJ0 : IV true T U (rU S 2371 dn 0) := hK.2.2.1.uA 2371 rfl (by show (0 : Int) ≤ 0 ∧ (0 : Int) ≤ 600; decide)
    have hK0 : KS T U P (rU S 2371 dn 0) tt [] := ⟨hK.1, hK.2.1, hJ0, ⟨(rU_f (by decide)).trans hK.2.2.2.1.1, hK.2.2.2.1.2.1, fun i hi => absurd hi (Nat.not_lt_zero i)⟩, hL.of (rU_f (by decide)) (rU_f (by decide)) (fun _ => rU_f (by decide)) (fun _ => rU_f (by decide)) (fun _ => rU_f (by decide))⟩
    have hFs0 : FST (rU S 2371 dn 0) fs := hF.2.ne (by omega) (by decide) (by decide)
    have hFt0 : TX (rU S 2371 dn 0) dn tt := by
      rw [← hdn, ← ht]
      exact hF.1.txt.2.2.row (by decide) (by decide)
    have hS0 : SCL (rU S 2371 dn 0) dn [] := ⟨rU_s, by decide, fun i a b => absurd b (by show ¬ i < ((0 : Nat) : Int); omega)⟩
    have hct := fun (σ : hM) (hP : PM σ0 P (rU S 2371 dn 0) σ) => m_cat (fb := fb) (d := d) (fr := dn) hP hK0 hp ⟨by omega, by omega⟩ (by omega) (by omega)
    have hjr := hJH.2.2.2.1 T U P dn (lnB tt 1) hK.1 hK.2.1 (lnB_bt hL) (lnB_len hL.2.1 ⟨by decide, by omega⟩).2 (by omega) hJp
    replace hev := fun m => (hev m).trans (if_pos q)
    obtain ⟨C, hC⟩ : ∃ C, cCat P dn p (lnB tt 1) = C := ⟨_, rfl⟩
    rw [hC] at hct hev hjr
    obtain ⟨e, P1, h1, A⟩ := C
    dsimp only at hct hev hjr
    have hfin : ∀ (σ : hM) (S1 : qR), PM σ0 P1 S1 σ → KS (T + 2708) U P1 S1 tt h1 → SO dn (rU S 2371 dn 0) S1 A → WP fb (d + 17) 325 39 [some (vR (some 2281)), some (vI p), none] [vI e] σ (EJ (T + 3000) U σ0 J tt p (-1) fr fs P c) := fun σ S1 a1 a2 a3 => by
      have hl60 := a2.2.2.2.1.2.1
      obtain ⟨hz, hhz⟩ : ∃ hz : Int, (h1.length : Int) = hz := ⟨_, rfl⟩
      have hda := fun (σ : hM) (hP : PM σ0 P1 S1 σ) => m_dropAll (fb := fb) (d := d + 3) (T := T + 2708) (h := h1) (by omega) hP a2.2.2.1 a2.1 a2.2.2.2.1
      have hKd := fun (r : Option AV) (σ1 : hM) => KS.drops (σ0 := σ0) (r := r) (σ1 := σ1) a2
      obtain ⟨P2, hP2⟩ : ∃ P2, kDrops P1 h1 = P2 := ⟨_, rfl⟩
      rw [hP2] at hda hKd hev hjr
      rw [hhz] at hda hKd
      have hd1 : S1 2281 113 = dn := (a3.1.1 _ rfl).trans ((rU_f (by decide)).trans (hd.trans hdn))
      have hc1 : S1 2281 114 = c := (a3.1.1 _ rfl).trans ((rU_f (by decide)).trans hc)
      have hF1 : FST S1 fs := hFs0.sox a3 (by omega)
      have hS1 : SCL S1 dn (([] ++ A).take 600) := a3.2.2 [] (by omega) hS0
      rw [List.nil_append] at hS1
      have hX1 : TX S1 dn tt := ⟨(a3.1.2 _ _ rfl rfl).trans hFt0.1, fun j b1 b2 b3 => (a3.1.2 _ _ rfl rfl).trans (hFt0.2 j b1 b2 b3)⟩
      have hP := a1
      by_cases q2 : 0 < e
      · skip
        refine x_si (ls1 := [some (vR (some 2281)), some (vI p), some (vI e)]) T_325_39 rfl ?_
        refine x_lr (z := some 2281) T_325_40 rfl ?_
        refine x_cv1 T_325_41 mN_352 mL_352 (Nat.le_of_ble_eq_true rfl) mO_352 (PM.t hP) (Nat.le_of_ble_eq_true rfl) (hda σ hP) ?_
        clear hda
        intro r σ hr
        obtain ⟨S2, rfl, hP, hK2, hX2⟩ := hKd _ _ hr
        refine cV ?_
        refine x_li (z := e) T_325_44 rfl ?_
        refine x_if T_325_45 (fun h => absurd (show e ≤ 0 from h) (by omega)) (fun _ => ?_)
        refine x_li (z := e) T_325_48 rfl ?_
        refine x_ri T_325_49 ?_
        skip
        have hxc := XC_sc hX2
        exact ⟨e, P2, S2, rfl, hP, hK2.mono (by omega), hjr, Or.inl ⟨c, by omega, Int.le_refl c, hc0.2, by rw [hdn]; exact (hX2.1 _ rfl).trans hd1, (hX2.1 _ rfl).trans hc1, hF1.xc hxc, fun m => by rw [hev, if_pos q2]⟩⟩
      · skip
        refine x_si (ls1 := [some (vR (some 2281)), some (vI p), some (vI e)]) T_325_39 rfl ?_
        refine x_lr (z := some 2281) T_325_40 rfl ?_
        refine x_cv1 T_325_41 mN_352 mL_352 (Nat.le_of_ble_eq_true rfl) mO_352 (PM.t hP) (Nat.le_of_ble_eq_true rfl) (hda σ hP) ?_
        clear hda
        intro r σ hr
        obtain ⟨S2, rfl, hP, hK2, hX2⟩ := hKd _ _ hr
        have hd2 : S2 2281 113 = dn := (hX2.1 _ rfl).trans hd1
        refine cV ?_
        refine x_li (z := e) T_325_44 rfl ?_
        refine x_if T_325_45 (fun _ => ?_) (fun h => absurd (show e ≤ 0 by omega) h)
        refine x_lr (z := some 2281) T_325_50 rfl ?_
        refine x_gR (z := some 2367) T_325_51 F_17_108 (PM.t hP) (PM.r hP 108 2367 rfl) ?_
        refine x_lr (z := some 2281) T_325_54 rfl ?_
        refine x_gI (z := dn) T_325_55 (Or.inl F_17_113) (PM.t hP) (Eq.trans (PM.nS hP 2281 113 113 rfl rfl rfl) hd2) ?_
        refine x_ic T_325_58 ?_
        refine y_aIS hP T_325_59 2367 13 rfl rfl rfl (by omega) (by omega) (fun σ hP => ?_)
        refine x_lr (z := some 2281) T_325_60 rfl ?_
        refine x_gR (z := some 2368) T_325_61 F_17_109 (PM.t hP) (PM.r hP 109 2368 rfl) ?_
        refine x_lr (z := some 2281) T_325_64 rfl ?_
        refine x_gI (z := dn) T_325_65 (Or.inl F_17_113) (PM.t hP) (Eq.trans (Eq.trans (PM.nS hP 2281 113 113 rfl rfl rfl) (rU_f (Nat.ne_of_beq_eq_false rfl))) hd2) ?_
        refine x_ic T_325_68 ?_
        refine y_aIS hP T_325_69 2368 13 rfl rfl rfl (by omega) (by omega) (fun σ hP => ?_)
        refine x_ic T_325_70 ?_
        refine x_ri T_325_72 ?_
        skip
        have hxc := XC_sc hX2
        have hF2 : FST S2 fs := hF1.xc hxc
        have hJ2 : IV true (T + 2708 + 4 * hz) U (rU (rU S2 2367 dn 3) 2368 dn 0) := (hK2.2.2.1.uA 2367 rfl (by show (0 : Int) ≤ 3 ∧ (3 : Int) ≤ 3; decide)).uA 2368 rfl (by show (0 : Int) ≤ 0 ∧ (0 : Int) ≤ 700; decide)
        have hX3 : SX fmR fmN S2 (rU (rU S2 2367 dn 3) 2368 dn 0) := SX_up (SX_up SX_rfl rfl rfl) rfl rfl
        have hK3 := (hK2.fm hX3 hJ2).mono (show T + 2708 + 4 * hz ≤ T + 3000 by omega)
        have hbA : byt (A.take 600) := fun i hi => by
          by_cases b1 : i < ((A.take 600).length : Int)
          · rw [← hS1.2.2 i hi b1]
            have hl := hS1.2.1
            exact IV.a a2.2.2.1 2370 0 7800 rfl rfl rfl (by omega) (by omega)
          · rw [lg_out (by omega)]
            decide
        refine ⟨-2, P2, _, rfl, hP, hK3, hjr, Or.inr (Or.inr ⟨rfl, (3, tt, 0, 0, A.take 600), c, Int.le_refl c, hc0.2, ?_, ?_, ⟨⟨?_, ⟨by rw [← ht]; exact hF.1.txt.1, by rw [← ht]; exact hF.1.txt.2.1, ?_⟩, fun _ => ?_, fun q3 => ?_, fun _ => ?_⟩, ?_⟩, Or.inr ⟨rfl, Int.le_refl 0, show (0 : Int) ≤ 601 by decide, hS1.2.1, hbA⟩, Or.inl rfl, fun m => by rw [hev, if_neg q2]⟩)⟩
        · rw [hdn]
          exact (rU_f (by decide)).trans ((rU_f (by decide)).trans hd2)
        · exact (rU_f (by decide)).trans ((rU_f (by decide)).trans ((hX2.1 _ rfl).trans hc1))
        · rw [hdn, rU_f (by decide), rU_s]
        · rw [hdn]
          exact (TX.row (⟨(hX2.2 _ _ rfl rfl).trans hX1.1, fun j b1 b2 b3 => (hX2.2 _ _ rfl rfl).trans (hX1.2 j b1 b2 b3)⟩ : TX S2 dn tt) (by decide) (by decide)).row (by decide) (by decide)
        · rw [hdn]
          exact rU_s
        · exact q3.elim (fun c => absurd c.1 (show ¬ (3 : Int) = 2 by decide)) (fun c => absurd c.2 (show ¬ (0 : Int) < 0 by decide))
        · rw [hdn]
          exact ⟨(rU_f (by decide)).trans ((rU_f (by decide)).trans ((hxc.2.1 dn (by omega)).trans hS1.1)), hS1.2.1, fun i b1 b2 => (rU_f (by decide)).trans ((rU_f (by decide)).trans ((hxc.2.2 _ (by omega)).trans (hS1.2.2 i b1 b2)))⟩
        · exact (hF2.ne (by omega) (by decide) (by decide)).ne (by omega) (by decide) (by decide)
    have hd' := hd.trans hdn
    have hd2 : rU S 2371 dn 0 2281 113 = dn := (rU_f (by decide)).trans hd'
    refine CL_in mL_325 rfl ?_
    show WP fb _ 325 0 [some (vR (some 2281)), some (vI p), none] [] σ _
    refine x_lr (z := some 2281) T_325_0 rfl ?_
    refine x_gI (z := N) T_325_1 (Or.inl F_17_77) (PM.t hP) (Eq.trans (PM.nS hP 2281 77 77 rfl rfl rfl) h77) ?_
    refine x_i2l T_325_4 ?_
    refine x_lc T_325_5 ?_
    refine x_lc T_325_8 ?_
    refine x_cs3 T_325_11 mN_282 mL_282 (Nat.le_of_ble_eq_true rfl) mK_282 (Nat.le_of_ble_eq_true rfl) (CL_val m_in (if_pos (by omega))) ?_
    rintro _ σ ⟨rfl, rfl⟩
    refine cI ?_
    refine x_if T_325_14 (fun _ => ?_) (fun h => absurd (show ¬ (1 : Int) = 0 by decide) h)
    refine x_lr (z := some 2281) T_325_20 rfl ?_
    refine x_gR (z := some 2371) T_325_21 F_17_112 (PM.t hP) (PM.r hP 112 2371 rfl) ?_
    refine x_lr (z := some 2281) T_325_24 rfl ?_
    refine x_gI (z := dn) T_325_25 (Or.inl F_17_113) (PM.t hP) (Eq.trans (PM.nS hP 2281 113 113 rfl rfl rfl) hd') ?_
    refine x_ic T_325_28 ?_
    refine y_aIS hP T_325_29 2371 13 rfl rfl rfl (by omega) (by omega) (fun σ hP => ?_)
    refine x_lr (z := some 2281) T_325_30 rfl ?_
    refine x_li (z := p) T_325_31 rfl ?_
    refine x_lr (z := some 2281) T_325_32 rfl ?_
    refine x_gI (z := dn) T_325_33 (Or.inl F_17_113) (PM.t hP) (Eq.trans (Eq.trans (PM.nS hP 2281 113 113 rfl rfl rfl) (rU_f (Nat.ne_of_beq_eq_false rfl))) hd') ?_
    refine x_cv3 T_325_36 mN_326 mL_326 (Nat.le_of_ble_eq_true rfl) mO_326 (PM.t hP) (Nat.le_of_ble_eq_true rfl) (hct σ hP) ?_
    clear hP hct
    rintro _ σ ⟨S1, rfl, hP, hK1, hX1⟩
    refine cI ?_
    exact hfin σ S1 hP hK1 hX1
  · replace hev := fun m => (hev m).trans (if_neg q)
    refine CL_in mL_325 rfl ?_
    show WP fb _ 325 0 [some (vR (some 2281)), some (vI p), none] [] σ _
    refine x_lr (z := some 2281) T_325_0 rfl ?_
    refine x_gI (z := N) T_325_1 (Or.inl F_17_77) (PM.t hP) (Eq.trans (PM.nS hP 2281 77 77 rfl rfl rfl) h77) ?_
    refine x_i2l T_325_4 ?_
    refine x_lc T_325_5 ?_
    refine x_lc T_325_8 ?_
    refine x_cs3 T_325_11 mN_282 mL_282 (Nat.le_of_ble_eq_true rfl) mK_282 (Nat.le_of_ble_eq_true rfl) (CL_val m_in (if_neg (by omega))) ?_
    rintro _ σ ⟨rfl, rfl⟩
    refine cI ?_
    refine x_if T_325_14 (fun h => absurd (show ¬ (0 : Int) = 0 from h) (by decide)) (fun _ => ?_)
    refine x_ic T_325_17 ?_
    refine x_ri T_325_19 ?_
    exact ⟨18, P, S, rfl, hP, hK.mono (by omega), hJp, Or.inl ⟨c, by decide, Int.le_refl c, hc0.2, hd, hc, hF.2, fun m => hev m⟩⟩
theorem m_first (hP : PM σ0 P S σ) (hK : KS T U P S tt []) (hp : 0 ≤ p ∧ p < 8) (hF : FST S (fr :: fs)) (ht : fr.2.1 = tt) (hfk : fr.1 = 0) (hd : S 2281 113 = (fs.length : Int) + 1) (hd12 : (fs.length : Int) + 1 ≤ 12) (hc : S 2281 114 = c) (hc0 : 0 ≤ c ∧ c ≤ 200) (hT : T + 3200 ≤ 2147483000) (hU : 10000 ≤ U ∧ U ≤ 2147480000) (hJH : JH p J) (hJp : J P) : CL fb (d + 19) 316 [vR (some 2281), vI p] σ (EJ (T + 3000) (U + 400) σ0 J tt p (-1) fr fs P c) := by
  have hL := hK.2.2.2.2
  obtain ⟨N, hN0⟩ : ∃ N : Int, ((lnW tt).length : Int) = N := ⟨_, rfl⟩
  have h77 : S 2281 77 = N := hL.2.2.2.2.1.trans hN0
  have up : ∀ (r : Option AV) (σ1 : hM), EC T U σ0 tt p (-1) fr fs P c r σ1 → EJ (T + 3000) (U + 400) σ0 J tt p (-1) fr fs P c r σ1 := fun r σ1 hr => by
    obtain ⟨c2, S2, a1, a2, a3, a4⟩ := hr
    exact ⟨c2, P, S2, a1, a2, (a3.mono (by omega)).monoU (by omega), hJp, a4⟩
  by_cases q0 : N = 0
  · have hev : ∀ m, EV p (m + 1) (-1) ((fs.length : Int) + 1) (arOf fs) fr P c = (0, P, c) := fun m => by
      show (if (-1 : Int) = -1 then _ else _) = _
      rw [if_pos rfl, ht, if_pos (by omega)]
    refine CL_in mL_316 rfl ?_
    show WP fb _ 316 0 [some (vR (some 2281)), some (vI p), none, none, none] [] σ _
    refine x_lr (z := some 2281) T_316_0 rfl ?_
    refine x_gI (z := N) T_316_1 (Or.inl F_17_77) (PM.t hP) (Eq.trans (PM.nS hP 2281 77 77 rfl rfl rfl) h77) ?_
    refine x_if T_316_4 (fun h => absurd (show ¬ N = 0 from h) (by omega)) (fun _ => ?_)
    refine x_ic T_316_7 ?_
    refine x_ri T_316_8 ?_
    exact ⟨0, P, S, rfl, hP, (hK.mono (by omega)).monoU (by omega), hJp, Or.inl ⟨c, by decide, Int.le_refl c, hc0.2, hd, hc, hF.2, hev⟩⟩
  have hN : 0 < (lnW tt).length := by omega
  have hpk := m_packed (fb := fb) (d := d + 17) (w := 0) hP hL ⟨by decide, by omega⟩
  obtain ⟨v, hv⟩ : ∃ v, pkW (lnB tt 0) = v := ⟨_, rfl⟩
  rw [hv] at hpk
  by_cases q1 : v = 26982
  · have hch := CL.mono (m_choose (fb := fb) (d := d + 15) hP hK hp hF ht hfk hN (hv.trans q1) hd hd12 hc hc0) up
    refine CL_in mL_316 rfl ?_
    show WP fb _ 316 0 [some (vR (some 2281)), some (vI p), none, none, none] [] σ _
    refine x_lr (z := some 2281) T_316_0 rfl ?_
    refine x_gI (z := N) T_316_1 (Or.inl F_17_77) (PM.t hP) (Eq.trans (PM.nS hP 2281 77 77 rfl rfl rfl) h77) ?_
    refine x_if T_316_4 (fun _ => ?_) (fun h => absurd (show ¬ N = 0 by omega) h)
    refine x_lr (z := some 2281) T_316_9 rfl ?_
    refine x_ic T_316_10 ?_
    refine x_cv2 T_316_11 mN_317 mL_317 (Nat.le_of_ble_eq_true rfl) mO_317 (PM.t hP) (Nat.le_of_ble_eq_true rfl) (hpk) ?_
    rintro _ σ ⟨rfl, rfl⟩
    refine cL ?_
    refine x_sl (ls1 := [some (vR (some 2281)), some (vI p), some (vL v), none, none]) T_316_14 rfl ?_
    refine x_ll (z := v) T_316_15 rfl ?_
    refine x_lc T_316_16 ?_
    refine x_lif T_316_19 T_316_20 (fun h => absurd (show ¬ v = 26982 from h) (by omega)) (fun _ => ?_)
    refine x_lr (z := some 2281) T_316_23 rfl ?_
    refine x_li (z := p) T_316_24 rfl ?_
    refine x_cv2 T_316_25 mN_320 mL_320 (Nat.le_of_ble_eq_true rfl) mO_320 (PM.t hP) (Nat.le_of_ble_eq_true rfl) (hch) ?_
    intro r σ hr
    obtain ⟨c2, P2, S2, rfl, r1, r2, r3, r4⟩ := hr
    refine cI ?_
    refine x_ri T_316_28 ?_
    exact ⟨c2, P2, S2, rfl, r1, r2, r3, r4⟩
  by_cases q2 : v = 6713202
  · have hch := CL.mono (m_repeat (fb := fb) (d := d + 15) (p := p) hP hK hF ht hN (hv.trans q2) hd hd12 hc hc0) up
    refine CL_in mL_316 rfl ?_
    show WP fb _ 316 0 [some (vR (some 2281)), some (vI p), none, none, none] [] σ _
    refine x_lr (z := some 2281) T_316_0 rfl ?_
    refine x_gI (z := N) T_316_1 (Or.inl F_17_77) (PM.t hP) (Eq.trans (PM.nS hP 2281 77 77 rfl rfl rfl) h77) ?_
    refine x_if T_316_4 (fun _ => ?_) (fun h => absurd (show ¬ N = 0 by omega) h)
    refine x_lr (z := some 2281) T_316_9 rfl ?_
    refine x_ic T_316_10 ?_
    refine x_cv2 T_316_11 mN_317 mL_317 (Nat.le_of_ble_eq_true rfl) mO_317 (PM.t hP) (Nat.le_of_ble_eq_true rfl) (hpk) ?_
    rintro _ σ ⟨rfl, rfl⟩
    refine cL ?_
    refine x_sl (ls1 := [some (vR (some 2281)), some (vI p), some (vL v), none, none]) T_316_14 rfl ?_
    refine x_ll (z := v) T_316_15 rfl ?_
    refine x_lc T_316_16 ?_
    refine x_lif T_316_19 T_316_20 (fun _ => ?_) (fun h => absurd (show ¬ v = 26982 by omega) h)
    refine x_ll (z := v) T_316_29 rfl ?_
    refine x_lc T_316_30 ?_
    refine x_lif T_316_33 T_316_34 (fun h => absurd (show ¬ v = 6713202 from h) (by omega)) (fun _ => ?_)
    refine x_lr (z := some 2281) T_316_37 rfl ?_
    refine x_cv1 T_316_38 mN_323 mL_323 (Nat.le_of_ble_eq_true rfl) mO_323 (PM.t hP) (Nat.le_of_ble_eq_true rfl) (hch) ?_
    intro r σ hr
    obtain ⟨c2, P2, S2, rfl, r1, r2, r3, r4⟩ := hr
    refine cI ?_
    refine x_ri T_316_41 ?_
    exact ⟨c2, P2, S2, rfl, r1, r2, r3, r4⟩
  by_cases q3 : v = 7501166
  · have hch := m_script (fb := fb) (d := d + 1) hP hK hp hF ht hN (hv.trans q3) hd hd12 hc hc0 hT hJH hJp
    refine CL_in mL_316 rfl ?_
    show WP fb _ 316 0 [some (vR (some 2281)), some (vI p), none, none, none] [] σ _
    refine x_lr (z := some 2281) T_316_0 rfl ?_
    refine x_gI (z := N) T_316_1 (Or.inl F_17_77) (PM.t hP) (Eq.trans (PM.nS hP 2281 77 77 rfl rfl rfl) h77) ?_
    refine x_if T_316_4 (fun _ => ?_) (fun h => absurd (show ¬ N = 0 by omega) h)
    refine x_lr (z := some 2281) T_316_9 rfl ?_
    refine x_ic T_316_10 ?_
    refine x_cv2 T_316_11 mN_317 mL_317 (Nat.le_of_ble_eq_true rfl) mO_317 (PM.t hP) (Nat.le_of_ble_eq_true rfl) (hpk) ?_
    rintro _ σ ⟨rfl, rfl⟩
    refine cL ?_
    refine x_sl (ls1 := [some (vR (some 2281)), some (vI p), some (vL v), none, none]) T_316_14 rfl ?_
    refine x_ll (z := v) T_316_15 rfl ?_
    refine x_lc T_316_16 ?_
    refine x_lif T_316_19 T_316_20 (fun _ => ?_) (fun h => absurd (show ¬ v = 26982 by omega) h)
    refine x_ll (z := v) T_316_29 rfl ?_
    refine x_lc T_316_30 ?_
    refine x_lif T_316_33 T_316_34 (fun _ => ?_) (fun h => absurd (show ¬ v = 6713202 by omega) h)
    refine x_ll (z := v) T_316_42 rfl ?_
    refine x_lc T_316_43 ?_
    refine x_lif T_316_46 T_316_47 (fun h => absurd (show ¬ v = 7501166 from h) (by omega)) (fun _ => ?_)
    refine x_lr (z := some 2281) T_316_50 rfl ?_
    refine x_li (z := p) T_316_51 rfl ?_
    refine x_cv2 T_316_52 mN_325 mL_325 (Nat.le_of_ble_eq_true rfl) mO_325 (PM.t hP) (Nat.le_of_ble_eq_true rfl) (hch) ?_
    intro r σ hr
    obtain ⟨c2, P2, S2, rfl, r1, r2, r3, r4⟩ := hr
    refine cI ?_
    refine x_ri T_316_55 ?_
    exact ⟨c2, P2, S2, rfl, r1, r2.monoU (by omega), r3, r4⟩
  have hev : ∀ m, EV p (m + 1) (-1) ((fs.length : Int) + 1) (arOf fs) fr P c = ((cCmd P p tt).1, kDrops (cCmd P p tt).2.1 (cCmd P p tt).2.2, c) := fun m => by
    show (if (-1 : Int) = -1 then _ else _) = _
    rw [if_pos rfl, ht, if_neg (by omega), if_neg (by rw [hv]; exact q1), if_neg (by rw [hv]; exact q2), if_neg (by rw [hv]; exact q3)]
  obtain ⟨g1, g2⟩ := hJH.1 P hJp
  have hbt := hF.1.txt
  rw [ht] at hbt
  have hcm := m_command (fb := fb) (d := d) hP hK g1 hp g2 (fun _ e2 => hJH.2.1 T U P (lnB tt 1) hK.1 hK.2.1 (lnB_bt hL) (lnB_len hL.2.1 ⟨by decide, by omega⟩).2 hJp) (by omega) hU (by omega)
  have hjc := hJH.2.2.1 T U P tt hK.1 hK.2.1 hbt.2.1 hbt.1 (by omega) hJp
  have her := cCmd_rng (P := P) (p := p) (l := tt) hK.1.iv hK.2.1 hp
  obtain ⟨C, hC⟩ : ∃ C, cCmd P p tt = C := ⟨_, rfl⟩
  rw [hC] at hcm hjc hev her
  obtain ⟨e, P1, h1⟩ := C
  dsimp only at hcm hjc hev her
  have hfin : ∀ (σ : hM) (S1 : qR), PM σ0 P1 S1 σ → KS (T + 2708) (U + 400) P1 S1 tt h1 → XC S S1 → WP fb (d + 19) 316 61 [some (vR (some 2281)), some (vI p), some (vL v), none, none] [vI e] σ (EJ (T + 3000) (U + 400) σ0 J tt p (-1) fr fs P c) := fun σ S1 a1 a2 a3 => by
    have hl60 := a2.2.2.2.1.2.1
    obtain ⟨hz, hhz⟩ : ∃ hz : Int, (h1.length : Int) = hz := ⟨_, rfl⟩
    have hda := fun (σ : hM) (hP : PM σ0 P1 S1 σ) => m_dropAll (fb := fb) (d := d + 5) (T := T + 2708) (h := h1) (by omega) hP a2.2.2.1 a2.1 a2.2.2.2.1
    have hKd := fun (r : Option AV) (σ1 : hM) => KS.drops (σ0 := σ0) (r := r) (σ1 := σ1) a2
    obtain ⟨P2, hP2⟩ : ∃ P2, kDrops P1 h1 = P2 := ⟨_, rfl⟩
    rw [hP2] at hda hKd hev hjc
    rw [hhz] at hda hKd
    have hP := a1
    refine x_si (ls1 := [some (vR (some 2281)), some (vI p), some (vL v), none, some (vI e)]) T_316_61 rfl ?_
    refine x_lr (z := some 2281) T_316_63 rfl ?_
    refine x_cv1 T_316_64 mN_352 mL_352 (Nat.le_of_ble_eq_true rfl) mO_352 (PM.t hP) (Nat.le_of_ble_eq_true rfl) (hda σ hP) ?_
    clear hda
    intro r σ hr
    obtain ⟨S2, rfl, hP, hK2, hX2⟩ := hKd _ _ hr
    refine cV ?_
    refine x_li (z := e) T_316_67 rfl ?_
    refine x_ri T_316_69 ?_
    skip
    have hxc := XC_tr a3 (XC_sc hX2)
    exact ⟨e, P2, S2, rfl, hP, hK2.mono (by omega), hjc, Or.inl ⟨c, her, Int.le_refl c, hc0.2, (hxc.1.1 _ rfl).trans hd, (hxc.1.1 _ rfl).trans hc, hF.2.xc hxc, hev⟩⟩
  refine CL_in mL_316 rfl ?_
  show WP fb _ 316 0 [some (vR (some 2281)), some (vI p), none, none, none] [] σ _
  refine x_lr (z := some 2281) T_316_0 rfl ?_
  refine x_gI (z := N) T_316_1 (Or.inl F_17_77) (PM.t hP) (Eq.trans (PM.nS hP 2281 77 77 rfl rfl rfl) h77) ?_
  refine x_if T_316_4 (fun _ => ?_) (fun h => absurd (show ¬ N = 0 by omega) h)
  refine x_lr (z := some 2281) T_316_9 rfl ?_
  refine x_ic T_316_10 ?_
  refine x_cv2 T_316_11 mN_317 mL_317 (Nat.le_of_ble_eq_true rfl) mO_317 (PM.t hP) (Nat.le_of_ble_eq_true rfl) (hpk) ?_
  rintro _ σ ⟨rfl, rfl⟩
  refine cL ?_
  refine x_sl (ls1 := [some (vR (some 2281)), some (vI p), some (vL v), none, none]) T_316_14 rfl ?_
  refine x_ll (z := v) T_316_15 rfl ?_
  refine x_lc T_316_16 ?_
  refine x_lif T_316_19 T_316_20 (fun _ => ?_) (fun h => absurd (show ¬ v = 26982 by omega) h)
  refine x_ll (z := v) T_316_29 rfl ?_
  refine x_lc T_316_30 ?_
  refine x_lif T_316_33 T_316_34 (fun _ => ?_) (fun h => absurd (show ¬ v = 6713202 by omega) h)
  refine x_ll (z := v) T_316_42 rfl ?_
  refine x_lc T_316_43 ?_
  refine x_lif T_316_46 T_316_47 (fun _ => ?_) (fun h => absurd (show ¬ v = 7501166 by omega) h)
  refine x_lr (z := some 2281) T_316_56 rfl ?_
  refine x_li (z := p) T_316_57 rfl ?_
  refine x_cv2 T_316_58 mN_353 mL_353 (Nat.le_of_ble_eq_true rfl) mO_353 (PM.t hP) (Nat.le_of_ble_eq_true rfl) (hcm) ?_
  clear hP hcm
  rintro _ σ ⟨S1, rfl, hP, hK1, hX1⟩
  refine cI ?_
  exact hfin σ S1 hP hK1 hX1
end MEV2
