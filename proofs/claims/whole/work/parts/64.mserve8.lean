/-! What the reference answers to a message, whichever it is. -/
theorem T_238_0 : hTab 238 0 = some ((3, 3, 0, []), 1) := rfl
theorem T_238_1 : hTab 238 1 = some ((23, 126, 100, [68, 126, 126, 126, 77, 126, 126, 126, 86, 126, 108, 126, 117]), 68) := rfl
theorem T_238_68 : hTab 238 68 = some ((3, 0, 2, []), 69) := rfl
theorem T_238_69 : hTab 238 69 = some ((3, 1, 0, []), 70) := rfl
theorem T_238_70 : hTab 238 70 = some ((3, 2, 0, []), 71) := rfl
theorem T_238_71 : hTab 238 71 = some ((31, 239, 0, []), 74) := rfl
theorem T_238_74 : hTab 238 74 = some ((22, 0, Int.ofNat 132, []), 77) := rfl
theorem T_238_77 : hTab 238 77 = some ((3, 0, 2, []), 78) := rfl
theorem T_238_78 : hTab 238 78 = some ((3, 1, 0, []), 79) := rfl
theorem T_238_79 : hTab 238 79 = some ((3, 2, 0, []), 80) := rfl
theorem T_238_80 : hTab 238 80 = some ((31, 258, 0, []), 83) := rfl
theorem T_238_83 : hTab 238 83 = some ((22, 0, Int.ofNat 132, []), 86) := rfl
theorem T_238_86 : hTab 238 86 = some ((3, 0, 2, []), 87) := rfl
theorem T_238_87 : hTab 238 87 = some ((0, 0, 2, []), 88) := rfl
theorem T_238_88 : hTab 238 88 = some ((31, 234, 0, []), 91) := rfl
theorem T_238_91 : hTab 238 91 = some ((9, 0, 0, []), 92) := rfl
theorem T_238_92 : hTab 238 92 = some ((3, 0, 2, []), 93) := rfl
theorem T_238_93 : hTab 238 93 = some ((31, 241, 0, []), 96) := rfl
theorem T_238_96 : hTab 238 96 = some ((18, 0, Int.ofNat 132, []), 99) := rfl
theorem T_238_99 : hTab 238 99 = some ((3, 0, 2, []), 100) := rfl
theorem T_238_100 : hTab 238 100 = some ((0, 0, 109, []), 102) := rfl
theorem T_238_102 : hTab 238 102 = some ((31, 236, 0, []), 105) := rfl
theorem T_238_105 : hTab 238 105 = some ((22, 0, Int.ofNat 132, []), 108) := rfl
theorem T_238_108 : hTab 238 108 = some ((3, 0, 2, []), 109) := rfl
theorem T_238_109 : hTab 238 109 = some ((3, 1, 0, []), 110) := rfl
theorem T_238_110 : hTab 238 110 = some ((3, 2, 0, []), 111) := rfl
theorem T_238_111 : hTab 238 111 = some ((31, 266, 0, []), 114) := rfl
theorem T_238_114 : hTab 238 114 = some ((22, 0, Int.ofNat 132, []), 117) := rfl
theorem T_238_117 : hTab 238 117 = some ((3, 0, 2, []), 118) := rfl
theorem T_238_118 : hTab 238 118 = some ((3, 1, 0, []), 119) := rfl
theorem T_238_119 : hTab 238 119 = some ((3, 2, 0, []), 120) := rfl
theorem T_238_120 : hTab 238 120 = some ((31, 274, 0, []), 123) := rfl
theorem T_238_123 : hTab 238 123 = some ((22, 0, Int.ofNat 132, []), 126) := rfl
theorem T_238_126 : hTab 238 126 = some ((3, 0, 2, []), 127) := rfl
theorem T_238_127 : hTab 238 127 = some ((0, 0, 14, []), 129) := rfl
theorem T_238_129 : hTab 238 129 = some ((31, 235, 0, []), 132) := rfl
theorem T_238_132 : hTab 238 132 = some ((33, 0, 0, []), 133) := rfl
theorem T_278_0 : hTab 278 0 = some ((3, 3, 0, []), 1) := rfl
theorem T_278_1 : hTab 278 1 = some ((23, 114, 114, [68, 114, 77, 114, 86, 114, 95, 114, 95, 114, 95, 114, 105]), 68) := rfl
theorem T_278_68 : hTab 278 68 = some ((3, 0, 2, []), 69) := rfl
theorem T_278_69 : hTab 278 69 = some ((3, 1, 0, []), 70) := rfl
theorem T_278_70 : hTab 278 70 = some ((3, 2, 0, []), 71) := rfl
theorem T_278_71 : hTab 278 71 = some ((31, 279, 0, []), 74) := rfl
theorem T_278_74 : hTab 278 74 = some ((22, 0, Int.ofNat 120, []), 77) := rfl
theorem T_278_77 : hTab 278 77 = some ((3, 0, 2, []), 78) := rfl
theorem T_278_78 : hTab 278 78 = some ((3, 1, 0, []), 79) := rfl
theorem T_278_79 : hTab 278 79 = some ((3, 2, 0, []), 80) := rfl
theorem T_278_80 : hTab 278 80 = some ((31, 285, 0, []), 83) := rfl
theorem T_278_83 : hTab 278 83 = some ((22, 0, Int.ofNat 120, []), 86) := rfl
theorem T_278_86 : hTab 278 86 = some ((3, 0, 2, []), 87) := rfl
theorem T_278_87 : hTab 278 87 = some ((3, 1, 0, []), 88) := rfl
theorem T_278_88 : hTab 278 88 = some ((3, 2, 0, []), 89) := rfl
theorem T_278_89 : hTab 278 89 = some ((31, 297, 0, []), 92) := rfl
theorem T_278_92 : hTab 278 92 = some ((22, 0, Int.ofNat 120, []), 95) := rfl
theorem T_278_95 : hTab 278 95 = some ((3, 0, 2, []), 96) := rfl
theorem T_278_96 : hTab 278 96 = some ((3, 1, 0, []), 97) := rfl
theorem T_278_97 : hTab 278 97 = some ((3, 2, 0, []), 98) := rfl
theorem T_278_98 : hTab 278 98 = some ((3, 3, 0, []), 99) := rfl
theorem T_278_99 : hTab 278 99 = some ((31, 301, 0, []), 102) := rfl
theorem T_278_102 : hTab 278 102 = some ((22, 0, Int.ofNat 120, []), 105) := rfl
theorem T_278_105 : hTab 278 105 = some ((3, 0, 2, []), 106) := rfl
theorem T_278_106 : hTab 278 106 = some ((3, 1, 0, []), 107) := rfl
theorem T_278_107 : hTab 278 107 = some ((3, 2, 0, []), 108) := rfl
theorem T_278_108 : hTab 278 108 = some ((31, 302, 0, []), 111) := rfl
theorem T_278_111 : hTab 278 111 = some ((22, 0, Int.ofNat 120, []), 114) := rfl
theorem T_278_114 : hTab 278 114 = some ((3, 0, 2, []), 115) := rfl
theorem T_278_115 : hTab 278 115 = some ((0, 0, 14, []), 117) := rfl
theorem T_278_117 : hTab 278 117 = some ((31, 235, 0, []), 120) := rfl
theorem T_278_120 : hTab 278 120 = some ((33, 0, 0, []), 121) := rfl
theorem mN_238 : hmN 238 = 4 := by decide +kernel
theorem mL_238 : hmL 238 = 4 := by decide +kernel
theorem mK_238 : hmK 238 = 1 := by decide +kernel
theorem mO_238 : hmO 238 = 17 := by decide +kernel
theorem mN_278 : hmN 278 = 4 := by decide +kernel
theorem mL_278 : hmL 278 = 4 := by decide +kernel
theorem mK_278 : hmK 278 = 1 := by decide +kernel
theorem mO_278 : hmO 278 = 17 := by decide +kernel
def srE (P : qR) (s c t : Int) (a : Int → Int) (z : Int) : Int := if t = 100 then (vsE a z) else if t = 104 then (atE P s c a z) else if t = 108 then ((if z = 9 then 0 else 14)) else if t = 110 then (wlE P s c a z) else if t = 112 then (opE P s c a z) else if t = 114 then (crE P s c a z) else if t = 116 then (rdErr P s c a z) else if t = 118 then (wrErr P s c a z) else if t = 120 ∨ t = 122 ∨ t = 124 then ((if z = 11 then onE P s (qFid P s c (nu a 7 4)) t else 14)) else if t = 126 then (wsE P s c a z) else 14
def srP (P : qR) (s c t : Int) (a : Int → Int) (z : Int) : qR := if t = 100 then (if vsE a z = 0 then vsP P s c a else P) else if t = 104 then (if atE P s c a z = 0 then atP P s c a else P) else if t = 108 then (P) else if t = 110 then (if wlE P s c a z = 0 then wlP P s c a z else P) else if t = 112 then (if opE P s c a z = 0 then opP P s c a else P) else if t = 114 then (if crE P s c a z = 0 then crP P s c a z else P) else if t = 116 then (if rdErr P s c a z = 0 then rdP P s (qFid P s c (nu a 7 4)) (w64 (nu a 11 8)) (nu a 19 4) else P) else if t = 118 then (if wrErr P s c a z = 0 then wrP P s (qFid P s c (nu a 7 4)) (w64 (nu a 11 8)) (z - 23) a else P) else if t = 120 ∨ t = 122 ∨ t = 124 then (if z = 11 then onP P s (qFid P s c (nu a 7 4)) t else P) else if t = 126 then (if wsE P s c a z = 0 then wsQ P s c a z else P) else P
def srL (P : qR) (s c t : Int) (a : Int → Int) (z : Int) : List Int := if t = 100 then (vsL a (if nu a 7 4 < 300 then nu a 7 4 else 300)) else if t = 104 then (qidL (atP P s c a) s 0) else if t = 108 then ([]) else if t = 110 then (wlL P s c a z) else if t = 112 then (qidL (opP P s c a) s (P 2306 (qFid P s c (nu a 7 4))) ++ leb 4 0) else if t = 114 then (qidL (crP P s c a z) s (qNew P s) ++ leb 4 0) else if t = 116 then (leb 4 ((rdD P s (qFid P s c (nu a 7 4)) (w64 (nu a 11 8)) (nu a 19 4)).length : Int) ++ rdD P s (qFid P s c (nu a 7 4)) (w64 (nu a 11 8)) (nu a 19 4)) else if t = 118 then (leb 4 (z - 23)) else if t = 120 ∨ t = 122 ∨ t = 124 then (onL P s (qFid P s c (nu a 7 4)) t) else if t = 126 then ([]) else []
theorem sr_no {P : qR} {s c t z : Int} {a : Int → Int} (h : ¬ (t = 100 ∨ t = 104 ∨ t = 108 ∨ t = 110 ∨ t = 112 ∨ t = 114 ∨ t = 116 ∨ t = 118 ∨ t = 120 ∨ t = 122 ∨ t = 124 ∨ t = 126)) : srE P s c t a z = 14 ∧ srP P s c t a z = P := by
  constructor
  · unfold srE
    rw [if_neg (by omega), if_neg (by omega), if_neg (by omega), if_neg (by omega), if_neg (by omega), if_neg (by omega), if_neg (by omega), if_neg (by omega), if_neg (by omega), if_neg (by omega)]
  · unfold srP
    rw [if_neg (by omega), if_neg (by omega), if_neg (by omega), if_neg (by omega), if_neg (by omega), if_neg (by omega), if_neg (by omega), if_neg (by omega), if_neg (by omega), if_neg (by omega)]
section MSERVE8
variable {fb : Bool} {d : Nat} {σ0 σ : hM} {P Q S S1 : qR} {T U s n u c t p z : Int} {st : List (Int × Int)}
/-- what holds of the rows when a message is served -/
def SI (T U s : Int) (P : qR) : Prop := MJ T U P ∧ T + 48 ≤ 2147483000 ∧ (s < 2 → P 2289 (64 * s) = 1) ∧ (s = 2 → ∀ k, 192 ≤ k → k < 288 → P 2306 k < 2 ∨ 16 ≤ P 2306 k) ∧ (s = 2 → ∀ k, 192 ≤ k → k < 288 → 0 ≤ P 2309 k → 1 ≤ and32 (P 2309 k) 3 → and32 (P 2309 k) 3 ≤ 2 → ¬ P 2306 k = 0)

theorem m_serveFirst (hP : PM σ0 P S1 σ) (hR : RS T U S S1 7 []) (hI : SI T U s P) (hs : 0 ≤ s ∧ s < 3) (hc : 0 ≤ c ∧ c < 2) (hz4 : S 2281 4 ≤ 420) (h0 : S 2281 7 = 0) (ht : 0 ≤ t ∧ t ≤ 255) (hlt : t < 113) : CL fb (d + 8) 238 [vR (some 2281), vI s, vI c, vI t] σ (SV T U σ0 S (srP P s c t (S 2285) (S 2281 4)) (srE P s c t (S 2285) (S 2281 4)) (t + 1) (srL P s c t (S 2285) (S 2281 4))) := by
  obtain ⟨hz0, hz1, hb⟩ := hR.pb
  have hz7 : 7 ≤ S 2281 4 := hR.2.2.2.2.1
  have hIV := hI.1.1.1
  by_cases hr : 100 ≤ t ∧ t ≤ 112
  · have ht13 : t = 100 ∨ t = 101 ∨ t = 102 ∨ t = 103 ∨ t = 104 ∨ t = 105 ∨ t = 106 ∨ t = 107 ∨ t = 108 ∨ t = 109 ∨ t = 110 ∨ t = 111 ∨ t = 112 := by omega
    rcases ht13 with rfl | rfl | rfl | rfl | rfl | rfl | rfl | rfl | rfl | rfl | rfl | rfl | rfl
    · skip
      refine CL_in mL_238 rfl ?_
      show WP fb _ 238 0 [some (vR (some 2281)), some (vI s), some (vI c), some (vI 100)] [] σ _
      refine x_li (z := 100) T_238_0 rfl ?_
      refine x_swIn T_238_1 (by decide) (by decide) rfl ?_
      refine x_lr (z := some 2281) T_238_68 rfl ?_
      refine x_li (z := s) T_238_69 rfl ?_
      refine x_li (z := c) T_238_70 rfl ?_
      refine x_cv3 T_238_71 mN_239 mL_239 (Nat.le_of_ble_eq_true rfl) mO_239 (PM.t hP) (Nat.le_of_ble_eq_true rfl) (m_serveVersion hP hR hI.1 hI.2.1 hs hc h0) ?_
      rintro _ σ ⟨rfl, S2, hP, hRP⟩
      refine cV ?_
      refine x_goto T_238_74 ?_
      refine x_rv T_238_132 ?_
      exact ⟨rfl, S2, hP, hRP⟩
    · obtain ⟨n1, n2⟩ := sr_no (P := P) (s := s) (c := c) (a := S 2285) (z := S 2281 4) (show ¬ ((101 : Int) = 100 ∨ (101 : Int) = 104 ∨ (101 : Int) = 108 ∨ (101 : Int) = 110 ∨ (101 : Int) = 112 ∨ (101 : Int) = 114 ∨ (101 : Int) = 116 ∨ (101 : Int) = 118 ∨ (101 : Int) = 120 ∨ (101 : Int) = 122 ∨ (101 : Int) = 124 ∨ (101 : Int) = 126) by omega)
      rw [n1, n2]
      refine CL_in mL_238 rfl ?_
      show WP fb _ 238 0 [some (vR (some 2281)), some (vI s), some (vI c), some (vI 101)] [] σ _
      refine x_li (z := 101) T_238_0 rfl ?_
      refine x_swIn T_238_1 (by decide) (by decide) rfl ?_
      refine x_lr (z := some 2281) T_238_126 rfl ?_
      refine x_ic T_238_127 ?_
      refine x_cv2 T_238_129 mN_235 mL_235 (Nat.le_of_ble_eq_true rfl) mO_235 (PM.t hP) (Nat.le_of_ble_eq_true rfl) (m_refuse hP (by omega)) ?_
      rintro _ σ ⟨rfl, hP⟩
      refine cV ?_
      refine x_rv T_238_132 ?_
      exact SV_no hP hR (by decide)
    · obtain ⟨n1, n2⟩ := sr_no (P := P) (s := s) (c := c) (a := S 2285) (z := S 2281 4) (show ¬ ((102 : Int) = 100 ∨ (102 : Int) = 104 ∨ (102 : Int) = 108 ∨ (102 : Int) = 110 ∨ (102 : Int) = 112 ∨ (102 : Int) = 114 ∨ (102 : Int) = 116 ∨ (102 : Int) = 118 ∨ (102 : Int) = 120 ∨ (102 : Int) = 122 ∨ (102 : Int) = 124 ∨ (102 : Int) = 126) by omega)
      rw [n1, n2]
      refine CL_in mL_238 rfl ?_
      show WP fb _ 238 0 [some (vR (some 2281)), some (vI s), some (vI c), some (vI 102)] [] σ _
      refine x_li (z := 102) T_238_0 rfl ?_
      refine x_swIn T_238_1 (by decide) (by decide) rfl ?_
      refine x_lr (z := some 2281) T_238_126 rfl ?_
      refine x_ic T_238_127 ?_
      refine x_cv2 T_238_129 mN_235 mL_235 (Nat.le_of_ble_eq_true rfl) mO_235 (PM.t hP) (Nat.le_of_ble_eq_true rfl) (m_refuse hP (by omega)) ?_
      rintro _ σ ⟨rfl, hP⟩
      refine cV ?_
      refine x_rv T_238_132 ?_
      exact SV_no hP hR (by decide)
    · obtain ⟨n1, n2⟩ := sr_no (P := P) (s := s) (c := c) (a := S 2285) (z := S 2281 4) (show ¬ ((103 : Int) = 100 ∨ (103 : Int) = 104 ∨ (103 : Int) = 108 ∨ (103 : Int) = 110 ∨ (103 : Int) = 112 ∨ (103 : Int) = 114 ∨ (103 : Int) = 116 ∨ (103 : Int) = 118 ∨ (103 : Int) = 120 ∨ (103 : Int) = 122 ∨ (103 : Int) = 124 ∨ (103 : Int) = 126) by omega)
      rw [n1, n2]
      refine CL_in mL_238 rfl ?_
      show WP fb _ 238 0 [some (vR (some 2281)), some (vI s), some (vI c), some (vI 103)] [] σ _
      refine x_li (z := 103) T_238_0 rfl ?_
      refine x_swIn T_238_1 (by decide) (by decide) rfl ?_
      refine x_lr (z := some 2281) T_238_126 rfl ?_
      refine x_ic T_238_127 ?_
      refine x_cv2 T_238_129 mN_235 mL_235 (Nat.le_of_ble_eq_true rfl) mO_235 (PM.t hP) (Nat.le_of_ble_eq_true rfl) (m_refuse hP (by omega)) ?_
      rintro _ σ ⟨rfl, hP⟩
      refine cV ?_
      refine x_rv T_238_132 ?_
      exact SV_no hP hR (by decide)
    · skip
      refine CL_in mL_238 rfl ?_
      show WP fb _ 238 0 [some (vR (some 2281)), some (vI s), some (vI c), some (vI 104)] [] σ _
      refine x_li (z := 104) T_238_0 rfl ?_
      refine x_swIn T_238_1 (by decide) (by decide) rfl ?_
      refine x_lr (z := some 2281) T_238_77 rfl ?_
      refine x_li (z := s) T_238_78 rfl ?_
      refine x_li (z := c) T_238_79 rfl ?_
      refine x_cv3 T_238_80 mN_258 mL_258 (Nat.le_of_ble_eq_true rfl) mO_258 (PM.t hP) (Nat.le_of_ble_eq_true rfl) (m_serveAttach hP hR hIV hs hc h0) ?_
      rintro _ σ ⟨rfl, S2, hP, hRP⟩
      refine cV ?_
      refine x_goto T_238_83 ?_
      refine x_rv T_238_132 ?_
      exact ⟨rfl, S2, hP, hRP⟩
    · obtain ⟨n1, n2⟩ := sr_no (P := P) (s := s) (c := c) (a := S 2285) (z := S 2281 4) (show ¬ ((105 : Int) = 100 ∨ (105 : Int) = 104 ∨ (105 : Int) = 108 ∨ (105 : Int) = 110 ∨ (105 : Int) = 112 ∨ (105 : Int) = 114 ∨ (105 : Int) = 116 ∨ (105 : Int) = 118 ∨ (105 : Int) = 120 ∨ (105 : Int) = 122 ∨ (105 : Int) = 124 ∨ (105 : Int) = 126) by omega)
      rw [n1, n2]
      refine CL_in mL_238 rfl ?_
      show WP fb _ 238 0 [some (vR (some 2281)), some (vI s), some (vI c), some (vI 105)] [] σ _
      refine x_li (z := 105) T_238_0 rfl ?_
      refine x_swIn T_238_1 (by decide) (by decide) rfl ?_
      refine x_lr (z := some 2281) T_238_126 rfl ?_
      refine x_ic T_238_127 ?_
      refine x_cv2 T_238_129 mN_235 mL_235 (Nat.le_of_ble_eq_true rfl) mO_235 (PM.t hP) (Nat.le_of_ble_eq_true rfl) (m_refuse hP (by omega)) ?_
      rintro _ σ ⟨rfl, hP⟩
      refine cV ?_
      refine x_rv T_238_132 ?_
      exact SV_no hP hR (by decide)
    · obtain ⟨n1, n2⟩ := sr_no (P := P) (s := s) (c := c) (a := S 2285) (z := S 2281 4) (show ¬ ((106 : Int) = 100 ∨ (106 : Int) = 104 ∨ (106 : Int) = 108 ∨ (106 : Int) = 110 ∨ (106 : Int) = 112 ∨ (106 : Int) = 114 ∨ (106 : Int) = 116 ∨ (106 : Int) = 118 ∨ (106 : Int) = 120 ∨ (106 : Int) = 122 ∨ (106 : Int) = 124 ∨ (106 : Int) = 126) by omega)
      rw [n1, n2]
      refine CL_in mL_238 rfl ?_
      show WP fb _ 238 0 [some (vR (some 2281)), some (vI s), some (vI c), some (vI 106)] [] σ _
      refine x_li (z := 106) T_238_0 rfl ?_
      refine x_swIn T_238_1 (by decide) (by decide) rfl ?_
      refine x_lr (z := some 2281) T_238_126 rfl ?_
      refine x_ic T_238_127 ?_
      refine x_cv2 T_238_129 mN_235 mL_235 (Nat.le_of_ble_eq_true rfl) mO_235 (PM.t hP) (Nat.le_of_ble_eq_true rfl) (m_refuse hP (by omega)) ?_
      rintro _ σ ⟨rfl, hP⟩
      refine cV ?_
      refine x_rv T_238_132 ?_
      exact SV_no hP hR (by decide)
    · obtain ⟨n1, n2⟩ := sr_no (P := P) (s := s) (c := c) (a := S 2285) (z := S 2281 4) (show ¬ ((107 : Int) = 100 ∨ (107 : Int) = 104 ∨ (107 : Int) = 108 ∨ (107 : Int) = 110 ∨ (107 : Int) = 112 ∨ (107 : Int) = 114 ∨ (107 : Int) = 116 ∨ (107 : Int) = 118 ∨ (107 : Int) = 120 ∨ (107 : Int) = 122 ∨ (107 : Int) = 124 ∨ (107 : Int) = 126) by omega)
      rw [n1, n2]
      refine CL_in mL_238 rfl ?_
      show WP fb _ 238 0 [some (vR (some 2281)), some (vI s), some (vI c), some (vI 107)] [] σ _
      refine x_li (z := 107) T_238_0 rfl ?_
      refine x_swIn T_238_1 (by decide) (by decide) rfl ?_
      refine x_lr (z := some 2281) T_238_126 rfl ?_
      refine x_ic T_238_127 ?_
      refine x_cv2 T_238_129 mN_235 mL_235 (Nat.le_of_ble_eq_true rfl) mO_235 (PM.t hP) (Nat.le_of_ble_eq_true rfl) (m_refuse hP (by omega)) ?_
      rintro _ σ ⟨rfl, hP⟩
      refine cV ?_
      refine x_rv T_238_132 ?_
      exact SV_no hP hR (by decide)
    · by_cases h9 : S 2281 4 = 9
      · have a1 : av (S 2281 4) 7 2 = 9 := if_neg (by omega)
        have hh : (9 : Int) = S 2281 4 ∧ 0 ≤ (9 : Int) := ⟨h9.symm, by decide⟩
        rw [show srE P s c 108 (S 2285) (S 2281 4) = 0 from if_pos h9]
        refine CL_in mL_238 rfl ?_
        show WP fb _ 238 0 [some (vR (some 2281)), some (vI s), some (vI c), some (vI 108)] [] σ _
        refine x_li (z := 108) T_238_0 rfl ?_
        refine x_swIn T_238_1 (by decide) (by decide) rfl ?_
        refine x_lr (z := some 2281) T_238_86 rfl ?_
        refine x_ic T_238_87 ?_
        refine x_cv2 T_238_88 mN_234 mL_234 (Nat.le_of_ble_eq_true rfl) mO_234 (PM.t hP) (Nat.le_of_ble_eq_true rfl) (r_num 2 rfl hP hR (by decide) rfl) ?_
        rintro _ σ ⟨rfl, S1, hP, hR⟩
        rw [a1] at hR
        refine cL ?_
        refine x_pop2 T_238_91 ?_
        refine x_lr (z := some 2281) T_238_92 rfl ?_
        have hw := r_isWhole (fb := fb) (d := d + 4) hP hR
        rw [if_pos hh, if_pos hh] at hw
        refine x_cv1 T_238_93 mN_241 mL_241 (Nat.le_of_ble_eq_true rfl) mO_241 (PM.t hP) (Nat.le_of_ble_eq_true rfl) (hw) ?_
        rintro _ σ ⟨rfl, hP⟩
        refine cI ?_
        refine x_if T_238_96 (fun h => absurd (show (1 : Int) = 0 from h) (by decide)) (fun _ => ?_)
        refine x_lr (z := some 2281) T_238_99 rfl ?_
        refine x_ic T_238_100 ?_
        refine x_cv2 T_238_102 mN_236 mL_236 (Nat.le_of_ble_eq_true rfl) mO_236 (PM.t hP) (Nat.le_of_ble_eq_true rfl) (m_reply hP) ?_
        rintro _ σ ⟨rfl, hP⟩
        refine cV ?_
        refine x_goto T_238_105 ?_
        refine x_rv T_238_132 ?_
        exact SV_ok0 hP hR h0
      · have hh : ¬ (av (S 2281 4) 7 2 = S 2281 4 ∧ 0 ≤ av (S 2281 4) 7 2) := by
          unfold av
          (repeat' split) <;> omega
        rw [show srE P s c 108 (S 2285) (S 2281 4) = 14 from if_neg h9]
        refine CL_in mL_238 rfl ?_
        show WP fb _ 238 0 [some (vR (some 2281)), some (vI s), some (vI c), some (vI 108)] [] σ _
        refine x_li (z := 108) T_238_0 rfl ?_
        refine x_swIn T_238_1 (by decide) (by decide) rfl ?_
        refine x_lr (z := some 2281) T_238_86 rfl ?_
        refine x_ic T_238_87 ?_
        refine x_cv2 T_238_88 mN_234 mL_234 (Nat.le_of_ble_eq_true rfl) mO_234 (PM.t hP) (Nat.le_of_ble_eq_true rfl) (r_num 2 rfl hP hR (by decide) rfl) ?_
        rintro _ σ ⟨rfl, S1, hP, hR⟩
        refine cL ?_
        refine x_pop2 T_238_91 ?_
        refine x_lr (z := some 2281) T_238_92 rfl ?_
        have hw := r_isWhole (fb := fb) (d := d + 4) hP hR
        rw [if_neg hh, if_neg hh] at hw
        refine x_cv1 T_238_93 mN_241 mL_241 (Nat.le_of_ble_eq_true rfl) mO_241 (PM.t hP) (Nat.le_of_ble_eq_true rfl) (hw) ?_
        rintro _ σ ⟨rfl, hP⟩
        refine cI ?_
        refine x_if T_238_96 (fun _ => ?_) (fun h => absurd (show (0 : Int) = 0 by decide) h)
        refine x_rv T_238_132 ?_
        exact SV_no hP hR (by decide)
    · obtain ⟨n1, n2⟩ := sr_no (P := P) (s := s) (c := c) (a := S 2285) (z := S 2281 4) (show ¬ ((109 : Int) = 100 ∨ (109 : Int) = 104 ∨ (109 : Int) = 108 ∨ (109 : Int) = 110 ∨ (109 : Int) = 112 ∨ (109 : Int) = 114 ∨ (109 : Int) = 116 ∨ (109 : Int) = 118 ∨ (109 : Int) = 120 ∨ (109 : Int) = 122 ∨ (109 : Int) = 124 ∨ (109 : Int) = 126) by omega)
      rw [n1, n2]
      refine CL_in mL_238 rfl ?_
      show WP fb _ 238 0 [some (vR (some 2281)), some (vI s), some (vI c), some (vI 109)] [] σ _
      refine x_li (z := 109) T_238_0 rfl ?_
      refine x_swIn T_238_1 (by decide) (by decide) rfl ?_
      refine x_lr (z := some 2281) T_238_126 rfl ?_
      refine x_ic T_238_127 ?_
      refine x_cv2 T_238_129 mN_235 mL_235 (Nat.le_of_ble_eq_true rfl) mO_235 (PM.t hP) (Nat.le_of_ble_eq_true rfl) (m_refuse hP (by omega)) ?_
      rintro _ σ ⟨rfl, hP⟩
      refine cV ?_
      refine x_rv T_238_132 ?_
      exact SV_no hP hR (by decide)
    · skip
      refine CL_in mL_238 rfl ?_
      show WP fb _ 238 0 [some (vR (some 2281)), some (vI s), some (vI c), some (vI 110)] [] σ _
      refine x_li (z := 110) T_238_0 rfl ?_
      refine x_swIn T_238_1 (by decide) (by decide) rfl ?_
      refine x_lr (z := some 2281) T_238_108 rfl ?_
      refine x_li (z := s) T_238_109 rfl ?_
      refine x_li (z := c) T_238_110 rfl ?_
      refine x_cv3 T_238_111 mN_266 mL_266 (Nat.le_of_ble_eq_true rfl) mO_266 (PM.t hP) (Nat.le_of_ble_eq_true rfl) (m_serveWalk hP hR hIV hs hc h0) ?_
      rintro _ σ ⟨rfl, S2, hP, hRP⟩
      refine cV ?_
      refine x_goto T_238_114 ?_
      refine x_rv T_238_132 ?_
      exact ⟨rfl, S2, hP, hRP⟩
    · obtain ⟨n1, n2⟩ := sr_no (P := P) (s := s) (c := c) (a := S 2285) (z := S 2281 4) (show ¬ ((111 : Int) = 100 ∨ (111 : Int) = 104 ∨ (111 : Int) = 108 ∨ (111 : Int) = 110 ∨ (111 : Int) = 112 ∨ (111 : Int) = 114 ∨ (111 : Int) = 116 ∨ (111 : Int) = 118 ∨ (111 : Int) = 120 ∨ (111 : Int) = 122 ∨ (111 : Int) = 124 ∨ (111 : Int) = 126) by omega)
      rw [n1, n2]
      refine CL_in mL_238 rfl ?_
      show WP fb _ 238 0 [some (vR (some 2281)), some (vI s), some (vI c), some (vI 111)] [] σ _
      refine x_li (z := 111) T_238_0 rfl ?_
      refine x_swIn T_238_1 (by decide) (by decide) rfl ?_
      refine x_lr (z := some 2281) T_238_126 rfl ?_
      refine x_ic T_238_127 ?_
      refine x_cv2 T_238_129 mN_235 mL_235 (Nat.le_of_ble_eq_true rfl) mO_235 (PM.t hP) (Nat.le_of_ble_eq_true rfl) (m_refuse hP (by omega)) ?_
      rintro _ σ ⟨rfl, hP⟩
      refine cV ?_
      refine x_rv T_238_132 ?_
      exact SV_no hP hR (by decide)
    · skip
      refine CL_in mL_238 rfl ?_
      show WP fb _ 238 0 [some (vR (some 2281)), some (vI s), some (vI c), some (vI 112)] [] σ _
      refine x_li (z := 112) T_238_0 rfl ?_
      refine x_swIn T_238_1 (by decide) (by decide) rfl ?_
      refine x_lr (z := some 2281) T_238_117 rfl ?_
      refine x_li (z := s) T_238_118 rfl ?_
      refine x_li (z := c) T_238_119 rfl ?_
      refine x_cv3 T_238_120 mN_274 mL_274 (Nat.le_of_ble_eq_true rfl) mO_274 (PM.t hP) (Nat.le_of_ble_eq_true rfl) (m_serveOpen hP hR hIV (by have := hI.2.1; omega) hs hc h0) ?_
      rintro _ σ ⟨rfl, S2, hP, hRP⟩
      refine cV ?_
      refine x_goto T_238_123 ?_
      refine x_rv T_238_132 ?_
      exact ⟨rfl, S2, hP, hRP⟩
  · obtain ⟨n1, n2⟩ := sr_no (P := P) (s := s) (c := c) (a := S 2285) (z := S 2281 4) (show ¬ (t = 100 ∨ t = 104 ∨ t = 108 ∨ t = 110 ∨ t = 112 ∨ t = 114 ∨ t = 116 ∨ t = 118 ∨ t = 120 ∨ t = 122 ∨ t = 124 ∨ t = 126) by omega)
    rw [n1, n2]
    refine CL_in mL_238 rfl ?_
    show WP fb _ 238 0 [some (vR (some 2281)), some (vI s), some (vI c), some (vI t)] [] σ _
    refine x_li (z := t) T_238_0 rfl ?_
    refine x_swOut T_238_1 (by omega) ?_
    refine x_lr (z := some 2281) T_238_126 rfl ?_
    refine x_ic T_238_127 ?_
    refine x_cv2 T_238_129 mN_235 mL_235 (Nat.le_of_ble_eq_true rfl) mO_235 (PM.t hP) (Nat.le_of_ble_eq_true rfl) (m_refuse hP (by omega)) ?_
    rintro _ σ ⟨rfl, hP⟩
    refine cV ?_
    refine x_rv T_238_132 ?_
    exact SV_no hP hR (by decide)
theorem m_serveMore (hP : PM σ0 P S1 σ) (hR : RS T U S S1 7 []) (hI : SI T U s P) (hs : 0 ≤ s ∧ s < 3) (hc : 0 ≤ c ∧ c < 2) (hz4 : S 2281 4 ≤ 420) (h0 : S 2281 7 = 0) (ht : 0 ≤ t ∧ t ≤ 255) (hlt : 113 ≤ t) : CL fb (d + 8) 278 [vR (some 2281), vI s, vI c, vI t] σ (SV T U σ0 S (srP P s c t (S 2285) (S 2281 4)) (srE P s c t (S 2285) (S 2281 4)) (t + 1) (srL P s c t (S 2285) (S 2281 4))) := by
  obtain ⟨hz0, hz1, hb⟩ := hR.pb
  have hz7 : 7 ≤ S 2281 4 := hR.2.2.2.2.1
  have hIV := hI.1.1.1
  by_cases hr : 114 ≤ t ∧ t ≤ 126
  · have ht13 : t = 114 ∨ t = 115 ∨ t = 116 ∨ t = 117 ∨ t = 118 ∨ t = 119 ∨ t = 120 ∨ t = 121 ∨ t = 122 ∨ t = 123 ∨ t = 124 ∨ t = 125 ∨ t = 126 := by omega
    rcases ht13 with rfl | rfl | rfl | rfl | rfl | rfl | rfl | rfl | rfl | rfl | rfl | rfl | rfl
    · skip
      refine CL_in mL_278 rfl ?_
      show WP fb _ 278 0 [some (vR (some 2281)), some (vI s), some (vI c), some (vI 114)] [] σ _
      refine x_li (z := 114) T_278_0 rfl ?_
      refine x_swIn T_278_1 (by decide) (by decide) rfl ?_
      refine x_lr (z := some 2281) T_278_68 rfl ?_
      refine x_li (z := s) T_278_69 rfl ?_
      refine x_li (z := c) T_278_70 rfl ?_
      refine x_cv3 T_278_71 mN_279 mL_279 (Nat.le_of_ble_eq_true rfl) mO_279 (PM.t hP) (Nat.le_of_ble_eq_true rfl) (m_serveCreate hP hR hI.1 (by have := hI.2.1; omega) hI.2.2.1 hs hc h0) ?_
      rintro _ σ ⟨rfl, S2, hP, hRP⟩
      refine cV ?_
      refine x_goto T_278_74 ?_
      refine x_rv T_278_120 ?_
      exact ⟨rfl, S2, hP, hRP⟩
    · obtain ⟨n1, n2⟩ := sr_no (P := P) (s := s) (c := c) (a := S 2285) (z := S 2281 4) (show ¬ ((115 : Int) = 100 ∨ (115 : Int) = 104 ∨ (115 : Int) = 108 ∨ (115 : Int) = 110 ∨ (115 : Int) = 112 ∨ (115 : Int) = 114 ∨ (115 : Int) = 116 ∨ (115 : Int) = 118 ∨ (115 : Int) = 120 ∨ (115 : Int) = 122 ∨ (115 : Int) = 124 ∨ (115 : Int) = 126) by omega)
      rw [n1, n2]
      refine CL_in mL_278 rfl ?_
      show WP fb _ 278 0 [some (vR (some 2281)), some (vI s), some (vI c), some (vI 115)] [] σ _
      refine x_li (z := 115) T_278_0 rfl ?_
      refine x_swIn T_278_1 (by decide) (by decide) rfl ?_
      refine x_lr (z := some 2281) T_278_114 rfl ?_
      refine x_ic T_278_115 ?_
      refine x_cv2 T_278_117 mN_235 mL_235 (Nat.le_of_ble_eq_true rfl) mO_235 (PM.t hP) (Nat.le_of_ble_eq_true rfl) (m_refuse hP (by omega)) ?_
      rintro _ σ ⟨rfl, hP⟩
      refine cV ?_
      refine x_rv T_278_120 ?_
      exact SV_no hP hR (by decide)
    · skip
      refine CL_in mL_278 rfl ?_
      show WP fb _ 278 0 [some (vR (some 2281)), some (vI s), some (vI c), some (vI 116)] [] σ _
      refine x_li (z := 116) T_278_0 rfl ?_
      refine x_swIn T_278_1 (by decide) (by decide) rfl ?_
      refine x_lr (z := some 2281) T_278_77 rfl ?_
      refine x_li (z := s) T_278_78 rfl ?_
      refine x_li (z := c) T_278_79 rfl ?_
      refine x_cv3 T_278_80 mN_285 mL_285 (Nat.le_of_ble_eq_true rfl) mO_285 (PM.t hP) (Nat.le_of_ble_eq_true rfl) (m_serveRead hP hR hIV hI.2.2.2.1 hs hc h0) ?_
      rintro _ σ ⟨rfl, S2, hP, hRP⟩
      refine cV ?_
      refine x_goto T_278_83 ?_
      refine x_rv T_278_120 ?_
      exact ⟨rfl, S2, hP, hRP⟩
    · obtain ⟨n1, n2⟩ := sr_no (P := P) (s := s) (c := c) (a := S 2285) (z := S 2281 4) (show ¬ ((117 : Int) = 100 ∨ (117 : Int) = 104 ∨ (117 : Int) = 108 ∨ (117 : Int) = 110 ∨ (117 : Int) = 112 ∨ (117 : Int) = 114 ∨ (117 : Int) = 116 ∨ (117 : Int) = 118 ∨ (117 : Int) = 120 ∨ (117 : Int) = 122 ∨ (117 : Int) = 124 ∨ (117 : Int) = 126) by omega)
      rw [n1, n2]
      refine CL_in mL_278 rfl ?_
      show WP fb _ 278 0 [some (vR (some 2281)), some (vI s), some (vI c), some (vI 117)] [] σ _
      refine x_li (z := 117) T_278_0 rfl ?_
      refine x_swIn T_278_1 (by decide) (by decide) rfl ?_
      refine x_lr (z := some 2281) T_278_114 rfl ?_
      refine x_ic T_278_115 ?_
      refine x_cv2 T_278_117 mN_235 mL_235 (Nat.le_of_ble_eq_true rfl) mO_235 (PM.t hP) (Nat.le_of_ble_eq_true rfl) (m_refuse hP (by omega)) ?_
      rintro _ σ ⟨rfl, hP⟩
      refine cV ?_
      refine x_rv T_278_120 ?_
      exact SV_no hP hR (by decide)
    · skip
      refine CL_in mL_278 rfl ?_
      show WP fb _ 278 0 [some (vR (some 2281)), some (vI s), some (vI c), some (vI 118)] [] σ _
      refine x_li (z := 118) T_278_0 rfl ?_
      refine x_swIn T_278_1 (by decide) (by decide) rfl ?_
      refine x_lr (z := some 2281) T_278_86 rfl ?_
      refine x_li (z := s) T_278_87 rfl ?_
      refine x_li (z := c) T_278_88 rfl ?_
      refine x_cv3 T_278_89 mN_297 mL_297 (Nat.le_of_ble_eq_true rfl) mO_297 (PM.t hP) (Nat.le_of_ble_eq_true rfl) (m_serveWrite hP hR hIV (by have := hI.2.1; omega) hI.2.2.2.1 hI.2.2.2.2 hs hc hz4 h0) ?_
      rintro _ σ ⟨rfl, S2, hP, hRP⟩
      refine cV ?_
      refine x_goto T_278_92 ?_
      refine x_rv T_278_120 ?_
      exact ⟨rfl, S2, hP, hRP⟩
    · obtain ⟨n1, n2⟩ := sr_no (P := P) (s := s) (c := c) (a := S 2285) (z := S 2281 4) (show ¬ ((119 : Int) = 100 ∨ (119 : Int) = 104 ∨ (119 : Int) = 108 ∨ (119 : Int) = 110 ∨ (119 : Int) = 112 ∨ (119 : Int) = 114 ∨ (119 : Int) = 116 ∨ (119 : Int) = 118 ∨ (119 : Int) = 120 ∨ (119 : Int) = 122 ∨ (119 : Int) = 124 ∨ (119 : Int) = 126) by omega)
      rw [n1, n2]
      refine CL_in mL_278 rfl ?_
      show WP fb _ 278 0 [some (vR (some 2281)), some (vI s), some (vI c), some (vI 119)] [] σ _
      refine x_li (z := 119) T_278_0 rfl ?_
      refine x_swIn T_278_1 (by decide) (by decide) rfl ?_
      refine x_lr (z := some 2281) T_278_114 rfl ?_
      refine x_ic T_278_115 ?_
      refine x_cv2 T_278_117 mN_235 mL_235 (Nat.le_of_ble_eq_true rfl) mO_235 (PM.t hP) (Nat.le_of_ble_eq_true rfl) (m_refuse hP (by omega)) ?_
      rintro _ σ ⟨rfl, hP⟩
      refine cV ?_
      refine x_rv T_278_120 ?_
      exact SV_no hP hR (by decide)
    · skip
      refine CL_in mL_278 rfl ?_
      show WP fb _ 278 0 [some (vR (some 2281)), some (vI s), some (vI c), some (vI 120)] [] σ _
      refine x_li (z := 120) T_278_0 rfl ?_
      refine x_swIn T_278_1 (by decide) (by decide) rfl ?_
      refine x_lr (z := some 2281) T_278_95 rfl ?_
      refine x_li (z := s) T_278_96 rfl ?_
      refine x_li (z := c) T_278_97 rfl ?_
      refine x_li (z := 120) T_278_98 rfl ?_
      refine x_cv4 T_278_99 mN_301 mL_301 (Nat.le_of_ble_eq_true rfl) mO_301 (PM.t hP) (Nat.le_of_ble_eq_true rfl) (m_serveOne hP hR hIV (by have := hI.2.1; omega) hs hc h0 (by decide)) ?_
      rintro _ σ ⟨rfl, S2, hP, hRP⟩
      refine cV ?_
      refine x_goto T_278_102 ?_
      refine x_rv T_278_120 ?_
      exact ⟨rfl, S2, hP, hRP⟩
    · obtain ⟨n1, n2⟩ := sr_no (P := P) (s := s) (c := c) (a := S 2285) (z := S 2281 4) (show ¬ ((121 : Int) = 100 ∨ (121 : Int) = 104 ∨ (121 : Int) = 108 ∨ (121 : Int) = 110 ∨ (121 : Int) = 112 ∨ (121 : Int) = 114 ∨ (121 : Int) = 116 ∨ (121 : Int) = 118 ∨ (121 : Int) = 120 ∨ (121 : Int) = 122 ∨ (121 : Int) = 124 ∨ (121 : Int) = 126) by omega)
      rw [n1, n2]
      refine CL_in mL_278 rfl ?_
      show WP fb _ 278 0 [some (vR (some 2281)), some (vI s), some (vI c), some (vI 121)] [] σ _
      refine x_li (z := 121) T_278_0 rfl ?_
      refine x_swIn T_278_1 (by decide) (by decide) rfl ?_
      refine x_lr (z := some 2281) T_278_114 rfl ?_
      refine x_ic T_278_115 ?_
      refine x_cv2 T_278_117 mN_235 mL_235 (Nat.le_of_ble_eq_true rfl) mO_235 (PM.t hP) (Nat.le_of_ble_eq_true rfl) (m_refuse hP (by omega)) ?_
      rintro _ σ ⟨rfl, hP⟩
      refine cV ?_
      refine x_rv T_278_120 ?_
      exact SV_no hP hR (by decide)
    · skip
      refine CL_in mL_278 rfl ?_
      show WP fb _ 278 0 [some (vR (some 2281)), some (vI s), some (vI c), some (vI 122)] [] σ _
      refine x_li (z := 122) T_278_0 rfl ?_
      refine x_swIn T_278_1 (by decide) (by decide) rfl ?_
      refine x_lr (z := some 2281) T_278_95 rfl ?_
      refine x_li (z := s) T_278_96 rfl ?_
      refine x_li (z := c) T_278_97 rfl ?_
      refine x_li (z := 122) T_278_98 rfl ?_
      refine x_cv4 T_278_99 mN_301 mL_301 (Nat.le_of_ble_eq_true rfl) mO_301 (PM.t hP) (Nat.le_of_ble_eq_true rfl) (m_serveOne hP hR hIV (by have := hI.2.1; omega) hs hc h0 (by decide)) ?_
      rintro _ σ ⟨rfl, S2, hP, hRP⟩
      refine cV ?_
      refine x_goto T_278_102 ?_
      refine x_rv T_278_120 ?_
      exact ⟨rfl, S2, hP, hRP⟩
    · obtain ⟨n1, n2⟩ := sr_no (P := P) (s := s) (c := c) (a := S 2285) (z := S 2281 4) (show ¬ ((123 : Int) = 100 ∨ (123 : Int) = 104 ∨ (123 : Int) = 108 ∨ (123 : Int) = 110 ∨ (123 : Int) = 112 ∨ (123 : Int) = 114 ∨ (123 : Int) = 116 ∨ (123 : Int) = 118 ∨ (123 : Int) = 120 ∨ (123 : Int) = 122 ∨ (123 : Int) = 124 ∨ (123 : Int) = 126) by omega)
      rw [n1, n2]
      refine CL_in mL_278 rfl ?_
      show WP fb _ 278 0 [some (vR (some 2281)), some (vI s), some (vI c), some (vI 123)] [] σ _
      refine x_li (z := 123) T_278_0 rfl ?_
      refine x_swIn T_278_1 (by decide) (by decide) rfl ?_
      refine x_lr (z := some 2281) T_278_114 rfl ?_
      refine x_ic T_278_115 ?_
      refine x_cv2 T_278_117 mN_235 mL_235 (Nat.le_of_ble_eq_true rfl) mO_235 (PM.t hP) (Nat.le_of_ble_eq_true rfl) (m_refuse hP (by omega)) ?_
      rintro _ σ ⟨rfl, hP⟩
      refine cV ?_
      refine x_rv T_278_120 ?_
      exact SV_no hP hR (by decide)
    · skip
      refine CL_in mL_278 rfl ?_
      show WP fb _ 278 0 [some (vR (some 2281)), some (vI s), some (vI c), some (vI 124)] [] σ _
      refine x_li (z := 124) T_278_0 rfl ?_
      refine x_swIn T_278_1 (by decide) (by decide) rfl ?_
      refine x_lr (z := some 2281) T_278_95 rfl ?_
      refine x_li (z := s) T_278_96 rfl ?_
      refine x_li (z := c) T_278_97 rfl ?_
      refine x_li (z := 124) T_278_98 rfl ?_
      refine x_cv4 T_278_99 mN_301 mL_301 (Nat.le_of_ble_eq_true rfl) mO_301 (PM.t hP) (Nat.le_of_ble_eq_true rfl) (m_serveOne hP hR hIV (by have := hI.2.1; omega) hs hc h0 (by decide)) ?_
      rintro _ σ ⟨rfl, S2, hP, hRP⟩
      refine cV ?_
      refine x_goto T_278_102 ?_
      refine x_rv T_278_120 ?_
      exact ⟨rfl, S2, hP, hRP⟩
    · obtain ⟨n1, n2⟩ := sr_no (P := P) (s := s) (c := c) (a := S 2285) (z := S 2281 4) (show ¬ ((125 : Int) = 100 ∨ (125 : Int) = 104 ∨ (125 : Int) = 108 ∨ (125 : Int) = 110 ∨ (125 : Int) = 112 ∨ (125 : Int) = 114 ∨ (125 : Int) = 116 ∨ (125 : Int) = 118 ∨ (125 : Int) = 120 ∨ (125 : Int) = 122 ∨ (125 : Int) = 124 ∨ (125 : Int) = 126) by omega)
      rw [n1, n2]
      refine CL_in mL_278 rfl ?_
      show WP fb _ 278 0 [some (vR (some 2281)), some (vI s), some (vI c), some (vI 125)] [] σ _
      refine x_li (z := 125) T_278_0 rfl ?_
      refine x_swIn T_278_1 (by decide) (by decide) rfl ?_
      refine x_lr (z := some 2281) T_278_114 rfl ?_
      refine x_ic T_278_115 ?_
      refine x_cv2 T_278_117 mN_235 mL_235 (Nat.le_of_ble_eq_true rfl) mO_235 (PM.t hP) (Nat.le_of_ble_eq_true rfl) (m_refuse hP (by omega)) ?_
      rintro _ σ ⟨rfl, hP⟩
      refine cV ?_
      refine x_rv T_278_120 ?_
      exact SV_no hP hR (by decide)
    · skip
      refine CL_in mL_278 rfl ?_
      show WP fb _ 278 0 [some (vR (some 2281)), some (vI s), some (vI c), some (vI 126)] [] σ _
      refine x_li (z := 126) T_278_0 rfl ?_
      refine x_swIn T_278_1 (by decide) (by decide) rfl ?_
      refine x_lr (z := some 2281) T_278_105 rfl ?_
      refine x_li (z := s) T_278_106 rfl ?_
      refine x_li (z := c) T_278_107 rfl ?_
      refine x_cv3 T_278_108 mN_302 mL_302 (Nat.le_of_ble_eq_true rfl) mO_302 (PM.t hP) (Nat.le_of_ble_eq_true rfl) (m_serveWstat hP hR hIV (by have := hI.2.1; omega) hs hc h0) ?_
      rintro _ σ ⟨rfl, S2, hP, hRP⟩
      refine cV ?_
      refine x_goto T_278_111 ?_
      refine x_rv T_278_120 ?_
      exact ⟨rfl, S2, hP, hRP⟩
  · obtain ⟨n1, n2⟩ := sr_no (P := P) (s := s) (c := c) (a := S 2285) (z := S 2281 4) (show ¬ (t = 100 ∨ t = 104 ∨ t = 108 ∨ t = 110 ∨ t = 112 ∨ t = 114 ∨ t = 116 ∨ t = 118 ∨ t = 120 ∨ t = 122 ∨ t = 124 ∨ t = 126) by omega)
    rw [n1, n2]
    refine CL_in mL_278 rfl ?_
    show WP fb _ 278 0 [some (vR (some 2281)), some (vI s), some (vI c), some (vI t)] [] σ _
    refine x_li (z := t) T_278_0 rfl ?_
    refine x_swOut T_278_1  (by simp only [List.length_cons, List.length_nil]; omega) ?_
    refine x_lr (z := some 2281) T_278_114 rfl ?_
    refine x_ic T_278_115 ?_
    refine x_cv2 T_278_117 mN_235 mL_235 (Nat.le_of_ble_eq_true rfl) mO_235 (PM.t hP) (Nat.le_of_ble_eq_true rfl) (m_refuse hP (by omega)) ?_
    rintro _ σ ⟨rfl, hP⟩
    refine cV ?_
    refine x_rv T_278_120 ?_
    exact SV_no hP hR (by decide)
end MSERVE8
