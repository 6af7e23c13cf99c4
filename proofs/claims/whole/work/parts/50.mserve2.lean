/-! What the reference's servers answer: fids let go, files taken away, told; fids come; files opened. -/
theorem T_301_0 : hTab 301 0 = some ((3, 0, 2, []), 1) := rfl
theorem T_301_1 : hTab 301 1 = some ((0, 0, 4, []), 2) := rfl
theorem T_301_2 : hTab 301 2 = some ((31, 234, 0, []), 5) := rfl
theorem T_301_5 : hTab 301 5 = some ((4, 4, 1, []), 7) := rfl
theorem T_301_7 : hTab 301 7 = some ((3, 0, 2, []), 8) := rfl
theorem T_301_8 : hTab 301 8 = some ((31, 241, 0, []), 11) := rfl
theorem T_301_11 : hTab 301 11 = some ((18, 1, Int.ofNat 15, []), 14) := rfl
theorem T_301_14 : hTab 301 14 = some ((33, 0, 0, []), 15) := rfl
theorem T_301_15 : hTab 301 15 = some ((3, 0, 2, []), 16) := rfl
theorem T_301_16 : hTab 301 16 = some ((3, 1, 0, []), 17) := rfl
theorem T_301_17 : hTab 301 17 = some ((3, 2, 0, []), 18) := rfl
theorem T_301_18 : hTab 301 18 = some ((3, 4, 1, []), 20) := rfl
theorem T_301_20 : hTab 301 20 = some ((31, 261, 0, []), 23) := rfl
theorem T_301_23 : hTab 301 23 = some ((4, 6, 0, []), 25) := rfl
theorem T_301_25 : hTab 301 25 = some ((3, 6, 0, []), 27) := rfl
theorem T_301_27 : hTab 301 27 = some ((18, 3, Int.ofNat 39, []), 30) := rfl
theorem T_301_30 : hTab 301 30 = some ((3, 0, 2, []), 31) := rfl
theorem T_301_31 : hTab 301 31 = some ((0, 0, 6, []), 33) := rfl
theorem T_301_33 : hTab 301 33 = some ((31, 235, 0, []), 36) := rfl
theorem T_301_36 : hTab 301 36 = some ((22, 0, Int.ofNat 204, []), 39) := rfl
theorem T_301_39 : hTab 301 39 = some ((3, 3, 0, []), 40) := rfl
theorem T_301_40 : hTab 301 40 = some ((0, 0, 120, []), 42) := rfl
theorem T_301_42 : hTab 301 42 = some ((19, 1, Int.ofNat 61, []), 45) := rfl
theorem T_301_45 : hTab 301 45 = some ((3, 0, 2, []), 46) := rfl
theorem T_301_46 : hTab 301 46 = some ((3, 1, 0, []), 47) := rfl
theorem T_301_47 : hTab 301 47 = some ((3, 6, 0, []), 49) := rfl
theorem T_301_49 : hTab 301 49 = some ((31, 244, 0, []), 52) := rfl
theorem T_301_52 : hTab 301 52 = some ((3, 0, 2, []), 53) := rfl
theorem T_301_53 : hTab 301 53 = some ((0, 0, 121, []), 55) := rfl
theorem T_301_55 : hTab 301 55 = some ((31, 236, 0, []), 58) := rfl
theorem T_301_58 : hTab 301 58 = some ((22, 0, Int.ofNat 204, []), 61) := rfl
theorem T_301_61 : hTab 301 61 = some ((3, 3, 0, []), 62) := rfl
theorem T_301_62 : hTab 301 62 = some ((0, 0, 122, []), 64) := rfl
theorem T_301_64 : hTab 301 64 = some ((19, 1, Int.ofNat 150, []), 67) := rfl
theorem T_301_67 : hTab 301 67 = some ((3, 0, 2, []), 68) := rfl
theorem T_301_68 : hTab 301 68 = some ((24, 17, Int.ofNat 28, []), 71) := rfl
theorem T_301_71 : hTab 301 71 = some ((3, 6, 0, []), 73) := rfl
theorem T_301_73 : hTab 301 73 = some ((0, 0, 0, []), 74) := rfl
theorem T_301_74 : hTab 301 74 = some ((27, 2, 0, []), 75) := rfl
theorem T_301_75 : hTab 301 75 = some ((3, 0, 2, []), 76) := rfl
theorem T_301_76 : hTab 301 76 = some ((24, 17, Int.ofNat 34, []), 79) := rfl
theorem T_301_79 : hTab 301 79 = some ((3, 6, 0, []), 81) := rfl
theorem T_301_81 : hTab 301 81 = some ((26, 2, 0, []), 82) := rfl
theorem T_301_82 : hTab 301 82 = some ((18, 0, Int.ofNat 89, []), 85) := rfl
theorem T_301_85 : hTab 301 85 = some ((0, 0, 1, []), 86) := rfl
theorem T_301_86 : hTab 301 86 = some ((22, 0, Int.ofNat 108, []), 89) := rfl
theorem T_301_89 : hTab 301 89 = some ((3, 0, 2, []), 90) := rfl
theorem T_301_90 : hTab 301 90 = some ((3, 1, 0, []), 91) := rfl
theorem T_301_91 : hTab 301 91 = some ((3, 0, 2, []), 92) := rfl
theorem T_301_92 : hTab 301 92 = some ((24, 17, Int.ofNat 30, []), 95) := rfl
theorem T_301_95 : hTab 301 95 = some ((3, 6, 0, []), 97) := rfl
theorem T_301_97 : hTab 301 97 = some ((26, 0, 0, []), 98) := rfl
theorem T_301_98 : hTab 301 98 = some ((3, 0, 2, []), 99) := rfl
theorem T_301_99 : hTab 301 99 = some ((24, 17, Int.ofNat 32, []), 102) := rfl
theorem T_301_102 : hTab 301 102 = some ((3, 6, 0, []), 104) := rfl
theorem T_301_104 : hTab 301 104 = some ((26, 0, 0, []), 105) := rfl
theorem T_301_105 : hTab 301 105 = some ((31, 245, 0, []), 108) := rfl
theorem T_301_108 : hTab 301 108 = some ((4, 7, 0, []), 110) := rfl
theorem T_301_110 : hTab 301 110 = some ((3, 7, 0, []), 112) := rfl
theorem T_301_112 : hTab 301 112 = some ((18, 5, Int.ofNat 122, []), 115) := rfl
theorem T_301_115 : hTab 301 115 = some ((3, 0, 2, []), 116) := rfl
theorem T_301_116 : hTab 301 116 = some ((3, 7, 0, []), 118) := rfl
theorem T_301_118 : hTab 301 118 = some ((31, 235, 0, []), 121) := rfl
theorem T_301_121 : hTab 301 121 = some ((33, 0, 0, []), 122) := rfl
theorem T_301_122 : hTab 301 122 = some ((3, 0, 2, []), 123) := rfl
theorem T_301_123 : hTab 301 123 = some ((3, 1, 0, []), 124) := rfl
theorem T_301_124 : hTab 301 124 = some ((3, 0, 2, []), 125) := rfl
theorem T_301_125 : hTab 301 125 = some ((24, 17, Int.ofNat 30, []), 128) := rfl
theorem T_301_128 : hTab 301 128 = some ((3, 6, 0, []), 130) := rfl
theorem T_301_130 : hTab 301 130 = some ((26, 0, 0, []), 131) := rfl
theorem T_301_131 : hTab 301 131 = some ((3, 0, 2, []), 132) := rfl
theorem T_301_132 : hTab 301 132 = some ((24, 17, Int.ofNat 32, []), 135) := rfl
theorem T_301_135 : hTab 301 135 = some ((3, 6, 0, []), 137) := rfl
theorem T_301_137 : hTab 301 137 = some ((26, 0, 0, []), 138) := rfl
theorem T_301_138 : hTab 301 138 = some ((31, 254, 0, []), 141) := rfl
theorem T_301_141 : hTab 301 141 = some ((3, 0, 2, []), 142) := rfl
theorem T_301_142 : hTab 301 142 = some ((0, 0, 123, []), 144) := rfl
theorem T_301_144 : hTab 301 144 = some ((31, 236, 0, []), 147) := rfl
theorem T_301_147 : hTab 301 147 = some ((22, 0, Int.ofNat 204, []), 150) := rfl
theorem T_301_150 : hTab 301 150 = some ((3, 0, 2, []), 151) := rfl
theorem T_301_151 : hTab 301 151 = some ((24, 17, Int.ofNat 34, []), 154) := rfl
theorem T_301_154 : hTab 301 154 = some ((3, 6, 0, []), 156) := rfl
theorem T_301_156 : hTab 301 156 = some ((26, 2, 0, []), 157) := rfl
theorem T_301_157 : hTab 301 157 = some ((18, 0, Int.ofNat 168, []), 160) := rfl
theorem T_301_160 : hTab 301 160 = some ((3, 0, 2, []), 161) := rfl
theorem T_301_161 : hTab 301 161 = some ((0, 0, 1, []), 162) := rfl
theorem T_301_162 : hTab 301 162 = some ((31, 235, 0, []), 165) := rfl
theorem T_301_165 : hTab 301 165 = some ((22, 0, Int.ofNat 204, []), 168) := rfl
theorem T_301_168 : hTab 301 168 = some ((3, 0, 2, []), 169) := rfl
theorem T_301_169 : hTab 301 169 = some ((0, 0, 125, []), 171) := rfl
theorem T_301_171 : hTab 301 171 = some ((31, 236, 0, []), 174) := rfl
theorem T_301_174 : hTab 301 174 = some ((3, 0, 2, []), 175) := rfl
theorem T_301_175 : hTab 301 175 = some ((0, 0, 2, []), 176) := rfl
theorem T_301_176 : hTab 301 176 = some ((3, 0, 2, []), 177) := rfl
theorem T_301_177 : hTab 301 177 = some ((3, 1, 0, []), 178) := rfl
theorem T_301_178 : hTab 301 178 = some ((3, 0, 2, []), 179) := rfl
theorem T_301_179 : hTab 301 179 = some ((24, 17, Int.ofNat 30, []), 182) := rfl
theorem T_301_182 : hTab 301 182 = some ((3, 6, 0, []), 184) := rfl
theorem T_301_184 : hTab 301 184 = some ((26, 0, 0, []), 185) := rfl
theorem T_301_185 : hTab 301 185 = some ((31, 287, 0, []), 188) := rfl
theorem T_301_188 : hTab 301 188 = some ((14, 0, 0, []), 189) := rfl
theorem T_301_189 : hTab 301 189 = some ((31, 237, 0, []), 192) := rfl
theorem T_301_192 : hTab 301 192 = some ((3, 0, 2, []), 193) := rfl
theorem T_301_193 : hTab 301 193 = some ((3, 1, 0, []), 194) := rfl
theorem T_301_194 : hTab 301 194 = some ((3, 0, 2, []), 195) := rfl
theorem T_301_195 : hTab 301 195 = some ((24, 17, Int.ofNat 30, []), 198) := rfl
theorem T_301_198 : hTab 301 198 = some ((3, 6, 0, []), 200) := rfl
theorem T_301_200 : hTab 301 200 = some ((26, 0, 0, []), 201) := rfl
theorem T_301_201 : hTab 301 201 = some ((31, 288, 0, []), 204) := rfl
theorem T_301_204 : hTab 301 204 = some ((33, 0, 0, []), 205) := rfl
theorem mN_301 : hmN 301 = 4 := by decide +kernel
theorem mL_301 : hmL 301 = 8 := by decide +kernel
theorem mK_301 : hmK 301 = 1 := by decide +kernel
theorem mO_301 : hmO 301 = 17 := by decide +kernel
/-- used fids whose files aren't gone have a file -/
def FI (P : qR) : Prop := ∀ k : Int, 0 ≤ k → k < 192 → ¬ P 2304 k = 0 → P 2310 k = 0 → P 2289 (64 * (k / 96) + P 2306 k) = 1
def MJ (T U : Int) (P : qR) : Prop := MI T U P ∧ FI P
/-- an answer stands ready: rows Q, error e, else type t and the rest l -/
abbrev SV (T U : Int) (σ0 : hM) (S Q : qR) (e t : Int) (l : List Int) : Option AV → hM → Prop := fun r σ' => r = none ∧ ∃ S2, PM σ0 Q S2 σ' ∧ RP T U S S2 e (if e = 0 then t else 107) (if e = 0 then l else errL e)
theorem SV_no {T U : Int} {σ0 : hM} {S S1 Q : qR} {e t p : Int} {l : List Int} {st : List (Int × Int)} {σ : hM} (hP : PM σ0 Q (rfs S1 e) σ) (hR : RS T U S S1 p st) (he : 1 ≤ e ∧ e ≤ 16) : SV T U σ0 S Q e t l none σ := ⟨rfl, _, hP, by rw [if_neg (by omega), if_neg (by omega)]; exact RP_rfs hR he⟩
theorem SV_ok {T U : Int} {σ0 : hM} {S S1 Q : qR} {t p : Int} {l : List Int} {st : List (Int × Int)} {σ : hM} (hP : PM σ0 Q (rA (rpl S1 t) l) σ) (hR : RS T U S S1 p st) (h0 : S 2281 7 = 0) (hl : byt l) (hz : (l.length : Int) ≤ 400) : SV T U σ0 S Q 0 t l none σ := ⟨rfl, _, hP, by rw [if_pos rfl, if_pos rfl]; exact RP_mk hR ((hR.sc (by decide)).trans h0) hl hz⟩
theorem SV_ok0 {T U : Int} {σ0 : hM} {S S1 Q : qR} {t p : Int} {st : List (Int × Int)} {σ : hM} (hP : PM σ0 Q (rpl S1 t) σ) (hR : RS T U S S1 p st) (h0 : S 2281 7 = 0) : SV T U σ0 S Q 0 t [] none σ := SV_ok (by rw [rA_nil]; exact hP) hR h0 byt_nil (by decide)
theorem SV_eq {T U : Int} {σ0 : hM} {S Q Q1 : qR} {e e1 t t1 : Int} {l l1 : List Int} {r : Option AV} {σ : hM} (h : SV T U σ0 S Q1 e1 t1 l1 r σ) (h1 : Q = Q1) (h2 : e = e1) (h3 : e1 = 0 → t = t1 ∧ l = l1) : SV T U σ0 S Q e t l r σ := by
  obtain ⟨q1, S2, q2, q3⟩ := h
  refine ⟨q1, S2, by rw [h1]; exact q2, ?_⟩
  rw [h2]
  by_cases c : e1 = 0
  · rw [if_pos c, if_pos c, (h3 c).1, (h3 c).2]
    rw [if_pos c, if_pos c] at q3
    exact q3
  · rw [if_neg c, if_neg c]
    rw [if_neg c, if_neg c] at q3
    exact q3
theorem byt_usrL (u : Int) : byt (usrL u) := byt_app (byt_app (byt_app (byt_leb 2 _) (byt_leb 1 _)) (byt_leb 1 _)) (byt_leb 1 _)
theorem byt_qidL (P : qR) (s n : Int) : byt (qidL P s n) := byt_app (byt_app (byt_leb 1 _) (byt_leb 4 _)) (byt_leb 8 _)
theorem byt_nmL (P : qR) (s n : Int) : ∀ m, byt (nmL P s n m)
  | 0 => byt_nil
  | m + 1 => byt_app (byt_nmL P s n m) (byt_leb 1 _)
theorem byt_statL (P : qR) (s n : Int) : byt (statL P s n) := byt_app (byt_app (byt_app (byt_app (byt_app (byt_app (byt_app (byt_app (byt_app (byt_app (byt_app (byt_app (byt_leb 2 _) (byt_leb 2 _)) (byt_leb 4 _)) (byt_qidL P s n)) (byt_leb 4 _)) (byt_leb 4 _)) (byt_leb 4 _)) (byt_leb 8 _)) (byt_leb 2 _)) (byt_nmL P s n _)) (byt_usrL _)) (byt_usrL _)) (byt_usrL _)
def onE (P : qR) (s k t : Int) : Int := if k < 0 then 6 else if t = 120 then 0 else if ¬ P 2310 k = 0 then 1 else if t = 122 then qRem (rU P 2304 k 0) s (P 2306 k) (P 2308 k) else 0
def onP (P : qR) (s k t : Int) : qR := if k < 0 then P else if t = 120 then gClunk P s k else if t = 122 then (if onE P s k t = 0 then gRem (rU P 2304 k 0) s (P 2306 k) (P 2308 k) else rU P 2304 k 0) else P
def onL (P : qR) (s k t : Int) : List Int := if t = 124 then leb 2 (58 + qNs P s (P 2306 k)) ++ statL P s (P 2306 k) else []
section MSERVE2
variable {fb : Bool} {d : Nat} {σ0 σ : hM} {P S S1 : qR} {T U s n u c t : Int}
theorem qFid_rng (v : Int) (hs : 0 ≤ s ∧ s < 3) (hc : 0 ≤ c ∧ c < 2) : qFid P s c v = -1 ∨ (48 * (2 * s + c) ≤ qFid P s c v ∧ qFid P s c v < 48 * (2 * s + c) + 48 ∧ ¬ P 2304 (qFid P s c v) = 0 ∧ P 2305 (qFid P s c v) = v) := by
  have := fiFid_rng (P := P) (v := v) 48 (48 * (2 * s + c)) (by omega)
  exact this
theorem CL_val {y : Nat} {as : List AV} {x k : Int} (h : CL fb d y as σ (rP x σ)) (e : x = k) : CL fb d y as σ (rP k σ) := by
  rw [← e]
  exact h
theorem r_num {v p z : Int} {st : List (Int × Int)} (n : Nat) (hz : (n : Int) = z) (hP : PM σ0 P S1 σ) (h : RS T U S S1 p st) (hn : n ≤ 8) (hv : nv (S 2285) (S 2281 4) p n = v) : CL fb d 234 [vR (some 2281), vI z] σ (fun r σ' => r = some (vL v) ∧ ∃ S2, PM σ0 P S2 σ' ∧ RS T U S S2 (av (S 2281 4) p z) st) := by
  subst hz
  rw [← hv]
  exact r_number n rfl hP h hn
theorem qRem_v (P : qR) (s n u : Int) : qRem P s n u = 0 ∨ qRem P s n u = 3 ∨ qRem P s n u = 11 := by
  unfold qRem
  split
  · exact Or.inr (Or.inl rfl)
  · split
    · exact Or.inr (Or.inr rfl)
    · exact Or.inl rfl
theorem IV_isFid {b k : Int} (hI : IV false T U P) (hb : 0 ≤ b ∧ b ≤ 1) : IV false T U (rU P 2304 k b) := hI.uA 2304 rfl hb
theorem m_serveOne (hP : PM σ0 P S1 σ) (hR : RS T U S S1 7 []) (hI : IV false T U P) (hT : T ≤ 2147483000) (hs : 0 ≤ s ∧ s < 3) (hc : 0 ≤ c ∧ c < 2) (h0 : S 2281 7 = 0) (ht : t = 120 ∨ t = 122 ∨ t = 124) : CL fb (d + 7) 301 [vR (some 2281), vI s, vI c, vI t] σ (SV T U σ0 S (if S 2281 4 = 11 then onP P s (qFid P s c (nu (S 2285) 7 4)) t else P) (if S 2281 4 = 11 then onE P s (qFid P s c (nu (S 2285) 7 4)) t else 14) (t + 1) (onL P s (qFid P s c (nu (S 2285) 7 4)) t)) := by
  obtain ⟨hz0, hz1, hb⟩ := hR.pb
  have hz7 : 7 ≤ S 2281 4 := hR.2.2.2.2.1
  have hw0 : (av (S 2281 4) 7 4 = S 2281 4 ∧ 0 ≤ av (S 2281 4) 7 4) ↔ S 2281 4 = 11 := by
    unfold av
    split <;> omega
  by_cases h11 : S 2281 4 = 11
  · have hh := hw0.mpr h11
    rw [if_pos h11, if_pos h11]
    obtain ⟨v, hv0⟩ : ∃ v, nu (S 2285) 7 4 = v := ⟨_, rfl⟩
    rw [hv0]
    have hv1 : nv (S 2285) (S 2281 4) 7 4 = v := (nv_ok (n := 4) (by decide) (by omega) hb).1.trans hv0
    have hk := qFid_rng (P := P) (s := s) (c := c) v hs hc
    obtain ⟨k, hk0⟩ : ∃ k, qFid P s c v = k := ⟨_, rfl⟩
    rw [hk0] at hk ⊢
    by_cases hkn : k < 0
    · rw [show onE P s k t = 6 from if_pos hkn, show onP P s k t = P from if_pos hkn]
      refine CL_in mL_301 rfl ?_
      show WP fb _ 301 0 [some (vR (some 2281)), some (vI s), some (vI c), some (vI t), none, none, none, none] [] σ _
      refine x_lr (z := some 2281) T_301_0 rfl ?_
      refine x_ic T_301_1 ?_
      refine x_cv2 T_301_2 mN_234 mL_234 (Nat.le_of_ble_eq_true rfl) mO_234 (PM.t hP) (Nat.le_of_ble_eq_true rfl) (r_num 4 rfl hP hR (by decide) hv1) ?_
      rintro _ σ ⟨rfl, S1, hP, hR⟩
      refine cL ?_
      refine x_sl (ls1 := [some (vR (some 2281)), some (vI s), some (vI c), some (vI t), some (vL v), none, none, none]) T_301_5 rfl ?_
      refine x_lr (z := some 2281) T_301_7 rfl ?_
      have hw := r_isWhole (fb := fb) (d := d + 3) hP hR
      rw [if_pos hh, if_pos hh] at hw
      refine x_cv1 T_301_8 mN_241 mL_241 (Nat.le_of_ble_eq_true rfl) mO_241 (PM.t hP) (Nat.le_of_ble_eq_true rfl) (hw) ?_
      rintro _ σ ⟨rfl, hP⟩
      refine cI ?_
      refine x_if T_301_11 (fun _ => ?_) (fun h => absurd (show ¬ (1 : Int) = 0 by decide) h)
      refine x_lr (z := some 2281) T_301_15 rfl ?_
      refine x_li (z := s) T_301_16 rfl ?_
      refine x_li (z := c) T_301_17 rfl ?_
      refine x_ll (z := v) T_301_18 rfl ?_
      refine x_cv4 T_301_20 mN_261 mL_261 (Nat.le_of_ble_eq_true rfl) mO_261 (PM.t hP) (Nat.le_of_ble_eq_true rfl) (CL_val (m_findFid hP (by omega) (by omega)) hk0) ?_
      rintro _ σ ⟨rfl, rfl⟩
      refine cI ?_
      refine x_si (ls1 := [some (vR (some 2281)), some (vI s), some (vI c), some (vI t), some (vL v), none, some (vI k), none]) T_301_23 rfl ?_
      refine x_li (z := k) T_301_25 rfl ?_
      refine x_if T_301_27 (fun h => absurd (show 0 ≤ k from h) (by omega)) (fun _ => ?_)
      refine x_lr (z := some 2281) T_301_30 rfl ?_
      refine x_ic T_301_31 ?_
      refine x_cv2 T_301_33 mN_235 mL_235 (Nat.le_of_ble_eq_true rfl) mO_235 (PM.t hP) (Nat.le_of_ble_eq_true rfl) (m_refuse hP (by omega)) ?_
      rintro _ σ ⟨rfl, hP⟩
      refine cV ?_
      refine x_goto T_301_36 ?_
      refine x_rv T_301_204 ?_
      exact SV_no hP hR (by decide)
    · have bn : 0 ≤ P 2306 k ∧ P 2306 k ≤ (if k < 192 then 63 else 143) := IV.a hI 2306 0 288 rfl rfl rfl (by omega) (by omega)
      rcases ht with rfl | rfl | rfl
      · rw [show onE P s k 120 = 0 by unfold onE; rw [if_neg hkn, if_pos rfl], show onP P s k 120 = gClunk P s k by unfold onP; rw [if_neg hkn, if_pos rfl], show onL P s k 120 = [] from rfl]
        refine CL_in mL_301 rfl ?_
        show WP fb _ 301 0 [some (vR (some 2281)), some (vI s), some (vI c), some (vI 120), none, none, none, none] [] σ _
        refine x_lr (z := some 2281) T_301_0 rfl ?_
        refine x_ic T_301_1 ?_
        refine x_cv2 T_301_2 mN_234 mL_234 (Nat.le_of_ble_eq_true rfl) mO_234 (PM.t hP) (Nat.le_of_ble_eq_true rfl) (r_num 4 rfl hP hR (by decide) hv1) ?_
        rintro _ σ ⟨rfl, S1, hP, hR⟩
        refine cL ?_
        refine x_sl (ls1 := [some (vR (some 2281)), some (vI s), some (vI c), some (vI 120), some (vL v), none, none, none]) T_301_5 rfl ?_
        refine x_lr (z := some 2281) T_301_7 rfl ?_
        have hw := r_isWhole (fb := fb) (d := d + 3) hP hR
        rw [if_pos hh, if_pos hh] at hw
        refine x_cv1 T_301_8 mN_241 mL_241 (Nat.le_of_ble_eq_true rfl) mO_241 (PM.t hP) (Nat.le_of_ble_eq_true rfl) (hw) ?_
        rintro _ σ ⟨rfl, hP⟩
        refine cI ?_
        refine x_if T_301_11 (fun _ => ?_) (fun h => absurd (show ¬ (1 : Int) = 0 by decide) h)
        refine x_lr (z := some 2281) T_301_15 rfl ?_
        refine x_li (z := s) T_301_16 rfl ?_
        refine x_li (z := c) T_301_17 rfl ?_
        refine x_ll (z := v) T_301_18 rfl ?_
        refine x_cv4 T_301_20 mN_261 mL_261 (Nat.le_of_ble_eq_true rfl) mO_261 (PM.t hP) (Nat.le_of_ble_eq_true rfl) (CL_val (m_findFid hP (by omega) (by omega)) hk0) ?_
        rintro _ σ ⟨rfl, rfl⟩
        refine cI ?_
        refine x_si (ls1 := [some (vR (some 2281)), some (vI s), some (vI c), some (vI 120), some (vL v), none, some (vI k), none]) T_301_23 rfl ?_
        refine x_li (z := k) T_301_25 rfl ?_
        refine x_if T_301_27 (fun _ => ?_) (fun h => absurd (show 0 ≤ k by omega) h)
        refine x_li (z := 120) T_301_39 rfl ?_
        refine x_ic T_301_40 ?_
        refine x_ic2 T_301_42 (fun h => absurd (show ¬ (120 : Int) = 120 from h) (by decide)) (fun _ => ?_)
        refine x_lr (z := some 2281) T_301_45 rfl ?_
        refine x_li (z := s) T_301_46 rfl ?_
        refine x_li (z := k) T_301_47 rfl ?_
        refine x_cv3 T_301_49 mN_244 mL_244 (Nat.le_of_ble_eq_true rfl) mO_244 (PM.t hP) (Nat.le_of_ble_eq_true rfl) (m_clunk hP hI hT (by omega) (by omega)) ?_
        rintro _ σ ⟨rfl, hP⟩
        refine cV ?_
        refine x_lr (z := some 2281) T_301_52 rfl ?_
        refine x_ic T_301_53 ?_
        refine x_cv2 T_301_55 mN_236 mL_236 (Nat.le_of_ble_eq_true rfl) mO_236 (PM.t hP) (Nat.le_of_ble_eq_true rfl) (m_reply hP) ?_
        rintro _ σ ⟨rfl, hP⟩
        refine cV ?_
        refine x_goto T_301_58 ?_
        refine x_rv T_301_204 ?_
        exact SV_ok0 hP hR h0
      · by_cases hg : P 2310 k = 0
        · obtain ⟨r, hr⟩ : ∃ r, qRem (rU P 2304 k 0) s (P 2306 k) (P 2308 k) = r := ⟨_, rfl⟩
          have hrv := qRem_v (rU P 2304 k 0) s (P 2306 k) (P 2308 k)
          have hro : onE P s k 122 = r := by
            unfold onE
            rw [if_neg hkn, if_neg (by decide), if_neg (fun q => q hg), if_pos rfl, hr]
          rw [hr] at hrv
          rw [hro]
          by_cases hr0 : r = 0
          · subst hr0
            have hr2 := qRem_0 hr
            rw [show onP P s k 122 = gRem (rU P 2304 k 0) s (P 2306 k) (P 2308 k) by unfold onP; rw [if_neg hkn, if_neg (by decide), if_pos rfl, if_pos hro], show onL P s k 122 = [] from rfl]
            refine CL_in mL_301 rfl ?_
            show WP fb _ 301 0 [some (vR (some 2281)), some (vI s), some (vI c), some (vI 122), none, none, none, none] [] σ _
            refine x_lr (z := some 2281) T_301_0 rfl ?_
            refine x_ic T_301_1 ?_
            refine x_cv2 T_301_2 mN_234 mL_234 (Nat.le_of_ble_eq_true rfl) mO_234 (PM.t hP) (Nat.le_of_ble_eq_true rfl) (r_num 4 rfl hP hR (by decide) hv1) ?_
            rintro _ σ ⟨rfl, S1, hP, hR⟩
            refine cL ?_
            refine x_sl (ls1 := [some (vR (some 2281)), some (vI s), some (vI c), some (vI 122), some (vL v), none, none, none]) T_301_5 rfl ?_
            refine x_lr (z := some 2281) T_301_7 rfl ?_
            have hw := r_isWhole (fb := fb) (d := d + 3) hP hR
            rw [if_pos hh, if_pos hh] at hw
            refine x_cv1 T_301_8 mN_241 mL_241 (Nat.le_of_ble_eq_true rfl) mO_241 (PM.t hP) (Nat.le_of_ble_eq_true rfl) (hw) ?_
            rintro _ σ ⟨rfl, hP⟩
            refine cI ?_
            refine x_if T_301_11 (fun _ => ?_) (fun h => absurd (show ¬ (1 : Int) = 0 by decide) h)
            refine x_lr (z := some 2281) T_301_15 rfl ?_
            refine x_li (z := s) T_301_16 rfl ?_
            refine x_li (z := c) T_301_17 rfl ?_
            refine x_ll (z := v) T_301_18 rfl ?_
            refine x_cv4 T_301_20 mN_261 mL_261 (Nat.le_of_ble_eq_true rfl) mO_261 (PM.t hP) (Nat.le_of_ble_eq_true rfl) (CL_val (m_findFid hP (by omega) (by omega)) hk0) ?_
            rintro _ σ ⟨rfl, rfl⟩
            refine cI ?_
            refine x_si (ls1 := [some (vR (some 2281)), some (vI s), some (vI c), some (vI 122), some (vL v), none, some (vI k), none]) T_301_23 rfl ?_
            refine x_li (z := k) T_301_25 rfl ?_
            refine x_if T_301_27 (fun _ => ?_) (fun h => absurd (show 0 ≤ k by omega) h)
            refine x_li (z := 122) T_301_39 rfl ?_
            refine x_ic T_301_40 ?_
            refine x_ic2 T_301_42 (fun _ => ?_) (fun h => absurd (show ¬ (122 : Int) = 120 by decide) h)
            refine x_li (z := 122) T_301_61 rfl ?_
            refine x_ic T_301_62 ?_
            refine x_ic2 T_301_64 (fun h => absurd (show ¬ (122 : Int) = 122 from h) (by decide)) (fun _ => ?_)
            refine x_lr (z := some 2281) T_301_67 rfl ?_
            refine x_gR (z := some 2304) T_301_68 F_17_28 (PM.t hP) (PM.r hP 28 2304 rfl) ?_
            refine x_li (z := k) T_301_71 rfl ?_
            refine x_ic T_301_73 ?_
            refine y_aZP hP T_301_74 rfl 2304 288 rfl rfl rfl (by omega) (by omega) (fun σ hP => ?_)
            refine x_lr (z := some 2281) T_301_75 rfl ?_
            refine x_gR (z := some 2310) T_301_76 F_17_34 (PM.t hP) (PM.r hP 34 2310 rfl) ?_
            refine x_li (z := k) T_301_79 rfl ?_
            have b1 : 0 ≤ P 2310 k ∧ P 2310 k ≤ 1 := IV.a hI 2310 2 288 rfl rfl rfl (by omega) (by omega)
            refine x_alI (z := P 2310 k) T_301_81 (by decide) (PM.ta hP 2310 2 288 rfl rfl) (by omega) (by omega) (Eq.trans (PM.aP hP 2310 rfl rfl (by omega)) (rU_f (Nat.ne_of_beq_eq_false rfl))) ?_
            refine x_if T_301_82 (fun _ => ?_) (fun h => absurd (show P 2310 k = 0 by exact hg) h)
            refine x_lr (z := some 2281) T_301_89 rfl ?_
            refine x_li (z := s) T_301_90 rfl ?_
            refine x_lr (z := some 2281) T_301_91 rfl ?_
            refine x_gR (z := some 2306) T_301_92 F_17_30 (PM.t hP) (PM.r hP 30 2306 rfl) ?_
            refine x_li (z := k) T_301_95 rfl ?_
            have b2 : 0 ≤ P 2306 k ∧ P 2306 k ≤ (if k < 192 then 63 else 143) := IV.a hI 2306 0 288 rfl rfl rfl (by omega) (by omega)
            refine x_alI (z := P 2306 k) T_301_97 (by decide) (PM.ta hP 2306 0 288 rfl rfl) (by omega) (by omega) (Eq.trans (PM.aP hP 2306 rfl rfl (by omega)) (rU_f (Nat.ne_of_beq_eq_false rfl))) ?_
            refine x_lr (z := some 2281) T_301_98 rfl ?_
            refine x_gR (z := some 2308) T_301_99 F_17_32 (PM.t hP) (PM.r hP 32 2308 rfl) ?_
            refine x_li (z := k) T_301_102 rfl ?_
            have b3 : 0 ≤ P 2308 k ∧ P 2308 k ≤ 3 := IV.a hI 2308 0 288 rfl rfl rfl (by omega) (by omega)
            refine x_alI (z := P 2308 k) T_301_104 (by decide) (PM.ta hP 2308 0 288 rfl rfl) (by omega) (by omega) (Eq.trans (PM.aP hP 2308 rfl rfl (by omega)) (rU_f (Nat.ne_of_beq_eq_false rfl))) ?_
            refine x_cv4 T_301_105 mN_245 mL_245 (Nat.le_of_ble_eq_true rfl) mO_245 (PM.t hP) (Nat.le_of_ble_eq_true rfl) (CL_val (m_removal hP (IV_isFid hI (by decide)) (by omega)) hr) ?_
            rintro _ σ ⟨rfl, rfl⟩
            refine cI ?_
            refine x_si (ls1 := [some (vR (some 2281)), some (vI s), some (vI c), some (vI 122), some (vL v), none, some (vI k), some (vI 0)]) T_301_108 rfl ?_
            refine x_li (z := 0) T_301_110 rfl ?_
            refine x_if T_301_112 (fun _ => ?_) (fun h => absurd (show (0 : Int) ≤ 0 by decide) h)
            refine x_lr (z := some 2281) T_301_122 rfl ?_
            refine x_li (z := s) T_301_123 rfl ?_
            refine x_lr (z := some 2281) T_301_124 rfl ?_
            refine x_gR (z := some 2306) T_301_125 F_17_30 (PM.t hP) (PM.r hP 30 2306 rfl) ?_
            refine x_li (z := k) T_301_128 rfl ?_
            refine x_alI (z := P 2306 k) T_301_130 (by decide) (PM.ta hP 2306 0 288 rfl rfl) (by omega) (by omega) (Eq.trans (PM.aP hP 2306 rfl rfl (by omega)) (rU_f (Nat.ne_of_beq_eq_false rfl))) ?_
            refine x_lr (z := some 2281) T_301_131 rfl ?_
            refine x_gR (z := some 2308) T_301_132 F_17_32 (PM.t hP) (PM.r hP 32 2308 rfl) ?_
            refine x_li (z := k) T_301_135 rfl ?_
            refine x_alI (z := P 2308 k) T_301_137 (by decide) (PM.ta hP 2308 0 288 rfl rfl) (by omega) (by omega) (Eq.trans (PM.aP hP 2308 rfl rfl (by omega)) (rU_f (Nat.ne_of_beq_eq_false rfl))) ?_
            refine x_cv4 T_301_138 mN_254 mL_254 (Nat.le_of_ble_eq_true rfl) mO_254 (PM.t hP) (Nat.le_of_ble_eq_true rfl) (m_remove hP (IV_isFid hI (by decide)) hT (by omega)) ?_
            rintro _ σ ⟨rfl, hP⟩
            refine cV ?_
            refine x_lr (z := some 2281) T_301_141 rfl ?_
            refine x_ic T_301_142 ?_
            refine x_cv2 T_301_144 mN_236 mL_236 (Nat.le_of_ble_eq_true rfl) mO_236 (PM.t hP) (Nat.le_of_ble_eq_true rfl) (m_reply hP) ?_
            rintro _ σ ⟨rfl, hP⟩
            refine cV ?_
            refine x_goto T_301_147 ?_
            refine x_rv T_301_204 ?_
            exact SV_ok0 hP hR h0
          · rw [show onP P s k 122 = rU P 2304 k 0 by unfold onP; rw [if_neg hkn, if_neg (by decide), if_pos rfl, if_neg (by rw [hro]; exact hr0)]]
            refine CL_in mL_301 rfl ?_
            show WP fb _ 301 0 [some (vR (some 2281)), some (vI s), some (vI c), some (vI 122), none, none, none, none] [] σ _
            refine x_lr (z := some 2281) T_301_0 rfl ?_
            refine x_ic T_301_1 ?_
            refine x_cv2 T_301_2 mN_234 mL_234 (Nat.le_of_ble_eq_true rfl) mO_234 (PM.t hP) (Nat.le_of_ble_eq_true rfl) (r_num 4 rfl hP hR (by decide) hv1) ?_
            rintro _ σ ⟨rfl, S1, hP, hR⟩
            refine cL ?_
            refine x_sl (ls1 := [some (vR (some 2281)), some (vI s), some (vI c), some (vI 122), some (vL v), none, none, none]) T_301_5 rfl ?_
            refine x_lr (z := some 2281) T_301_7 rfl ?_
            have hw := r_isWhole (fb := fb) (d := d + 3) hP hR
            rw [if_pos hh, if_pos hh] at hw
            refine x_cv1 T_301_8 mN_241 mL_241 (Nat.le_of_ble_eq_true rfl) mO_241 (PM.t hP) (Nat.le_of_ble_eq_true rfl) (hw) ?_
            rintro _ σ ⟨rfl, hP⟩
            refine cI ?_
            refine x_if T_301_11 (fun _ => ?_) (fun h => absurd (show ¬ (1 : Int) = 0 by decide) h)
            refine x_lr (z := some 2281) T_301_15 rfl ?_
            refine x_li (z := s) T_301_16 rfl ?_
            refine x_li (z := c) T_301_17 rfl ?_
            refine x_ll (z := v) T_301_18 rfl ?_
            refine x_cv4 T_301_20 mN_261 mL_261 (Nat.le_of_ble_eq_true rfl) mO_261 (PM.t hP) (Nat.le_of_ble_eq_true rfl) (CL_val (m_findFid hP (by omega) (by omega)) hk0) ?_
            rintro _ σ ⟨rfl, rfl⟩
            refine cI ?_
            refine x_si (ls1 := [some (vR (some 2281)), some (vI s), some (vI c), some (vI 122), some (vL v), none, some (vI k), none]) T_301_23 rfl ?_
            refine x_li (z := k) T_301_25 rfl ?_
            refine x_if T_301_27 (fun _ => ?_) (fun h => absurd (show 0 ≤ k by omega) h)
            refine x_li (z := 122) T_301_39 rfl ?_
            refine x_ic T_301_40 ?_
            refine x_ic2 T_301_42 (fun _ => ?_) (fun h => absurd (show ¬ (122 : Int) = 120 by decide) h)
            refine x_li (z := 122) T_301_61 rfl ?_
            refine x_ic T_301_62 ?_
            refine x_ic2 T_301_64 (fun h => absurd (show ¬ (122 : Int) = 122 from h) (by decide)) (fun _ => ?_)
            refine x_lr (z := some 2281) T_301_67 rfl ?_
            refine x_gR (z := some 2304) T_301_68 F_17_28 (PM.t hP) (PM.r hP 28 2304 rfl) ?_
            refine x_li (z := k) T_301_71 rfl ?_
            refine x_ic T_301_73 ?_
            refine y_aZP hP T_301_74 rfl 2304 288 rfl rfl rfl (by omega) (by omega) (fun σ hP => ?_)
            refine x_lr (z := some 2281) T_301_75 rfl ?_
            refine x_gR (z := some 2310) T_301_76 F_17_34 (PM.t hP) (PM.r hP 34 2310 rfl) ?_
            refine x_li (z := k) T_301_79 rfl ?_
            have b1 : 0 ≤ P 2310 k ∧ P 2310 k ≤ 1 := IV.a hI 2310 2 288 rfl rfl rfl (by omega) (by omega)
            refine x_alI (z := P 2310 k) T_301_81 (by decide) (PM.ta hP 2310 2 288 rfl rfl) (by omega) (by omega) (Eq.trans (PM.aP hP 2310 rfl rfl (by omega)) (rU_f (Nat.ne_of_beq_eq_false rfl))) ?_
            refine x_if T_301_82 (fun _ => ?_) (fun h => absurd (show P 2310 k = 0 by exact hg) h)
            refine x_lr (z := some 2281) T_301_89 rfl ?_
            refine x_li (z := s) T_301_90 rfl ?_
            refine x_lr (z := some 2281) T_301_91 rfl ?_
            refine x_gR (z := some 2306) T_301_92 F_17_30 (PM.t hP) (PM.r hP 30 2306 rfl) ?_
            refine x_li (z := k) T_301_95 rfl ?_
            have b2 : 0 ≤ P 2306 k ∧ P 2306 k ≤ (if k < 192 then 63 else 143) := IV.a hI 2306 0 288 rfl rfl rfl (by omega) (by omega)
            refine x_alI (z := P 2306 k) T_301_97 (by decide) (PM.ta hP 2306 0 288 rfl rfl) (by omega) (by omega) (Eq.trans (PM.aP hP 2306 rfl rfl (by omega)) (rU_f (Nat.ne_of_beq_eq_false rfl))) ?_
            refine x_lr (z := some 2281) T_301_98 rfl ?_
            refine x_gR (z := some 2308) T_301_99 F_17_32 (PM.t hP) (PM.r hP 32 2308 rfl) ?_
            refine x_li (z := k) T_301_102 rfl ?_
            have b3 : 0 ≤ P 2308 k ∧ P 2308 k ≤ 3 := IV.a hI 2308 0 288 rfl rfl rfl (by omega) (by omega)
            refine x_alI (z := P 2308 k) T_301_104 (by decide) (PM.ta hP 2308 0 288 rfl rfl) (by omega) (by omega) (Eq.trans (PM.aP hP 2308 rfl rfl (by omega)) (rU_f (Nat.ne_of_beq_eq_false rfl))) ?_
            refine x_cv4 T_301_105 mN_245 mL_245 (Nat.le_of_ble_eq_true rfl) mO_245 (PM.t hP) (Nat.le_of_ble_eq_true rfl) (CL_val (m_removal hP (IV_isFid hI (by decide)) (by omega)) hr) ?_
            rintro _ σ ⟨rfl, rfl⟩
            refine cI ?_
            refine x_si (ls1 := [some (vR (some 2281)), some (vI s), some (vI c), some (vI 122), some (vL v), none, some (vI k), some (vI r)]) T_301_108 rfl ?_
            refine x_li (z := r) T_301_110 rfl ?_
            refine x_if T_301_112 (fun h => absurd (show r ≤ 0 from h) (by omega)) (fun _ => ?_)
            refine x_lr (z := some 2281) T_301_115 rfl ?_
            refine x_li (z := r) T_301_116 rfl ?_
            refine x_cv2 T_301_118 mN_235 mL_235 (Nat.le_of_ble_eq_true rfl) mO_235 (PM.t hP) (Nat.le_of_ble_eq_true rfl) (m_refuse hP (by omega)) ?_
            rintro _ σ ⟨rfl, hP⟩
            refine cV ?_
            refine x_rv T_301_121 ?_
            exact SV_no hP hR (by omega)
        · have hro : onE P s k 122 = 1 := by
            unfold onE
            rw [if_neg hkn, if_neg (by decide), if_pos hg]
          rw [hro, show onP P s k 122 = rU P 2304 k 0 by unfold onP; rw [if_neg hkn, if_neg (by decide), if_pos rfl, if_neg (by rw [hro]; decide)]]
          refine CL_in mL_301 rfl ?_
          show WP fb _ 301 0 [some (vR (some 2281)), some (vI s), some (vI c), some (vI 122), none, none, none, none] [] σ _
          refine x_lr (z := some 2281) T_301_0 rfl ?_
          refine x_ic T_301_1 ?_
          refine x_cv2 T_301_2 mN_234 mL_234 (Nat.le_of_ble_eq_true rfl) mO_234 (PM.t hP) (Nat.le_of_ble_eq_true rfl) (r_num 4 rfl hP hR (by decide) hv1) ?_
          rintro _ σ ⟨rfl, S1, hP, hR⟩
          refine cL ?_
          refine x_sl (ls1 := [some (vR (some 2281)), some (vI s), some (vI c), some (vI 122), some (vL v), none, none, none]) T_301_5 rfl ?_
          refine x_lr (z := some 2281) T_301_7 rfl ?_
          have hw := r_isWhole (fb := fb) (d := d + 3) hP hR
          rw [if_pos hh, if_pos hh] at hw
          refine x_cv1 T_301_8 mN_241 mL_241 (Nat.le_of_ble_eq_true rfl) mO_241 (PM.t hP) (Nat.le_of_ble_eq_true rfl) (hw) ?_
          rintro _ σ ⟨rfl, hP⟩
          refine cI ?_
          refine x_if T_301_11 (fun _ => ?_) (fun h => absurd (show ¬ (1 : Int) = 0 by decide) h)
          refine x_lr (z := some 2281) T_301_15 rfl ?_
          refine x_li (z := s) T_301_16 rfl ?_
          refine x_li (z := c) T_301_17 rfl ?_
          refine x_ll (z := v) T_301_18 rfl ?_
          refine x_cv4 T_301_20 mN_261 mL_261 (Nat.le_of_ble_eq_true rfl) mO_261 (PM.t hP) (Nat.le_of_ble_eq_true rfl) (CL_val (m_findFid hP (by omega) (by omega)) hk0) ?_
          rintro _ σ ⟨rfl, rfl⟩
          refine cI ?_
          refine x_si (ls1 := [some (vR (some 2281)), some (vI s), some (vI c), some (vI 122), some (vL v), none, some (vI k), none]) T_301_23 rfl ?_
          refine x_li (z := k) T_301_25 rfl ?_
          refine x_if T_301_27 (fun _ => ?_) (fun h => absurd (show 0 ≤ k by omega) h)
          refine x_li (z := 122) T_301_39 rfl ?_
          refine x_ic T_301_40 ?_
          refine x_ic2 T_301_42 (fun _ => ?_) (fun h => absurd (show ¬ (122 : Int) = 120 by decide) h)
          refine x_li (z := 122) T_301_61 rfl ?_
          refine x_ic T_301_62 ?_
          refine x_ic2 T_301_64 (fun h => absurd (show ¬ (122 : Int) = 122 from h) (by decide)) (fun _ => ?_)
          refine x_lr (z := some 2281) T_301_67 rfl ?_
          refine x_gR (z := some 2304) T_301_68 F_17_28 (PM.t hP) (PM.r hP 28 2304 rfl) ?_
          refine x_li (z := k) T_301_71 rfl ?_
          refine x_ic T_301_73 ?_
          refine y_aZP hP T_301_74 rfl 2304 288 rfl rfl rfl (by omega) (by omega) (fun σ hP => ?_)
          refine x_lr (z := some 2281) T_301_75 rfl ?_
          refine x_gR (z := some 2310) T_301_76 F_17_34 (PM.t hP) (PM.r hP 34 2310 rfl) ?_
          refine x_li (z := k) T_301_79 rfl ?_
          have b1 : 0 ≤ P 2310 k ∧ P 2310 k ≤ 1 := IV.a hI 2310 2 288 rfl rfl rfl (by omega) (by omega)
          refine x_alI (z := P 2310 k) T_301_81 (by decide) (PM.ta hP 2310 2 288 rfl rfl) (by omega) (by omega) (Eq.trans (PM.aP hP 2310 rfl rfl (by omega)) (rU_f (Nat.ne_of_beq_eq_false rfl))) ?_
          refine x_if T_301_82 (fun h => absurd (show P 2310 k = 0 from h) (by exact hg)) (fun _ => ?_)
          refine x_ic T_301_85 ?_
          refine x_goto T_301_86 ?_
          refine x_si (ls1 := [some (vR (some 2281)), some (vI s), some (vI c), some (vI 122), some (vL v), none, some (vI k), some (vI 1)]) T_301_108 rfl ?_
          refine x_li (z := 1) T_301_110 rfl ?_
          refine x_if T_301_112 (fun h => absurd (show (1 : Int) ≤ 0 from h) (by decide)) (fun _ => ?_)
          refine x_lr (z := some 2281) T_301_115 rfl ?_
          refine x_li (z := 1) T_301_116 rfl ?_
          refine x_cv2 T_301_118 mN_235 mL_235 (Nat.le_of_ble_eq_true rfl) mO_235 (PM.t hP) (Nat.le_of_ble_eq_true rfl) (m_refuse hP (by omega)) ?_
          rintro _ σ ⟨rfl, hP⟩
          refine cV ?_
          refine x_rv T_301_121 ?_
          exact SV_no hP hR (by decide)
      · rw [show onP P s k 124 = P by unfold onP; rw [if_neg hkn, if_neg (by decide), if_neg (by decide)]]
        have hnn := qNs_i hI (s := s) (n := P 2306 k) (by omega)
        by_cases hg : P 2310 k = 0
        · rw [show onE P s k 124 = 0 by unfold onE; rw [if_neg hkn, if_neg (by decide), if_neg (fun q => q hg), if_neg (by decide)], show onL P s k 124 = leb 2 (58 + qNs P s (P 2306 k)) ++ statL P s (P 2306 k) from rfl]
          refine CL_in mL_301 rfl ?_
          show WP fb _ 301 0 [some (vR (some 2281)), some (vI s), some (vI c), some (vI 124), none, none, none, none] [] σ _
          refine x_lr (z := some 2281) T_301_0 rfl ?_
          refine x_ic T_301_1 ?_
          refine x_cv2 T_301_2 mN_234 mL_234 (Nat.le_of_ble_eq_true rfl) mO_234 (PM.t hP) (Nat.le_of_ble_eq_true rfl) (r_num 4 rfl hP hR (by decide) hv1) ?_
          rintro _ σ ⟨rfl, S1, hP, hR⟩
          refine cL ?_
          refine x_sl (ls1 := [some (vR (some 2281)), some (vI s), some (vI c), some (vI 124), some (vL v), none, none, none]) T_301_5 rfl ?_
          refine x_lr (z := some 2281) T_301_7 rfl ?_
          have hw := r_isWhole (fb := fb) (d := d + 3) hP hR
          rw [if_pos hh, if_pos hh] at hw
          refine x_cv1 T_301_8 mN_241 mL_241 (Nat.le_of_ble_eq_true rfl) mO_241 (PM.t hP) (Nat.le_of_ble_eq_true rfl) (hw) ?_
          rintro _ σ ⟨rfl, hP⟩
          refine cI ?_
          refine x_if T_301_11 (fun _ => ?_) (fun h => absurd (show ¬ (1 : Int) = 0 by decide) h)
          refine x_lr (z := some 2281) T_301_15 rfl ?_
          refine x_li (z := s) T_301_16 rfl ?_
          refine x_li (z := c) T_301_17 rfl ?_
          refine x_ll (z := v) T_301_18 rfl ?_
          refine x_cv4 T_301_20 mN_261 mL_261 (Nat.le_of_ble_eq_true rfl) mO_261 (PM.t hP) (Nat.le_of_ble_eq_true rfl) (CL_val (m_findFid hP (by omega) (by omega)) hk0) ?_
          rintro _ σ ⟨rfl, rfl⟩
          refine cI ?_
          refine x_si (ls1 := [some (vR (some 2281)), some (vI s), some (vI c), some (vI 124), some (vL v), none, some (vI k), none]) T_301_23 rfl ?_
          refine x_li (z := k) T_301_25 rfl ?_
          refine x_if T_301_27 (fun _ => ?_) (fun h => absurd (show 0 ≤ k by omega) h)
          refine x_li (z := 124) T_301_39 rfl ?_
          refine x_ic T_301_40 ?_
          refine x_ic2 T_301_42 (fun _ => ?_) (fun h => absurd (show ¬ (124 : Int) = 120 by decide) h)
          refine x_li (z := 124) T_301_61 rfl ?_
          refine x_ic T_301_62 ?_
          refine x_ic2 T_301_64 (fun _ => ?_) (fun h => absurd (show ¬ (124 : Int) = 122 by decide) h)
          refine x_lr (z := some 2281) T_301_150 rfl ?_
          refine x_gR (z := some 2310) T_301_151 F_17_34 (PM.t hP) (PM.r hP 34 2310 rfl) ?_
          refine x_li (z := k) T_301_154 rfl ?_
          have b1 : 0 ≤ P 2310 k ∧ P 2310 k ≤ 1 := IV.a hI 2310 2 288 rfl rfl rfl (by omega) (by omega)
          refine x_alI (z := P 2310 k) T_301_156 (by decide) (PM.ta hP 2310 2 288 rfl rfl) (by omega) (by omega) (PM.aP hP 2310 rfl rfl (by omega)) ?_
          refine x_if T_301_157 (fun _ => ?_) (fun h => absurd (show P 2310 k = 0 by exact hg) h)
          refine x_lr (z := some 2281) T_301_168 rfl ?_
          refine x_ic T_301_169 ?_
          refine x_cv2 T_301_171 mN_236 mL_236 (Nat.le_of_ble_eq_true rfl) mO_236 (PM.t hP) (Nat.le_of_ble_eq_true rfl) (m_reply hP) ?_
          rintro _ σ ⟨rfl, hP⟩
          refine cV ?_
          refine x_lr (z := some 2281) T_301_174 rfl ?_
          refine x_ic T_301_175 ?_
          refine x_lr (z := some 2281) T_301_176 rfl ?_
          refine x_li (z := s) T_301_177 rfl ?_
          refine x_lr (z := some 2281) T_301_178 rfl ?_
          refine x_gR (z := some 2306) T_301_179 F_17_30 (PM.t hP) (PM.r hP 30 2306 rfl) ?_
          refine x_li (z := k) T_301_182 rfl ?_
          have b2 : 0 ≤ P 2306 k ∧ P 2306 k ≤ (if k < 192 then 63 else 143) := IV.a hI 2306 0 288 rfl rfl rfl (by omega) (by omega)
          refine x_alI (z := P 2306 k) T_301_184 (by decide) (PM.ta hP 2306 0 288 rfl rfl) (by omega) (by omega) (PM.aP hP 2306 rfl rfl (by omega)) ?_
          refine x_cv3 T_301_185 mN_287 mL_287 (Nat.le_of_ble_eq_true rfl) mO_287 (PM.t hP) (Nat.le_of_ble_eq_true rfl) (m_statSize hP hI (by omega)) ?_
          rintro _ σ ⟨rfl, rfl⟩
          refine cI ?_
          refine x_i2l T_301_188 ?_
          refine x_cv3 T_301_189 mN_237 mL_237 (Nat.le_of_ble_eq_true rfl) mO_237 (PM.t hP) (Nat.le_of_ble_eq_true rfl) (m_put 2 rfl hP (by decide) rpl_z (by omega) (by omega)) ?_
          rintro _ σ ⟨rfl, hP⟩
          refine cV ?_
          refine x_lr (z := some 2281) T_301_192 rfl ?_
          refine x_li (z := s) T_301_193 rfl ?_
          refine x_lr (z := some 2281) T_301_194 rfl ?_
          refine x_gR (z := some 2306) T_301_195 F_17_30 (PM.t hP) (PM.r hP 30 2306 rfl) ?_
          refine x_li (z := k) T_301_198 rfl ?_
          refine x_alI (z := P 2306 k) T_301_200 (by decide) (PM.ta hP 2306 0 288 rfl rfl) (by omega) (by omega) (PM.aP hP 2306 rfl rfl (by omega)) ?_
          refine x_cv3 T_301_201 mN_288 mL_288 (Nat.le_of_ble_eq_true rfl) mO_288 (PM.t hP) (Nat.le_of_ble_eq_true rfl) (m_putStat hP hI (by omega) (rA_zn (leb_z 2 _ rfl) rpl_z) (by omega)) ?_
          rintro _ σ ⟨rfl, hP⟩
          refine cV ?_
          refine x_rv T_301_204 ?_
          rw [rA_rA] at hP
          exact SV_ok hP hR h0 (byt_app (byt_leb 2 _) (byt_statL _ _ _)) (by rw [List.length_append, leb_len]; have := statL_len (P := P) (s := s) (n := P 2306 k) hnn.1; omega)
        · rw [show onE P s k 124 = 1 by unfold onE; rw [if_neg hkn, if_neg (by decide), if_pos hg]]
          refine CL_in mL_301 rfl ?_
          show WP fb _ 301 0 [some (vR (some 2281)), some (vI s), some (vI c), some (vI 124), none, none, none, none] [] σ _
          refine x_lr (z := some 2281) T_301_0 rfl ?_
          refine x_ic T_301_1 ?_
          refine x_cv2 T_301_2 mN_234 mL_234 (Nat.le_of_ble_eq_true rfl) mO_234 (PM.t hP) (Nat.le_of_ble_eq_true rfl) (r_num 4 rfl hP hR (by decide) hv1) ?_
          rintro _ σ ⟨rfl, S1, hP, hR⟩
          refine cL ?_
          refine x_sl (ls1 := [some (vR (some 2281)), some (vI s), some (vI c), some (vI 124), some (vL v), none, none, none]) T_301_5 rfl ?_
          refine x_lr (z := some 2281) T_301_7 rfl ?_
          have hw := r_isWhole (fb := fb) (d := d + 3) hP hR
          rw [if_pos hh, if_pos hh] at hw
          refine x_cv1 T_301_8 mN_241 mL_241 (Nat.le_of_ble_eq_true rfl) mO_241 (PM.t hP) (Nat.le_of_ble_eq_true rfl) (hw) ?_
          rintro _ σ ⟨rfl, hP⟩
          refine cI ?_
          refine x_if T_301_11 (fun _ => ?_) (fun h => absurd (show ¬ (1 : Int) = 0 by decide) h)
          refine x_lr (z := some 2281) T_301_15 rfl ?_
          refine x_li (z := s) T_301_16 rfl ?_
          refine x_li (z := c) T_301_17 rfl ?_
          refine x_ll (z := v) T_301_18 rfl ?_
          refine x_cv4 T_301_20 mN_261 mL_261 (Nat.le_of_ble_eq_true rfl) mO_261 (PM.t hP) (Nat.le_of_ble_eq_true rfl) (CL_val (m_findFid hP (by omega) (by omega)) hk0) ?_
          rintro _ σ ⟨rfl, rfl⟩
          refine cI ?_
          refine x_si (ls1 := [some (vR (some 2281)), some (vI s), some (vI c), some (vI 124), some (vL v), none, some (vI k), none]) T_301_23 rfl ?_
          refine x_li (z := k) T_301_25 rfl ?_
          refine x_if T_301_27 (fun _ => ?_) (fun h => absurd (show 0 ≤ k by omega) h)
          refine x_li (z := 124) T_301_39 rfl ?_
          refine x_ic T_301_40 ?_
          refine x_ic2 T_301_42 (fun _ => ?_) (fun h => absurd (show ¬ (124 : Int) = 120 by decide) h)
          refine x_li (z := 124) T_301_61 rfl ?_
          refine x_ic T_301_62 ?_
          refine x_ic2 T_301_64 (fun _ => ?_) (fun h => absurd (show ¬ (124 : Int) = 122 by decide) h)
          refine x_lr (z := some 2281) T_301_150 rfl ?_
          refine x_gR (z := some 2310) T_301_151 F_17_34 (PM.t hP) (PM.r hP 34 2310 rfl) ?_
          refine x_li (z := k) T_301_154 rfl ?_
          have b1 : 0 ≤ P 2310 k ∧ P 2310 k ≤ 1 := IV.a hI 2310 2 288 rfl rfl rfl (by omega) (by omega)
          refine x_alI (z := P 2310 k) T_301_156 (by decide) (PM.ta hP 2310 2 288 rfl rfl) (by omega) (by omega) (PM.aP hP 2310 rfl rfl (by omega)) ?_
          refine x_if T_301_157 (fun h => absurd (show P 2310 k = 0 from h) (by exact hg)) (fun _ => ?_)
          refine x_lr (z := some 2281) T_301_160 rfl ?_
          refine x_ic T_301_161 ?_
          refine x_cv2 T_301_162 mN_235 mL_235 (Nat.le_of_ble_eq_true rfl) mO_235 (PM.t hP) (Nat.le_of_ble_eq_true rfl) (m_refuse hP (by omega)) ?_
          rintro _ σ ⟨rfl, hP⟩
          refine cV ?_
          refine x_goto T_301_165 ?_
          refine x_rv T_301_204 ?_
          exact SV_no hP hR (by decide)
  · have hh : ¬ (av (S 2281 4) 7 4 = S 2281 4 ∧ 0 ≤ av (S 2281 4) 7 4) := fun q => h11 (hw0.mp q)
    rw [if_neg h11, if_neg h11]
    refine CL_in mL_301 rfl ?_
    show WP fb _ 301 0 [some (vR (some 2281)), some (vI s), some (vI c), some (vI t), none, none, none, none] [] σ _
    refine x_lr (z := some 2281) T_301_0 rfl ?_
    refine x_ic T_301_1 ?_
    refine x_cv2 T_301_2 mN_234 mL_234 (Nat.le_of_ble_eq_true rfl) mO_234 (PM.t hP) (Nat.le_of_ble_eq_true rfl) (r_num 4 rfl hP hR (by decide) rfl) ?_
    rintro _ σ ⟨rfl, S1, hP, hR⟩
    refine cL ?_
    refine x_sl (ls1 := [some (vR (some 2281)), some (vI s), some (vI c), some (vI t), some (vL (nv (S 2285) (S 2281 4) 7 4)), none, none, none]) T_301_5 rfl ?_
    refine x_lr (z := some 2281) T_301_7 rfl ?_
    have hw := r_isWhole (fb := fb) (d := d + 3) hP hR
    rw [if_neg hh, if_neg hh] at hw
    refine x_cv1 T_301_8 mN_241 mL_241 (Nat.le_of_ble_eq_true rfl) mO_241 (PM.t hP) (Nat.le_of_ble_eq_true rfl) (hw) ?_
    rintro _ σ ⟨rfl, hP⟩
    refine cI ?_
    refine x_if T_301_11 (fun h => absurd (show ¬ (0 : Int) = 0 from h) (by decide)) (fun _ => ?_)
    refine x_rv T_301_14 ?_
    exact SV_no hP hR (by decide)
end MSERVE2
