/-! ls: the loop of its reads; the members of a point; the command. -/
theorem T_375_0 : hTab 375 0 = some ((3, 0, 2, []), 1) := rfl
theorem T_375_1 : hTab 375 1 = some ((3, 1, 0, []), 2) := rfl
theorem T_375_2 : hTab 375 2 = some ((0, 0, 1, []), 3) := rfl
theorem T_375_3 : hTab 375 3 = some ((0, 0, 1, []), 4) := rfl
theorem T_375_4 : hTab 375 4 = some ((31, 327, 0, []), 7) := rfl
theorem T_375_7 : hTab 375 7 = some ((4, 2, 0, []), 8) := rfl
theorem T_375_8 : hTab 375 8 = some ((3, 2, 0, []), 9) := rfl
theorem T_375_9 : hTab 375 9 = some ((18, 5, Int.ofNat 14, []), 12) := rfl
theorem T_375_12 : hTab 375 12 = some ((3, 2, 0, []), 13) := rfl
theorem T_375_13 : hTab 375 13 = some ((33, 1, 0, []), 14) := rfl
theorem T_375_14 : hTab 375 14 = some ((3, 0, 2, []), 15) := rfl
theorem T_375_15 : hTab 375 15 = some ((3, 0, 2, []), 16) := rfl
theorem T_375_16 : hTab 375 16 = some ((24, 17, Int.ofNat 91, []), 19) := rfl
theorem T_375_19 : hTab 375 19 = some ((0, 0, 1, []), 20) := rfl
theorem T_375_20 : hTab 375 20 = some ((10, 1, 0, []), 21) := rfl
theorem T_375_21 : hTab 375 21 = some ((31, 348, 0, []), 24) := rfl
theorem T_375_24 : hTab 375 24 = some ((18, 1, Int.ofNat 29, []), 27) := rfl
theorem T_375_27 : hTab 375 27 = some ((0, 0, 2, []), 28) := rfl
theorem T_375_28 : hTab 375 28 = some ((33, 1, 0, []), 29) := rfl
theorem T_375_29 : hTab 375 29 = some ((3, 0, 2, []), 30) := rfl
theorem T_375_30 : hTab 375 30 = some ((24, 17, Int.ofNat 90, []), 33) := rfl
theorem T_375_33 : hTab 375 33 = some ((3, 0, 2, []), 34) := rfl
theorem T_375_34 : hTab 375 34 = some ((24, 17, Int.ofNat 91, []), 37) := rfl
theorem T_375_37 : hTab 375 37 = some ((0, 0, 1, []), 38) := rfl
theorem T_375_38 : hTab 375 38 = some ((10, 1, 0, []), 39) := rfl
theorem T_375_39 : hTab 375 39 = some ((26, 0, 0, []), 40) := rfl
theorem T_375_40 : hTab 375 40 = some ((4, 3, 0, []), 41) := rfl
theorem T_375_41 : hTab 375 41 = some ((3, 3, 0, []), 42) := rfl
theorem T_375_42 : hTab 375 42 = some ((18, 3, Int.ofNat 51, []), 45) := rfl
theorem T_375_45 : hTab 375 45 = some ((3, 0, 2, []), 46) := rfl
theorem T_375_46 : hTab 375 46 = some ((3, 1, 0, []), 47) := rfl
theorem T_375_47 : hTab 375 47 = some ((31, 376, 0, []), 50) := rfl
theorem T_375_50 : hTab 375 50 = some ((33, 1, 0, []), 51) := rfl
theorem T_375_51 : hTab 375 51 = some ((3, 0, 2, []), 52) := rfl
theorem T_375_52 : hTab 375 52 = some ((31, 344, 0, []), 55) := rfl
theorem T_375_55 : hTab 375 55 = some ((0, 0, 0, []), 56) := rfl
theorem T_375_56 : hTab 375 56 = some ((4, 4, 0, []), 58) := rfl
theorem T_375_58 : hTab 375 58 = some ((3, 4, 0, []), 60) := rfl
theorem T_375_60 : hTab 375 60 = some ((3, 0, 2, []), 61) := rfl
theorem T_375_61 : hTab 375 61 = some ((24, 17, Int.ofNat 67, []), 64) := rfl
theorem T_375_64 : hTab 375 64 = some ((3, 3, 0, []), 65) := rfl
theorem T_375_65 : hTab 375 65 = some ((26, 0, 0, []), 66) := rfl
theorem T_375_66 : hTab 375 66 = some ((19, 3, Int.ofNat 141, []), 69) := rfl
theorem T_375_69 : hTab 375 69 = some ((0, 0, 6, []), 71) := rfl
theorem T_375_71 : hTab 375 71 = some ((3, 3, 0, []), 72) := rfl
theorem T_375_72 : hTab 375 72 = some ((10, 2, 0, []), 73) := rfl
theorem T_375_73 : hTab 375 73 = some ((3, 4, 0, []), 75) := rfl
theorem T_375_75 : hTab 375 75 = some ((10, 0, 0, []), 76) := rfl
theorem T_375_76 : hTab 375 76 = some ((4, 5, 0, []), 78) := rfl
theorem T_375_78 : hTab 375 78 = some ((3, 0, 2, []), 79) := rfl
theorem T_375_79 : hTab 375 79 = some ((3, 0, 2, []), 80) := rfl
theorem T_375_80 : hTab 375 80 = some ((24, 17, Int.ofNat 68, []), 83) := rfl
theorem T_375_83 : hTab 375 83 = some ((3, 5, 0, []), 85) := rfl
theorem T_375_85 : hTab 375 85 = some ((26, 0, 0, []), 86) := rfl
theorem T_375_86 : hTab 375 86 = some ((3, 0, 2, []), 87) := rfl
theorem T_375_87 : hTab 375 87 = some ((24, 17, Int.ofNat 69, []), 90) := rfl
theorem T_375_90 : hTab 375 90 = some ((3, 5, 0, []), 92) := rfl
theorem T_375_92 : hTab 375 92 = some ((26, 0, 0, []), 93) := rfl
theorem T_375_93 : hTab 375 93 = some ((3, 0, 2, []), 94) := rfl
theorem T_375_94 : hTab 375 94 = some ((24, 17, Int.ofNat 70, []), 97) := rfl
theorem T_375_97 : hTab 375 97 = some ((3, 5, 0, []), 99) := rfl
theorem T_375_99 : hTab 375 99 = some ((26, 0, 0, []), 100) := rfl
theorem T_375_100 : hTab 375 100 = some ((3, 0, 2, []), 101) := rfl
theorem T_375_101 : hTab 375 101 = some ((24, 17, Int.ofNat 71, []), 104) := rfl
theorem T_375_104 : hTab 375 104 = some ((3, 5, 0, []), 106) := rfl
theorem T_375_106 : hTab 375 106 = some ((26, 0, 0, []), 107) := rfl
theorem T_375_107 : hTab 375 107 = some ((31, 333, 0, []), 110) := rfl
theorem T_375_110 : hTab 375 110 = some ((4, 2, 0, []), 111) := rfl
theorem T_375_111 : hTab 375 111 = some ((3, 2, 0, []), 112) := rfl
theorem T_375_112 : hTab 375 112 = some ((18, 5, Int.ofNat 119, []), 115) := rfl
theorem T_375_115 : hTab 375 115 = some ((3, 2, 0, []), 116) := rfl
theorem T_375_116 : hTab 375 116 = some ((22, 0, Int.ofNat 124, []), 119) := rfl
theorem T_375_119 : hTab 375 119 = some ((3, 0, 2, []), 120) := rfl
theorem T_375_120 : hTab 375 120 = some ((3, 1, 0, []), 121) := rfl
theorem T_375_121 : hTab 375 121 = some ((31, 376, 0, []), 124) := rfl
theorem T_375_124 : hTab 375 124 = some ((4, 2, 0, []), 125) := rfl
theorem T_375_125 : hTab 375 125 = some ((3, 2, 0, []), 126) := rfl
theorem T_375_126 : hTab 375 126 = some ((18, 5, Int.ofNat 131, []), 129) := rfl
theorem T_375_129 : hTab 375 129 = some ((3, 2, 0, []), 130) := rfl
theorem T_375_130 : hTab 375 130 = some ((33, 1, 0, []), 131) := rfl
theorem T_375_131 : hTab 375 131 = some ((3, 0, 2, []), 132) := rfl
theorem T_375_132 : hTab 375 132 = some ((31, 344, 0, []), 135) := rfl
theorem T_375_135 : hTab 375 135 = some ((5, 4, 1, []), 138) := rfl
theorem T_375_138 : hTab 375 138 = some ((22, 0, Int.ofNat 58, []), 141) := rfl
theorem T_375_141 : hTab 375 141 = some ((0, 0, 0, []), 142) := rfl
theorem T_375_142 : hTab 375 142 = some ((33, 1, 0, []), 143) := rfl
theorem T_376_0 : hTab 376 0 = some ((3, 0, 2, []), 1) := rfl
theorem T_376_1 : hTab 376 1 = some ((24, 17, Int.ofNat 91, []), 4) := rfl
theorem T_376_4 : hTab 376 4 = some ((0, 0, 1, []), 5) := rfl
theorem T_376_5 : hTab 376 5 = some ((10, 1, 0, []), 6) := rfl
theorem T_376_6 : hTab 376 6 = some ((4, 2, 0, []), 7) := rfl
theorem T_376_7 : hTab 376 7 = some ((3, 0, 2, []), 8) := rfl
theorem T_376_8 : hTab 376 8 = some ((3, 0, 2, []), 9) := rfl
theorem T_376_9 : hTab 376 9 = some ((24, 17, Int.ofNat 86, []), 12) := rfl
theorem T_376_12 : hTab 376 12 = some ((3, 2, 0, []), 13) := rfl
theorem T_376_13 : hTab 376 13 = some ((26, 0, 0, []), 14) := rfl
theorem T_376_14 : hTab 376 14 = some ((3, 0, 2, []), 15) := rfl
theorem T_376_15 : hTab 376 15 = some ((24, 17, Int.ofNat 87, []), 18) := rfl
theorem T_376_18 : hTab 376 18 = some ((3, 2, 0, []), 19) := rfl
theorem T_376_19 : hTab 376 19 = some ((26, 0, 0, []), 20) := rfl
theorem T_376_20 : hTab 376 20 = some ((0, 0, 0, []), 21) := rfl
theorem T_376_21 : hTab 376 21 = some ((31, 349, 0, []), 24) := rfl
theorem T_376_24 : hTab 376 24 = some ((4, 3, 0, []), 25) := rfl
theorem T_376_25 : hTab 376 25 = some ((0, 0, 0, []), 26) := rfl
theorem T_376_26 : hTab 376 26 = some ((4, 4, 0, []), 28) := rfl
theorem T_376_28 : hTab 376 28 = some ((3, 3, 0, []), 29) := rfl
theorem T_376_29 : hTab 376 29 = some ((18, 1, Int.ofNat 36, []), 32) := rfl
theorem T_376_32 : hTab 376 32 = some ((0, 0, 1, []), 33) := rfl
theorem T_376_33 : hTab 376 33 = some ((22, 0, Int.ofNat 37, []), 36) := rfl
theorem T_376_36 : hTab 376 36 = some ((0, 0, 0, []), 37) := rfl
theorem T_376_37 : hTab 376 37 = some ((4, 5, 0, []), 39) := rfl
theorem T_376_39 : hTab 376 39 = some ((3, 5, 0, []), 41) := rfl
theorem T_376_41 : hTab 376 41 = some ((18, 0, Int.ofNat 215, []), 44) := rfl
theorem T_376_44 : hTab 376 44 = some ((3, 0, 2, []), 45) := rfl
theorem T_376_45 : hTab 376 45 = some ((3, 0, 2, []), 46) := rfl
theorem T_376_46 : hTab 376 46 = some ((24, 17, Int.ofNat 86, []), 49) := rfl
theorem T_376_49 : hTab 376 49 = some ((3, 2, 0, []), 50) := rfl
theorem T_376_50 : hTab 376 50 = some ((26, 0, 0, []), 51) := rfl
theorem T_376_51 : hTab 376 51 = some ((3, 0, 2, []), 52) := rfl
theorem T_376_52 : hTab 376 52 = some ((24, 17, Int.ofNat 87, []), 55) := rfl
theorem T_376_55 : hTab 376 55 = some ((3, 2, 0, []), 56) := rfl
theorem T_376_56 : hTab 376 56 = some ((26, 0, 0, []), 57) := rfl
theorem T_376_57 : hTab 376 57 = some ((3, 4, 0, []), 59) := rfl
theorem T_376_59 : hTab 376 59 = some ((0, 0, 100, []), 61) := rfl
theorem T_376_61 : hTab 376 61 = some ((31, 350, 0, []), 64) := rfl
theorem T_376_64 : hTab 376 64 = some ((4, 3, 0, []), 65) := rfl
theorem T_376_65 : hTab 376 65 = some ((3, 3, 0, []), 66) := rfl
theorem T_376_66 : hTab 376 66 = some ((18, 5, Int.ofNat 73, []), 69) := rfl
theorem T_376_69 : hTab 376 69 = some ((0, 0, 0, []), 70) := rfl
theorem T_376_70 : hTab 376 70 = some ((22, 0, Int.ofNat 81, []), 73) := rfl
theorem T_376_73 : hTab 376 73 = some ((3, 0, 2, []), 74) := rfl
theorem T_376_74 : hTab 376 74 = some ((0, 0, 7, []), 76) := rfl
theorem T_376_76 : hTab 376 76 = some ((0, 0, 4, []), 77) := rfl
theorem T_376_77 : hTab 376 77 = some ((31, 339, 0, []), 80) := rfl
theorem T_376_80 : hTab 376 80 = some ((15, 0, 0, []), 81) := rfl
theorem T_376_81 : hTab 376 81 = some ((4, 6, 0, []), 83) := rfl
theorem T_376_193 : hTab 376 193 = some ((3, 4, 0, []), 195) := rfl
theorem T_376_195 : hTab 376 195 = some ((3, 6, 0, []), 197) := rfl
theorem T_376_197 : hTab 376 197 = some ((10, 0, 0, []), 198) := rfl
theorem T_376_198 : hTab 376 198 = some ((4, 4, 0, []), 200) := rfl
theorem T_376_200 : hTab 376 200 = some ((3, 6, 0, []), 202) := rfl
theorem T_376_202 : hTab 376 202 = some ((18, 5, Int.ofNat 209, []), 205) := rfl
theorem T_376_205 : hTab 376 205 = some ((0, 0, 1, []), 206) := rfl
theorem T_376_206 : hTab 376 206 = some ((22, 0, Int.ofNat 210, []), 209) := rfl
theorem T_376_209 : hTab 376 209 = some ((0, 0, 0, []), 210) := rfl
theorem T_376_210 : hTab 376 210 = some ((4, 5, 0, []), 212) := rfl
theorem T_376_212 : hTab 376 212 = some ((22, 0, Int.ofNat 39, []), 215) := rfl
theorem T_376_215 : hTab 376 215 = some ((3, 3, 0, []), 216) := rfl
theorem T_376_216 : hTab 376 216 = some ((33, 1, 0, []), 217) := rfl
theorem mN_375 : hmN 375 = 2 := by decide +kernel
theorem mL_375 : hmL 375 = 6 := by decide +kernel
theorem mK_375 : hmK 375 = 1 := by decide +kernel
theorem mO_375 : hmO 375 = 17 := by decide +kernel
def lsM (p pt : Int) : Nat → Int → qR → Int × qR × List Ch
  | 0, _, P => (0, P, [])
  | m + 1, j, P => if 0 < kCpE P (P 2338 (6 * pt + j)) (P 2339 (6 * pt + j)) then (kCpE P (P 2338 (6 * pt + j)) (P 2339 (6 * pt + j)), kCpP P (P 2338 (6 * pt + j)) (P 2339 (6 * pt + j)), []) else if 0 < (cList (kCpP P (P 2338 (6 * pt + j)) (P 2339 (6 * pt + j))) p (P 2338 (6 * pt + j), qNewF P (P 2338 (6 * pt + j)), P 2340 (6 * pt + j), P 2341 (6 * pt + j), -1)).1 then ((cList (kCpP P (P 2338 (6 * pt + j)) (P 2339 (6 * pt + j))) p (P 2338 (6 * pt + j), qNewF P (P 2338 (6 * pt + j)), P 2340 (6 * pt + j), P 2341 (6 * pt + j), -1)).1, (cList (kCpP P (P 2338 (6 * pt + j)) (P 2339 (6 * pt + j))) p (P 2338 (6 * pt + j), qNewF P (P 2338 (6 * pt + j)), P 2340 (6 * pt + j), P 2341 (6 * pt + j), -1)).2, [(P 2338 (6 * pt + j), qNewF P (P 2338 (6 * pt + j)), P 2340 (6 * pt + j), P 2341 (6 * pt + j), -1)]) else lsM p pt m (j + 1) (kDrop (cList (kCpP P (P 2338 (6 * pt + j)) (P 2339 (6 * pt + j))) p (P 2338 (6 * pt + j), qNewF P (P 2338 (6 * pt + j)), P 2340 (6 * pt + j), P 2341 (6 * pt + j), -1)).2 (P 2338 (6 * pt + j), qNewF P (P 2338 (6 * pt + j)), P 2340 (6 * pt + j), P 2341 (6 * pt + j), -1))
/-- the members' copies are directories -/
def lsMok (p pt : Int) : Nat → Int → qR → Prop
  | 0, _, _ => True
  | m + 1, j, P => kCpE P (P 2338 (6 * pt + j)) (P 2339 (6 * pt + j)) = 0 → isD (kCpP P (P 2338 (6 * pt + j)) (P 2339 (6 * pt + j))) (P 2338 (6 * pt + j)) (qNewF P (P 2338 (6 * pt + j))) ∧ ((cList (kCpP P (P 2338 (6 * pt + j)) (P 2339 (6 * pt + j))) p (P 2338 (6 * pt + j), qNewF P (P 2338 (6 * pt + j)), P 2340 (6 * pt + j), P 2341 (6 * pt + j), -1)).1 = 0 → lsMok p pt m (j + 1) (kDrop (cList (kCpP P (P 2338 (6 * pt + j)) (P 2339 (6 * pt + j))) p (P 2338 (6 * pt + j), qNewF P (P 2338 (6 * pt + j)), P 2340 (6 * pt + j), P 2341 (6 * pt + j), -1)).2 (P 2338 (6 * pt + j), qNewF P (P 2338 (6 * pt + j)), P 2340 (6 * pt + j), P 2341 (6 * pt + j), -1)))
def lsW (P : qR) (p : Int) (c : Ch) : Int × qR × List Ch := if and32 c.2.2.2.1 128 = 0 then (2, P, [c]) else if c.2.2.2.2 < 0 then ((cList P p c).1, (cList P p c).2, [c]) else lsM p c.2.2.2.2 (kDrop P c 2337 c.2.2.2.2).toNat 0 (kDrop P c)
def cLs (P : qR) (p : Int) (wd : List Int) : Int × qR × List Ch := if 0 < (kWW P p 1 wd).1 then ((kWW P p 1 wd).1, (kWW P p 1 wd).2.1, []) else lsW (kWW P p 1 wd).2.1 p (kWW P p 1 wd).2.2
/-- what is listed are directories -/
def lsOk (P : qR) (p : Int) (wd : List Int) : Prop := (kWW P p 1 wd).1 = 0 → ¬ and32 (kWW P p 1 wd).2.2.2.2.2.1 128 = 0 → ((kWW P p 1 wd).2.2.2.2.2.2 < 0 → isD (kWW P p 1 wd).2.1 (kWW P p 1 wd).2.2.1 (kWW P p 1 wd).2.2.2.1) ∧ (0 ≤ (kWW P p 1 wd).2.2.2.2.2.2 → lsMok p (kWW P p 1 wd).2.2.2.2.2.2 (kDrop (kWW P p 1 wd).2.1 (kWW P p 1 wd).2.2 2337 (kWW P p 1 wd).2.2.2.2.2.2).toNat 0 (kDrop (kWW P p 1 wd).2.1 (kWW P p 1 wd).2.2))
/-- all rows but the servers' and what is told -/
def KFO (Q P : qR) : Prop := ∀ (f : Nat) (k : Int), srvRow f = false → f ≠ 2281 → f ≠ 2316 → f ≠ 2317 → f ≠ 2328 → f ≠ 2329 → Q f k = P f k
section MLS2
variable {fb : Bool} {d : Nat} {σ0 σ : hM} {P Q R S S1 S2 : qR} {T U s w g u p k e t z o thr pt off n fd : Int} {l l1 l2 nm wd A D : List Int} {h : List Ch} {a f : Int → Int} {x : Int × Int} {c : Ch} {l6 l7 l8 l9 : Option AV}
theorem KFO_kf (h : KF Q P) : KFO Q P := fun f k a b c d _ _ => h f k a b c d
theorem KFO_tr (h1 : KFO R Q) (h2 : KFO Q P) : KFO R P := fun f k a b c d e g => (h1 f k a b c d e g).trans (h2 f k a b c d e g)
theorem KFO_rdl {o : qR → List Int → qR} (ho : ∀ P D, KFO (o P D) P) {s f : Int} : ∀ (m : Nat) (P : qR) (off : Int), KFO (kRdl o s f m P off).2.1 P
  | 0, _, _ => fun _ _ _ _ _ _ _ _ => rfl
  | m + 1, P, off => by
    unfold kRdl
    split
    · exact KFO_kf KF_tP
    · split
      · exact KFO_kf KF_tP
      · exact KFO_tr (KFO_rdl ho m _ _) (KFO_tr (ho _ _) (KFO_kf KF_tP))
theorem KFO_list : KFO (cList P p c).2 P := by
  unfold cList
  split
  · exact KFO_kf KF_tP
  · exact KFO_tr (KFO_rdl (fun P D f k _ _ _ _ a b => gOut_f a b _ P) _ _ _) (KFO_kf KF_tP)
theorem kRdl_rng {o : qR → List Int → qR} {s f : Int} : ∀ (m : Nat) (P : qR) (off : Int), 0 ≤ (kRdl o s f m P off).1
  | 0, _, _ => Int.le_refl 0
  | m + 1, P, off => by
    unfold kRdl
    split
    · rename_i q
      exact Int.le_of_lt q
    · split
      · exact Int.le_refl 0
      · exact kRdl_rng m _ _
theorem cList_rng : 0 ≤ (cList P p c).1 := by
  unfold cList
  split
  · rename_i q
    exact Int.le_of_lt q
  · exact kRdl_rng _ _ _
theorem m_ls_out (hp : 0 ≤ p ∧ p < 8) : ∀ (m : Nat) (T off e0 : Int) (l6 l7 l8 l9 : Option AV) (σ : hM) (P S : qR), isD P c.1 c.2.1 → 0 ≤ lsMu P c.1 c.2.1 off → lsMu P c.1 c.2.1 off < m → 0 ≤ off → off + 100 * m ≤ 1000000 → T + 4 * m + 49 ≤ 2147483000 → PM σ0 P S σ → KS T U P S l [c] → WP fb (d + 12) 376 39 [some (vR (some 2281)), some (vI p), some (vI 0), some (vI e0), some (vI off), some (vI 1), l6, l7, l8, l9] [] σ (fun r σ' => ∃ S2 : qR, r = some (vI (kRdl (oL p) c.1 c.2.1 m P off).1) ∧ PM σ0 (kRdl (oL p) c.1 c.2.1 m P off).2.1 S2 σ' ∧ KS (T + 4 * m) U (kRdl (oL p) c.1 c.2.1 m P off).2.1 S2 l [c] ∧ SX scR scN S S2) := by
  intro m
  induction m with
  | zero =>
    intro T off e0 l6 l7 l8 l9 σ P S hD h1 h2
    have h2 : lsMu P c.1 c.2.1 off < ((0 : Nat) : Int) := h2
    omega
  | succ m ih =>
    intro T off e0 l6 l7 l8 l9 σ P S hD h1 h2 h3 h4 h5 hP hK
    obtain ⟨g1, g2, g3, g4, g5, g6, g7⟩ := HS.last (h := []) hK.2.2.2.1
    obtain ⟨c1, c2, -⟩ := HS.ch (h := []) hK.2.2.1 hK.2.2.2.1
    have hs : 0 ≤ c.1 ∧ c.1 < 3 := by omega
    have hfd : 0 ≤ c.2.1 ∧ c.2.1 ≤ 4294967295 := by omega
    have hof : 0 ≤ off ∧ off ≤ 9223372036854775807 := by omega
    have hrd := fun (σ : hM) (hP : PM σ0 P S σ) => g_askRead (fb := fb) (d := d) (σ := σ) (f := c.2.1) (o := off) (n := 100) hP hK.2.2.1 hK.1 (by omega) hs
    have hml := rdMu_less hK.1 hs (fd := c.2.1) (off := off) hfd hof
    have hrok := rd_ok (P := P) (s := c.1) (fd := c.2.1) (off := off) (n := 100)
    have hgn := rd_gone (P := P) (s := c.1) (fd := c.2.1) (off := off) hfd hof
    have hst := rd_dir hK.1 hs hD hfd hof
    have hDr := fun he => isD_rd (P := P) (s := c.1) (off := off) hfd hof he hD
    have her := tE_rng (P := P) (s := c.1) (l := mRead c.2.1 off 100)
    unfold kRdl
    obtain ⟨A, hA0⟩ : ∃ A, tA P c.1 (mRead c.2.1 off 100) = A := ⟨_, rfl⟩
    obtain ⟨P1, hP1⟩ : ∃ P1, tP P c.1 (mRead c.2.1 off 100) = P1 := ⟨_, rfl⟩
    obtain ⟨e, he⟩ : ∃ e, tE P c.1 (mRead c.2.1 off 100) = e := ⟨_, rfl⟩
    rw [he, hA0] at hrok hst
    rw [he] at her hgn
    rw [he, hP1] at hDr
    rw [he, hA0, hP1] at hml
    rw [he, hA0, hP1]
    have e0l : ∀ P, oL p P [] = P := fun P => rfl
    by_cases q3 : 0 < e
    · rw [if_pos q3]
      dsimp only
      refine x_li (z := 1) T_376_39 rfl ?_
      refine x_if T_376_41 (fun h => absurd (show (1 : Int) = 0 from h) (by decide)) (fun _ => ?_)
      refine x_lr (z := some 2281) T_376_44 rfl ?_
      refine x_lr (z := some 2281) T_376_45 rfl ?_
      refine x_gR (z := some 2350) T_376_46 F_17_86 (PM.t hP) (PM.r hP 86 2350 rfl) ?_
      refine x_li (z := 0) T_376_49 rfl ?_
      refine x_alI (z := c.1) T_376_50 (by decide) (PM.ta hP 2350 0 64 rfl rfl) (by omega) (by omega) (Eq.trans (PM.aS hP 2350 rfl rfl (by omega)) g3) ?_
      refine x_lr (z := some 2281) T_376_51 rfl ?_
      refine x_gR (z := some 2351) T_376_52 F_17_87 (PM.t hP) (PM.r hP 87 2351 rfl) ?_
      refine x_li (z := 0) T_376_55 rfl ?_
      refine x_alI (z := c.2.1) T_376_56 (by decide) (PM.ta hP 2351 0 64 rfl rfl) (by omega) (by omega) (Eq.trans (PM.aS hP 2351 rfl rfl (by omega)) g4) ?_
      refine x_li (z := off) T_376_57 rfl ?_
      refine x_ic T_376_59 ?_
      refine x_cv5 T_376_61 mN_350 mL_350 (Nat.le_of_ble_eq_true rfl) mO_350 (PM.t hP) (Nat.le_of_ble_eq_true rfl) (hrd σ hP) ?_
      clear hP
      intro r σ hr
      obtain ⟨S3, hr0, hP, hK3, hX3, hA⟩ := hK.ask (T1 := T + 4) (by omega) hr
      rw [he] at hr0
      subst hr0
      rw [hP1] at hP hK3
      refine cI ?_
      refine x_si (ls1 := [some (vR (some 2281)), some (vI p), some (vI 0), some (vI e), some (vI off), some (vI 1), l6, l7, l8, l9]) T_376_64 rfl ?_
      refine x_li (z := e) T_376_65 rfl ?_
      refine x_if T_376_66 (fun h => absurd (show e ≤ 0 from h) (by omega)) (fun _ => ?_)
      refine x_ic T_376_69 ?_
      refine x_goto T_376_70 ?_
      refine x_si (ls1 := [some (vR (some 2281)), some (vI p), some (vI 0), some (vI e), some (vI off), some (vI 1), some (vI 0), l7, l8, l9]) T_376_81 rfl ?_
      refine x_ic T_376_83 ?_
      refine x_si (ls1 := [some (vR (some 2281)), some (vI p), some (vI 0), some (vI e), some (vI off), some (vI 1), some (vI 0), some (vI 11), l8, l9]) T_376_85 rfl ?_
      refine x_li (z := 11) T_376_87 rfl ?_
      refine x_ic T_376_89 ?_
      refine x_li (z := 0) T_376_91 rfl ?_
      refine x_ib (w := 11) T_376_93 (fun h => absurd h.1 (by decide)) (by decide) ?_
      refine x_ic2 T_376_94 (fun _ => ?_) (fun h => absurd (show 11 ≤ (11 : Int) by decide) h)
      refine x_li (z := off) T_376_193 rfl ?_
      refine x_li (z := 0) T_376_195 rfl ?_
      refine x_ib (w := (off + 0)) T_376_197 (fun h => absurd h.1 (by decide)) (w32_id (by omega) (by omega)) ?_
      refine x_si (ls1 := [some (vR (some 2281)), some (vI p), some (vI 0), some (vI e), some (vI (off + 0)), some (vI 1), some (vI 0), some (vI 11), l8, l9]) T_376_198 rfl ?_
      refine x_li (z := 0) T_376_200 rfl ?_
      refine x_if T_376_202 (fun _ => ?_) (fun h => absurd (show (0 : Int) ≤ 0 by decide) h)
      refine x_ic T_376_209 ?_
      refine x_si (ls1 := [some (vR (some 2281)), some (vI p), some (vI 0), some (vI e), some (vI (off + 0)), some (vI 0), some (vI 0), some (vI 11), l8, l9]) T_376_210 rfl ?_
      refine x_goto T_376_212 ?_
      refine x_li (z := 0) T_376_39 rfl ?_
      refine x_if T_376_41 (fun _ => ?_) (fun h => absurd (show (0 : Int) = 0 by decide) h)
      refine x_li (z := e) T_376_215 rfl ?_
      refine x_ri T_376_216 ?_
      exact ⟨S3, rfl, hP, hK3.mono (by omega), hX3⟩
    · have q4 : e = 0 := by omega
      subst q4
      rw [if_neg q3]
      have hml := hml rfl
      have hst := hst rfl
      obtain ⟨n, hn⟩ : ∃ n : Int, ((rdB A).length : Int) = n := ⟨_, rfl⟩
      rw [hn] at hml hrok ⊢
      have key : ∀ (S3 : qR) (σ : hM), PM σ0 P1 S3 σ → KS (T + 4) U P1 S3 l [c] → SX scR scN S S3 → AN S3 A → ((A.length : Int) = 11 + n) → WP fb (d + 12) 376 83 [some (vR (some 2281)), some (vI p), some (vI 0), some (vI 0), some (vI off), some (vI 1), some (vI n), l7, l8, l9] [] σ (fun r σ' => ∃ S2 : qR, r = some (vI (if (rdB A).length = 0 then ((0 : Int), P1, ([] : List Int)) else ((kRdl (oL p) c.1 c.2.1 m (oL p P1 (rdB A)) (off + n)).1, (kRdl (oL p) c.1 c.2.1 m (oL p P1 (rdB A)) (off + n)).2.1, rdB A ++ (kRdl (oL p) c.1 c.2.1 m (oL p P1 (rdB A)) (off + n)).2.2)).1) ∧ PM σ0 (if (rdB A).length = 0 then ((0 : Int), P1, ([] : List Int)) else ((kRdl (oL p) c.1 c.2.1 m (oL p P1 (rdB A)) (off + n)).1, (kRdl (oL p) c.1 c.2.1 m (oL p P1 (rdB A)) (off + n)).2.1, rdB A ++ (kRdl (oL p) c.1 c.2.1 m (oL p P1 (rdB A)) (off + n)).2.2)).2.1 S2 σ' ∧ KS (T + 4 * ((m + 1 : Nat) : Int)) U (if (rdB A).length = 0 then ((0 : Int), P1, ([] : List Int)) else ((kRdl (oL p) c.1 c.2.1 m (oL p P1 (rdB A)) (off + n)).1, (kRdl (oL p) c.1 c.2.1 m (oL p P1 (rdB A)) (off + n)).2.1, rdB A ++ (kRdl (oL p) c.1 c.2.1 m (oL p P1 (rdB A)) (off + n)).2.2)).2.1 S2 l [c] ∧ SX scR scN S S2) := fun S3 σ hP hK3 hX3 hA h11 => by
        refine m_ls_stat (d := d + 11) (e0 := 0) (fl := 1) (off := off) hp hP hK3 hA hst hn h11 (fun σ l7 l8 l9 hP hK4 => ?_)
        by_cases q5 : n = 0
        · have hb0 : (rdB A).length = 0 := by omega
          rw [if_pos hb0]
          dsimp only
          have hbn : rdB A = [] := List.eq_nil_of_length_eq_zero hb0
          rw [hbn, e0l] at hP hK4
          refine x_li (z := off) T_376_193 rfl ?_
          refine x_li (z := n) T_376_195 rfl ?_
          refine x_ib (w := (off + n)) T_376_197 (fun h => absurd h.1 (by decide)) (w32_id (by omega) (by omega)) ?_
          refine x_si (ls1 := [some (vR (some 2281)), some (vI p), some (vI 0), some (vI 0), some (vI (off + n)), some (vI 1), some (vI n), l7, l8, l9]) T_376_198 rfl ?_
          refine x_li (z := n) T_376_200 rfl ?_
          refine x_if T_376_202 (fun _ => ?_) (fun h => absurd (show n ≤ 0 by omega) h)
          refine x_ic T_376_209 ?_
          refine x_si (ls1 := [some (vR (some 2281)), some (vI p), some (vI 0), some (vI 0), some (vI (off + n)), some (vI 0), some (vI n), l7, l8, l9]) T_376_210 rfl ?_
          refine x_goto T_376_212 ?_
          refine x_li (z := 0) T_376_39 rfl ?_
          refine x_if T_376_41 (fun _ => ?_) (fun h => absurd (show (0 : Int) = 0 by decide) h)
          refine x_li (z := 0) T_376_215 rfl ?_
          refine x_ri T_376_216 ?_
          exact ⟨S3, rfl, hP, hK4.mono (by omega), hX3⟩
        · have hb0 : ¬ (rdB A).length = 0 := by omega
          rw [if_neg hb0]
          dsimp only
          obtain ⟨m1, m2, m3⟩ := hml hb0
          obtain ⟨d1, d2, d3⟩ := hDr rfl
          obtain ⟨i1, i2⟩ := isD_row (Q := oL p P1 (rdB A)) d1 (fun k => gOut_f (by decide) (by decide) _ P1) (fun k => gOut_f (by decide) (by decide) _ P1) (fun k => gOut_f (by decide) (by decide) _ P1) (fun k => gOut_f (by decide) (by decide) _ P1) (fun k => gOut_f (by decide) (by decide) _ P1)
          have hmo : rdMu (oL p P1 (rdB A)) c.1 c.2.1 (off + n) = rdMu P1 c.1 c.2.1 (off + n) := rdMu_out (fun f k a b => gOut_f a b _ P1)
          have hmu0 : lsMu P c.1 c.2.1 off = rdMu P c.1 c.2.1 off := if_pos (hgn rfl).2
          have hmu : 0 ≤ lsMu (oL p P1 (rdB A)) c.1 c.2.1 (off + n) ∧ lsMu (oL p P1 (rdB A)) c.1 c.2.1 (off + n) ≤ rdMu P1 c.1 c.2.1 (off + n) := by
            unfold lsMu
            split
            · rw [hmo]
              exact ⟨m1, Int.le_refl _⟩
            · exact ⟨Int.le_refl _, m1⟩
          have hgo := fun (σ : hM) (l7 l8 l9 : Option AV) (hP : PM σ0 (oL p P1 (rdB A)) S3 σ) => WP.mono (ih (T + 4) (off + n) 0 (some (vI n)) l7 l8 l9 σ (oL p P1 (rdB A)) S3 i1 hmu.1 (by omega) (by omega) (by omega) (by omega) hP hK4) (Q := fun r σ' => ∃ S2 : qR, r = some (vI (kRdl (oL p) c.1 c.2.1 m (oL p P1 (rdB A)) (off + n)).1) ∧ PM σ0 (kRdl (oL p) c.1 c.2.1 m (oL p P1 (rdB A)) (off + n)).2.1 S2 σ' ∧ KS (T + 4 * ((m + 1 : Nat) : Int)) U (kRdl (oL p) c.1 c.2.1 m (oL p P1 (rdB A)) (off + n)).2.1 S2 l [c] ∧ SX scR scN S S2) (fun r σ1 hr => by
            obtain ⟨S5, r1, r2, r3, r4⟩ := hr
            exact ⟨S5, r1, r2, r3.mono (by omega), SX_tr hX3 r4⟩)
          refine x_li (z := off) T_376_193 rfl ?_
          refine x_li (z := n) T_376_195 rfl ?_
          refine x_ib (w := (off + n)) T_376_197 (fun h => absurd h.1 (by decide)) (w32_id (by omega) (by omega)) ?_
          refine x_si (ls1 := [some (vR (some 2281)), some (vI p), some (vI 0), some (vI 0), some (vI (off + n)), some (vI 1), some (vI n), l7, l8, l9]) T_376_198 rfl ?_
          refine x_li (z := n) T_376_200 rfl ?_
          refine x_if T_376_202 (fun h => absurd (show n ≤ 0 from h) (by omega)) (fun _ => ?_)
          refine x_ic T_376_205 ?_
          refine x_goto T_376_206 ?_
          refine x_si (ls1 := [some (vR (some 2281)), some (vI p), some (vI 0), some (vI 0), some (vI (off + n)), some (vI 1), some (vI n), l7, l8, l9]) T_376_210 rfl ?_
          refine x_goto T_376_212 ?_
          exact hgo σ _ _ _ hP
      refine x_li (z := 1) T_376_39 rfl ?_
      refine x_if T_376_41 (fun h => absurd (show (1 : Int) = 0 from h) (by decide)) (fun _ => ?_)
      refine x_lr (z := some 2281) T_376_44 rfl ?_
      refine x_lr (z := some 2281) T_376_45 rfl ?_
      refine x_gR (z := some 2350) T_376_46 F_17_86 (PM.t hP) (PM.r hP 86 2350 rfl) ?_
      refine x_li (z := 0) T_376_49 rfl ?_
      refine x_alI (z := c.1) T_376_50 (by decide) (PM.ta hP 2350 0 64 rfl rfl) (by omega) (by omega) (Eq.trans (PM.aS hP 2350 rfl rfl (by omega)) g3) ?_
      refine x_lr (z := some 2281) T_376_51 rfl ?_
      refine x_gR (z := some 2351) T_376_52 F_17_87 (PM.t hP) (PM.r hP 87 2351 rfl) ?_
      refine x_li (z := 0) T_376_55 rfl ?_
      refine x_alI (z := c.2.1) T_376_56 (by decide) (PM.ta hP 2351 0 64 rfl rfl) (by omega) (by omega) (Eq.trans (PM.aS hP 2351 rfl rfl (by omega)) g4) ?_
      refine x_li (z := off) T_376_57 rfl ?_
      refine x_ic T_376_59 ?_
      refine x_cv5 T_376_61 mN_350 mL_350 (Nat.le_of_ble_eq_true rfl) mO_350 (PM.t hP) (Nat.le_of_ble_eq_true rfl) (hrd σ hP) ?_
      clear hP
      intro r σ hr
      obtain ⟨S3, hr0, hP, hK3, hX3, hA⟩ := hK.ask (T1 := T + 4) (by omega) hr
      rw [he] at hr0
      subst hr0
      rw [hP1] at hP hK3
      rw [hA0] at hA
      obtain ⟨r1, r2, r3⟩ := hrok rfl hA.2.2.1
      have h407 := hA.2.2.1
      refine cI ?_
      refine x_si (ls1 := [some (vR (some 2281)), some (vI p), some (vI 0), some (vI 0), some (vI off), some (vI 1), l6, l7, l8, l9]) T_376_64 rfl ?_
      refine x_li (z := 0) T_376_65 rfl ?_
      refine x_if T_376_66 (fun _ => ?_) (fun h => absurd (show (0 : Int) ≤ 0 by omega) h)
      refine x_lr (z := some 2281) T_376_73 rfl ?_
      refine x_ic T_376_74 ?_
      refine x_ic T_376_76 ?_
      refine x_cv3 T_376_77 mN_339 mL_339 (Nat.le_of_ble_eq_true rfl) mO_339 (PM.t hP) (Nat.le_of_ble_eq_true rfl) ((CL.mono (m_told hP hK3.2.2.1 (by decide) (by decide) (by decide)) (fun r σ1 hr => by rw [show ((4 : Int)).toNat = 4 from rfl, AN_nu hA (by decide) (by omega), r2, w64_id (by omega) (by omega)] at hr; exact hr) : CL fb _ 339 [vR (some 2281), vI 7, vI 4] σ (rPL n σ))) ?_
      rintro _ σ ⟨rfl, rfl⟩
      refine cL ?_
      refine x_l2i (w := n) T_376_80 (w32_id (by omega) (by omega)) ?_
      refine x_si (ls1 := [some (vR (some 2281)), some (vI p), some (vI 0), some (vI 0), some (vI off), some (vI 1), some (vI n), l7, l8, l9]) T_376_81 rfl ?_
      exact key S3 σ hP hK3 hX3 hA (by omega)
theorem m_list (hP : PM σ0 P S σ) (hK : KS T U P S l [c]) (hp : 0 ≤ p ∧ p < 8) (hD : isD P c.1 c.2.1) (hT : T + 400 ≤ 2147483000) : CL fb (d + 12) 376 [vR (some 2281), vI p] σ (KC (T + 264) U σ0 S l (cList P p c).1 (cList P p c).2 [c]) := by
  obtain ⟨g1, g2, g3, g4, g5, g6, g7⟩ := HS.last (h := []) hK.2.2.2.1
  obtain ⟨c1, c2, -⟩ := HS.ch (h := []) hK.2.2.1 hK.2.2.2.1
  have her := tE_rng (P := P) (s := c.1) (l := mOpen c.2.1 0)
  have hDo := isD_op hD
  unfold cList
  obtain ⟨e2, he2⟩ : ∃ e2, tE P c.1 (mOpen c.2.1 0) = e2 := ⟨_, rfl⟩
  obtain ⟨P2, hP2⟩ : ∃ P2, tP P c.1 (mOpen c.2.1 0) = P2 := ⟨_, rfl⟩
  rw [he2] at her
  rw [hP2] at hDo
  rw [he2, hP2]
  by_cases q4 : 0 < e2
  · rw [if_pos q4]
    dsimp only
    refine CL_in mL_376 rfl ?_
    show WP fb _ 376 0 [some (vR (some 2281)), some (vI p), none, none, none, none, none, none, none, none] [] σ _
    refine x_lr (z := some 2281) T_376_0 rfl ?_
    refine x_gI (z := 1) T_376_1 (Or.inl F_17_91) (PM.t hP) (Eq.trans (PM.nS hP 2281 91 91 rfl rfl rfl) g1) ?_
    refine x_ic T_376_4 ?_
    refine x_ib (w := 0) T_376_5 (fun h => absurd h.1 (by decide)) (by decide) ?_
    refine x_si (ls1 := [some (vR (some 2281)), some (vI p), some (vI 0), none, none, none, none, none, none, none]) T_376_6 rfl ?_
    refine x_lr (z := some 2281) T_376_7 rfl ?_
    refine x_lr (z := some 2281) T_376_8 rfl ?_
    refine x_gR (z := some 2350) T_376_9 F_17_86 (PM.t hP) (PM.r hP 86 2350 rfl) ?_
    refine x_li (z := 0) T_376_12 rfl ?_
    refine x_alI (z := c.1) T_376_13 (by decide) (PM.ta hP 2350 0 64 rfl rfl) (by omega) (by omega) (Eq.trans (PM.aS hP 2350 rfl rfl (by omega)) g3) ?_
    refine x_lr (z := some 2281) T_376_14 rfl ?_
    refine x_gR (z := some 2351) T_376_15 F_17_87 (PM.t hP) (PM.r hP 87 2351 rfl) ?_
    refine x_li (z := 0) T_376_18 rfl ?_
    refine x_alI (z := c.2.1) T_376_19 (by decide) (PM.ta hP 2351 0 64 rfl rfl) (by omega) (by omega) (Eq.trans (PM.aS hP 2351 rfl rfl (by omega)) g4) ?_
    refine x_ic T_376_20 ?_
    refine x_cv4 T_376_21 mN_349 mL_349 (Nat.le_of_ble_eq_true rfl) mO_349 (PM.t hP) (Nat.le_of_ble_eq_true rfl) (g_askOpen hP hK.2.2.1 hK.1 (by omega) (by omega)) ?_
    clear hP
    intro r σ hr
    obtain ⟨S3, hr0, hP, hK3, hX3, -⟩ := hK.ask (T1 := T + 4) (by omega) hr
    rw [he2] at hr0
    subst hr0
    rw [hP2] at hP hK3
    refine cI ?_
    refine x_si (ls1 := [some (vR (some 2281)), some (vI p), some (vI 0), some (vI e2), none, none, none, none, none, none]) T_376_24 rfl ?_
    refine x_ic T_376_25 ?_
    refine x_si (ls1 := [some (vR (some 2281)), some (vI p), some (vI 0), some (vI e2), some (vI 0), none, none, none, none, none]) T_376_26 rfl ?_
    refine x_li (z := e2) T_376_28 rfl ?_
    refine x_if T_376_29 (fun _ => ?_) (fun h => absurd (show ¬ e2 = 0 by omega) h)
    refine x_ic T_376_36 ?_
    refine x_si (ls1 := [some (vR (some 2281)), some (vI p), some (vI 0), some (vI e2), some (vI 0), some (vI 0), none, none, none, none]) T_376_37 rfl ?_
    refine x_li (z := 0) T_376_39 rfl ?_
    refine x_if T_376_41 (fun _ => ?_) (fun h => absurd (show (0 : Int) = 0 by rfl) h)
    refine x_li (z := e2) T_376_215 rfl ?_
    refine x_ri T_376_216 ?_
    exact ⟨S3, rfl, hP, hK3.mono (by omega), hX3⟩
  · rw [if_neg q4]
    dsimp only
    have q5 : e2 = 0 := by omega
    subst q5
    have hmu := lsMu_0 hDo
    refine CL_in mL_376 rfl ?_
    show WP fb _ 376 0 [some (vR (some 2281)), some (vI p), none, none, none, none, none, none, none, none] [] σ _
    refine x_lr (z := some 2281) T_376_0 rfl ?_
    refine x_gI (z := 1) T_376_1 (Or.inl F_17_91) (PM.t hP) (Eq.trans (PM.nS hP 2281 91 91 rfl rfl rfl) g1) ?_
    refine x_ic T_376_4 ?_
    refine x_ib (w := 0) T_376_5 (fun h => absurd h.1 (by decide)) (by decide) ?_
    refine x_si (ls1 := [some (vR (some 2281)), some (vI p), some (vI 0), none, none, none, none, none, none, none]) T_376_6 rfl ?_
    refine x_lr (z := some 2281) T_376_7 rfl ?_
    refine x_lr (z := some 2281) T_376_8 rfl ?_
    refine x_gR (z := some 2350) T_376_9 F_17_86 (PM.t hP) (PM.r hP 86 2350 rfl) ?_
    refine x_li (z := 0) T_376_12 rfl ?_
    refine x_alI (z := c.1) T_376_13 (by decide) (PM.ta hP 2350 0 64 rfl rfl) (by omega) (by omega) (Eq.trans (PM.aS hP 2350 rfl rfl (by omega)) g3) ?_
    refine x_lr (z := some 2281) T_376_14 rfl ?_
    refine x_gR (z := some 2351) T_376_15 F_17_87 (PM.t hP) (PM.r hP 87 2351 rfl) ?_
    refine x_li (z := 0) T_376_18 rfl ?_
    refine x_alI (z := c.2.1) T_376_19 (by decide) (PM.ta hP 2351 0 64 rfl rfl) (by omega) (by omega) (Eq.trans (PM.aS hP 2351 rfl rfl (by omega)) g4) ?_
    refine x_ic T_376_20 ?_
    refine x_cv4 T_376_21 mN_349 mL_349 (Nat.le_of_ble_eq_true rfl) mO_349 (PM.t hP) (Nat.le_of_ble_eq_true rfl) (g_askOpen hP hK.2.2.1 hK.1 (by omega) (by omega)) ?_
    clear hP
    intro r σ hr
    obtain ⟨S3, hr0, hP, hK3, hX3, -⟩ := hK.ask (T1 := T + 4) (by omega) hr
    rw [he2] at hr0
    subst hr0
    rw [hP2] at hP hK3
    refine cI ?_
    refine x_si (ls1 := [some (vR (some 2281)), some (vI p), some (vI 0), some (vI 0), none, none, none, none, none, none]) T_376_24 rfl ?_
    refine x_ic T_376_25 ?_
    refine x_si (ls1 := [some (vR (some 2281)), some (vI p), some (vI 0), some (vI 0), some (vI 0), none, none, none, none, none]) T_376_26 rfl ?_
    refine x_li (z := 0) T_376_28 rfl ?_
    refine x_if T_376_29 (fun h => absurd (show ¬ (0 : Int) = 0 from h) (by omega)) (fun _ => ?_)
    refine x_ic T_376_32 ?_
    refine x_goto T_376_33 ?_
    refine x_si (ls1 := [some (vR (some 2281)), some (vI p), some (vI 0), some (vI 0), some (vI 0), some (vI 1), none, none, none, none]) T_376_37 rfl ?_
    refine WP.mono (m_ls_out (d := d) (T := T + 4) (off := 0) (e0 := 0) hp 65 none none none none _ _ _ hDo hmu.1 (by omega) (by decide) (by decide) (by omega) hP hK3) ?_
    rintro r σ1 ⟨S4, r1, r2, r3, r4⟩
    exact ⟨S4, r1, r2, r3.mono (by omega), SX_tr hX3 r4⟩
theorem m_ls_mem (hp : 0 ≤ p ∧ p < 8) (hpt : 0 ≤ pt ∧ pt < 64) (hn : n ≤ 6) : ∀ (m : Nat) (j T : Int) (P S : qR) (σ : hM) (e0 : Int) (l5 : Option AV), j + m = n → 0 ≤ j → P 2337 pt = n → lsMok p pt m j P → T + 280 * m + 500 ≤ 2147483000 → PM σ0 P S σ → KS T U P S l [] → WP fb (d + 13) 375 58 [some (vR (some 2281)), some (vI p), some (vI e0), some (vI pt), some (vI j), l5] [] σ (KC (T + 280 * m) U σ0 S l (lsM p pt m j P).1 (lsM p pt m j P).2.1 (lsM p pt m j P).2.2) := by
  intro m
  induction m with
  | zero =>
    intro j T P S σ e0 l5 h1 h2 h3 hO h4 hP hK
    have h1 : j + ((0 : Nat) : Int) = n := h1
    refine x_li (z := j) T_375_58 rfl ?_
    refine x_lr (z := some 2281) T_375_60 rfl ?_
    refine x_gR (z := some 2337) T_375_61 F_17_67 (PM.t hP) (PM.r hP 67 2337 rfl) ?_
    refine x_li (z := pt) T_375_64 rfl ?_
    refine x_alI (z := n) T_375_65 (by decide) (PM.ta hP 2337 0 64 rfl rfl) (by omega) (by omega) (Eq.trans (PM.aP hP 2337 rfl rfl (by omega)) h3) ?_
    refine x_ic2 T_375_66 (fun _ => ?_) (fun h => absurd (show n ≤ j by omega) h)
    refine x_ic T_375_141 ?_
    refine x_ri T_375_142 ?_
    exact ⟨S, rfl, hP, hK.mono (by omega), SX_rfl⟩
  | succ m ih =>
    intro j T P S σ e0 l5 h1 h2 h3 hO h4 hP hK
    have b1 : 0 ≤ P 2338 (6 * pt + j) ∧ P 2338 (6 * pt + j) ≤ 2 := IV.a hK.1.iv 2338 0 384 rfl rfl rfl (by omega) (by omega)
    have b3 : 0 ≤ P 2340 (6 * pt + j) ∧ P 2340 (6 * pt + j) ≤ T + 200 := IV.a hK.1.iv 2340 0 384 rfl rfl rfl (by omega) (by omega)
    have b4 : 0 ≤ P 2341 (6 * pt + j) ∧ P 2341 (6 * pt + j) ≤ 255 := IV.a hK.1.iv 2341 0 384 rfl rfl rfl (by omega) (by omega)
    unfold lsMok at hO
    unfold lsM
    obtain ⟨sv, hsv⟩ : ∃ y, P 2338 (6 * pt + j) = y := ⟨_, rfl⟩
    obtain ⟨fd, hfd⟩ : ∃ y, P 2339 (6 * pt + j) = y := ⟨_, rfl⟩
    obtain ⟨pa, hpa⟩ : ∃ y, P 2340 (6 * pt + j) = y := ⟨_, rfl⟩
    obtain ⟨ki, hki⟩ : ∃ y, P 2341 (6 * pt + j) = y := ⟨_, rfl⟩
    rw [hsv] at b1
    rw [hpa] at b3
    rw [hki] at b4
    rw [hsv, hfd, hpa, hki] at hO ⊢
    have hcp := fun (σ : hM) (hP : PM σ0 P S σ) => m_copy (fb := fb) (d := d) (s := sv) (f := fd) (g := pa) (k := ki) hP hK.2.2.1 hK.1 (by omega) ⟨b1.1, by omega⟩ hK.2.2.2.1 (show 0 < 60 by decide) b3 b4
    have her := kCpE_rng (P := P) (s := sv) (f := fd)
    have hkf : KF (kCpP P sv fd) P := KF_cp
    obtain ⟨e, he⟩ : ∃ e, kCpE P sv fd = e := ⟨_, rfl⟩
    obtain ⟨P1, hP1⟩ : ∃ P1, kCpP P sv fd = P1 := ⟨_, rfl⟩
    obtain ⟨cc, hcc⟩ : ∃ c : Ch, (sv, qNewF P sv, pa, ki, (-1 : Int)) = c := ⟨_, rfl⟩
    have hc1 : cc.1 = sv ∧ cc.2.1 = qNewF P sv := by rw [← hcc]; exact ⟨rfl, rfl⟩
    rw [he] at her
    rw [hP1] at hkf
    rw [he, hP1, hcc] at hcp hO ⊢
    by_cases q : 0 < e
    · rw [if_pos q]
      dsimp only
      rw [kHoldn (by omega)] at hcp
      refine x_li (z := j) T_375_58 rfl ?_
      refine x_lr (z := some 2281) T_375_60 rfl ?_
      refine x_gR (z := some 2337) T_375_61 F_17_67 (PM.t hP) (PM.r hP 67 2337 rfl) ?_
      refine x_li (z := pt) T_375_64 rfl ?_
      refine x_alI (z := n) T_375_65 (by decide) (PM.ta hP 2337 0 64 rfl rfl) (by omega) (by omega) (Eq.trans (PM.aP hP 2337 rfl rfl (by omega)) h3) ?_
      refine x_ic2 T_375_66 (fun h => absurd (show n ≤ j from h) (by omega)) (fun _ => ?_)
      refine x_ic T_375_69 ?_
      refine x_li (z := pt) T_375_71 rfl ?_
      refine x_ib (w := (6 * pt)) T_375_72 (fun h => absurd h.1 (by decide)) (w32_id (by omega) (by omega)) ?_
      refine x_li (z := j) T_375_73 rfl ?_
      refine x_ib (w := ((6 * pt) + j)) T_375_75 (fun h => absurd h.1 (by decide)) (w32_id (by omega) (by omega)) ?_
      refine x_si (ls1 := [some (vR (some 2281)), some (vI p), some (vI e0), some (vI pt), some (vI j), some (vI ((6 * pt) + j))]) T_375_76 rfl ?_
      refine x_lr (z := some 2281) T_375_78 rfl ?_
      refine x_lr (z := some 2281) T_375_79 rfl ?_
      refine x_gR (z := some 2338) T_375_80 F_17_68 (PM.t hP) (PM.r hP 68 2338 rfl) ?_
      refine x_li (z := ((6 * pt) + j)) T_375_83 rfl ?_
      refine x_alI (z := sv) T_375_85 (by decide) (PM.ta hP 2338 0 384 rfl rfl) (by omega) (by omega) (Eq.trans (PM.aP hP 2338 rfl rfl (by omega)) hsv) ?_
      refine x_lr (z := some 2281) T_375_86 rfl ?_
      refine x_gR (z := some 2339) T_375_87 F_17_69 (PM.t hP) (PM.r hP 69 2339 rfl) ?_
      refine x_li (z := ((6 * pt) + j)) T_375_90 rfl ?_
      refine x_alI (z := fd) T_375_92 (by decide) (PM.ta hP 2339 0 384 rfl rfl) (by omega) (by omega) (Eq.trans (PM.aP hP 2339 rfl rfl (by omega)) hfd) ?_
      refine x_lr (z := some 2281) T_375_93 rfl ?_
      refine x_gR (z := some 2340) T_375_94 F_17_70 (PM.t hP) (PM.r hP 70 2340 rfl) ?_
      refine x_li (z := ((6 * pt) + j)) T_375_97 rfl ?_
      refine x_alI (z := pa) T_375_99 (by decide) (PM.ta hP 2340 0 384 rfl rfl) (by omega) (by omega) (Eq.trans (PM.aP hP 2340 rfl rfl (by omega)) hpa) ?_
      refine x_lr (z := some 2281) T_375_100 rfl ?_
      refine x_gR (z := some 2341) T_375_101 F_17_71 (PM.t hP) (PM.r hP 71 2341 rfl) ?_
      refine x_li (z := ((6 * pt) + j)) T_375_104 rfl ?_
      refine x_alI (z := ki) T_375_106 (by decide) (PM.ta hP 2341 0 384 rfl rfl) (by omega) (by omega) (Eq.trans (PM.aP hP 2341 rfl rfl (by omega)) hki) ?_
      refine x_cv5 T_375_107 mN_333 mL_333 (Nat.le_of_ble_eq_true rfl) mO_333 (PM.t hP) (Nat.le_of_ble_eq_true rfl) (hcp σ hP) ?_
      clear hP hcp
      intro r σ hr
      obtain ⟨S2, rfl, hP, hK2, hX2⟩ := hK.copy hkf hr
      refine cI ?_
      refine x_si (ls1 := [some (vR (some 2281)), some (vI p), some (vI e), some (vI pt), some (vI j), some (vI ((6 * pt) + j))]) T_375_110 rfl ?_
      refine x_li (z := e) T_375_111 rfl ?_
      refine x_if T_375_112 (fun h => absurd (show e ≤ 0 from h) (by omega)) (fun _ => ?_)
      refine x_li (z := e) T_375_115 rfl ?_
      refine x_goto T_375_116 ?_
      refine x_si (ls1 := [some (vR (some 2281)), some (vI p), some (vI e), some (vI pt), some (vI j), some (vI ((6 * pt) + j))]) T_375_124 rfl ?_
      refine x_li (z := e) T_375_125 rfl ?_
      refine x_if T_375_126 (fun h => absurd (show e ≤ 0 from h) (by omega)) (fun _ => ?_)
      refine x_li (z := e) T_375_129 rfl ?_
      refine x_ri T_375_130 ?_
      exact ⟨S2, rfl, hP, hK2.mono (by omega), hX2⟩
    · rw [if_neg q]
      have q2 : e = 0 := by omega
      subst q2
      rw [kHold0] at hcp
      obtain ⟨hDD, hO2⟩ := hO rfl
      rw [← hc1.2, ← hc1.1] at hDD
      have hkl := KFO_list (P := P1) (p := p) (c := cc)
      have hli := fun (σ : hM) (S2 : qR) (hP : PM σ0 P1 S2 σ) (hK2 : KS (T + 4) U P1 S2 l [cc]) => m_list (fb := fb) (d := d) hP hK2 hp hDD (by omega)
      obtain ⟨eL, heL⟩ : ∃ e, (cList P1 p cc).1 = e := ⟨_, rfl⟩
      obtain ⟨P3, hP3⟩ : ∃ P3, (cList P1 p cc).2 = P3 := ⟨_, rfl⟩
      rw [hP3] at hkl
      rw [heL, hP3] at hli hO2 ⊢
      have h33 : P3 2337 pt = n := (hkl _ _ rfl (by decide) (by decide) (by decide) (by decide) (by decide)).trans ((hkf _ _ rfl (by decide) (by decide) (by decide)).trans h3)
      by_cases q3 : 0 < eL
      · rw [if_pos q3]
        dsimp only
        refine x_li (z := j) T_375_58 rfl ?_
        refine x_lr (z := some 2281) T_375_60 rfl ?_
        refine x_gR (z := some 2337) T_375_61 F_17_67 (PM.t hP) (PM.r hP 67 2337 rfl) ?_
        refine x_li (z := pt) T_375_64 rfl ?_
        refine x_alI (z := n) T_375_65 (by decide) (PM.ta hP 2337 0 64 rfl rfl) (by omega) (by omega) (Eq.trans (PM.aP hP 2337 rfl rfl (by omega)) h3) ?_
        refine x_ic2 T_375_66 (fun h => absurd (show n ≤ j from h) (by omega)) (fun _ => ?_)
        refine x_ic T_375_69 ?_
        refine x_li (z := pt) T_375_71 rfl ?_
        refine x_ib (w := (6 * pt)) T_375_72 (fun h => absurd h.1 (by decide)) (w32_id (by omega) (by omega)) ?_
        refine x_li (z := j) T_375_73 rfl ?_
        refine x_ib (w := ((6 * pt) + j)) T_375_75 (fun h => absurd h.1 (by decide)) (w32_id (by omega) (by omega)) ?_
        refine x_si (ls1 := [some (vR (some 2281)), some (vI p), some (vI e0), some (vI pt), some (vI j), some (vI ((6 * pt) + j))]) T_375_76 rfl ?_
        refine x_lr (z := some 2281) T_375_78 rfl ?_
        refine x_lr (z := some 2281) T_375_79 rfl ?_
        refine x_gR (z := some 2338) T_375_80 F_17_68 (PM.t hP) (PM.r hP 68 2338 rfl) ?_
        refine x_li (z := ((6 * pt) + j)) T_375_83 rfl ?_
        refine x_alI (z := sv) T_375_85 (by decide) (PM.ta hP 2338 0 384 rfl rfl) (by omega) (by omega) (Eq.trans (PM.aP hP 2338 rfl rfl (by omega)) hsv) ?_
        refine x_lr (z := some 2281) T_375_86 rfl ?_
        refine x_gR (z := some 2339) T_375_87 F_17_69 (PM.t hP) (PM.r hP 69 2339 rfl) ?_
        refine x_li (z := ((6 * pt) + j)) T_375_90 rfl ?_
        refine x_alI (z := fd) T_375_92 (by decide) (PM.ta hP 2339 0 384 rfl rfl) (by omega) (by omega) (Eq.trans (PM.aP hP 2339 rfl rfl (by omega)) hfd) ?_
        refine x_lr (z := some 2281) T_375_93 rfl ?_
        refine x_gR (z := some 2340) T_375_94 F_17_70 (PM.t hP) (PM.r hP 70 2340 rfl) ?_
        refine x_li (z := ((6 * pt) + j)) T_375_97 rfl ?_
        refine x_alI (z := pa) T_375_99 (by decide) (PM.ta hP 2340 0 384 rfl rfl) (by omega) (by omega) (Eq.trans (PM.aP hP 2340 rfl rfl (by omega)) hpa) ?_
        refine x_lr (z := some 2281) T_375_100 rfl ?_
        refine x_gR (z := some 2341) T_375_101 F_17_71 (PM.t hP) (PM.r hP 71 2341 rfl) ?_
        refine x_li (z := ((6 * pt) + j)) T_375_104 rfl ?_
        refine x_alI (z := ki) T_375_106 (by decide) (PM.ta hP 2341 0 384 rfl rfl) (by omega) (by omega) (Eq.trans (PM.aP hP 2341 rfl rfl (by omega)) hki) ?_
        refine x_cv5 T_375_107 mN_333 mL_333 (Nat.le_of_ble_eq_true rfl) mO_333 (PM.t hP) (Nat.le_of_ble_eq_true rfl) (hcp σ hP) ?_
        clear hP hcp
        intro r σ hr
        obtain ⟨S2, rfl, hP, hK2, hX2⟩ := hK.copy hkf hr
        refine cI ?_
        refine x_si (ls1 := [some (vR (some 2281)), some (vI p), some (vI 0), some (vI pt), some (vI j), some (vI ((6 * pt) + j))]) T_375_110 rfl ?_
        refine x_li (z := 0) T_375_111 rfl ?_
        refine x_if T_375_112 (fun _ => ?_) (fun h => absurd (show (0 : Int) ≤ 0 by decide) h)
        refine x_lr (z := some 2281) T_375_119 rfl ?_
        refine x_li (z := p) T_375_120 rfl ?_
        refine x_cv2 T_375_121 mN_376 mL_376 (Nat.le_of_ble_eq_true rfl) mO_376 (PM.t hP) (Nat.le_of_ble_eq_true rfl) (hli σ S2 hP hK2) ?_
        clear hP
        rintro _ σ ⟨S3, rfl, hP, hK3, hX3⟩
        refine cI ?_
        refine x_si (ls1 := [some (vR (some 2281)), some (vI p), some (vI eL), some (vI pt), some (vI j), some (vI ((6 * pt) + j))]) T_375_124 rfl ?_
        refine x_li (z := eL) T_375_125 rfl ?_
        refine x_if T_375_126 (fun h => absurd (show eL ≤ 0 from h) (by omega)) (fun _ => ?_)
        refine x_li (z := eL) T_375_129 rfl ?_
        refine x_ri T_375_130 ?_
        exact ⟨S3, rfl, hP, hK3.mono (by omega), SX_tr hX2 hX3⟩
      · rw [if_neg q3]
        have hkd : KF (kDrop P3 cc) P3 := KF_tP
        have hend : ∀ (σ : hM) (S3 : qR), PM σ0 P3 S3 σ → KS (T + 268) U P3 S3 l [cc] → SX scR scN S S3 → eL ≤ 0 → WP fb (d + 13) 375 131 [some (vR (some 2281)), some (vI p), some (vI eL), some (vI pt), some (vI j), some (vI (6 * pt + j))] [] σ (KC (T + 280 * ((m + 1 : Nat) : Int)) U σ0 S l (lsM p pt m (j + 1) (kDrop P3 cc)).1 (lsM p pt m (j + 1) (kDrop P3 cc)).2.1 (lsM p pt m (j + 1) (kDrop P3 cc)).2.2) := fun σ S3 hP hK3 hX3 hle => by
          have hdr := m_drop (fb := fb) (d := d) (h := []) (x := cc) hP hK3.2.2.1 hK3.1 (by omega) hK3.2.2.2.1
          have hgo := fun (σ : hM) (S4 : qR) (hP : PM σ0 (kDrop P3 cc) S4 σ) (hK4 : KS (T + 272) U (kDrop P3 cc) S4 l []) (hX4 : SX scR scN S S4) => WP.mono (ih (j + 1) (T + 272) _ S4 σ eL (some (vI (6 * pt + j))) (by omega) (by omega) ((hkd _ _ rfl (by decide) (by decide) (by decide)).trans h33) (hO2 (by
            have := cList_rng (P := P1) (p := p) (c := cc)
            rw [heL] at this
            omega)) (by omega) hP hK4) (Q := KC (T + 280 * ((m + 1 : Nat) : Int)) U σ0 S l (lsM p pt m (j + 1) (kDrop P3 cc)).1 (lsM p pt m (j + 1) (kDrop P3 cc)).2.1 (lsM p pt m (j + 1) (kDrop P3 cc)).2.2) (fun r σ1 hr => by
            obtain ⟨S5, r1, r2, r3, r4⟩ := hr
            exact ⟨S5, r1, r2, r3.mono (by omega), SX_tr hX4 r4⟩)
          refine x_lr (z := some 2281) T_375_131 rfl ?_
          refine x_cv1 T_375_132 mN_344 mL_344 (Nat.le_of_ble_eq_true rfl) mO_344 (PM.t hP) (Nat.le_of_ble_eq_true rfl) (hdr) ?_
          clear hP hdr
          intro r σ hr
          obtain ⟨S4, rfl, hP, a3, a4, a5, a6⟩ := hr
          have hK4 : KS (T + 272) U (kDrop P3 cc) S4 l [] := ⟨a3.mono (by omega), hK3.2.1.of hkd, a4.mono (by omega) (Int.le_refl U), a5, hK3.2.2.2.2.sw a6.sw⟩
          have hX4 := SX_tr hX3 (SX_sc a6.sw)
          refine cV ?_
          refine x_inc (w := (j + 1)) (ls1 := [some (vR (some 2281)), some (vI p), some (vI eL), some (vI pt), some (vI (j + 1)), some (vI (6 * pt + j))]) T_375_135 rfl (w32_id (by omega) (by omega)) rfl ?_
          refine x_goto T_375_138 ?_
          exact hgo σ S4 hP hK4 hX4
        refine x_li (z := j) T_375_58 rfl ?_
        refine x_lr (z := some 2281) T_375_60 rfl ?_
        refine x_gR (z := some 2337) T_375_61 F_17_67 (PM.t hP) (PM.r hP 67 2337 rfl) ?_
        refine x_li (z := pt) T_375_64 rfl ?_
        refine x_alI (z := n) T_375_65 (by decide) (PM.ta hP 2337 0 64 rfl rfl) (by omega) (by omega) (Eq.trans (PM.aP hP 2337 rfl rfl (by omega)) h3) ?_
        refine x_ic2 T_375_66 (fun h => absurd (show n ≤ j from h) (by omega)) (fun _ => ?_)
        refine x_ic T_375_69 ?_
        refine x_li (z := pt) T_375_71 rfl ?_
        refine x_ib (w := (6 * pt)) T_375_72 (fun h => absurd h.1 (by decide)) (w32_id (by omega) (by omega)) ?_
        refine x_li (z := j) T_375_73 rfl ?_
        refine x_ib (w := ((6 * pt) + j)) T_375_75 (fun h => absurd h.1 (by decide)) (w32_id (by omega) (by omega)) ?_
        refine x_si (ls1 := [some (vR (some 2281)), some (vI p), some (vI e0), some (vI pt), some (vI j), some (vI ((6 * pt) + j))]) T_375_76 rfl ?_
        refine x_lr (z := some 2281) T_375_78 rfl ?_
        refine x_lr (z := some 2281) T_375_79 rfl ?_
        refine x_gR (z := some 2338) T_375_80 F_17_68 (PM.t hP) (PM.r hP 68 2338 rfl) ?_
        refine x_li (z := ((6 * pt) + j)) T_375_83 rfl ?_
        refine x_alI (z := sv) T_375_85 (by decide) (PM.ta hP 2338 0 384 rfl rfl) (by omega) (by omega) (Eq.trans (PM.aP hP 2338 rfl rfl (by omega)) hsv) ?_
        refine x_lr (z := some 2281) T_375_86 rfl ?_
        refine x_gR (z := some 2339) T_375_87 F_17_69 (PM.t hP) (PM.r hP 69 2339 rfl) ?_
        refine x_li (z := ((6 * pt) + j)) T_375_90 rfl ?_
        refine x_alI (z := fd) T_375_92 (by decide) (PM.ta hP 2339 0 384 rfl rfl) (by omega) (by omega) (Eq.trans (PM.aP hP 2339 rfl rfl (by omega)) hfd) ?_
        refine x_lr (z := some 2281) T_375_93 rfl ?_
        refine x_gR (z := some 2340) T_375_94 F_17_70 (PM.t hP) (PM.r hP 70 2340 rfl) ?_
        refine x_li (z := ((6 * pt) + j)) T_375_97 rfl ?_
        refine x_alI (z := pa) T_375_99 (by decide) (PM.ta hP 2340 0 384 rfl rfl) (by omega) (by omega) (Eq.trans (PM.aP hP 2340 rfl rfl (by omega)) hpa) ?_
        refine x_lr (z := some 2281) T_375_100 rfl ?_
        refine x_gR (z := some 2341) T_375_101 F_17_71 (PM.t hP) (PM.r hP 71 2341 rfl) ?_
        refine x_li (z := ((6 * pt) + j)) T_375_104 rfl ?_
        refine x_alI (z := ki) T_375_106 (by decide) (PM.ta hP 2341 0 384 rfl rfl) (by omega) (by omega) (Eq.trans (PM.aP hP 2341 rfl rfl (by omega)) hki) ?_
        refine x_cv5 T_375_107 mN_333 mL_333 (Nat.le_of_ble_eq_true rfl) mO_333 (PM.t hP) (Nat.le_of_ble_eq_true rfl) (hcp σ hP) ?_
        clear hP hcp
        intro r σ hr
        obtain ⟨S2, rfl, hP, hK2, hX2⟩ := hK.copy hkf hr
        refine cI ?_
        refine x_si (ls1 := [some (vR (some 2281)), some (vI p), some (vI 0), some (vI pt), some (vI j), some (vI ((6 * pt) + j))]) T_375_110 rfl ?_
        refine x_li (z := 0) T_375_111 rfl ?_
        refine x_if T_375_112 (fun _ => ?_) (fun h => absurd (show (0 : Int) ≤ 0 by decide) h)
        refine x_lr (z := some 2281) T_375_119 rfl ?_
        refine x_li (z := p) T_375_120 rfl ?_
        refine x_cv2 T_375_121 mN_376 mL_376 (Nat.le_of_ble_eq_true rfl) mO_376 (PM.t hP) (Nat.le_of_ble_eq_true rfl) (hli σ S2 hP hK2) ?_
        clear hP
        rintro _ σ ⟨S3, rfl, hP, hK3, hX3⟩
        refine cI ?_
        refine x_si (ls1 := [some (vR (some 2281)), some (vI p), some (vI eL), some (vI pt), some (vI j), some (vI ((6 * pt) + j))]) T_375_124 rfl ?_
        refine x_li (z := eL) T_375_125 rfl ?_
        refine x_if T_375_126 (fun _ => ?_) (fun h => absurd (show eL ≤ 0 by omega) h)
        exact hend σ S3 hP (hK3.mono (by omega)) (SX_tr hX2 hX3) (by omega)
theorem m_ls (hP : PM σ0 P S σ) (hK : KS T U P S l []) (hp : 0 ≤ p ∧ p < 8) (hO : lsOk P p (lnB l 1)) (hT : T + 3000 ≤ 2147483000) (hw : 1 < ((lnW l).length : Int)) : CL fb (d + 16) 375 [vR (some 2281), vI p] σ (KC (T + 2000) U σ0 S l (cLs P p (lnB l 1)).1 (cLs P p (lnB l 1)).2.1 (cLs P p (lnB l 1)).2.2) := by
  have hww := k_ww (fb := fb) (d := d) (thr := 1) hP hK hp (Or.inr rfl) (by omega) (by decide) (w := 1) ⟨by decide, by omega⟩
  have hkf := KF_kWW (thr := 1) (wd := lnB l 1) hK.1.iv hK.2.1 hp
  have hpt := kWW_pt (thr := 1) (wd := lnB l 1) hK.1.iv hp
  unfold cLs
  unfold lsOk at hO
  obtain ⟨e, he⟩ : ∃ e, (kWW P p 1 (lnB l 1)).1 = e := ⟨_, rfl⟩
  obtain ⟨P1, hP1⟩ : ∃ P1, (kWW P p 1 (lnB l 1)).2.1 = P1 := ⟨_, rfl⟩
  obtain ⟨c, hc⟩ : ∃ c, (kWW P p 1 (lnB l 1)).2.2 = c := ⟨_, rfl⟩
  rw [he, hP1] at hkf
  rw [hc] at hpt
  rw [he, hP1, hc] at hww hO
  rw [he, hP1, hc]
  by_cases q1 : 0 < e
  · rw [if_pos q1]
    dsimp only
    rw [kHoldn (by omega)] at hww
    refine CL_in mL_375 rfl ?_
    show WP fb _ 375 0 [some (vR (some 2281)), some (vI p), none, none, none, none] [] σ _
    refine x_lr (z := some 2281) T_375_0 rfl ?_
    refine x_li (z := p) T_375_1 rfl ?_
    refine x_ic T_375_2 ?_
    refine x_ic T_375_3 ?_
    refine x_cv4 T_375_4 mN_327 mL_327 (Nat.le_of_ble_eq_true rfl) mO_327 (PM.t hP) (Nat.le_of_ble_eq_true rfl) (hww) ?_
    clear hP hww
    rintro _ σ ⟨S2, rfl, hP, hK2, hX2, -⟩
    refine cI ?_
    refine x_si (ls1 := [some (vR (some 2281)), some (vI p), some (vI e), none, none, none]) T_375_7 rfl ?_
    refine x_li (z := e) T_375_8 rfl ?_
    refine x_if T_375_9 (fun h => absurd (show e ≤ 0 from h) (by omega)) (fun _ => ?_)
    refine x_li (z := e) T_375_12 rfl ?_
    refine x_ri T_375_13 ?_
    exact ⟨S2, rfl, hP, hK2.mono (by omega), hX2⟩
  rw [if_neg q1]
  have q2 : e = 0 := by omega
  subst q2
  rw [kHold0] at hww
  have hO := hO rfl
  unfold lsW
  have hpt := hpt.fk hkf.1
  obtain ⟨y, hy⟩ : ∃ y, c.2.2.2.1 = y := ⟨_, rfl⟩
  obtain ⟨pt, hpt0⟩ : ∃ pt, c.2.2.2.2 = pt := ⟨_, rfl⟩
  rw [hpt0] at hpt
  rw [hy, hpt0] at hO ⊢
  by_cases q3 : and32 y 128 = 0
  · rw [if_pos q3]
    dsimp only
    refine CL_in mL_375 rfl ?_
    show WP fb _ 375 0 [some (vR (some 2281)), some (vI p), none, none, none, none] [] σ _
    refine x_lr (z := some 2281) T_375_0 rfl ?_
    refine x_li (z := p) T_375_1 rfl ?_
    refine x_ic T_375_2 ?_
    refine x_ic T_375_3 ?_
    refine x_cv4 T_375_4 mN_327 mL_327 (Nat.le_of_ble_eq_true rfl) mO_327 (PM.t hP) (Nat.le_of_ble_eq_true rfl) (hww) ?_
    clear hP hww
    rintro _ σ ⟨S2, rfl, hP, hK2, hX2, -⟩
    obtain ⟨g1, g2, g3, g4, g5, g6, g7⟩ := hK2.2.2.2.1.last
    have hd := fun (σ : hM) (hP : PM σ0 P1 S2 σ) => CL.mono (m_isDirH (fb := fb) (d := d + 15) (i := 0) (y := y) hP (by decide) (g6.trans hy)) (fun r σ1 hr => by rw [if_pos q3] at hr; exact hr)
    refine cI ?_
    refine x_si (ls1 := [some (vR (some 2281)), some (vI p), some (vI 0), none, none, none]) T_375_7 rfl ?_
    refine x_li (z := 0) T_375_8 rfl ?_
    refine x_if T_375_9 (fun _ => ?_) (fun h => absurd (show (0 : Int) ≤ 0 by decide) h)
    refine x_lr (z := some 2281) T_375_14 rfl ?_
    refine x_lr (z := some 2281) T_375_15 rfl ?_
    refine x_gI (z := 1) T_375_16 (Or.inl F_17_91) (PM.t hP) (Eq.trans (PM.nS hP 2281 91 91 rfl rfl rfl) g1) ?_
    refine x_ic T_375_19 ?_
    refine x_ib (w := 0) T_375_20 (fun h => absurd h.1 (by decide)) (by decide) ?_
    refine x_cv2 T_375_21 mN_348 mL_348 (Nat.le_of_ble_eq_true rfl) mO_348 (PM.t hP) (Nat.le_of_ble_eq_true rfl) (hd σ hP) ?_
    rintro _ σ ⟨rfl, rfl⟩
    refine cI ?_
    refine x_if T_375_24 (fun h => absurd (show ¬ (0 : Int) = 0 from h) (by decide)) (fun _ => ?_)
    refine x_ic T_375_27 ?_
    refine x_ri T_375_28 ?_
    exact ⟨S2, rfl, hP, hK2.mono (by omega), hX2⟩
  rw [if_neg q3]
  have hO := hO q3
  by_cases q4 : pt < 0
  · rw [if_pos q4]
    dsimp only
    have hDD := hO.1 q4
    refine CL_in mL_375 rfl ?_
    show WP fb _ 375 0 [some (vR (some 2281)), some (vI p), none, none, none, none] [] σ _
    refine x_lr (z := some 2281) T_375_0 rfl ?_
    refine x_li (z := p) T_375_1 rfl ?_
    refine x_ic T_375_2 ?_
    refine x_ic T_375_3 ?_
    refine x_cv4 T_375_4 mN_327 mL_327 (Nat.le_of_ble_eq_true rfl) mO_327 (PM.t hP) (Nat.le_of_ble_eq_true rfl) (hww) ?_
    clear hP hww
    rintro _ σ ⟨S2, rfl, hP, hK2, hX2, -⟩
    obtain ⟨g1, g2, g3, g4, g5, g6, g7⟩ := hK2.2.2.2.1.last
    have hd := fun (σ : hM) (hP : PM σ0 P1 S2 σ) => CL.mono (m_isDirH (fb := fb) (d := d + 15) (i := 0) (y := y) hP (by decide) (g6.trans hy)) (fun r σ1 hr => by rw [if_neg q3] at hr; exact hr)
    refine cI ?_
    refine x_si (ls1 := [some (vR (some 2281)), some (vI p), some (vI 0), none, none, none]) T_375_7 rfl ?_
    refine x_li (z := 0) T_375_8 rfl ?_
    refine x_if T_375_9 (fun _ => ?_) (fun h => absurd (show (0 : Int) ≤ 0 by decide) h)
    refine x_lr (z := some 2281) T_375_14 rfl ?_
    refine x_lr (z := some 2281) T_375_15 rfl ?_
    refine x_gI (z := 1) T_375_16 (Or.inl F_17_91) (PM.t hP) (Eq.trans (PM.nS hP 2281 91 91 rfl rfl rfl) g1) ?_
    refine x_ic T_375_19 ?_
    refine x_ib (w := 0) T_375_20 (fun h => absurd h.1 (by decide)) (by decide) ?_
    refine x_cv2 T_375_21 mN_348 mL_348 (Nat.le_of_ble_eq_true rfl) mO_348 (PM.t hP) (Nat.le_of_ble_eq_true rfl) (hd σ hP) ?_
    rintro _ σ ⟨rfl, rfl⟩
    refine cI ?_
    refine x_if T_375_24 (fun _ => ?_) (fun h => absurd (show ¬ (1 : Int) = 0 by decide) h)
    refine x_lr (z := some 2281) T_375_29 rfl ?_
    refine x_gR (z := some 2354) T_375_30 F_17_90 (PM.t hP) (PM.r hP 90 2354 rfl) ?_
    refine x_lr (z := some 2281) T_375_33 rfl ?_
    refine x_gI (z := 1) T_375_34 (Or.inl F_17_91) (PM.t hP) (Eq.trans (PM.nS hP 2281 91 91 rfl rfl rfl) g1) ?_
    refine x_ic T_375_37 ?_
    refine x_ib (w := 0) T_375_38 (fun h => absurd h.1 (by decide)) (by decide) ?_
    refine x_alI (z := pt) T_375_39 (by decide) (PM.ta hP 2354 0 64 rfl rfl) (by omega) (by omega) (Eq.trans (PM.aS hP 2354 rfl rfl (by omega)) (g7.trans hpt0)) ?_
    refine x_si (ls1 := [some (vR (some 2281)), some (vI p), some (vI 0), some (vI pt), none, none]) T_375_40 rfl ?_
    refine x_li (z := pt) T_375_41 rfl ?_
    refine x_if T_375_42 (fun h => absurd (show 0 ≤ pt from h) (by omega)) (fun _ => ?_)
    refine x_lr (z := some 2281) T_375_45 rfl ?_
    refine x_li (z := p) T_375_46 rfl ?_
    refine x_cv2 T_375_47 mN_376 mL_376 (Nat.le_of_ble_eq_true rfl) mO_376 (PM.t hP) (Nat.le_of_ble_eq_true rfl) ((CL.mono (m_list (fb := fb) (d := d + 3) hP hK2 hp hDD (by omega)) (fun r σ1 hr => hr))) ?_
    clear hP
    rintro _ σ ⟨S3, rfl, hP, hK3, hX3⟩
    refine cI ?_
    refine x_ri T_375_50 ?_
    exact ⟨S3, rfl, hP, hK3.mono (by omega), SX_tr hX2 hX3⟩
  · rw [if_neg q4]
    have hMk := hO.2 (by omega)
    have hmy := fun (T1 : Int) (S2 : qR) (hK2 : KS T1 U P1 S2 l [c]) => hpt.many hK2.1.iv hK2.2.1 hp (by omega)
    have hkd : KF (kDrop P1 c) P1 := KF_tP
    have emm : kDrop P1 c 2337 pt = P1 2337 pt := hkd _ _ rfl (by decide) (by decide) (by decide)
    refine CL_in mL_375 rfl ?_
    show WP fb _ 375 0 [some (vR (some 2281)), some (vI p), none, none, none, none] [] σ _
    refine x_lr (z := some 2281) T_375_0 rfl ?_
    refine x_li (z := p) T_375_1 rfl ?_
    refine x_ic T_375_2 ?_
    refine x_ic T_375_3 ?_
    refine x_cv4 T_375_4 mN_327 mL_327 (Nat.le_of_ble_eq_true rfl) mO_327 (PM.t hP) (Nat.le_of_ble_eq_true rfl) (hww) ?_
    clear hP hww
    rintro _ σ ⟨S2, rfl, hP, hK2, hX2, -⟩
    obtain ⟨g1, g2, g3, g4, g5, g6, g7⟩ := hK2.2.2.2.1.last
    have hd := fun (σ : hM) (hP : PM σ0 P1 S2 σ) => CL.mono (m_isDirH (fb := fb) (d := d + 15) (i := 0) (y := y) hP (by decide) (g6.trans hy)) (fun r σ1 hr => by rw [if_neg q3] at hr; exact hr)
    obtain ⟨m1, m2, m3⟩ := hmy _ _ hK2
    refine cI ?_
    refine x_si (ls1 := [some (vR (some 2281)), some (vI p), some (vI 0), none, none, none]) T_375_7 rfl ?_
    refine x_li (z := 0) T_375_8 rfl ?_
    refine x_if T_375_9 (fun _ => ?_) (fun h => absurd (show (0 : Int) ≤ 0 by decide) h)
    refine x_lr (z := some 2281) T_375_14 rfl ?_
    refine x_lr (z := some 2281) T_375_15 rfl ?_
    refine x_gI (z := 1) T_375_16 (Or.inl F_17_91) (PM.t hP) (Eq.trans (PM.nS hP 2281 91 91 rfl rfl rfl) g1) ?_
    refine x_ic T_375_19 ?_
    refine x_ib (w := 0) T_375_20 (fun h => absurd h.1 (by decide)) (by decide) ?_
    refine x_cv2 T_375_21 mN_348 mL_348 (Nat.le_of_ble_eq_true rfl) mO_348 (PM.t hP) (Nat.le_of_ble_eq_true rfl) (hd σ hP) ?_
    rintro _ σ ⟨rfl, rfl⟩
    refine cI ?_
    refine x_if T_375_24 (fun _ => ?_) (fun h => absurd (show ¬ (1 : Int) = 0 by decide) h)
    refine x_lr (z := some 2281) T_375_29 rfl ?_
    refine x_gR (z := some 2354) T_375_30 F_17_90 (PM.t hP) (PM.r hP 90 2354 rfl) ?_
    refine x_lr (z := some 2281) T_375_33 rfl ?_
    refine x_gI (z := 1) T_375_34 (Or.inl F_17_91) (PM.t hP) (Eq.trans (PM.nS hP 2281 91 91 rfl rfl rfl) g1) ?_
    refine x_ic T_375_37 ?_
    refine x_ib (w := 0) T_375_38 (fun h => absurd h.1 (by decide)) (by decide) ?_
    refine x_alI (z := pt) T_375_39 (by decide) (PM.ta hP 2354 0 64 rfl rfl) (by omega) (by omega) (Eq.trans (PM.aS hP 2354 rfl rfl (by omega)) (g7.trans hpt0)) ?_
    refine x_si (ls1 := [some (vR (some 2281)), some (vI p), some (vI 0), some (vI pt), none, none]) T_375_40 rfl ?_
    refine x_li (z := pt) T_375_41 rfl ?_
    refine x_if T_375_42 (fun _ => ?_) (fun h => absurd (show 0 ≤ pt by omega) h)
    refine x_lr (z := some 2281) T_375_51 rfl ?_
    refine x_cv1 T_375_52 mN_344 mL_344 (Nat.le_of_ble_eq_true rfl) mO_344 (PM.t hP) (Nat.le_of_ble_eq_true rfl) ((m_drop (fb := fb) (d := d + 3) (h := []) (x := c) hP hK2.2.2.1 hK2.1 (by omega) hK2.2.2.2.1)) ?_
    clear hP
    intro r σ hr
    obtain ⟨S4, rfl, hP, a3, a4, a5, a6⟩ := hr
    have hK4 : KS (T + 304) U (kDrop P1 c) S4 l [] := ⟨a3.mono (by omega), hK2.2.1.of hkd, a4.mono (by omega) (Int.le_refl U), a5, hK2.2.2.2.2.sw a6.sw⟩
    have hX4 := SX_tr hX2 (SX_sc a6.sw)
    refine cV ?_
    refine x_ic T_375_55 ?_
    refine x_si (ls1 := [some (vR (some 2281)), some (vI p), some (vI 0), some (vI pt), some (vI 0), none]) T_375_56 rfl ?_
    rw [emm] at hMk ⊢
    refine WP.mono (m_ls_mem (d := d + 3) (n := P1 2337 pt) hp ⟨by omega, m3⟩ m2 (P1 2337 pt).toNat 0 (T + 304) _ S4 σ 0 none (by omega) (by decide) emm hMk (by omega) hP hK4) ?_
    rintro r σ1 ⟨S5, r1, r2, r3, r4⟩
    exact ⟨S5, r1, r2, r3.mono (by omega), SX_tr hX4 r4⟩
end MLS2
