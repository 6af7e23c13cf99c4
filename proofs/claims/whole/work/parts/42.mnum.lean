/-! The reference's numbers in and out of messages. -/
theorem T_234_0 : hTab 234 0 = some ((3, 0, 2, []), 1) := rfl
theorem T_234_1 : hTab 234 1 = some ((24, 17, Int.ofNat 8, []), 4) := rfl
theorem T_234_4 : hTab 234 4 = some ((3, 1, 0, []), 5) := rfl
theorem T_234_5 : hTab 234 5 = some ((10, 0, 0, []), 6) := rfl
theorem T_234_6 : hTab 234 6 = some ((3, 0, 2, []), 7) := rfl
theorem T_234_7 : hTab 234 7 = some ((24, 17, Int.ofNat 4, []), 10) := rfl
theorem T_234_10 : hTab 234 10 = some ((19, 5, Int.ofNat 30, []), 13) := rfl
theorem T_234_13 : hTab 234 13 = some ((3, 0, 2, []), 14) := rfl
theorem T_234_14 : hTab 234 14 = some ((0, 0, 1, []), 15) := rfl
theorem T_234_15 : hTab 234 15 = some ((25, 17, Int.ofNat 9, []), 18) := rfl
theorem T_234_18 : hTab 234 18 = some ((3, 0, 2, []), 19) := rfl
theorem T_234_19 : hTab 234 19 = some ((3, 0, 2, []), 20) := rfl
theorem T_234_20 : hTab 234 20 = some ((24, 17, Int.ofNat 4, []), 23) := rfl
theorem T_234_23 : hTab 234 23 = some ((0, 0, 1, []), 24) := rfl
theorem T_234_24 : hTab 234 24 = some ((10, 0, 0, []), 25) := rfl
theorem T_234_25 : hTab 234 25 = some ((25, 17, Int.ofNat 8, []), 28) := rfl
theorem T_234_28 : hTab 234 28 = some ((1, 0, 0, []), 29) := rfl
theorem T_234_29 : hTab 234 29 = some ((33, 3, 0, []), 30) := rfl
theorem T_234_30 : hTab 234 30 = some ((1, 0, 0, []), 31) := rfl
theorem T_234_31 : hTab 234 31 = some ((4, 2, 1, []), 32) := rfl
theorem T_234_32 : hTab 234 32 = some ((0, 0, 0, []), 33) := rfl
theorem T_234_33 : hTab 234 33 = some ((4, 4, 0, []), 35) := rfl
theorem T_234_35 : hTab 234 35 = some ((3, 4, 0, []), 37) := rfl
theorem T_234_37 : hTab 234 37 = some ((3, 1, 0, []), 38) := rfl
theorem T_234_38 : hTab 234 38 = some ((19, 3, Int.ofNat 69, []), 41) := rfl
theorem T_234_41 : hTab 234 41 = some ((3, 2, 1, []), 42) := rfl
theorem T_234_42 : hTab 234 42 = some ((3, 0, 2, []), 43) := rfl
theorem T_234_43 : hTab 234 43 = some ((24, 17, Int.ofNat 3, []), 46) := rfl
theorem T_234_46 : hTab 234 46 = some ((3, 0, 2, []), 47) := rfl
theorem T_234_47 : hTab 234 47 = some ((24, 17, Int.ofNat 8, []), 50) := rfl
theorem T_234_50 : hTab 234 50 = some ((3, 4, 0, []), 52) := rfl
theorem T_234_52 : hTab 234 52 = some ((10, 0, 0, []), 53) := rfl
theorem T_234_53 : hTab 234 53 = some ((26, 0, 0, []), 54) := rfl
theorem T_234_54 : hTab 234 54 = some ((14, 0, 0, []), 55) := rfl
theorem T_234_55 : hTab 234 55 = some ((0, 0, 8, []), 57) := rfl
theorem T_234_57 : hTab 234 57 = some ((3, 4, 0, []), 59) := rfl
theorem T_234_59 : hTab 234 59 = some ((10, 2, 0, []), 60) := rfl
theorem T_234_60 : hTab 234 60 = some ((12, 0, 0, []), 61) := rfl
theorem T_234_61 : hTab 234 61 = some ((11, 6, 0, []), 62) := rfl
theorem T_234_62 : hTab 234 62 = some ((4, 2, 1, []), 63) := rfl
theorem T_234_63 : hTab 234 63 = some ((5, 4, 1, []), 66) := rfl
theorem T_234_66 : hTab 234 66 = some ((22, 0, Int.ofNat 35, []), 69) := rfl
theorem T_234_69 : hTab 234 69 = some ((3, 0, 2, []), 70) := rfl
theorem T_234_70 : hTab 234 70 = some ((6, 0, 0, []), 71) := rfl
theorem T_234_71 : hTab 234 71 = some ((24, 17, Int.ofNat 8, []), 74) := rfl
theorem T_234_74 : hTab 234 74 = some ((3, 1, 0, []), 75) := rfl
theorem T_234_75 : hTab 234 75 = some ((10, 0, 0, []), 76) := rfl
theorem T_234_76 : hTab 234 76 = some ((25, 17, Int.ofNat 8, []), 79) := rfl
theorem T_234_79 : hTab 234 79 = some ((3, 2, 1, []), 80) := rfl
theorem T_234_80 : hTab 234 80 = some ((33, 3, 0, []), 81) := rfl
theorem T_235_0 : hTab 235 0 = some ((3, 0, 2, []), 1) := rfl
theorem T_235_1 : hTab 235 1 = some ((3, 1, 0, []), 2) := rfl
theorem T_235_2 : hTab 235 2 = some ((25, 17, Int.ofNat 7, []), 5) := rfl
theorem T_235_5 : hTab 235 5 = some ((3, 0, 2, []), 6) := rfl
theorem T_235_6 : hTab 235 6 = some ((0, 0, 107, []), 8) := rfl
theorem T_235_8 : hTab 235 8 = some ((31, 236, 0, []), 11) := rfl
theorem T_235_11 : hTab 235 11 = some ((3, 0, 2, []), 12) := rfl
theorem T_235_12 : hTab 235 12 = some ((0, 0, 2, []), 13) := rfl
theorem T_235_13 : hTab 235 13 = some ((3, 0, 2, []), 14) := rfl
theorem T_235_14 : hTab 235 14 = some ((24, 17, Int.ofNat 1, []), 17) := rfl
theorem T_235_17 : hTab 235 17 = some ((3, 1, 0, []), 18) := rfl
theorem T_235_18 : hTab 235 18 = some ((26, 0, 0, []), 19) := rfl
theorem T_235_19 : hTab 235 19 = some ((3, 0, 2, []), 20) := rfl
theorem T_235_20 : hTab 235 20 = some ((24, 17, Int.ofNat 1, []), 23) := rfl
theorem T_235_23 : hTab 235 23 = some ((3, 1, 0, []), 24) := rfl
theorem T_235_24 : hTab 235 24 = some ((0, 0, 1, []), 25) := rfl
theorem T_235_25 : hTab 235 25 = some ((10, 1, 0, []), 26) := rfl
theorem T_235_26 : hTab 235 26 = some ((26, 0, 0, []), 27) := rfl
theorem T_235_27 : hTab 235 27 = some ((10, 1, 0, []), 28) := rfl
theorem T_235_28 : hTab 235 28 = some ((14, 0, 0, []), 29) := rfl
theorem T_235_29 : hTab 235 29 = some ((31, 237, 0, []), 32) := rfl
theorem T_235_32 : hTab 235 32 = some ((3, 0, 2, []), 33) := rfl
theorem T_235_33 : hTab 235 33 = some ((24, 17, Int.ofNat 1, []), 36) := rfl
theorem T_235_36 : hTab 235 36 = some ((3, 1, 0, []), 37) := rfl
theorem T_235_37 : hTab 235 37 = some ((0, 0, 1, []), 38) := rfl
theorem T_235_38 : hTab 235 38 = some ((10, 1, 0, []), 39) := rfl
theorem T_235_39 : hTab 235 39 = some ((26, 0, 0, []), 40) := rfl
theorem T_235_40 : hTab 235 40 = some ((4, 2, 0, []), 41) := rfl
theorem T_235_41 : hTab 235 41 = some ((3, 2, 0, []), 42) := rfl
theorem T_235_42 : hTab 235 42 = some ((3, 0, 2, []), 43) := rfl
theorem T_235_43 : hTab 235 43 = some ((24, 17, Int.ofNat 1, []), 46) := rfl
theorem T_235_46 : hTab 235 46 = some ((3, 1, 0, []), 47) := rfl
theorem T_235_47 : hTab 235 47 = some ((26, 0, 0, []), 48) := rfl
theorem T_235_48 : hTab 235 48 = some ((19, 3, Int.ofNat 69, []), 51) := rfl
theorem T_235_51 : hTab 235 51 = some ((3, 0, 2, []), 52) := rfl
theorem T_235_52 : hTab 235 52 = some ((0, 0, 1, []), 53) := rfl
theorem T_235_53 : hTab 235 53 = some ((3, 0, 2, []), 54) := rfl
theorem T_235_54 : hTab 235 54 = some ((24, 17, Int.ofNat 0, []), 57) := rfl
theorem T_235_57 : hTab 235 57 = some ((3, 2, 0, []), 58) := rfl
theorem T_235_58 : hTab 235 58 = some ((26, 0, 0, []), 59) := rfl
theorem T_235_59 : hTab 235 59 = some ((14, 0, 0, []), 60) := rfl
theorem T_235_60 : hTab 235 60 = some ((31, 237, 0, []), 63) := rfl
theorem T_235_63 : hTab 235 63 = some ((5, 2, 1, []), 66) := rfl
theorem T_235_66 : hTab 235 66 = some ((22, 0, Int.ofNat 41, []), 69) := rfl
theorem T_235_69 : hTab 235 69 = some ((33, 0, 0, []), 70) := rfl
theorem T_236_0 : hTab 236 0 = some ((3, 0, 2, []), 1) := rfl
theorem T_236_1 : hTab 236 1 = some ((0, 0, 4, []), 2) := rfl
theorem T_236_2 : hTab 236 2 = some ((25, 17, Int.ofNat 6, []), 5) := rfl
theorem T_236_5 : hTab 236 5 = some ((3, 0, 2, []), 6) := rfl
theorem T_236_6 : hTab 236 6 = some ((0, 0, 1, []), 7) := rfl
theorem T_236_7 : hTab 236 7 = some ((3, 1, 0, []), 8) := rfl
theorem T_236_8 : hTab 236 8 = some ((14, 0, 0, []), 9) := rfl
theorem T_236_9 : hTab 236 9 = some ((31, 237, 0, []), 12) := rfl
theorem T_236_12 : hTab 236 12 = some ((3, 0, 2, []), 13) := rfl
theorem T_236_13 : hTab 236 13 = some ((24, 17, Int.ofNat 5, []), 16) := rfl
theorem T_236_16 : hTab 236 16 = some ((0, 0, 5, []), 17) := rfl
theorem T_236_17 : hTab 236 17 = some ((3, 0, 2, []), 18) := rfl
theorem T_236_18 : hTab 236 18 = some ((24, 17, Int.ofNat 3, []), 21) := rfl
theorem T_236_21 : hTab 236 21 = some ((0, 0, 5, []), 22) := rfl
theorem T_236_22 : hTab 236 22 = some ((26, 0, 0, []), 23) := rfl
theorem T_236_23 : hTab 236 23 = some ((27, 0, 0, []), 24) := rfl
theorem T_236_24 : hTab 236 24 = some ((3, 0, 2, []), 25) := rfl
theorem T_236_25 : hTab 236 25 = some ((24, 17, Int.ofNat 5, []), 28) := rfl
theorem T_236_28 : hTab 236 28 = some ((0, 0, 6, []), 30) := rfl
theorem T_236_30 : hTab 236 30 = some ((3, 0, 2, []), 31) := rfl
theorem T_236_31 : hTab 236 31 = some ((24, 17, Int.ofNat 3, []), 34) := rfl
theorem T_236_34 : hTab 236 34 = some ((0, 0, 6, []), 36) := rfl
theorem T_236_36 : hTab 236 36 = some ((26, 0, 0, []), 37) := rfl
theorem T_236_37 : hTab 236 37 = some ((27, 0, 0, []), 38) := rfl
theorem T_236_38 : hTab 236 38 = some ((3, 0, 2, []), 39) := rfl
theorem T_236_39 : hTab 236 39 = some ((0, 0, 7, []), 41) := rfl
theorem T_236_41 : hTab 236 41 = some ((25, 17, Int.ofNat 6, []), 44) := rfl
theorem T_236_44 : hTab 236 44 = some ((33, 0, 0, []), 45) := rfl
theorem T_237_0 : hTab 237 0 = some ((0, 0, 0, []), 1) := rfl
theorem T_237_1 : hTab 237 1 = some ((4, 4, 0, []), 3) := rfl
theorem T_237_3 : hTab 237 3 = some ((3, 4, 0, []), 5) := rfl
theorem T_237_5 : hTab 237 5 = some ((3, 1, 0, []), 6) := rfl
theorem T_237_6 : hTab 237 6 = some ((19, 3, Int.ofNat 46, []), 9) := rfl
theorem T_237_9 : hTab 237 9 = some ((3, 0, 2, []), 10) := rfl
theorem T_237_10 : hTab 237 10 = some ((24, 17, Int.ofNat 5, []), 13) := rfl
theorem T_237_13 : hTab 237 13 = some ((3, 0, 2, []), 14) := rfl
theorem T_237_14 : hTab 237 14 = some ((24, 17, Int.ofNat 6, []), 17) := rfl
theorem T_237_17 : hTab 237 17 = some ((3, 2, 1, []), 18) := rfl
theorem T_237_18 : hTab 237 18 = some ((0, 0, 8, []), 20) := rfl
theorem T_237_20 : hTab 237 20 = some ((3, 4, 0, []), 22) := rfl
theorem T_237_22 : hTab 237 22 = some ((10, 2, 0, []), 23) := rfl
theorem T_237_23 : hTab 237 23 = some ((12, 1, 0, []), 24) := rfl
theorem T_237_24 : hTab 237 24 = some ((1, 0, 255, []), 27) := rfl
theorem T_237_27 : hTab 237 27 = some ((11, 5, 0, []), 28) := rfl
theorem T_237_28 : hTab 237 28 = some ((15, 0, 0, []), 29) := rfl
theorem T_237_29 : hTab 237 29 = some ((27, 0, 0, []), 30) := rfl
theorem T_237_30 : hTab 237 30 = some ((3, 0, 2, []), 31) := rfl
theorem T_237_31 : hTab 237 31 = some ((6, 0, 0, []), 32) := rfl
theorem T_237_32 : hTab 237 32 = some ((24, 17, Int.ofNat 6, []), 35) := rfl
theorem T_237_35 : hTab 237 35 = some ((0, 0, 1, []), 36) := rfl
theorem T_237_36 : hTab 237 36 = some ((10, 0, 0, []), 37) := rfl
theorem T_237_37 : hTab 237 37 = some ((25, 17, Int.ofNat 6, []), 40) := rfl
theorem T_237_40 : hTab 237 40 = some ((5, 4, 1, []), 43) := rfl
theorem T_237_43 : hTab 237 43 = some ((22, 0, Int.ofNat 3, []), 46) := rfl
theorem T_237_46 : hTab 237 46 = some ((33, 0, 0, []), 47) := rfl
theorem T_305_0 : hTab 305 0 = some ((0, 0, 0, []), 1) := rfl
theorem T_305_1 : hTab 305 1 = some ((4, 1, 0, []), 2) := rfl
theorem T_305_2 : hTab 305 2 = some ((3, 1, 0, []), 3) := rfl
theorem T_305_3 : hTab 305 3 = some ((0, 0, 4, []), 4) := rfl
theorem T_305_4 : hTab 305 4 = some ((19, 3, Int.ofNat 32, []), 7) := rfl
theorem T_305_7 : hTab 305 7 = some ((3, 0, 2, []), 8) := rfl
theorem T_305_8 : hTab 305 8 = some ((24, 17, Int.ofNat 5, []), 11) := rfl
theorem T_305_11 : hTab 305 11 = some ((3, 1, 0, []), 12) := rfl
theorem T_305_12 : hTab 305 12 = some ((3, 0, 2, []), 13) := rfl
theorem T_305_13 : hTab 305 13 = some ((24, 17, Int.ofNat 6, []), 16) := rfl
theorem T_305_16 : hTab 305 16 = some ((0, 0, 8, []), 18) := rfl
theorem T_305_18 : hTab 305 18 = some ((3, 1, 0, []), 19) := rfl
theorem T_305_19 : hTab 305 19 = some ((10, 2, 0, []), 20) := rfl
theorem T_305_20 : hTab 305 20 = some ((10, 9, 0, []), 21) := rfl
theorem T_305_21 : hTab 305 21 = some ((0, 0, 255, []), 24) := rfl
theorem T_305_24 : hTab 305 24 = some ((10, 5, 0, []), 25) := rfl
theorem T_305_25 : hTab 305 25 = some ((27, 0, 0, []), 26) := rfl
theorem T_305_26 : hTab 305 26 = some ((5, 1, 1, []), 29) := rfl
theorem T_305_29 : hTab 305 29 = some ((22, 0, Int.ofNat 2, []), 32) := rfl
theorem T_305_32 : hTab 305 32 = some ((33, 0, 0, []), 33) := rfl
theorem F_17_0 : (hFd 17 0).2.2.1 = 4 := rfl
theorem F_17_1 : (hFd 17 1).2.2.1 = 4 := rfl
theorem F_17_3 : (hFd 17 3).2.2.1 = 4 := rfl
theorem F_17_4 : (hFd 17 4).2.2.1 = 0 := rfl
theorem F_17_5 : (hFd 17 5).2.2.1 = 4 := rfl
theorem F_17_6 : (hFd 17 6).2.2.1 = 0 := rfl
theorem F_17_7 : (hFd 17 7).2.2.1 = 0 := rfl
theorem F_17_8 : (hFd 17 8).2.2.1 = 0 := rfl
theorem F_17_9 : (hFd 17 9).2.2.1 = 2 := rfl
theorem mN_234 : hmN 234 = 2 := by decide +kernel
theorem mL_234 : hmL 234 = 5 := by decide +kernel
theorem mK_234 : hmK 234 = 1 := by decide +kernel
theorem mO_234 : hmO 234 = 17 := by decide +kernel
theorem mN_235 : hmN 235 = 2 := by decide +kernel
theorem mL_235 : hmL 235 = 3 := by decide +kernel
theorem mK_235 : hmK 235 = 1 := by decide +kernel
theorem mO_235 : hmO 235 = 17 := by decide +kernel
theorem mN_236 : hmN 236 = 2 := by decide +kernel
theorem mL_236 : hmL 236 = 2 := by decide +kernel
theorem mK_236 : hmK 236 = 1 := by decide +kernel
theorem mO_236 : hmO 236 = 17 := by decide +kernel
theorem mN_237 : hmN 237 = 3 := by decide +kernel
theorem mL_237 : hmL 237 = 5 := by decide +kernel
theorem mK_237 : hmK 237 = 1 := by decide +kernel
theorem mO_237 : hmO 237 = 17 := by decide +kernel
theorem mN_305 : hmN 305 = 1 := by decide +kernel
theorem mL_305 : hmL 305 = 2 := by decide +kernel
theorem mK_305 : hmK 305 = 1 := by decide +kernel
theorem mO_305 : hmO 305 = 17 := by decide +kernel
theorem rA_zn {W : qR} {l : List Int} {n w : Int} (h : (l.length : Int) = n) (e : W 2281 6 = w) : rA W l 2281 6 = w + n := by rw [rA_z, h, e]
theorem rA_snoc {W : qR} {l : List Int} {b : Int} : rU (rU (rA W l) 2286 (W 2281 6 + l.length) b) 2281 6 (W 2281 6 + l.length + 1) = rA W (l ++ [b]) := by
  rw [← rA_rA]
  show _ = rU (rW (rA W l) 2286 (rA W l 2281 6) [b]) 2281 6 (rA W l 2281 6 + (1 : Int))
  rw [rW_one, rA_z]
def rpl (S : qR) (t : Int) : qR := rU (rU (rU (rA (rU S 2281 6 4) (leb 1 t)) 2286 5 (S 2285 5)) 2286 6 (S 2285 6)) 2281 6 7
theorem rpl_z {S : qR} {t : Int} : rpl S t 2281 6 = 7 := rU_s
theorem rpl_o {S : qR} {t j : Int} {g : Nat} (h1 : g ≠ 2286) (h2 : ¬ (g = 2281 ∧ j = 6)) : rpl S t g j = S g j := by
  unfold rpl
  rw [show ∀ (W : qR), rU W 2281 6 7 g j = W g j from fun W => if_neg h2, rU_f h1, rU_f h1, rA_o h1 h2]
  exact if_neg h2
/-- where the reading stands; below 0: bad -/
def pS (S : qR) (p : Int) : qR := rU (rU S 2281 9 (if p < 0 then 1 else 0)) 2281 8 (if p < 0 then S 2281 4 + 1 else p)
def av (z p n : Int) : Int := if p < 0 ∨ z < p + n then -1 else p + n
def nv (a : Int → Int) (z p : Int) (n : Nat) : Int := if p < 0 ∨ z < p + n then 0 else w64 (nu a p n)
/-- where a string ends that begins there -/
def sE (a : Int → Int) (z p : Int) : Int := if p < 0 ∨ z < p + 2 then -1 else if z < p + 2 + nu a p 2 then -1 else p + 2 + nu a p 2
section PSR
variable {S : qR} {p q a b j v : Int} {g : Nat}
theorem pS_f (h : g ≠ 2281) : pS S p g j = S g j := by
  unfold pS
  rw [rU_f h, rU_f h]
theorem pS_k (h : ¬ (j = 8 ∨ j = 9)) : pS S p 2281 j = S 2281 j := by
  unfold pS
  rw [rU_k (fun e => h (Or.inl e)), rU_k (fun e => h (Or.inr e))]
theorem pS_at : pS S p 2281 8 = if p < 0 then S 2281 4 + 1 else p := rU_s
theorem pS_bad : pS S p 2281 9 = if p < 0 then 1 else 0 := by
  unfold pS
  rw [rU_k (by decide)]
  exact rU_s
theorem pS_set : rU (rU (pS S p) 2281 9 a) 2281 8 b = rU (rU S 2281 9 a) 2281 8 b := by
  unfold pS
  funext g j
  unfold rU
  by_cases h1 : g = 2281 ∧ j = 8
  · rw [if_pos h1, if_pos h1]
  · rw [if_neg h1, if_neg h1]
    by_cases h2 : g = 2281 ∧ j = 9
    · rw [if_pos h2, if_neg h1, if_pos h2]
    · rw [if_neg h2, if_neg h2, if_neg h1, if_neg h2]
theorem pS_neg (h : p < 0) : rU (rU S 2281 9 1) 2281 8 (S 2281 4 + 1) = pS S p := by
  unfold pS
  rw [if_pos h, if_pos h]
theorem pS_adv (h0 : 0 ≤ p) (h1 : 0 ≤ q) : rU (pS S p) 2281 8 q = pS S q := by
  unfold pS
  rw [if_neg (by omega), if_neg (by omega), if_neg (by omega), if_neg (by omega), rU_rU]
theorem pS_pS : pS (pS S p) q = pS S q := by
  show rU (rU (pS S p) 2281 9 _) 2281 8 (if q < 0 then pS S p 2281 4 + 1 else q) = _
  rw [pS_set, pS_k (by decide)]
  rfl
theorem pS_self (h1 : S 2281 9 = 0) (h2 : S 2281 8 = q) (h : 0 ≤ q) : pS S q = S := by
  unfold pS
  rw [if_neg (by omega), if_neg (by omega), ← h1, rU_self, ← h2, rU_self]
theorem pS_rU {f : Nat} {k : Int} (h : ¬ (f = 2281 ∧ (k = 8 ∨ k = 9 ∨ k = 4))) : rU (pS S p) f k v = pS (rU S f k v) p := by
  unfold pS
  rw [rU_comm (by by_cases e : f = 2281; exact Or.inr (fun e2 => h ⟨e, Or.inl e2.symm⟩); exact Or.inl (fun e2 => e e2.symm)), rU_comm (f1 := 2281) (by by_cases e : f = 2281; exact Or.inr (fun e2 => h ⟨e, Or.inr (Or.inl e2.symm)⟩); exact Or.inl (fun e2 => e e2.symm)),
    show rU S f k v 2281 4 = S 2281 4 from if_neg (fun e => h ⟨e.1.symm, Or.inr (Or.inr e.2.symm)⟩)]
end PSR
theorem etx_b {e : Int} (h : 1 ≤ e ∧ e ≤ 16) : 0 ≤ eend (e - 1) ∧ eend (e - 1) ≤ eend e ∧ eend e ≤ 181 ∧ eend e - eend (e - 1) ≤ 17 := by
  have h1 : (List.range 16).all (fun i => decide (0 ≤ eend ((i : Int) + 1 - 1) ∧ eend ((i : Int) + 1 - 1) ≤ eend ((i : Int) + 1) ∧ eend ((i : Int) + 1) ≤ 181 ∧ eend ((i : Int) + 1) - eend ((i : Int) + 1 - 1) ≤ 17)) = true := by decide +kernel
  have h2 := of_decide_eq_true (List.all_eq_true.mp h1 (e - 1).toNat (List.mem_range.mpr (by omega)))
  rw [show (((e - 1).toNat : Nat) : Int) + 1 = e by omega] at h2
  exact h2
/-- an error's text -/
def etx (a : Int) : Nat → List Int
  | 0 => []
  | m + 1 => etx a m ++ leb 1 (ebyte (a + m))
theorem etx_len (a : Int) : ∀ m, (etx a m).length = m
  | 0 => rfl
  | m + 1 => by show (etx a m ++ leb 1 _).length = m + 1; rw [List.length_append, etx_len a m]; rfl
def errL (e : Int) : List Int := leb 2 (eend e - eend (e - 1)) ++ etx (eend (e - 1)) (eend e - eend (e - 1)).toNat
theorem errL_len {e : Int} (h : 1 ≤ e ∧ e ≤ 16) : (errL e).length ≤ 19 := by
  have := etx_b h
  unfold errL
  rw [List.length_append, leb_len, etx_len]
  omega
/-- refused -/
def rfs (S : qR) (e : Int) : qR := rA (rpl (rU S 2281 7 e) 107) (errL e)
/-- the size is written -/
def fin (S : qR) : qR := rW S 2286 0 (leb 4 (S 2281 6))
section MNUM
variable {fb : Bool} {d : Nat} {σ0 σ : hM} {P S : qR}
theorem m_put_loop {v n : Int} (hn : n ≤ 8) (h0 : 0 ≤ S 2281 6) (h1 : S 2281 6 + n ≤ 512) : ∀ (m : Nat) (i : Int) (σ : hM), i + m = n → 0 ≤ i → PM σ0 P (rA S (leb i.toNat v)) σ → WP fb d 237 3 [some (vR (some 2281)), some (vI n), some (vL v), none, some (vI i)] [] σ (rV σ0 P (rA S (leb n.toNat v))) := by
  intro m
  induction m with
  | zero =>
    intro i σ hi hi0 hP
    refine x_li (z := i) T_237_3 rfl ?_
    refine x_li (z := n) T_237_5 rfl ?_
    refine x_ic2 T_237_6 (fun _ => ?_) (fun h => absurd (show n ≤ i by omega) h)
    refine x_rv T_237_46 ?_
    exact ⟨rfl, by rw [show n = i by omega]; exact hP⟩
  | succ m ih =>
    intro i σ hi hi0 hP
    have hz : ((leb i.toNat v).length : Int) = i := by rw [leb_len]; omega
    refine x_li (z := i) T_237_3 rfl ?_
    refine x_li (z := n) T_237_5 rfl ?_
    refine x_ic2 T_237_6 (fun h => absurd (show n ≤ i from h) (by omega)) (fun _ => ?_)
    refine x_lr (z := some 2281) T_237_9 rfl ?_
    refine x_gR (z := some 2286) T_237_10 F_17_5 (PM.t hP) (PM.r hP 5 2286 rfl) ?_
    refine x_lr (z := some 2281) T_237_13 rfl ?_
    refine x_gI (z := (S 2281 6 + i)) T_237_14 (Or.inl F_17_6) (PM.t hP) (Eq.trans (PM.nS hP 2281 6 6 rfl rfl rfl) (rA_zn hz rfl)) ?_
    refine x_ll (z := v) T_237_17 rfl ?_
    refine x_ic T_237_18 ?_
    refine x_li (z := i) T_237_20 rfl ?_
    refine x_ib (w := (8 * i)) T_237_22 (fun h => absurd h.1 (by decide)) (w32_id (by omega) (by omega)) ?_
    refine x_lh (w := (shr64 v (8 * i))) T_237_23 rfl ?_
    refine x_lc T_237_24 ?_
    refine x_lb (w := (v / 256 ^ i.toNat % 256)) T_237_27 (fun h => absurd h.1 (by decide)) (byte64 v (by omega) (by omega)) ?_
    refine x_l2i (w := (v / 256 ^ i.toNat % 256)) T_237_28 (w32_id (by omega) (by omega)) ?_
    refine y_aIS hP T_237_29 2286 512 rfl rfl rfl (by omega) (by omega) (fun σ hP => ?_)
    refine x_lr (z := some 2281) T_237_30 rfl ?_
    refine x_dupR T_237_31 ?_
    refine x_gI (z := (S 2281 6 + i)) T_237_32 (Or.inl F_17_6) (PM.t hP) (Eq.trans (PM.nS hP 2281 6 6 rfl rfl rfl) (Eq.trans (rU_f (Nat.ne_of_beq_eq_false rfl)) (rA_zn hz rfl))) ?_
    refine x_ic T_237_35 ?_
    refine x_ib (w := ((S 2281 6 + i) + 1)) T_237_36 (fun h => absurd h.1 (by decide)) (w32_id (by omega) (by omega)) ?_
    refine y_pIS hP T_237_37 F_17_6 6 rfl rfl (fun σ hP => ?_)
    refine x_inc (w := (i + 1)) (ls1 := [some (vR (some 2281)), some (vI n), some (vL v), none, some (vI (i + 1))]) T_237_40 rfl (w32_id (by omega) (by omega)) rfl ?_
    refine x_goto T_237_43 ?_
    refine ih (i + 1) σ (by omega) (by omega) ?_
    rw [show (i + 1).toNat = i.toNat + 1 by omega, leb_snoc, ← rA_snoc, hz]
    exact hP
theorem m_put (n : Nat) {z v w : Int} (hz : (n : Int) = z) (hP : PM σ0 P S σ) (hn : n ≤ 8) (e : S 2281 6 = w) (h0 : 0 ≤ w) (h1 : w + n ≤ 512) : CL fb d 237 [vR (some 2281), vI z, vL v] σ (rV σ0 P (rA S (leb n v))) := by
  subst e
  have hn2 : n = z.toNat := by omega
  rw [hn2]
  refine CL_in mL_237 rfl ?_
  show WP fb _ 237 0 [some (vR (some 2281)), some (vI z), some (vL v), none, none] [] σ _
  refine x_ic T_237_0 ?_
  refine x_si (ls1 := [some (vR (some 2281)), some (vI z), some (vL v), none, some (vI 0)]) T_237_1 rfl ?_
  exact m_put_loop (by omega) h0 (by omega) n 0 σ (by omega) (by decide) (by rw [show leb (0 : Int).toNat v = [] from rfl, rA_nil]; exact hP)
theorem m_reply {t : Int} (hP : PM σ0 P S σ) : CL fb (d + 1) 236 [vR (some 2281), vI t] σ (rV σ0 P (rpl S t)) := by
  refine CL_in mL_236 rfl ?_
  show WP fb _ 236 0 [some (vR (some 2281)), some (vI t)] [] σ _
  refine x_lr (z := some 2281) T_236_0 rfl ?_
  refine x_ic T_236_1 ?_
  refine y_pIS hP T_236_2 F_17_6 6 rfl rfl (fun σ hP => ?_)
  refine x_lr (z := some 2281) T_236_5 rfl ?_
  refine x_ic T_236_6 ?_
  refine x_li (z := t) T_236_7 rfl ?_
  refine x_i2l T_236_8 ?_
  refine x_cv3 T_236_9 mN_237 mL_237 (Nat.le_of_ble_eq_true rfl) mO_237 (PM.t hP) (Nat.le_of_ble_eq_true rfl) (m_put 1 rfl hP (by decide) rU_s (by omega) (by omega)) ?_
  rintro _ σ ⟨rfl, hP⟩
  refine cV ?_
  refine x_lr (z := some 2281) T_236_12 rfl ?_
  refine x_gR (z := some 2286) T_236_13 F_17_5 (PM.t hP) (PM.r hP 5 2286 rfl) ?_
  refine x_ic T_236_16 ?_
  refine x_lr (z := some 2281) T_236_17 rfl ?_
  refine x_gR (z := some 2285) T_236_18 F_17_3 (PM.t hP) (PM.r hP 3 2285 rfl) ?_
  refine x_ic T_236_21 ?_
  refine x_alI (z := S 2285 5) T_236_22 (by decide) (PM.ta hP 2285 0 512 rfl rfl) (by omega) (by omega) (Eq.trans (PM.aS hP 2285 rfl rfl (by omega)) (Eq.trans (rA_o (Nat.ne_of_beq_eq_false rfl) (by decide)) (rU_f (Nat.ne_of_beq_eq_false rfl)))) ?_
  refine y_aIS hP T_236_23 2286 512 rfl rfl rfl (by omega) (by omega) (fun σ hP => ?_)
  refine x_lr (z := some 2281) T_236_24 rfl ?_
  refine x_gR (z := some 2286) T_236_25 F_17_5 (PM.t hP) (PM.r hP 5 2286 rfl) ?_
  refine x_ic T_236_28 ?_
  refine x_lr (z := some 2281) T_236_30 rfl ?_
  refine x_gR (z := some 2285) T_236_31 F_17_3 (PM.t hP) (PM.r hP 3 2285 rfl) ?_
  refine x_ic T_236_34 ?_
  refine x_alI (z := S 2285 6) T_236_36 (by decide) (PM.ta hP 2285 0 512 rfl rfl) (by omega) (by omega) (Eq.trans (PM.aS hP 2285 rfl rfl (by omega)) (Eq.trans (rU_f (Nat.ne_of_beq_eq_false rfl)) (Eq.trans (rA_o (Nat.ne_of_beq_eq_false rfl) (by decide)) (rU_f (Nat.ne_of_beq_eq_false rfl))))) ?_
  refine y_aIS hP T_236_37 2286 512 rfl rfl rfl (by omega) (by omega) (fun σ hP => ?_)
  refine x_lr (z := some 2281) T_236_38 rfl ?_
  refine x_ic T_236_39 ?_
  refine y_pIS hP T_236_41 F_17_6 6 rfl rfl (fun σ hP => ?_)
  refine x_rv T_236_44 ?_
  exact ⟨rfl, hP⟩
theorem m_finish_loop {n : Int} (hn : 0 ≤ n ∧ n ≤ 512) (hz : S 2281 6 = n) : ∀ (m : Nat) (i : Int) (σ : hM), i + m = 4 → 0 ≤ i → PM σ0 P (rW S 2286 0 (leb i.toNat n)) σ → WP fb d 305 2 [some (vR (some 2281)), some (vI i)] [] σ (rV σ0 P (fin S)) := by
  intro m
  induction m with
  | zero =>
    intro i σ hi hi0 hP
    refine x_li (z := i) T_305_2 rfl ?_
    refine x_ic T_305_3 ?_
    refine x_ic2 T_305_4 (fun _ => ?_) (fun h => absurd (show 4 ≤ i by omega) h)
    refine x_rv T_305_32 ?_
    exact ⟨rfl, by unfold fin; rw [hz, show 4 = i.toNat by omega]; exact hP⟩
  | succ m ih =>
    intro i σ hi hi0 hP
    refine x_li (z := i) T_305_2 rfl ?_
    refine x_ic T_305_3 ?_
    refine x_ic2 T_305_4 (fun h => absurd (show 4 ≤ i from h) (by omega)) (fun _ => ?_)
    refine x_lr (z := some 2281) T_305_7 rfl ?_
    refine x_gR (z := some 2286) T_305_8 F_17_5 (PM.t hP) (PM.r hP 5 2286 rfl) ?_
    refine x_li (z := i) T_305_11 rfl ?_
    refine x_lr (z := some 2281) T_305_12 rfl ?_
    refine x_gI (z := n) T_305_13 (Or.inl F_17_6) (PM.t hP) (Eq.trans (Eq.trans (PM.nS hP 2281 6 6 rfl rfl rfl) (rW_f (Nat.ne_of_beq_eq_false rfl))) hz) ?_
    refine x_ic T_305_16 ?_
    refine x_li (z := i) T_305_18 rfl ?_
    refine x_ib (w := (8 * i)) T_305_19 (fun h => absurd h.1 (by decide)) (w32_id (by omega) (by omega)) ?_
    refine x_ib (w := (shr32 n (8 * i))) T_305_20 (fun h => absurd h.1 (by decide)) rfl ?_
    refine x_ic T_305_21 ?_
    refine x_ib (w := (n / 256 ^ i.toNat % 256)) T_305_24 (fun h => absurd h.1 (by decide)) (byte32 (by omega) (by omega) (by omega) (by omega)) ?_
    refine y_aIS hP T_305_25 2286 512 rfl rfl rfl (by omega) (by omega) (fun σ hP => ?_)
    refine x_inc (w := (i + 1)) (ls1 := [some (vR (some 2281)), some (vI (i + 1))]) T_305_26 rfl (w32_id (by omega) (by omega)) rfl ?_
    refine x_goto T_305_29 ?_
    refine ih (i + 1) σ (by omega) (by omega) ?_
    have e := rW_app (W := S) (f := 2286) (o := 0) (l1 := leb i.toNat n) (l2 := [n / 256 ^ i.toNat % 256])
    rw [leb_len, rW_one, Int.zero_add, Int.toNat_of_nonneg hi0] at e
    rw [show (i + 1).toNat = i.toNat + 1 by omega, leb_snoc, ← e]
    exact hP
theorem m_finish {w : Int} (hP : PM σ0 P S σ) (e : S 2281 6 = w) (h : 0 ≤ w ∧ w ≤ 512) : CL fb d 305 [vR (some 2281)] σ (rV σ0 P (fin S)) := by
  refine CL_in mL_305 rfl ?_
  show WP fb _ 305 0 [some (vR (some 2281)), none] [] σ _
  refine x_ic T_305_0 ?_
  refine x_si (ls1 := [some (vR (some 2281)), some (vI 0)]) T_305_1 rfl ?_
  exact m_finish_loop h e 4 0 σ rfl (by decide) (by rw [show leb (0 : Int).toNat w = [] from rfl, rW_nil]; exact hP)
theorem m_refuse_loop {e a : Int} (he : 1 ≤ e ∧ e ≤ 16) (ha : eend (e - 1) = a) (h0 : 0 ≤ S 2281 6) (h1 : S 2281 6 + 17 ≤ 512) : ∀ (m : Nat) (k : Int) (σ : hM), k + m = eend e → a ≤ k → PM σ0 P (rA S (etx a (k - a).toNat)) σ → WP fb (d + 1) 235 41 [some (vR (some 2281)), some (vI e), some (vI k)] [] σ (rV σ0 P (rA S (etx a (eend e - a).toNat))) := by
  have hb := etx_b he
  rw [ha] at hb
  intro m
  induction m with
  | zero =>
    intro k σ hi hk hP
    refine x_li (z := k) T_235_41 rfl ?_
    refine x_lr (z := some 2281) T_235_42 rfl ?_
    refine x_gR (z := some 2283) T_235_43 F_17_1 (PM.t hP) (PM.r hP 1 2283 rfl) ?_
    refine x_li (z := e) T_235_46 rfl ?_
    refine x_alI (z := eend e) T_235_47 (by decide) (PM.ta hP 2283 0 17 rfl rfl) (by omega) (by omega) (PM.c2283 hP (by omega) (by omega)) ?_
    refine x_ic2 T_235_48 (fun _ => ?_) (fun h => absurd (show eend e ≤ k by omega) h)
    refine x_rv T_235_69 ?_
    exact ⟨rfl, by rw [show eend e = k by omega]; exact hP⟩
  | succ m ih =>
    intro k σ hi hk hP
    have hz : ((etx a (k - a).toNat).length : Int) = k - a := by rw [etx_len]; omega
    refine x_li (z := k) T_235_41 rfl ?_
    refine x_lr (z := some 2281) T_235_42 rfl ?_
    refine x_gR (z := some 2283) T_235_43 F_17_1 (PM.t hP) (PM.r hP 1 2283 rfl) ?_
    refine x_li (z := e) T_235_46 rfl ?_
    refine x_alI (z := eend e) T_235_47 (by decide) (PM.ta hP 2283 0 17 rfl rfl) (by omega) (by omega) (PM.c2283 hP (by omega) (by omega)) ?_
    refine x_ic2 T_235_48 (fun h => absurd (show eend e ≤ k from h) (by omega)) (fun _ => ?_)
    refine x_lr (z := some 2281) T_235_51 rfl ?_
    refine x_ic T_235_52 ?_
    refine x_lr (z := some 2281) T_235_53 rfl ?_
    refine x_gR (z := some 2282) T_235_54 F_17_0 (PM.t hP) (PM.r hP 0 2282 rfl) ?_
    refine x_li (z := k) T_235_57 rfl ?_
    refine x_alI (z := ebyte k) T_235_58 (by decide) (PM.ta hP 2282 0 181 rfl rfl) (by omega) (by omega) (PM.c2282 hP (by omega) (by omega)) ?_
    refine x_i2l T_235_59 ?_
    refine x_cv3 T_235_60 mN_237 mL_237 (Nat.le_of_ble_eq_true rfl) mO_237 (PM.t hP) (Nat.le_of_ble_eq_true rfl) (m_put 1 rfl hP (by decide) (rA_zn hz rfl) (by omega) (by omega)) ?_
    rintro _ σ ⟨rfl, hP⟩
    refine cV ?_
    refine x_inc (w := (k + 1)) (ls1 := [some (vR (some 2281)), some (vI e), some (vI (k + 1))]) T_235_63 rfl (w32_id (by omega) (by omega)) rfl ?_
    refine x_goto T_235_66 ?_
    rw [rA_rA] at hP
    refine ih (k + 1) σ (by omega) (by omega) ?_
    rw [show (k + 1 - a).toNat = (k - a).toNat + 1 by omega]
    show PM σ0 P (rA S (etx a (k - a).toNat ++ leb 1 (ebyte (a + ((k - a).toNat : Nat))))) σ
    rw [show a + (((k - a).toNat : Nat) : Int) = k by omega]
    exact hP
theorem m_refuse {e : Int} (hP : PM σ0 P S σ) (he : 1 ≤ e ∧ e ≤ 16) : CL fb (d + 2) 235 [vR (some 2281), vI e] σ (rV σ0 P (rfs S e)) := by
  have hb := etx_b he
  refine CL_in mL_235 rfl ?_
  show WP fb _ 235 0 [some (vR (some 2281)), some (vI e), none] [] σ _
  refine x_lr (z := some 2281) T_235_0 rfl ?_
  refine x_li (z := e) T_235_1 rfl ?_
  refine y_pIS hP T_235_2 F_17_7 7 rfl rfl (fun σ hP => ?_)
  refine x_lr (z := some 2281) T_235_5 rfl ?_
  refine x_ic T_235_6 ?_
  refine x_cv2 T_235_8 mN_236 mL_236 (Nat.le_of_ble_eq_true rfl) mO_236 (PM.t hP) (Nat.le_of_ble_eq_true rfl) (m_reply hP) ?_
  rintro _ σ ⟨rfl, hP⟩
  refine cV ?_
  refine x_lr (z := some 2281) T_235_11 rfl ?_
  refine x_ic T_235_12 ?_
  refine x_lr (z := some 2281) T_235_13 rfl ?_
  refine x_gR (z := some 2283) T_235_14 F_17_1 (PM.t hP) (PM.r hP 1 2283 rfl) ?_
  refine x_li (z := e) T_235_17 rfl ?_
  refine x_alI (z := eend e) T_235_18 (by decide) (PM.ta hP 2283 0 17 rfl rfl) (by omega) (by omega) (PM.c2283 hP (by omega) (by omega)) ?_
  refine x_lr (z := some 2281) T_235_19 rfl ?_
  refine x_gR (z := some 2283) T_235_20 F_17_1 (PM.t hP) (PM.r hP 1 2283 rfl) ?_
  refine x_li (z := e) T_235_23 rfl ?_
  refine x_ic T_235_24 ?_
  refine x_ib (w := (e - 1)) T_235_25 (fun h => absurd h.1 (by decide)) (w32_id (by omega) (by omega)) ?_
  refine x_alI (z := eend (e - 1)) T_235_26 (by decide) (PM.ta hP 2283 0 17 rfl rfl) (by omega) (by omega) (PM.c2283 hP (by omega) (by omega)) ?_
  refine x_ib (w := (eend e - eend (e - 1))) T_235_27 (fun h => absurd h.1 (by decide)) (w32_id (by omega) (by omega)) ?_
  refine x_i2l T_235_28 ?_
  refine x_cv3 T_235_29 mN_237 mL_237 (Nat.le_of_ble_eq_true rfl) mO_237 (PM.t hP) (Nat.le_of_ble_eq_true rfl) (m_put 2 rfl hP (by decide) rpl_z (by omega) (by omega)) ?_
  rintro _ σ ⟨rfl, hP⟩
  refine cV ?_
  refine x_lr (z := some 2281) T_235_32 rfl ?_
  refine x_gR (z := some 2283) T_235_33 F_17_1 (PM.t hP) (PM.r hP 1 2283 rfl) ?_
  refine x_li (z := e) T_235_36 rfl ?_
  refine x_ic T_235_37 ?_
  refine x_ib (w := (e - 1)) T_235_38 (fun h => absurd h.1 (by decide)) (w32_id (by omega) (by omega)) ?_
  refine x_alI (z := eend (e - 1)) T_235_39 (by decide) (PM.ta hP 2283 0 17 rfl rfl) (by omega) (by omega) (PM.c2283 hP (by omega) (by omega)) ?_
  refine x_si (ls1 := [some (vR (some 2281)), some (vI e), some (vI (eend (e - 1)))]) T_235_40 rfl ?_
  have hw := m_refuse_loop (fb := fb) (d := d + 1) (S := rA (rpl (rU S 2281 7 e) 107) (leb 2 (eend e - eend (e - 1)))) (P := P) (σ0 := σ0) he rfl (by rw [rA_zn (n := 2) (by rw [leb_len]; rfl) rpl_z]; decide) (by rw [rA_zn (n := 2) (by rw [leb_len]; rfl) rpl_z]; decide) (eend e - eend (e - 1)).toNat (eend (e - 1)) σ (by omega) (by omega) (by rw [Int.sub_self, show etx (eend (e - 1)) (0 : Int).toNat = [] from rfl, rA_nil]; exact hP)
  refine WP.mono hw ?_
  rintro r σ1 ⟨h1, h2⟩
  refine ⟨h1, ?_⟩
  unfold rfs errL
  rw [← rA_rA]
  exact h2
theorem m_number_loop {p n : Int} (hn : n ≤ 8) (hp : 0 ≤ p) (h1 : p + n ≤ S 2281 4) (hsz : S 2281 4 ≤ 512) (hb : ∀ j, 0 ≤ j → j < S 2281 4 → 0 ≤ S 2285 j ∧ S 2285 j ≤ 255) (hP : PM σ0 P (pS S p) σ) : ∀ (m : Nat) (i : Int), i + m = n → 0 ≤ i → WP fb d 234 35 [some (vR (some 2281)), some (vI n), some (vL (w64 (nu (S 2285) p i.toNat))), none, some (vI i)] [] σ (rL (w64 (nu (S 2285) p n.toNat)) σ0 P (pS S (p + n))) := by
  have hat : pS S p 2281 8 = p := pS_at.trans (if_neg (by omega))
  intro m
  induction m with
  | zero =>
    intro i hi hi0
    refine x_li (z := i) T_234_35 rfl ?_
    refine x_li (z := n) T_234_37 rfl ?_
    refine x_ic2 T_234_38 (fun _ => ?_) (fun h => absurd (show n ≤ i by omega) h)
    refine x_lr (z := some 2281) T_234_69 rfl ?_
    refine x_dupR T_234_70 ?_
    refine x_gI (z := p) T_234_71 (Or.inl F_17_8) (PM.t hP) (Eq.trans (PM.nS hP 2281 8 8 rfl rfl rfl) hat) ?_
    refine x_li (z := n) T_234_74 rfl ?_
    refine x_ib (w := (p + n)) T_234_75 (fun h => absurd h.1 (by decide)) (w32_id (by omega) (by omega)) ?_
    refine y_pIS hP T_234_76 F_17_8 8 rfl rfl (fun σ hP => ?_)
    refine x_ll (z := (w64 (nu (S 2285) p i.toNat))) T_234_79 rfl ?_
    refine x_rl T_234_80 ?_
    exact ⟨by rw [show i = n by omega], by rw [← pS_adv hp (by omega)]; exact hP⟩
  | succ m ih =>
    intro i hi hi0
    have hr := nu_rng (f := S 2285) (i := p) i.toNat (fun k hk => hb _ (by omega) (by omega))
    have hbi := hb (p + i) (by omega) (by omega)
    have hlt : (256 : Int) ^ i.toNat ≤ 256 ^ 7 := pow256_le (by omega)
    have h7 : (256 : Int) ^ 7 = 72057594037927936 := by decide
    have hw : w64 (nu (S 2285) p i.toNat) = nu (S 2285) p i.toNat := w64_id (by omega) (by omega)
    refine x_li (z := i) T_234_35 rfl ?_
    refine x_li (z := n) T_234_37 rfl ?_
    refine x_ic2 T_234_38 (fun h => absurd (show n ≤ i from h) (by omega)) (fun _ => ?_)
    refine x_ll (z := (w64 (nu (S 2285) p i.toNat))) T_234_41 rfl ?_
    refine x_lr (z := some 2281) T_234_42 rfl ?_
    refine x_gR (z := some 2285) T_234_43 F_17_3 (PM.t hP) (PM.r hP 3 2285 rfl) ?_
    refine x_lr (z := some 2281) T_234_46 rfl ?_
    refine x_gI (z := p) T_234_47 (Or.inl F_17_8) (PM.t hP) (Eq.trans (PM.nS hP 2281 8 8 rfl rfl rfl) hat) ?_
    refine x_li (z := i) T_234_50 rfl ?_
    refine x_ib (w := (p + i)) T_234_52 (fun h => absurd h.1 (by decide)) (w32_id (by omega) (by omega)) ?_
    refine x_alI (z := S 2285 (p + i)) T_234_53 (by decide) (PM.ta hP 2285 0 512 rfl rfl) (by omega) (by omega) (Eq.trans (PM.aS hP 2285 rfl rfl (by omega)) (pS_f (Nat.ne_of_beq_eq_false rfl))) ?_
    refine x_i2l T_234_54 ?_
    refine x_ic T_234_55 ?_
    refine x_li (z := i) T_234_57 rfl ?_
    refine x_ib (w := (8 * i)) T_234_59 (fun h => absurd h.1 (by decide)) (w32_id (by omega) (by omega)) ?_
    refine x_lh (w := (w64 (S 2285 (p + i) * 256 ^ i.toNat))) T_234_60 (shl64_8 (by omega) (by omega)) ?_
    refine x_lb (w := (w64 (nu (S 2285) p (i.toNat + 1)))) T_234_61 (fun h => absurd h.1 (by decide)) (by rw [hw]; exact (or64_add (by omega) hr hbi).trans (by show w64 (nu (S 2285) p i.toNat + S 2285 (p + i) * 256 ^ i.toNat) = w64 (nu (S 2285) p i.toNat + S 2285 (p + (i.toNat : Nat)) * 256 ^ i.toNat); rw [Int.toNat_of_nonneg hi0])) ?_
    refine x_sl (ls1 := [some (vR (some 2281)), some (vI n), some (vL (w64 (nu (S 2285) p (i.toNat + 1)))), none, some (vI i)]) T_234_62 rfl ?_
    refine x_inc (w := (i + 1)) (ls1 := [some (vR (some 2281)), some (vI n), some (vL (w64 (nu (S 2285) p (i.toNat + 1)))), none, some (vI (i + 1))]) T_234_63 rfl (w32_id (by omega) (by omega)) rfl ?_
    refine x_goto T_234_66 ?_
    rw [show i.toNat + 1 = (i + 1).toNat by omega]
    exact ih (i + 1) (by omega) (by omega)
theorem m_number (n : Nat) {z p : Int} (hz : (n : Int) = z) (hP : PM σ0 P (pS S p) σ) (hn : n ≤ 8) (hsz : 0 ≤ S 2281 4 ∧ S 2281 4 ≤ 512) (hp : p ≤ S 2281 4) (hb : ∀ j, 0 ≤ j → j < S 2281 4 → 0 ≤ S 2285 j ∧ S 2285 j ≤ 255) : CL fb d 234 [vR (some 2281), vI z] σ (rL (nv (S 2285) (S 2281 4) p n) σ0 P (pS S (av (S 2281 4) p n))) := by
  have hn2 : n = z.toNat := by omega
  unfold nv av
  rw [hz]
  by_cases h : p < 0 ∨ S 2281 4 < p + z
  · rw [if_pos h, if_pos h]
    have hat : S 2281 4 < pS S p 2281 8 + z ∧ pS S p 2281 8 ≤ S 2281 4 + 1 ∧ 0 ≤ pS S p 2281 8 := by
      rw [pS_at]
      split <;> omega
    refine CL_in mL_234 rfl ?_
    show WP fb _ 234 0 [some (vR (some 2281)), some (vI z), none, none, none] [] σ _
    refine x_lr (z := some 2281) T_234_0 rfl ?_
    refine x_gI (z := (pS S p) 2281 8) T_234_1 (Or.inl F_17_8) (PM.t hP) (PM.nS hP 2281 8 8 rfl rfl rfl) ?_
    refine x_li (z := z) T_234_4 rfl ?_
    refine x_ib (w := ((pS S p) 2281 8 + z)) T_234_5 (fun h => absurd h.1 (by decide)) (w32_id (by omega) (by omega)) ?_
    refine x_lr (z := some 2281) T_234_6 rfl ?_
    refine x_gI (z := S 2281 4) T_234_7 (Or.inl F_17_4) (PM.t hP) (Eq.trans (PM.nS hP 2281 4 4 rfl rfl rfl) (pS_k (by decide))) ?_
    refine x_ic2 T_234_10 (fun h => absurd (show ((pS S p) 2281 8 + z) ≤ S 2281 4 from h) (by omega)) (fun _ => ?_)
    refine x_lr (z := some 2281) T_234_13 rfl ?_
    refine x_ic T_234_14 ?_
    refine y_pZS hP T_234_15 F_17_9 rfl 9 rfl rfl (fun σ hP => ?_)
    refine x_lr (z := some 2281) T_234_18 rfl ?_
    refine x_lr (z := some 2281) T_234_19 rfl ?_
    refine x_gI (z := S 2281 4) T_234_20 (Or.inl F_17_4) (PM.t hP) (Eq.trans (PM.nS hP 2281 4 4 rfl rfl rfl) (Eq.trans (rU_k (by decide)) (pS_k (by decide)))) ?_
    refine x_ic T_234_23 ?_
    refine x_ib (w := (S 2281 4 + 1)) T_234_24 (fun h => absurd h.1 (by decide)) (w32_id (by omega) (by omega)) ?_
    refine y_pIS hP T_234_25 F_17_8 8 rfl rfl (fun σ hP => ?_)
    refine x_lc T_234_28 ?_
    refine x_rl T_234_29 ?_
    exact ⟨rfl, by rw [← pS_neg (by decide), ← pS_set (p := p)]; exact hP⟩
  · rw [if_neg h, if_neg h]
    have hat : pS S p 2281 8 = p := pS_at.trans (if_neg (by omega))
    refine CL_in mL_234 rfl ?_
    show WP fb _ 234 0 [some (vR (some 2281)), some (vI z), none, none, none] [] σ _
    refine x_lr (z := some 2281) T_234_0 rfl ?_
    refine x_gI (z := p) T_234_1 (Or.inl F_17_8) (PM.t hP) (Eq.trans (PM.nS hP 2281 8 8 rfl rfl rfl) hat) ?_
    refine x_li (z := z) T_234_4 rfl ?_
    refine x_ib (w := (p + z)) T_234_5 (fun h => absurd h.1 (by decide)) (w32_id (by omega) (by omega)) ?_
    refine x_lr (z := some 2281) T_234_6 rfl ?_
    refine x_gI (z := S 2281 4) T_234_7 (Or.inl F_17_4) (PM.t hP) (Eq.trans (PM.nS hP 2281 4 4 rfl rfl rfl) (pS_k (by decide))) ?_
    refine x_ic2 T_234_10 (fun _ => ?_) (fun h => absurd (show (p + z) ≤ S 2281 4 by omega) h)
    refine x_lc T_234_30 ?_
    refine x_sl (ls1 := [some (vR (some 2281)), some (vI z), some (vL 0), none, none]) T_234_31 rfl ?_
    refine x_ic T_234_32 ?_
    refine x_si (ls1 := [some (vR (some 2281)), some (vI z), some (vL 0), none, some (vI 0)]) T_234_33 rfl ?_
    rw [hn2]
    exact m_number_loop (by omega) (by omega) (by omega) hsz.2 hb hP n 0 (by omega) (by decide)
end MNUM
