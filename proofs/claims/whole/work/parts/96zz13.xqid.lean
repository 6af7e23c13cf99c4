/-! The class's files as what they stand for; QIDs and STATs put into the reply. -/
theorem T_52_0 : hTab 52 0 = some ((3, 0, 2, []), 1) := rfl
theorem T_52_1 : hTab 52 1 = some ((24, 7, Int.ofNat 10, []), 4) := rfl
theorem T_52_4 : hTab 52 4 = some ((3, 1, 2, []), 5) := rfl
theorem T_52_5 : hTab 52 5 = some ((31, 53, 0, []), 8) := rfl
theorem T_52_8 : hTab 52 8 = some ((14, 0, 0, []), 9) := rfl
theorem T_52_9 : hTab 52 9 = some ((0, 0, 1, []), 10) := rfl
theorem T_52_10 : hTab 52 10 = some ((31, 22, 0, []), 13) := rfl
theorem T_52_13 : hTab 52 13 = some ((3, 0, 2, []), 14) := rfl
theorem T_52_14 : hTab 52 14 = some ((24, 7, Int.ofNat 10, []), 17) := rfl
theorem T_52_17 : hTab 52 17 = some ((3, 1, 2, []), 18) := rfl
theorem T_52_18 : hTab 52 18 = some ((24, 8, Int.ofNat 5, []), 21) := rfl
theorem T_52_21 : hTab 52 21 = some ((14, 0, 0, []), 22) := rfl
theorem T_52_22 : hTab 52 22 = some ((0, 0, 4, []), 23) := rfl
theorem T_52_23 : hTab 52 23 = some ((31, 22, 0, []), 26) := rfl
theorem T_52_26 : hTab 52 26 = some ((3, 0, 2, []), 27) := rfl
theorem T_52_27 : hTab 52 27 = some ((24, 7, Int.ofNat 10, []), 30) := rfl
theorem T_52_30 : hTab 52 30 = some ((3, 1, 2, []), 31) := rfl
theorem T_52_31 : hTab 52 31 = some ((24, 8, Int.ofNat 4, []), 34) := rfl
theorem T_52_34 : hTab 52 34 = some ((14, 0, 0, []), 35) := rfl
theorem T_52_35 : hTab 52 35 = some ((0, 0, 8, []), 37) := rfl
theorem T_52_37 : hTab 52 37 = some ((31, 22, 0, []), 40) := rfl
theorem T_52_40 : hTab 52 40 = some ((33, 0, 0, []), 41) := rfl
theorem T_77_0 : hTab 77 0 = some ((3, 0, 2, []), 1) := rfl
theorem T_77_1 : hTab 77 1 = some ((24, 7, Int.ofNat 10, []), 4) := rfl
theorem T_77_4 : hTab 77 4 = some ((0, 0, 58, []), 6) := rfl
theorem T_77_6 : hTab 77 6 = some ((3, 1, 2, []), 7) := rfl
theorem T_77_7 : hTab 77 7 = some ((24, 8, Int.ofNat 0, []), 10) := rfl
theorem T_77_10 : hTab 77 10 = some ((31, 28, 0, []), 13) := rfl
theorem T_77_13 : hTab 77 13 = some ((10, 0, 0, []), 14) := rfl
theorem T_77_14 : hTab 77 14 = some ((0, 0, 2, []), 15) := rfl
theorem T_77_15 : hTab 77 15 = some ((10, 1, 0, []), 16) := rfl
theorem T_77_16 : hTab 77 16 = some ((14, 0, 0, []), 17) := rfl
theorem T_77_17 : hTab 77 17 = some ((0, 0, 2, []), 18) := rfl
theorem T_77_18 : hTab 77 18 = some ((31, 22, 0, []), 21) := rfl
theorem T_77_21 : hTab 77 21 = some ((3, 0, 2, []), 22) := rfl
theorem T_77_22 : hTab 77 22 = some ((24, 7, Int.ofNat 10, []), 25) := rfl
theorem T_77_25 : hTab 77 25 = some ((1, 0, 0, []), 26) := rfl
theorem T_77_26 : hTab 77 26 = some ((0, 0, 2, []), 27) := rfl
theorem T_77_27 : hTab 77 27 = some ((31, 22, 0, []), 30) := rfl
theorem T_77_30 : hTab 77 30 = some ((3, 0, 2, []), 31) := rfl
theorem T_77_31 : hTab 77 31 = some ((24, 7, Int.ofNat 10, []), 34) := rfl
theorem T_77_34 : hTab 77 34 = some ((1, 0, 0, []), 35) := rfl
theorem T_77_35 : hTab 77 35 = some ((0, 0, 4, []), 36) := rfl
theorem T_77_36 : hTab 77 36 = some ((31, 22, 0, []), 39) := rfl
theorem T_77_39 : hTab 77 39 = some ((3, 0, 2, []), 40) := rfl
theorem T_77_40 : hTab 77 40 = some ((24, 7, Int.ofNat 10, []), 43) := rfl
theorem T_77_43 : hTab 77 43 = some ((3, 1, 2, []), 44) := rfl
theorem T_77_44 : hTab 77 44 = some ((31, 53, 0, []), 47) := rfl
theorem T_77_47 : hTab 77 47 = some ((14, 0, 0, []), 48) := rfl
theorem T_77_48 : hTab 77 48 = some ((0, 0, 1, []), 49) := rfl
theorem T_77_49 : hTab 77 49 = some ((31, 22, 0, []), 52) := rfl
theorem T_77_52 : hTab 77 52 = some ((3, 0, 2, []), 53) := rfl
theorem T_77_53 : hTab 77 53 = some ((24, 7, Int.ofNat 10, []), 56) := rfl
theorem T_77_56 : hTab 77 56 = some ((3, 1, 2, []), 57) := rfl
theorem T_77_57 : hTab 77 57 = some ((24, 8, Int.ofNat 5, []), 60) := rfl
theorem T_77_60 : hTab 77 60 = some ((14, 0, 0, []), 61) := rfl
theorem T_77_61 : hTab 77 61 = some ((0, 0, 4, []), 62) := rfl
theorem T_77_62 : hTab 77 62 = some ((31, 22, 0, []), 65) := rfl
theorem T_77_65 : hTab 77 65 = some ((3, 0, 2, []), 66) := rfl
theorem T_77_66 : hTab 77 66 = some ((24, 7, Int.ofNat 10, []), 69) := rfl
theorem T_77_69 : hTab 77 69 = some ((3, 1, 2, []), 70) := rfl
theorem T_77_70 : hTab 77 70 = some ((24, 8, Int.ofNat 4, []), 73) := rfl
theorem T_77_73 : hTab 77 73 = some ((14, 0, 0, []), 74) := rfl
theorem T_77_74 : hTab 77 74 = some ((0, 0, 8, []), 76) := rfl
theorem T_77_76 : hTab 77 76 = some ((31, 22, 0, []), 79) := rfl
theorem T_77_79 : hTab 77 79 = some ((3, 0, 2, []), 80) := rfl
theorem T_77_80 : hTab 77 80 = some ((24, 7, Int.ofNat 10, []), 83) := rfl
theorem T_77_83 : hTab 77 83 = some ((3, 1, 2, []), 84) := rfl
theorem T_77_84 : hTab 77 84 = some ((24, 8, Int.ofNat 6, []), 87) := rfl
theorem T_77_87 : hTab 77 87 = some ((14, 0, 0, []), 88) := rfl
theorem T_77_88 : hTab 77 88 = some ((0, 0, 4, []), 89) := rfl
theorem T_77_89 : hTab 77 89 = some ((31, 22, 0, []), 92) := rfl
theorem T_77_92 : hTab 77 92 = some ((3, 0, 2, []), 93) := rfl
theorem T_77_93 : hTab 77 93 = some ((24, 7, Int.ofNat 10, []), 96) := rfl
theorem T_77_96 : hTab 77 96 = some ((1, 0, 0, []), 97) := rfl
theorem T_77_97 : hTab 77 97 = some ((0, 0, 8, []), 99) := rfl
theorem T_77_99 : hTab 77 99 = some ((31, 22, 0, []), 102) := rfl
theorem T_77_102 : hTab 77 102 = some ((3, 0, 2, []), 103) := rfl
theorem T_77_103 : hTab 77 103 = some ((24, 7, Int.ofNat 10, []), 106) := rfl
theorem T_77_106 : hTab 77 106 = some ((3, 1, 2, []), 107) := rfl
theorem T_77_107 : hTab 77 107 = some ((24, 8, Int.ofNat 10, []), 110) := rfl
theorem T_77_110 : hTab 77 110 = some ((14, 0, 0, []), 111) := rfl
theorem T_77_111 : hTab 77 111 = some ((0, 0, 8, []), 113) := rfl
theorem T_77_113 : hTab 77 113 = some ((31, 22, 0, []), 116) := rfl
theorem T_77_116 : hTab 77 116 = some ((3, 0, 2, []), 117) := rfl
theorem T_77_117 : hTab 77 117 = some ((24, 7, Int.ofNat 10, []), 120) := rfl
theorem T_77_120 : hTab 77 120 = some ((3, 1, 2, []), 121) := rfl
theorem T_77_121 : hTab 77 121 = some ((24, 8, Int.ofNat 0, []), 124) := rfl
theorem T_77_124 : hTab 77 124 = some ((31, 28, 0, []), 127) := rfl
theorem T_77_127 : hTab 77 127 = some ((14, 0, 0, []), 128) := rfl
theorem T_77_128 : hTab 77 128 = some ((0, 0, 2, []), 129) := rfl
theorem T_77_129 : hTab 77 129 = some ((31, 22, 0, []), 132) := rfl
theorem T_77_132 : hTab 77 132 = some ((3, 0, 2, []), 133) := rfl
theorem T_77_133 : hTab 77 133 = some ((24, 7, Int.ofNat 10, []), 136) := rfl
theorem T_77_136 : hTab 77 136 = some ((3, 1, 2, []), 137) := rfl
theorem T_77_137 : hTab 77 137 = some ((24, 8, Int.ofNat 0, []), 140) := rfl
theorem T_77_140 : hTab 77 140 = some ((0, 0, 0, []), 141) := rfl
theorem T_77_141 : hTab 77 141 = some ((3, 1, 2, []), 142) := rfl
theorem T_77_142 : hTab 77 142 = some ((24, 8, Int.ofNat 0, []), 145) := rfl
theorem T_77_145 : hTab 77 145 = some ((31, 28, 0, []), 148) := rfl
theorem T_77_148 : hTab 77 148 = some ((31, 32, 0, []), 151) := rfl
theorem T_77_151 : hTab 77 151 = some ((7, 0, 0, []), 152) := rfl
theorem T_77_152 : hTab 77 152 = some ((3, 0, 2, []), 153) := rfl
theorem T_77_153 : hTab 77 153 = some ((24, 7, Int.ofNat 10, []), 156) := rfl
theorem T_77_156 : hTab 77 156 = some ((1, 0, 3, []), 159) := rfl
theorem T_77_159 : hTab 77 159 = some ((0, 0, 2, []), 160) := rfl
theorem T_77_160 : hTab 77 160 = some ((31, 22, 0, []), 163) := rfl
theorem T_77_163 : hTab 77 163 = some ((3, 0, 2, []), 164) := rfl
theorem T_77_164 : hTab 77 164 = some ((24, 7, Int.ofNat 10, []), 167) := rfl
theorem T_77_167 : hTab 77 167 = some ((3, 1, 2, []), 168) := rfl
theorem T_77_168 : hTab 77 168 = some ((24, 8, Int.ofNat 7, []), 171) := rfl
theorem T_77_171 : hTab 77 171 = some ((31, 72, 1, []), 174) := rfl
theorem T_77_174 : hTab 77 174 = some ((14, 0, 0, []), 175) := rfl
theorem T_77_175 : hTab 77 175 = some ((0, 0, 3, []), 176) := rfl
theorem T_77_176 : hTab 77 176 = some ((31, 22, 0, []), 179) := rfl
theorem T_77_179 : hTab 77 179 = some ((3, 0, 2, []), 180) := rfl
theorem T_77_180 : hTab 77 180 = some ((24, 7, Int.ofNat 10, []), 183) := rfl
theorem T_77_183 : hTab 77 183 = some ((1, 0, 3, []), 186) := rfl
theorem T_77_186 : hTab 77 186 = some ((0, 0, 2, []), 187) := rfl
theorem T_77_187 : hTab 77 187 = some ((31, 22, 0, []), 190) := rfl
theorem T_77_190 : hTab 77 190 = some ((3, 0, 2, []), 191) := rfl
theorem T_77_191 : hTab 77 191 = some ((24, 7, Int.ofNat 10, []), 194) := rfl
theorem T_77_194 : hTab 77 194 = some ((3, 1, 2, []), 195) := rfl
theorem T_77_195 : hTab 77 195 = some ((24, 8, Int.ofNat 8, []), 198) := rfl
theorem T_77_198 : hTab 77 198 = some ((31, 72, 1, []), 201) := rfl
theorem T_77_201 : hTab 77 201 = some ((14, 0, 0, []), 202) := rfl
theorem T_77_202 : hTab 77 202 = some ((0, 0, 3, []), 203) := rfl
theorem T_77_203 : hTab 77 203 = some ((31, 22, 0, []), 206) := rfl
theorem T_77_206 : hTab 77 206 = some ((3, 0, 2, []), 207) := rfl
theorem T_77_207 : hTab 77 207 = some ((24, 7, Int.ofNat 10, []), 210) := rfl
theorem T_77_210 : hTab 77 210 = some ((1, 0, 3, []), 213) := rfl
theorem T_77_213 : hTab 77 213 = some ((0, 0, 2, []), 214) := rfl
theorem T_77_214 : hTab 77 214 = some ((31, 22, 0, []), 217) := rfl
theorem T_77_217 : hTab 77 217 = some ((3, 0, 2, []), 218) := rfl
theorem T_77_218 : hTab 77 218 = some ((24, 7, Int.ofNat 10, []), 221) := rfl
theorem T_77_221 : hTab 77 221 = some ((3, 1, 2, []), 222) := rfl
theorem T_77_222 : hTab 77 222 = some ((24, 8, Int.ofNat 9, []), 225) := rfl
theorem T_77_225 : hTab 77 225 = some ((31, 72, 1, []), 228) := rfl
theorem T_77_228 : hTab 77 228 = some ((14, 0, 0, []), 229) := rfl
theorem T_77_229 : hTab 77 229 = some ((0, 0, 3, []), 230) := rfl
theorem T_77_230 : hTab 77 230 = some ((31, 22, 0, []), 233) := rfl
theorem T_77_233 : hTab 77 233 = some ((33, 0, 0, []), 234) := rfl
theorem F_7_10 : (hFd 7 10).2.2.1 = 4 := rfl
theorem mN_52 : hmN 52 = 2 := by decide +kernel
theorem mL_52 : hmL 52 = 2 := by decide +kernel
theorem mK_52 : hmK 52 = 1 := by decide +kernel
theorem mO_52 : hmO 52 = 7 := by decide +kernel
theorem mN_77 : hmN 77 = 2 := by decide +kernel
theorem mL_77 : hmL 77 = 2 := by decide +kernel
theorem mK_77 : hmK 77 = 1 := by decide +kernel
theorem mO_77 : hmO 77 = 7 := by decide +kernel
/-- the object a is the file n of the server s -/
def ND (W P : qR) (a : Nat) (s n : Int) : Prop := tX a = some (Sum.inl 8) ∧ (W a 2262 = qMode P s n ∧ -2147483648 ≤ qMode P s n ∧ qMode P s n ≤ 2147483647) ∧ (W a 2260 = qPath P s n ∧ 0 ≤ qPath P s n ∧ qPath P s n ≤ 2147483647) ∧ (W a 2261 = qVer P s n ∧ 0 ≤ qVer P s n ∧ qVer P s n ≤ 2147483647) ∧ (W a 2263 = qUid P s n ∧ 0 ≤ qUid P s n ∧ qUid P s n ≤ 3) ∧ (W a 2264 = qGid P s n ∧ 0 ≤ qGid P s n ∧ qGid P s n ≤ 3) ∧ (W a 2265 = qMuid P s n ∧ 0 ≤ qMuid P s n ∧ qMuid P s n ≤ 3) ∧ (W a 2266 = qLen P s n ∧ 0 ≤ qLen P s n ∧ qLen P s n ≤ 600) ∧ BY W (a + 1) 12 (qNm P s n) ∧ ((qNm P s n).length : Int) = qNs P s n
section XQID
variable {fb : Bool} {d S a b n rp N : Nat} {σ0 σ : hM} {W W0 W1 W2 P : qR} {R : rR} {i k x z v s e w c f T U md ui gi u y path num : Int} {l : List Int} {r : Option Nat} {g : Int → Int}
theorem nmL_eq (hb : ∀ j : Int, 0 ≤ j → j < qNs P s i → 0 ≤ qNb P s i j ∧ qNb P s i j ≤ 255) : ∀ m : Nat, (m : Int) ≤ qNs P s i → nmL P s i m = seg (fun k => qNb P s i k) 0 m
  | 0, _ => rfl
  | m + 1, hm => by
    show nmL P s i m ++ leb 1 (qNb P s i (m : Int)) = _
    rw [nmL_eq hb m (by omega), seg_snoc, leb_one (hb m (by omega) (by omega)), Int.zero_add]
theorem nmL_qNm (hB : byt (qNm P s i)) (hl : ((qNm P s i).length : Int) = qNs P s i) : nmL P s i (qNs P s i).toNat = qNm P s i := by
  have h2 : ∀ j : Int, 0 ≤ j → j < qNs P s i → qNb P s i j = lg (qNm P s i) j := fun j h0 h1 => by
    unfold qNm
    rw [lg_seg _ _ _ _ h0 (by omega), Int.zero_add]
  exact nmL_eq (fun j h0 h1 => by rw [h2 j h0 h1]; exact hB j h0) _ (by omega)
theorem x_putQid (hP : PX σ0 W R σ) (hS : VS S s) (hr : R S 2234 = some rp) (hB0 : BY W rp N l) (hN : ND W P a s i) (ha : a + 1 ≠ rp) (hroom : l.length + 13 ≤ N) : CL fb (d + 1) 52 [vR (some S), vR (some a)] σ (XB σ0 W R rp N (l ++ qidL P s i) none) := by
  have hO := hS.o
  obtain ⟨hna, ⟨m1, m2, m3⟩, ⟨p1, p2, p3⟩, ⟨v1, v2, v3⟩, ⟨u1, u2, u3⟩, ⟨g1, g2, g3⟩, ⟨k1, k2, k3⟩, ⟨l1, l2, l3⟩, hNm, hNl⟩ := id hN
  have hbr := hB0.1
  have hF0 : FB rp W W := FB_rfl
  obtain ⟨kd, hkd⟩ : ∃ y, qKind P s i = y := ⟨_, rfl⟩
  have hkr : 0 ≤ kd ∧ kd ≤ 255 := by rw [← hkd]; unfold qKind; split <;> (first | omega | (split <;> omega))
  have hki : ∀ (W : qR) (σ : hM), PX σ0 W R σ → W a 2262 = qMode P s i → CL fb d 53 [vR (some a)] σ (rP kd σ) := fun W σ hP h => by
    have h2 := x_kind (fb := fb) (d := d) hP hna h ⟨m2, m3⟩
    rw [← hkd]
    exact h2
  have hpost : l ++ leb 1 kd ++ leb 4 (qVer P s i) ++ leb 8 (qPath P s i) = l ++ qidL P s i := by unfold qidL; rw [hkd]; simp only [List.append_assoc]
  obtain ⟨ver, hver⟩ : ∃ y, qVer P s i = y := ⟨_, rfl⟩
  obtain ⟨pth, hpth⟩ : ∃ y, qPath P s i = y := ⟨_, rfl⟩
  rw [hver] at v1 v2 v3 hpost
  rw [hpth] at p1 p2 p3 hpost
  refine CL_in mL_52 rfl ?_
  show WP fb _ 52 0 [some (vR (some S)), some (vR (some a))] [] σ _
  refine x_lr (z := some S) T_52_0 rfl ?_
  refine x_gR (z := some rp) T_52_1 F_7_10 (hP.o hO) (Eq.trans (hP.rm hO rfl (key := 2234) rfl) hr) ?_
  refine x_lr (z := some a) T_52_4 rfl ?_
  refine x_cv1 T_52_5 mN_53 mL_53 (Nat.le_of_ble_eq_true rfl) mO_53 (hP.o hna) (Nat.le_of_ble_eq_true rfl) (hki W σ hP ((hF0.o (by decide) (by decide)).trans m1)) ?_
  rintro _ σ ⟨rfl, rfl⟩
  refine cI ?_
  refine x_i2l T_52_8 ?_
  refine x_ic T_52_9 ?_
  refine x_cv3 T_52_10 mN_22 mL_22 (Nat.le_of_ble_eq_true rfl) mO_22 (hP.o hbr) (Nat.le_of_ble_eq_true rfl) (x_put (k := 1) (v := kd) 1 hP hB0 rfl (by decide) ⟨by omega, by omega⟩ (by (try simp only [List.length_append, leb_len, List.length_nil]); omega)) ?_
  clear hP
  rintro _ σ ⟨rfl, W1, hP, hB1, hF10⟩
  have hF1 := FB_tr hF0 hF10
  refine cV ?_
  refine x_lr (z := some S) T_52_13 rfl ?_
  refine x_gR (z := some rp) T_52_14 F_7_10 (hP.o hO) (Eq.trans (hP.rm hO rfl (key := 2234) rfl) hr) ?_
  refine x_lr (z := some a) T_52_17 rfl ?_
  refine x_gI (z := ver) T_52_18 (Or.inl F_8_5) (hP.o hna) (Eq.trans (hP.gi hna (key := 2261) rfl) ((hF1.o (by decide) (by decide)).trans v1)) ?_
  refine x_i2l T_52_21 ?_
  refine x_ic T_52_22 ?_
  refine x_cv3 T_52_23 mN_22 mL_22 (Nat.le_of_ble_eq_true rfl) mO_22 (hP.o hbr) (Nat.le_of_ble_eq_true rfl) (x_put (k := 4) (v := ver) 4 hP hB1 rfl (by decide) ⟨by omega, by omega⟩ (by (try simp only [List.length_append, leb_len, List.length_nil]); omega)) ?_
  clear hP
  rintro _ σ ⟨rfl, W2, hP, hB2, hF20⟩
  have hF2 := FB_tr hF1 hF20
  refine cV ?_
  refine x_lr (z := some S) T_52_26 rfl ?_
  refine x_gR (z := some rp) T_52_27 F_7_10 (hP.o hO) (Eq.trans (hP.rm hO rfl (key := 2234) rfl) hr) ?_
  refine x_lr (z := some a) T_52_30 rfl ?_
  refine x_gI (z := pth) T_52_31 (Or.inl F_8_4) (hP.o hna) (Eq.trans (hP.gi hna (key := 2260) rfl) ((hF2.o (by decide) (by decide)).trans p1)) ?_
  refine x_i2l T_52_34 ?_
  refine x_ic T_52_35 ?_
  refine x_cv3 T_52_37 mN_22 mL_22 (Nat.le_of_ble_eq_true rfl) mO_22 (hP.o hbr) (Nat.le_of_ble_eq_true rfl) (x_put (k := 8) (v := pth) 8 hP hB2 rfl (by decide) ⟨by omega, by omega⟩ (by (try simp only [List.length_append, leb_len, List.length_nil]); omega)) ?_
  clear hP
  rintro _ σ ⟨rfl, W3, hP, hB3, hF30⟩
  have hF3 := FB_tr hF2 hF30
  refine cV ?_
  refine x_rv T_52_40 ?_
  exact ⟨rfl, W3, hP, by rw [hpost] at hB3; exact hB3, hF3⟩
theorem x_putStat (hP : PX σ0 W R σ) (hS : VS S s) (hr : R S 2234 = some rp) (hB0 : BY W rp N l) (hN : ND W P a s i) (ha : a + 1 ≠ rp) (hroom : l.length + 58 + (qNs P s i).toNat ≤ N) : CL fb (d + 1) 77 [vR (some S), vR (some a)] σ (XB σ0 W R rp N (l ++ statL P s i) none) := by
  have hO := hS.o
  obtain ⟨hna, ⟨m1, m2, m3⟩, ⟨p1, p2, p3⟩, ⟨v1, v2, v3⟩, ⟨u1, u2, u3⟩, ⟨g1, g2, g3⟩, ⟨k1, k2, k3⟩, ⟨l1, l2, l3⟩, hNm, hNl⟩ := id hN
  have hbr := hB0.1
  have hF0 : FB rp W W := FB_rfl
  obtain ⟨kd, hkd⟩ : ∃ y, qKind P s i = y := ⟨_, rfl⟩
  have hkr : 0 ≤ kd ∧ kd ≤ 255 := by rw [← hkd]; unfold qKind; split <;> (first | omega | (split <;> omega))
  have hki : ∀ (W : qR) (σ : hM), PX σ0 W R σ → W a 2262 = qMode P s i → CL fb d 53 [vR (some a)] σ (rP kd σ) := fun W σ hP h => by
    have h2 := x_kind (fb := fb) (d := d) hP hna h ⟨m2, m3⟩
    rw [← hkd]
    exact h2
  obtain ⟨ns, hns⟩ : ∃ y, qNs P s i = y := ⟨_, rfl⟩
  rw [hns] at hNl hroom
  have hns0 : 0 ≤ ns ∧ ns ≤ 12 := by have := hNm.2.2.2.2.1; omega
  have hnm := nmL_qNm hNm.2.2.2.2.2.1 (hNl.trans hns.symm)
  rw [hns] at hnm
  have hpost : l ++ leb 2 (58 + ns - 2) ++ leb 2 0 ++ leb 4 0 ++ leb 1 kd ++ leb 4 (qVer P s i) ++ leb 8 (qPath P s i) ++ leb 4 (qMode P s i) ++ leb 8 0 ++ leb 8 (qLen P s i) ++ leb 2 ns ++ qNm P s i ++ leb 2 3 ++ leb 3 (hUN.getD (qUid P s i).toNat 0) ++ leb 2 3 ++ leb 3 (hUN.getD (qGid P s i).toNat 0) ++ leb 2 3 ++ leb 3 (hUN.getD (qMuid P s i).toNat 0) = l ++ statL P s i := by
    unfold statL qidL
    rw [hns, hkd, hnm, ← usrL_eq ⟨u2, by omega⟩, ← usrL_eq ⟨g2, by omega⟩, ← usrL_eq ⟨k2, by omega⟩, show leb 8 0 = leb 4 0 ++ leb 4 0 from rfl]
    simp only [List.append_assoc]
  have hadd : ∀ (σ : hM) (W1 : qR) {L : List Int}, PX σ0 W1 R σ → BY W1 rp N L → FB rp W W1 → L.length = l.length + 43 → CL fb (d + 0) 32 [vR (some rp), vR (some (a + 1)), vI 0, vI ns] σ (XB σ0 W1 R rp N (L ++ qNm P s i) (some (vI 1))) := fun σ W1 L hP hB hF hL => by
    have h2 := x_addAll (fb := fb) (d := d) (s := 0) (e := ns) hP hB (hF.by hNm ha) ha (Or.inr (by decide)) (by omega)
    rw [show (ns - 0).toNat = (qNm P s i).length by omega, seg_all, List.take_of_length_le (by rw [List.length_append]; omega), if_pos (by omega)] at h2
    exact h2
  have hsz : ∀ (σ : hM) (W1 : qR), PX σ0 W1 R σ → FB rp W W1 → CL fb d 28 [vR (some (a + 1))] σ (rP ns σ) := fun σ W1 hP hF => x_size hP (hF.by hNm ha) hNl
  have hus : ∀ (W1 : qR) (σ : hM) (u : Int), PX σ0 W1 R σ → (0 ≤ u ∧ u ≤ 3) → CL fb d 72 [vI u] σ (rP (hUN.getD u.toNat 0) σ) := fun W1 σ u hP hu => s_user hP.gx ⟨hu.1, by omega⟩ rfl
  obtain ⟨ver, hver⟩ : ∃ y, qVer P s i = y := ⟨_, rfl⟩
  rw [hver] at v1 v2 v3 hpost
  obtain ⟨pth, hpth⟩ : ∃ y, qPath P s i = y := ⟨_, rfl⟩
  rw [hpth] at p1 p2 p3 hpost
  obtain ⟨mde, hmde⟩ : ∃ y, qMode P s i = y := ⟨_, rfl⟩
  rw [hmde] at m1 m2 m3 hki hpost
  obtain ⟨len, hlen⟩ : ∃ y, qLen P s i = y := ⟨_, rfl⟩
  rw [hlen] at l1 l2 l3 hpost
  obtain ⟨uid, huid⟩ : ∃ y, qUid P s i = y := ⟨_, rfl⟩
  rw [huid] at u1 u2 u3 hpost
  obtain ⟨gid, hgid⟩ : ∃ y, qGid P s i = y := ⟨_, rfl⟩
  rw [hgid] at g1 g2 g3 hpost
  obtain ⟨mui, hmui⟩ : ∃ y, qMuid P s i = y := ⟨_, rfl⟩
  rw [hmui] at k1 k2 k3 hpost
  obtain ⟨xuid, hxuid⟩ : ∃ y, hUN.getD uid.toNat 0 = y := ⟨_, rfl⟩
  have hruid := hUN_rng (u := uid) ⟨u2, by omega⟩
  have huuid := fun (W1 : qR) (σ : hM) (hP : PX σ0 W1 R σ) => hus W1 σ uid hP ⟨u2, u3⟩
  rw [hxuid] at hruid huuid hpost
  obtain ⟨xgid, hxgid⟩ : ∃ y, hUN.getD gid.toNat 0 = y := ⟨_, rfl⟩
  have hrgid := hUN_rng (u := gid) ⟨g2, by omega⟩
  have hugid := fun (W1 : qR) (σ : hM) (hP : PX σ0 W1 R σ) => hus W1 σ gid hP ⟨g2, g3⟩
  rw [hxgid] at hrgid hugid hpost
  obtain ⟨xmui, hxmui⟩ : ∃ y, hUN.getD mui.toNat 0 = y := ⟨_, rfl⟩
  have hrmui := hUN_rng (u := mui) ⟨k2, by omega⟩
  have humui := fun (W1 : qR) (σ : hM) (hP : PX σ0 W1 R σ) => hus W1 σ mui hP ⟨k2, k3⟩
  rw [hxmui] at hrmui humui hpost
  refine CL_in mL_77 rfl ?_
  show WP fb _ 77 0 [some (vR (some S)), some (vR (some a))] [] σ _
  refine x_lr (z := some S) T_77_0 rfl ?_
  refine x_gR (z := some rp) T_77_1 F_7_10 (hP.o hO) (Eq.trans (hP.rm hO rfl (key := 2234) rfl) hr) ?_
  refine x_ic T_77_4 ?_
  refine x_lr (z := some a) T_77_6 rfl ?_
  refine x_gR (z := some (a + 1)) T_77_7 F_8_0 (hP.o hna) (hP.rc hna rfl rfl) ?_
  refine x_cv1 T_77_10 mN_28 mL_28 (Nat.le_of_ble_eq_true rfl) mO_28 (hP.o hNm.1) (Nat.le_of_ble_eq_true rfl) (hsz σ W hP hF0) ?_
  rintro _ σ ⟨rfl, rfl⟩
  refine cI ?_
  refine x_ib (w := (58 + ns)) T_77_13 (fun h => absurd h.1 (by decide)) (w32_id (by omega) (by omega)) ?_
  refine x_ic T_77_14 ?_
  refine x_ib (w := ((58 + ns) - 2)) T_77_15 (fun h => absurd h.1 (by decide)) (w32_id (by omega) (by omega)) ?_
  refine x_i2l T_77_16 ?_
  refine x_ic T_77_17 ?_
  refine x_cv3 T_77_18 mN_22 mL_22 (Nat.le_of_ble_eq_true rfl) mO_22 (hP.o hbr) (Nat.le_of_ble_eq_true rfl) (x_put (k := 2) (v := 58 + ns - 2) 2 hP hB0 rfl (by decide) ⟨by omega, by omega⟩ (by (try simp only [List.length_append, leb_len, List.length_nil]); omega)) ?_
  clear hP
  rintro _ σ ⟨rfl, W1, hP, hB1, hF10⟩
  have hF1 := FB_tr hF0 hF10
  refine cV ?_
  refine x_lr (z := some S) T_77_21 rfl ?_
  refine x_gR (z := some rp) T_77_22 F_7_10 (hP.o hO) (Eq.trans (hP.rm hO rfl (key := 2234) rfl) hr) ?_
  refine x_lc T_77_25 ?_
  refine x_ic T_77_26 ?_
  refine x_cv3 T_77_27 mN_22 mL_22 (Nat.le_of_ble_eq_true rfl) mO_22 (hP.o hbr) (Nat.le_of_ble_eq_true rfl) (x_put (k := 2) (v := 0) 2 hP hB1 rfl (by decide) (by decide) (by (try simp only [List.length_append, leb_len, List.length_nil]); omega)) ?_
  clear hP
  rintro _ σ ⟨rfl, W2, hP, hB2, hF20⟩
  have hF2 := FB_tr hF1 hF20
  refine cV ?_
  refine x_lr (z := some S) T_77_30 rfl ?_
  refine x_gR (z := some rp) T_77_31 F_7_10 (hP.o hO) (Eq.trans (hP.rm hO rfl (key := 2234) rfl) hr) ?_
  refine x_lc T_77_34 ?_
  refine x_ic T_77_35 ?_
  refine x_cv3 T_77_36 mN_22 mL_22 (Nat.le_of_ble_eq_true rfl) mO_22 (hP.o hbr) (Nat.le_of_ble_eq_true rfl) (x_put (k := 4) (v := 0) 4 hP hB2 rfl (by decide) (by decide) (by (try simp only [List.length_append, leb_len, List.length_nil]); omega)) ?_
  clear hP
  rintro _ σ ⟨rfl, W3, hP, hB3, hF30⟩
  have hF3 := FB_tr hF2 hF30
  refine cV ?_
  refine x_lr (z := some S) T_77_39 rfl ?_
  refine x_gR (z := some rp) T_77_40 F_7_10 (hP.o hO) (Eq.trans (hP.rm hO rfl (key := 2234) rfl) hr) ?_
  refine x_lr (z := some a) T_77_43 rfl ?_
  refine x_cv1 T_77_44 mN_53 mL_53 (Nat.le_of_ble_eq_true rfl) mO_53 (hP.o hna) (Nat.le_of_ble_eq_true rfl) (hki W3 σ hP ((hF3.o (by decide) (by decide)).trans m1)) ?_
  rintro _ σ ⟨rfl, rfl⟩
  refine cI ?_
  refine x_i2l T_77_47 ?_
  refine x_ic T_77_48 ?_
  refine x_cv3 T_77_49 mN_22 mL_22 (Nat.le_of_ble_eq_true rfl) mO_22 (hP.o hbr) (Nat.le_of_ble_eq_true rfl) (x_put (k := 1) (v := kd) 1 hP hB3 rfl (by decide) ⟨by omega, by omega⟩ (by (try simp only [List.length_append, leb_len, List.length_nil]); omega)) ?_
  clear hP
  rintro _ σ ⟨rfl, W4, hP, hB4, hF40⟩
  have hF4 := FB_tr hF3 hF40
  refine cV ?_
  refine x_lr (z := some S) T_77_52 rfl ?_
  refine x_gR (z := some rp) T_77_53 F_7_10 (hP.o hO) (Eq.trans (hP.rm hO rfl (key := 2234) rfl) hr) ?_
  refine x_lr (z := some a) T_77_56 rfl ?_
  refine x_gI (z := ver) T_77_57 (Or.inl F_8_5) (hP.o hna) (Eq.trans (hP.gi hna (key := 2261) rfl) ((hF4.o (by decide) (by decide)).trans v1)) ?_
  refine x_i2l T_77_60 ?_
  refine x_ic T_77_61 ?_
  refine x_cv3 T_77_62 mN_22 mL_22 (Nat.le_of_ble_eq_true rfl) mO_22 (hP.o hbr) (Nat.le_of_ble_eq_true rfl) (x_put (k := 4) (v := ver) 4 hP hB4 rfl (by decide) ⟨by omega, by omega⟩ (by (try simp only [List.length_append, leb_len, List.length_nil]); omega)) ?_
  clear hP
  rintro _ σ ⟨rfl, W5, hP, hB5, hF50⟩
  have hF5 := FB_tr hF4 hF50
  refine cV ?_
  refine x_lr (z := some S) T_77_65 rfl ?_
  refine x_gR (z := some rp) T_77_66 F_7_10 (hP.o hO) (Eq.trans (hP.rm hO rfl (key := 2234) rfl) hr) ?_
  refine x_lr (z := some a) T_77_69 rfl ?_
  refine x_gI (z := pth) T_77_70 (Or.inl F_8_4) (hP.o hna) (Eq.trans (hP.gi hna (key := 2260) rfl) ((hF5.o (by decide) (by decide)).trans p1)) ?_
  refine x_i2l T_77_73 ?_
  refine x_ic T_77_74 ?_
  refine x_cv3 T_77_76 mN_22 mL_22 (Nat.le_of_ble_eq_true rfl) mO_22 (hP.o hbr) (Nat.le_of_ble_eq_true rfl) (x_put (k := 8) (v := pth) 8 hP hB5 rfl (by decide) ⟨by omega, by omega⟩ (by (try simp only [List.length_append, leb_len, List.length_nil]); omega)) ?_
  clear hP
  rintro _ σ ⟨rfl, W6, hP, hB6, hF60⟩
  have hF6 := FB_tr hF5 hF60
  refine cV ?_
  refine x_lr (z := some S) T_77_79 rfl ?_
  refine x_gR (z := some rp) T_77_80 F_7_10 (hP.o hO) (Eq.trans (hP.rm hO rfl (key := 2234) rfl) hr) ?_
  refine x_lr (z := some a) T_77_83 rfl ?_
  refine x_gI (z := mde) T_77_84 (Or.inl F_8_6) (hP.o hna) (Eq.trans (hP.gi hna (key := 2262) rfl) ((hF6.o (by decide) (by decide)).trans m1)) ?_
  refine x_i2l T_77_87 ?_
  refine x_ic T_77_88 ?_
  refine x_cv3 T_77_89 mN_22 mL_22 (Nat.le_of_ble_eq_true rfl) mO_22 (hP.o hbr) (Nat.le_of_ble_eq_true rfl) (x_put (k := 4) (v := mde) 4 hP hB6 rfl (by decide) ⟨by omega, by omega⟩ (by (try simp only [List.length_append, leb_len, List.length_nil]); omega)) ?_
  clear hP
  rintro _ σ ⟨rfl, W7, hP, hB7, hF70⟩
  have hF7 := FB_tr hF6 hF70
  refine cV ?_
  refine x_lr (z := some S) T_77_92 rfl ?_
  refine x_gR (z := some rp) T_77_93 F_7_10 (hP.o hO) (Eq.trans (hP.rm hO rfl (key := 2234) rfl) hr) ?_
  refine x_lc T_77_96 ?_
  refine x_ic T_77_97 ?_
  refine x_cv3 T_77_99 mN_22 mL_22 (Nat.le_of_ble_eq_true rfl) mO_22 (hP.o hbr) (Nat.le_of_ble_eq_true rfl) (x_put (k := 8) (v := 0) 8 hP hB7 rfl (by decide) (by decide) (by (try simp only [List.length_append, leb_len, List.length_nil]); omega)) ?_
  clear hP
  rintro _ σ ⟨rfl, W8, hP, hB8, hF80⟩
  have hF8 := FB_tr hF7 hF80
  refine cV ?_
  refine x_lr (z := some S) T_77_102 rfl ?_
  refine x_gR (z := some rp) T_77_103 F_7_10 (hP.o hO) (Eq.trans (hP.rm hO rfl (key := 2234) rfl) hr) ?_
  refine x_lr (z := some a) T_77_106 rfl ?_
  refine x_gI (z := len) T_77_107 (Or.inl F_8_10) (hP.o hna) (Eq.trans (hP.gi hna (key := 2266) rfl) ((hF8.o (by decide) (by decide)).trans l1)) ?_
  refine x_i2l T_77_110 ?_
  refine x_ic T_77_111 ?_
  refine x_cv3 T_77_113 mN_22 mL_22 (Nat.le_of_ble_eq_true rfl) mO_22 (hP.o hbr) (Nat.le_of_ble_eq_true rfl) (x_put (k := 8) (v := len) 8 hP hB8 rfl (by decide) ⟨by omega, by omega⟩ (by (try simp only [List.length_append, leb_len, List.length_nil]); omega)) ?_
  clear hP
  rintro _ σ ⟨rfl, W9, hP, hB9, hF90⟩
  have hF9 := FB_tr hF8 hF90
  refine cV ?_
  refine x_lr (z := some S) T_77_116 rfl ?_
  refine x_gR (z := some rp) T_77_117 F_7_10 (hP.o hO) (Eq.trans (hP.rm hO rfl (key := 2234) rfl) hr) ?_
  refine x_lr (z := some a) T_77_120 rfl ?_
  refine x_gR (z := some (a + 1)) T_77_121 F_8_0 (hP.o hna) (hP.rc hna rfl rfl) ?_
  refine x_cv1 T_77_124 mN_28 mL_28 (Nat.le_of_ble_eq_true rfl) mO_28 (hP.o hNm.1) (Nat.le_of_ble_eq_true rfl) (hsz σ W9 hP hF9) ?_
  rintro _ σ ⟨rfl, rfl⟩
  refine cI ?_
  refine x_i2l T_77_127 ?_
  refine x_ic T_77_128 ?_
  refine x_cv3 T_77_129 mN_22 mL_22 (Nat.le_of_ble_eq_true rfl) mO_22 (hP.o hbr) (Nat.le_of_ble_eq_true rfl) (x_put (k := 2) (v := ns) 2 hP hB9 rfl (by decide) ⟨by omega, by omega⟩ (by (try simp only [List.length_append, leb_len, List.length_nil]); omega)) ?_
  clear hP
  rintro _ σ ⟨rfl, W10, hP, hB10, hF100⟩
  have hF10 := FB_tr hF9 hF100
  refine cV ?_
  refine x_lr (z := some S) T_77_132 rfl ?_
  refine x_gR (z := some rp) T_77_133 F_7_10 (hP.o hO) (Eq.trans (hP.rm hO rfl (key := 2234) rfl) hr) ?_
  refine x_lr (z := some a) T_77_136 rfl ?_
  refine x_gR (z := some (a + 1)) T_77_137 F_8_0 (hP.o hna) (hP.rc hna rfl rfl) ?_
  refine x_ic T_77_140 ?_
  refine x_lr (z := some a) T_77_141 rfl ?_
  refine x_gR (z := some (a + 1)) T_77_142 F_8_0 (hP.o hna) (hP.rc hna rfl rfl) ?_
  refine x_cv1 T_77_145 mN_28 mL_28 (Nat.le_of_ble_eq_true rfl) mO_28 (hP.o hNm.1) (Nat.le_of_ble_eq_true rfl) (hsz σ W10 hP hF10) ?_
  rintro _ σ ⟨rfl, rfl⟩
  refine cI ?_
  refine x_cv4 T_77_148 mN_32 mL_32 (Nat.le_of_ble_eq_true rfl) mO_32 (hP.o hbr) (Nat.le_of_ble_eq_true rfl) (hadd σ W10 hP hB10 hF10 (by simp only [List.length_append, leb_len, List.length_nil])) ?_
  clear hP
  rintro _ σ ⟨rfl, W11, hP, hB11, hF110⟩
  have hF11 := FB_tr hF10 hF110
  refine cI ?_
  refine x_popI T_77_151 ?_
  refine x_lr (z := some S) T_77_152 rfl ?_
  refine x_gR (z := some rp) T_77_153 F_7_10 (hP.o hO) (Eq.trans (hP.rm hO rfl (key := 2234) rfl) hr) ?_
  refine x_lc T_77_156 ?_
  refine x_ic T_77_159 ?_
  refine x_cv3 T_77_160 mN_22 mL_22 (Nat.le_of_ble_eq_true rfl) mO_22 (hP.o hbr) (Nat.le_of_ble_eq_true rfl) (x_put (k := 2) (v := 3) 2 hP hB11 rfl (by decide) (by decide) (by (try simp only [List.length_append, leb_len, List.length_nil]); omega)) ?_
  clear hP
  rintro _ σ ⟨rfl, W12, hP, hB12, hF120⟩
  have hF12 := FB_tr hF11 hF120
  refine cV ?_
  refine x_lr (z := some S) T_77_163 rfl ?_
  refine x_gR (z := some rp) T_77_164 F_7_10 (hP.o hO) (Eq.trans (hP.rm hO rfl (key := 2234) rfl) hr) ?_
  refine x_lr (z := some a) T_77_167 rfl ?_
  refine x_gI (z := uid) T_77_168 (Or.inl F_8_7) (hP.o hna) (Eq.trans (hP.gi hna (key := 2263) rfl) ((hF12.o (by decide) (by decide)).trans u1)) ?_
  refine x_cs1 T_77_171 mN_72 mL_72 (Nat.le_of_ble_eq_true rfl) mK_72 (Nat.le_of_ble_eq_true rfl) (huuid W12 σ hP) ?_
  rintro _ σ ⟨rfl, rfl⟩
  refine cI ?_
  refine x_i2l T_77_174 ?_
  refine x_ic T_77_175 ?_
  refine x_cv3 T_77_176 mN_22 mL_22 (Nat.le_of_ble_eq_true rfl) mO_22 (hP.o hbr) (Nat.le_of_ble_eq_true rfl) (x_put (k := 3) (v := xuid) 3 hP hB12 rfl (by decide) ⟨by omega, by omega⟩ (by (try simp only [List.length_append, leb_len, List.length_nil]); omega)) ?_
  clear hP
  rintro _ σ ⟨rfl, W13, hP, hB13, hF130⟩
  have hF13 := FB_tr hF12 hF130
  refine cV ?_
  refine x_lr (z := some S) T_77_179 rfl ?_
  refine x_gR (z := some rp) T_77_180 F_7_10 (hP.o hO) (Eq.trans (hP.rm hO rfl (key := 2234) rfl) hr) ?_
  refine x_lc T_77_183 ?_
  refine x_ic T_77_186 ?_
  refine x_cv3 T_77_187 mN_22 mL_22 (Nat.le_of_ble_eq_true rfl) mO_22 (hP.o hbr) (Nat.le_of_ble_eq_true rfl) (x_put (k := 2) (v := 3) 2 hP hB13 rfl (by decide) (by decide) (by (try simp only [List.length_append, leb_len, List.length_nil]); omega)) ?_
  clear hP
  rintro _ σ ⟨rfl, W14, hP, hB14, hF140⟩
  have hF14 := FB_tr hF13 hF140
  refine cV ?_
  refine x_lr (z := some S) T_77_190 rfl ?_
  refine x_gR (z := some rp) T_77_191 F_7_10 (hP.o hO) (Eq.trans (hP.rm hO rfl (key := 2234) rfl) hr) ?_
  refine x_lr (z := some a) T_77_194 rfl ?_
  refine x_gI (z := gid) T_77_195 (Or.inl F_8_8) (hP.o hna) (Eq.trans (hP.gi hna (key := 2264) rfl) ((hF14.o (by decide) (by decide)).trans g1)) ?_
  refine x_cs1 T_77_198 mN_72 mL_72 (Nat.le_of_ble_eq_true rfl) mK_72 (Nat.le_of_ble_eq_true rfl) (hugid W14 σ hP) ?_
  rintro _ σ ⟨rfl, rfl⟩
  refine cI ?_
  refine x_i2l T_77_201 ?_
  refine x_ic T_77_202 ?_
  refine x_cv3 T_77_203 mN_22 mL_22 (Nat.le_of_ble_eq_true rfl) mO_22 (hP.o hbr) (Nat.le_of_ble_eq_true rfl) (x_put (k := 3) (v := xgid) 3 hP hB14 rfl (by decide) ⟨by omega, by omega⟩ (by (try simp only [List.length_append, leb_len, List.length_nil]); omega)) ?_
  clear hP
  rintro _ σ ⟨rfl, W15, hP, hB15, hF150⟩
  have hF15 := FB_tr hF14 hF150
  refine cV ?_
  refine x_lr (z := some S) T_77_206 rfl ?_
  refine x_gR (z := some rp) T_77_207 F_7_10 (hP.o hO) (Eq.trans (hP.rm hO rfl (key := 2234) rfl) hr) ?_
  refine x_lc T_77_210 ?_
  refine x_ic T_77_213 ?_
  refine x_cv3 T_77_214 mN_22 mL_22 (Nat.le_of_ble_eq_true rfl) mO_22 (hP.o hbr) (Nat.le_of_ble_eq_true rfl) (x_put (k := 2) (v := 3) 2 hP hB15 rfl (by decide) (by decide) (by (try simp only [List.length_append, leb_len, List.length_nil]); omega)) ?_
  clear hP
  rintro _ σ ⟨rfl, W16, hP, hB16, hF160⟩
  have hF16 := FB_tr hF15 hF160
  refine cV ?_
  refine x_lr (z := some S) T_77_217 rfl ?_
  refine x_gR (z := some rp) T_77_218 F_7_10 (hP.o hO) (Eq.trans (hP.rm hO rfl (key := 2234) rfl) hr) ?_
  refine x_lr (z := some a) T_77_221 rfl ?_
  refine x_gI (z := mui) T_77_222 (Or.inl F_8_9) (hP.o hna) (Eq.trans (hP.gi hna (key := 2265) rfl) ((hF16.o (by decide) (by decide)).trans k1)) ?_
  refine x_cs1 T_77_225 mN_72 mL_72 (Nat.le_of_ble_eq_true rfl) mK_72 (Nat.le_of_ble_eq_true rfl) (humui W16 σ hP) ?_
  rintro _ σ ⟨rfl, rfl⟩
  refine cI ?_
  refine x_i2l T_77_228 ?_
  refine x_ic T_77_229 ?_
  refine x_cv3 T_77_230 mN_22 mL_22 (Nat.le_of_ble_eq_true rfl) mO_22 (hP.o hbr) (Nat.le_of_ble_eq_true rfl) (x_put (k := 3) (v := xmui) 3 hP hB16 rfl (by decide) ⟨by omega, by omega⟩ (by (try simp only [List.length_append, leb_len, List.length_nil]); omega)) ?_
  clear hP
  rintro _ σ ⟨rfl, W17, hP, hB17, hF170⟩
  have hF17 := FB_tr hF16 hF170
  refine cV ?_
  refine x_rv T_77_233 ?_
  exact ⟨rfl, W17, hP, by rw [hpost] at hB17; exact hB17, hF17⟩
end XQID
