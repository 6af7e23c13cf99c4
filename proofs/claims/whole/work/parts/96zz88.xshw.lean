/-! The class's server 2: a process's files come. -/
theorem T_193_0 : hTab 193 0 = some ((0, 0, 16, []), 2) := rfl
theorem T_193_2 : hTab 193 2 = some ((3, 1, 2, []), 3) := rfl
theorem T_193_3 : hTab 193 3 = some ((24, 6, Int.ofNat 0, []), 6) := rfl
theorem T_193_6 : hTab 193 6 = some ((10, 2, 0, []), 7) := rfl
theorem T_193_7 : hTab 193 7 = some ((0, 0, 16, []), 9) := rfl
theorem T_193_9 : hTab 193 9 = some ((10, 0, 0, []), 10) := rfl
theorem T_193_10 : hTab 193 10 = some ((4, 2, 0, []), 11) := rfl
theorem T_193_11 : hTab 193 11 = some ((3, 0, 2, []), 12) := rfl
theorem T_193_12 : hTab 193 12 = some ((3, 2, 0, []), 13) := rfl
theorem T_193_13 : hTab 193 13 = some ((3, 0, 2, []), 14) := rfl
theorem T_193_14 : hTab 193 14 = some ((24, 7, Int.ofNat 2, []), 17) := rfl
theorem T_193_17 : hTab 193 17 = some ((0, 0, 0, []), 18) := rfl
theorem T_193_18 : hTab 193 18 = some ((26, 10, 0, []), 19) := rfl
theorem T_193_19 : hTab 193 19 = some ((0, 0, (-2147483283), []), 22) := rfl
theorem T_193_22 : hTab 193 22 = some ((3, 1, 2, []), 23) := rfl
theorem T_193_23 : hTab 193 23 = some ((24, 6, Int.ofNat 7, []), 26) := rfl
theorem T_193_26 : hTab 193 26 = some ((31, 67, 0, []), 29) := rfl
theorem T_193_29 : hTab 193 29 = some ((4, 3, 2, []), 30) := rfl
theorem T_193_30 : hTab 193 30 = some ((3, 3, 2, []), 31) := rfl
theorem T_193_31 : hTab 193 31 = some ((24, 8, Int.ofNat 0, []), 34) := rfl
theorem T_193_34 : hTab 193 34 = some ((31, 27, 0, []), 37) := rfl
theorem T_193_37 : hTab 193 37 = some ((3, 3, 2, []), 38) := rfl
theorem T_193_38 : hTab 193 38 = some ((24, 8, Int.ofNat 0, []), 41) := rfl
theorem T_193_41 : hTab 193 41 = some ((3, 1, 2, []), 42) := rfl
theorem T_193_42 : hTab 193 42 = some ((24, 6, Int.ofNat 0, []), 45) := rfl
theorem T_193_45 : hTab 193 45 = some ((14, 0, 0, []), 46) := rfl
theorem T_193_46 : hTab 193 46 = some ((31, 75, 0, []), 49) := rfl
theorem T_193_49 : hTab 193 49 = some ((3, 3, 2, []), 50) := rfl
theorem T_193_50 : hTab 193 50 = some ((3, 1, 2, []), 51) := rfl
theorem T_193_51 : hTab 193 51 = some ((25, 8, Int.ofNat 2, []), 54) := rfl
theorem T_193_54 : hTab 193 54 = some ((3, 0, 2, []), 55) := rfl
theorem T_193_55 : hTab 193 55 = some ((3, 2, 0, []), 56) := rfl
theorem T_193_56 : hTab 193 56 = some ((0, 0, 1, []), 57) := rfl
theorem T_193_57 : hTab 193 57 = some ((10, 0, 0, []), 58) := rfl
theorem T_193_58 : hTab 193 58 = some ((3, 3, 2, []), 59) := rfl
theorem T_193_59 : hTab 193 59 = some ((0, 0, 292, []), 62) := rfl
theorem T_193_62 : hTab 193 62 = some ((3, 1, 2, []), 63) := rfl
theorem T_193_63 : hTab 193 63 = some ((24, 6, Int.ofNat 7, []), 66) := rfl
theorem T_193_66 : hTab 193 66 = some ((31, 67, 0, []), 69) := rfl
theorem T_193_69 : hTab 193 69 = some ((4, 4, 2, []), 71) := rfl
theorem T_193_71 : hTab 193 71 = some ((3, 4, 2, []), 73) := rfl
theorem T_193_73 : hTab 193 73 = some ((24, 8, Int.ofNat 0, []), 76) := rfl
theorem T_193_76 : hTab 193 76 = some ((34, 56, 0, []), 79) := rfl
theorem T_193_79 : hTab 193 79 = some ((31, 11, 0, []), 82) := rfl
theorem T_193_82 : hTab 193 82 = some ((3, 4, 2, []), 84) := rfl
theorem T_193_84 : hTab 193 84 = some ((3, 1, 2, []), 85) := rfl
theorem T_193_85 : hTab 193 85 = some ((25, 8, Int.ofNat 2, []), 88) := rfl
theorem T_193_88 : hTab 193 88 = some ((3, 4, 2, []), 90) := rfl
theorem T_193_90 : hTab 193 90 = some ((0, 0, 2, []), 91) := rfl
theorem T_193_91 : hTab 193 91 = some ((25, 8, Int.ofNat 3, []), 94) := rfl
theorem T_193_94 : hTab 193 94 = some ((3, 0, 2, []), 95) := rfl
theorem T_193_95 : hTab 193 95 = some ((3, 2, 0, []), 96) := rfl
theorem T_193_96 : hTab 193 96 = some ((0, 0, 2, []), 97) := rfl
theorem T_193_97 : hTab 193 97 = some ((10, 0, 0, []), 98) := rfl
theorem T_193_98 : hTab 193 98 = some ((3, 3, 2, []), 99) := rfl
theorem T_193_99 : hTab 193 99 = some ((0, 0, 128, []), 102) := rfl
theorem T_193_102 : hTab 193 102 = some ((3, 1, 2, []), 103) := rfl
theorem T_193_103 : hTab 193 103 = some ((24, 6, Int.ofNat 7, []), 106) := rfl
theorem T_193_106 : hTab 193 106 = some ((31, 67, 0, []), 109) := rfl
theorem T_193_109 : hTab 193 109 = some ((4, 5, 2, []), 111) := rfl
theorem T_193_111 : hTab 193 111 = some ((3, 5, 2, []), 113) := rfl
theorem T_193_113 : hTab 193 113 = some ((24, 8, Int.ofNat 0, []), 116) := rfl
theorem T_193_116 : hTab 193 116 = some ((34, 57, 0, []), 119) := rfl
theorem T_193_119 : hTab 193 119 = some ((31, 11, 0, []), 122) := rfl
theorem T_193_122 : hTab 193 122 = some ((3, 5, 2, []), 124) := rfl
theorem T_193_124 : hTab 193 124 = some ((3, 1, 2, []), 125) := rfl
theorem T_193_125 : hTab 193 125 = some ((25, 8, Int.ofNat 2, []), 128) := rfl
theorem T_193_128 : hTab 193 128 = some ((3, 5, 2, []), 130) := rfl
theorem T_193_130 : hTab 193 130 = some ((0, 0, 3, []), 131) := rfl
theorem T_193_131 : hTab 193 131 = some ((25, 8, Int.ofNat 3, []), 134) := rfl
theorem T_193_134 : hTab 193 134 = some ((33, 0, 0, []), 135) := rfl
theorem F_6_0 : (hFd 6 0).2.2.1 = 0 := rfl
theorem mN_193 : hmN 193 = 2 := by decide +kernel
theorem mL_193 : hmL 193 = 6 := by decide +kernel
theorem mK_193 : hmK 193 = 1 := by decide +kernel
theorem mO_193 : hmO 193 = 7 := by decide +kernel
def XVL (L : Int → Prop) (W : qR) (R : rR) (P : qR) (S : Nat) (s : Int) (ord : List Int) (t : Nat → Nat) : Prop := NTL L W R P S s ord t ∧ FD W R P S s ord t ∧ SZ W P S s ∧ DV W R P S s ord t
/-- device and mode of a file of a process -/
def dv2 (n : Int) : Int := if n % 16 = 0 then 0 else if n % 16 = 1 then 2 else 3
def md2 (n : Int) : Int := if n % 16 = 0 then -2147483283 else if n % 16 = 1 then 292 else 128
section XSHW
variable {fb : Bool} {d S a b rp m pr : Nat} {σ0 σ : hM} {W W1 W2 W3 W4 P Q : qR} {R R1 R2 R4 : rR} {i j k x z v s e w c f u y n p q K C T U : Int} {l nm ord : List Int} {t : Nat → Nat} {dr sh : Option Nat} {L L2 : Int → Prop}
theorem ins_pos : ∀ (l : List Int), l.Pairwise (fun a b => a < b) → n ∉ l → ∃ q : Int, (0 ≤ q ∧ q ≤ l.length) ∧ (∀ i, 0 ≤ i → i < q → lg l i < n) ∧ ∀ i, q ≤ i → i < l.length → n < lg l i
  | [], _, _ => ⟨0, ⟨by decide, by decide⟩, fun i i0 i1 => by omega, fun i i0 i1 => by
    have : ((([] : List Int).length : Nat) : Int) = 0 := rfl
    omega⟩
  | a :: l, h, hn => by
    obtain ⟨h1, h2⟩ := List.pairwise_cons.mp h
    have hla : ((a :: l).length : Int) = l.length + 1 := by rw [List.length_cons]; omega
    by_cases q : n < a
    · refine ⟨0, ⟨by decide, by omega⟩, fun i i0 i1 => by omega, fun i i0 i1 => ?_⟩
      rw [lg_cons i0]
      split
      · exact q
      · have := h1 _ (lg_mem (ord := l) (i := i - 1) (by omega) (by omega))
        omega
    · obtain ⟨q2, g1, g2, g3⟩ := ins_pos l h2 (fun c => hn (List.mem_cons_of_mem _ c))
      have hne : n ≠ a := fun c => hn (by rw [c]; exact List.mem_cons_self)
      refine ⟨q2 + 1, ⟨by omega, by omega⟩, fun i i0 i1 => ?_, fun i i0 i1 => ?_⟩
      · rw [lg_cons i0]
        split
        · omega
        · exact g2 _ (by omega) (by omega)
      · rw [lg_cons (by omega), if_neg (by omega)]
        exact g3 _ (by omega) (by omega)
theorem NTL.pos (h : NTL L W R P S 2 ord t) (hn : n ∉ ord) : ∃ q : Int, (0 ≤ q ∧ q ≤ ord.length) ∧ (∀ i, 0 ≤ i → i < q → lg ord i < n) ∧ ∀ i, q ≤ i → i < ord.length → n < lg ord i := ins_pos ord (h.1.2.2.2.imp (fun hab => by
  have e : ∀ m, qPath P 2 m = m := fun m => if_neg (by decide)
  rw [e, e] at hab
  exact hab)) hn
/-- one file of a process -/
theorem ND_two (hn : 16 ≤ n ∧ n < 144 ∧ n % 16 ≤ 2) (hb : tX b = some (Sum.inl 8)) (hu : P 2322 (n / 16 - 1) = u) (hu3 : 0 ≤ u ∧ u ≤ 3) (w1 : W b 2260 = n) (w2 : W b 2261 = 0) (w3 : W b 2262 = md2 n) (w4 : W b 2263 = u) (w5 : W b 2264 = u) (w6 : W b 2265 = u) (w7 : W b 2266 = 0) (hB : BY W (b + 1) 12 (qNm2 n)) : ND W P b 2 n := by
  have e : ¬ (2 : Int) < 2 := by decide
  have e1 : qMode P 2 n = md2 n := by
    unfold qMode md2
    rw [if_neg e, if_neg (by omega), ifc (show (n = 0 ∨ n % 16 = 0) ↔ n % 16 = 0 by omega)]
  have e2 : qPath P 2 n = n := if_neg e
  have e3 : qVer P 2 n = 0 := if_neg e
  have e4 : qUid P 2 n = u := by
    unfold qUid
    rw [if_neg e, if_neg (by omega), hu]
  have e5 : qGid P 2 n = u := by
    unfold qGid
    rw [if_neg e, e4]
  have e6 : qMuid P 2 n = u := by
    unfold qMuid
    rw [if_neg e, e4]
  have e7 : qLen P 2 n = 0 := if_neg (fun c => e c.1)
  have e8 : qNs P 2 n = ((qNm2 n).length : Int) := if_neg e
  have e9 : qNm P 2 n = qNm2 n := by
    unfold qNm
    rw [e8, show ((qNm2 n).length : Int).toNat = (qNm2 n).length by omega]
    refine Eq.trans (seg_seg.mpr (fun j _ _ => ?_)) (seg_all (l := qNm2 n))
    show qNb P 2 n (0 + j) = lg (qNm2 n) (0 + j)
    unfold qNb
    rw [if_neg e]
  have hm : -2147483648 ≤ md2 n ∧ md2 n ≤ 2147483647 := by
    unfold md2
    (repeat' split) <;> decide
  unfold ND
  rw [e1, e2, e3, e4, e5, e6, e7, e8, e9]
  exact ⟨hb, ⟨w3, hm⟩, ⟨w1, by omega, by omega⟩, ⟨w2, by decide, by decide⟩, ⟨w4, hu3⟩, ⟨w5, hu3⟩, ⟨w6, hu3⟩, ⟨w7, by decide, by decide⟩, hB, rfl⟩
theorem FV_of (hS : VS S s) (hW : ∀ (x : Nat) (k : Int), (x < S ∨ S + 294 ≤ x) → W2 x k = W x k) (hR : ∀ (x : Nat) (k : Int), (x < S ∨ S + 294 ≤ x) → R2 x k = R x k) (h1 : R2 S 2233 = R S 2233) (h2 : R2 S 2234 = R S 2234) (h3 : W2 S 2235 = W S 2235) (h4 : ∀ b, R2 b 2267 = R b 2267) : FV S 0 W W2 R R2 := by
  have hrg := hS.rng
  exact ⟨fun x k _ q _ _ _ => hW x k q, hR, ⟨h1, h2, h3⟩, fun c k c0 _ _ => hW c k (by omega), by rw [hW 0 0 (by omega)]; exact Int.le_refl _, fun b => Or.inl (h4 b)⟩
/-- one file has come -/
theorem shw_st (hS : VS S 2) (hX : XVL L W R Q S 2 ord t) (hC : (ord.length : Int) = C) (hC2 : C < 64) (hq : 0 ≤ q ∧ q ≤ C) (hlo : ∀ i, 0 ≤ i → i < q → lg ord i < n) (hhi : ∀ i, q ≤ i → i < C → n < lg ord i) (hn : 16 ≤ n ∧ n < 144 ∧ n % 16 ≤ 2) (hno : n ∉ ord) (hL : ∀ m, L2 m ↔ L m ∨ m = n) (hb : S + 6 + 3 * t C.toNat = b) (hu : Q 2322 (n / 16 - 1) = u) (hu3 : 0 ≤ u ∧ u ≤ 3) (hup : ∀ m ∈ ord, ¬ m = 0 → qUp Q 2 m ∈ ord) (hnu : qUp Q 2 n ∈ ord) (hdr : dr = noA S ord t (qUp Q 2 n)) (hfd : ∀ k, 192 ≤ k → k < 288 → ¬ Q 2304 k = 0 → Q 2310 k = 0 → ¬ Q 2306 k = n) (hB3 : BY W3 (b + 1) 12 (qNm2 n)) (hF3 : FB (b + 1) (ndW (rU W S 2230 (C + 1)) b n (md2 n) u) W3) (hsh : sh = some (295 + 125 * (n / 16 - 1).toNat)) (hW4 : W4 = rU W3 b 2259 (dv2 n)) (hR4 : R4 = oU (ndR (oU (dnR R S q C) (S + 1) q (some b)) b dr) b 2258 sh) : XVL L2 W4 R4 Q S 2 (ord.insertIdx q.toNat n) (insT t q C) ∧ (CT K W R → CT K W4 R4) ∧ FV S 0 W W4 R R4 := by
  have hrg := hS.rng
  have hl := hX.1.1.2.1
  have tb := hX.1.2.1.1 C.toNat (by omega)
  have hbo : tX b = some (Sum.inl 8) := by rw [← hb]; exact hS.nd tb
  have ew : ∀ (x : Nat) (k : Int), x ≠ b → ¬ (x = b + 1 ∧ k = 2065) → ¬ (x = b + 2 ∧ k < 2000) → ¬ (x = S ∧ k = 2230) → W4 x k = W x k := fun x k q1 q2 q3 q4 => by
    rw [hW4, rU_f q1, hF3 x k q2 (by omega)]
    unfold ndW
    rw [rU_f q1, rU_f q1, rU_f q1, rU_f q1, rU_f q1, rU_f q1, rU_f q1, rU_f q1]
    exact if_neg q4
  have eb : ∀ k : Int, 2000 ≤ k → k ≠ 2259 → W4 b k = ndW (rU W S 2230 (C + 1)) b n (md2 n) u b k := fun k k0 k1 => by
    rw [hW4, rU_k k1]
    exact hF3 b k (by omega) (by omega)
  have eS : W4 S 2230 = C + 1 := by
    rw [hW4, rU_f (by omega), hF3 S _ (by omega) (by omega)]
    unfold ndW
    rw [rU_f (by omega), rU_f (by omega), rU_f (by omega), rU_f (by omega), rU_f (by omega), rU_f (by omega), rU_f (by omega), rU_f (by omega), rU_s]
  have wn : W4 b 2260 = n ∧ W4 b 2261 = 0 ∧ W4 b 2262 = md2 n ∧ W4 b 2263 = u ∧ W4 b 2264 = u ∧ W4 b 2265 = u ∧ W4 b 2266 = 0 := by
    refine ⟨?_, ?_, ?_, ?_, ?_, ?_, ?_⟩ <;> (rw [eb _ (by decide) (by decide)]; unfold ndW)
    · rw [rU_j (by decide), rU_j (by decide), rU_j (by decide), rU_j (by decide), rU_j (by decide), rU_j (by decide), rU_j (by decide), rU_s]
    · rw [rU_j (by decide), rU_j (by decide), rU_s]
    · rw [rU_j (by decide), rU_j (by decide), rU_j (by decide), rU_j (by decide), rU_j (by decide), rU_j (by decide), rU_s]
    · rw [rU_j (by decide), rU_j (by decide), rU_j (by decide), rU_j (by decide), rU_j (by decide), rU_s]
    · rw [rU_j (by decide), rU_j (by decide), rU_j (by decide), rU_j (by decide), rU_s]
    · rw [rU_j (by decide), rU_j (by decide), rU_j (by decide), rU_s]
    · rw [rU_j (by decide), rU_s]
  have w9 : W4 b 2259 = dv2 n := by rw [hW4, rU_s]
  have hB4 : BY W4 (b + 1) 12 (qNm2 n) := by
    rw [hW4]
    obtain ⟨y1, y2, y3, y4, y5, y6, y7⟩ := hB3
    exact ⟨y1, y2, y3, (rU_f (by omega)).trans y4, y5, y6, fun i i0 i1 => (rU_f (by omega)).trans (y7 i i0 i1)⟩
  have rr : ∀ (x : Nat) (k : Int), 2000 ≤ k → x ≠ b → R4 x k = R x k := fun x k q1 q2 => by
    rw [hR4, oU_f q2]
    unfold ndR
    rw [oU_f q2, oU_f q2, oU_j (by omega)]
    exact if_neg (fun c => by omega)
  have rk : ∀ (x : Nat) (k : Int), 2000 ≤ k → k ≠ 2257 → k ≠ 2258 → R4 x k = R x k := fun x k q1 q2 q3 => by
    rw [hR4, oU_j q3]
    unfold ndR
    rw [oU_j q3, oU_j q2, oU_j (by omega)]
    exact if_neg (fun c => by omega)
  have r1 : ∀ i : Int, 0 ≤ i → i < 64 → R4 (S + 1) i = oU (dnR R S q C) (S + 1) q (some b) (S + 1) i := fun i i0 i1 => by
    rw [hR4, oU_j (by omega)]
    unfold ndR
    rw [oU_j (by omega), oU_j (by omega)]
  have rd : R4 b 2257 = dr := by
    rw [hR4, oU_j (by decide)]
    unfold ndR
    rw [oU_j (by decide), oU_s]
  have rs : R4 b 2258 = sh := by rw [hR4, oU_s]
  have ro : ∀ (x : Nat) (k : Int), (x < S ∨ S + 294 ≤ x) → R4 x k = R x k := fun x k h => by
    rw [hR4, oU_f (by omega)]
    unfold ndR
    rw [oU_f (by omega), oU_f (by omega), oU_f (by omega)]
    exact if_neg (fun c => by omega)
  have wo : ∀ (x : Nat) (k : Int), (x < S ∨ S + 294 ≤ x) → W4 x k = W x k := fun x k h => ew x k (by omega) (by omega) (by omega) (by omega)
  have hEN : ∀ m ∈ ord, EN Q Q 2 m := fun _ _ => EN_rfl
  have ep : ∀ m, qPath Q 2 m = m := fun m => if_neg (by decide)
  refine ⟨⟨hX.1.ins hq hC hC2 hb hno hL hEN hup (fun i i0 i1 => by rw [ep, ep]; exact hlo i i0 i1) (fun i i0 i1 => by rw [ep, ep]; exact hhi i i0 i1) eS (fun x k _ _ q1 q2 q3 q4 => ew x k q1 (fun c => q2 c.1) (fun c => q3 c.1) (fun c => q4 c.1)) (ND_two hn hbo hu hu3 wn.1 wn.2.1 wn.2.2.1 wn.2.2.2.1 wn.2.2.2.2.1 wn.2.2.2.2.2.1 wn.2.2.2.2.2.2 hB4) r1 (fun x hx => rr x _ (by decide) hx) (by rw [if_neg (by omega), rd, hdr]) (fun _ => hnu), hX.2.1.insL hX.1 hq hC hno (fun i k i0 i1 => ew _ _ (by omega) (by omega) (by omega) (by omega)) (fun i i0 i1 => rr _ _ (by decide) (by omega)) (fun _ _ _ => rfl) (fun k k0 k1 => hfd k (by omega) (by omega)), ?_, hX.2.2.2.insL hX.1 hq hC hC2 hb (fun x _ _ hx => ew x _ hx (by omega) (by omega) (by omega)) (fun x k hx hk => rr x k (by omega) hx) (fun c k hc => ew c k (by omega) (by omega) (by omega) (by omega)) (fun m q => by omega) (fun m q => by omega) ⟨fun c => by omega, fun _ => ⟨?_, ?_⟩⟩⟩, fun hK => hK.fv (ew 0 0 (by omega) (by omega) (by omega) (by omega)) (ew 0 1 (by omega) (by omega) (by omega) (by omega)) (fun x => rk x _ (by decide) (by decide) (by decide)), FV_of hS wo ro (rk _ _ (by decide) (by decide) (by decide)) (rk _ _ (by decide) (by decide) (by decide)) (ew _ _ (by omega) (by omega) (by omega) (by omega)) (fun x => rk x _ (by decide) (by decide) (by decide))⟩
  · obtain ⟨z1, z2, z3, z4⟩ := hX.2.2.1
    exact ⟨(ew _ _ (by omega) (by omega) (by omega) (by omega)).trans z1, (ew _ _ (by omega) (by omega) (by omega) (by omega)).trans z2, (ew _ _ (by omega) (by omega) (by omega) (by omega)).trans z3, fun c => by omega, fun c => (ew _ _ (by omega) (by omega) (by omega) (by omega)).trans (z4.2 c)⟩
  · rw [w9, if_neg (by omega), ifc (show (n < 16 ∨ n % 16 = 0) ↔ n % 16 = 0 by omega)]
    rfl
  · rw [rs, hsh, if_neg (by omega)]
theorem FV_tr0 (h1 : FV S 0 W W1 R R1) (h2 : FV S 0 W1 W2 R1 R2) : FV S 0 W W2 R R2 := FV_tr h1 h2
theorem shw_2 {Post : Option AV → hM → Prop} {bd bs : Nat} (hP : PX σ0 W R σ) (hS : VS S 2) (hX : XVL L W R Q S 2 ord t) (hK : CT K W R) (hp : 0 ≤ p ∧ p < 8) (hpr : 295 + 125 * p.toNat = pr) (hnum : W pr 2192 = p) (huu : W pr 2199 = u) (hu3 : 0 ≤ u ∧ u ≤ 3) (hQu : Q 2322 p = u) (hlen : ord.length ≤ 63) (hin : ∀ m, L m → (m = 0 ∨ m = 1 ∨ (16 ≤ m ∧ m < 144 ∧ m % 16 ≤ 2))) (hup : ∀ m ∈ ord, ¬ m = 0 → qUp Q 2 m ∈ ord) (hfd : ∀ k, 192 ≤ k → k < 288 → ¬ Q 2304 k = 0 → Q 2310 k = 0 → ¬ Q 2306 k = n) (hn : n = 16 * p + 18) (hno : n ∉ ord) (hbd : noA S ord t (16 * p + 16) = some bd) (hbo : tX bd = some (Sum.inl 8)) (hbs : tX bs = some (Sum.inl 8)) (hgo : ∀ (σ : hM) (W4 : qR) (R4 : rR) (ord4 : List Int) (t4 : Nat → Nat), PX σ0 W4 R4 σ → XVL (fun m => L m ∨ m = n) W4 R4 Q S 2 ord4 t4 → CT K W4 R4 → FV S 0 W W4 R R4 → Post none σ) : WP fb (d + 7) 193 94 [some (vR (some S)), some (vR (some pr)), some (vI (16 * p + 16)), some (vR (some bd)), some (vR (some bs)), none] [] σ Post := by
  have hO := hS.o
  have hrg := hS.rng
  have hS2 := hS.2
  have hpo : tX pr = some (Sum.inl 6) := by rw [← hpr]; exact tX_prc p.toNat (by omega)
  have hnn : 16 ≤ n ∧ n < 144 ∧ n % 16 ≤ 2 := by omega
  have hn16 : n / 16 - 1 = p := by omega
  have hnl := hX.1.1.2.1
  obtain ⟨C, hC⟩ : ∃ C : Int, (ord.length : Int) = C := ⟨_, rfl⟩
  have hcnt := hX.1.1.2.2.1
  rw [hC] at hcnt
  obtain ⟨q, hq, hlo, hhi⟩ := hX.1.pos hno
  rw [hC] at hq hhi
  have htC := hX.1.2.1.1 C.toNat (by omega)
  obtain ⟨b, hb⟩ : ∃ nb, S + 6 + 3 * t C.toNat = nb := ⟨_, rfl⟩
  have hbno : tX b = some (Sum.inl 8) := by rw [← hb]; exact hS.nd htC
  have hsh : SH (b + 1) 12 := by
    have := hS.sh htC
    rw [show S + 7 + 3 * t C.toNat = b + 1 by omega] at this
    exact this
  have hqu : qUp Q 2 n = (16 * p + 16) := by
    unfold qUp
    rw [if_neg (show ¬ (2 : Int) < 2 by decide)]
    rw [if_neg (by omega)]
    omega
  have hmd : md2 n = 128 := by
    unfold md2
    rw [if_neg (by omega), if_neg (by omega)]
  have hdv : dv2 n = 3 := by
    unfold dv2
    rw [if_neg (by omega), if_neg (by omega)]
  have hnm2 : qNm2 n = [99, 116, 108] := by
    unfold qNm2
    rw [if_neg (by omega), if_neg (by omega), if_neg (by omega), if_neg (by omega)]
  have hnu : qUp Q 2 n ∈ ord := by
    rw [hqu]
    unfold noA at hbd
    split at hbd
    · assumption
    · cases hbd
  have hstp := fun (W3 W4 : qR) (R4 : rR) (hB3 : BY W3 (b + 1) 12 (qNm2 n)) (hF3 : FB (b + 1) (ndW (rU W S 2230 (C + 1)) b n (md2 n) u) W3) (e4 : W4 = rU W3 b 2259 (dv2 n)) (e5 : R4 = oU (ndR (oU (dnR R S q C) (S + 1) q (some b)) b (some bd)) b 2258 (some pr)) => shw_st (K := K) (L2 := fun m => L m ∨ m = n) (dr := some bd) (sh := some pr) hS hX hC (by omega) hq hlo hhi hnn hno (fun m => Iff.rfl) hb (by rw [hn16]; exact hQu) hu3 hup hnu (by rw [hqu]; exact hbd.symm) hfd hB3 hF3 (by rw [hn16, hpr]) e4 e5
  rw [hmd, hdv, hnm2] at hstp
  have hins := x_insert (fb := fb) (d := d + 5) (p := n) (md := 128) (u := u) (dr := some bd) (q := q) (g := fun i => lg ord i) hP hS hcnt ⟨by omega, by omega⟩ hX.1.2.1.1 hX.1.2.2.1 (fun k k0 k1 => by
    have hNk := hX.1.2.2.2.1 k k0 (by omega)
    exact hNk.2.2.1.1.trans (if_neg (by decide))) hq hhi (by
    by_cases c : q = 0
    · exact Or.inl c
    · have := hlo (q - 1) (by omega) (by omega)
      exact Or.inr (by omega)) hb
  have hmem := fun m => mem_ins (ord := ord) (n := n) (k := m) (q := q) (by omega)
  have hln := ins_len (ord := ord) (n := n) (q := q) (by omega)
  have hna : noA S (ord.insertIdx q.toNat n) (insT t q C) (16 * p + 16) = some bd := by
    have := noA_ins (S := S) (t := t) hX.1.nodup (show 0 ≤ q ∧ q ≤ (ord.length : Int) by omega) hno (k := 16 * p + 16) (by omega)
    rw [← hC, this, hbd]
  obtain ⟨WI, hWI⟩ : ∃ WI, ndW (rU W S 2230 (C + 1)) b n 128 u = WI := ⟨_, rfl⟩
  obtain ⟨RI, hRI⟩ : ∃ RI, ndR (oU (dnR R S q C) (S + 1) q (some b)) b (some bd) = RI := ⟨_, rfl⟩
  rw [hWI, hRI] at hins
  rw [hWI, hRI] at hstp
  have hpu : ∀ k : Int, 2000 ≤ k → WI pr k = W pr k := fun k hk => by
    rw [← hWI]
    unfold ndW
    have e : pr ≠ b := by omega
    rw [rU_f e, rU_f e, rU_f e, rU_f e, rU_f e, rU_f e, rU_f e, rU_f e, rU_f (by omega)]
  have htk := fun (σ : hM) (hP : PX σ0 WI RI σ) => x_takeText0 (fb := fb) (d := d + 1) (c := 53) (by decide) hP hsh (by decide +kernel)
  rw [show txt 53 = [99, 116, 108] by decide +kernel] at htk
  have hend : ∀ (σ : hM) (W3 : qR), PX σ0 (rU W3 b 2259 3) (oU RI b 2258 (some pr)) σ → BY W3 (b + 1) 12 [99, 116, 108] → FB (b + 1) WI W3 → Post none σ := fun σ W3 hP hB hF => by
    obtain ⟨g1, g2, g3⟩ := hstp W3 _ (oU RI b 2258 (some pr)) hB hF rfl rfl
    exact hgo σ _ _ _ _ hP g1 (g2 hK) g3
  clear hstp hX hK hWI hRI hmem hln hna hgo
  refine x_lr (z := some S) T_193_94 rfl ?_
  refine x_li (z := (16 * p + 16)) T_193_95 rfl ?_
  refine x_ic T_193_96 ?_
  refine x_ib (w := n) T_193_97 (fun h => absurd h.1 (by decide)) (by rw [hn]; exact w32_e (by omega) (by omega) (by omega)) ?_
  refine x_lr (z := some bd) T_193_98 rfl ?_
  refine x_ic T_193_99 ?_
  refine x_lr (z := some pr) T_193_102 rfl ?_
  refine x_gI (z := u) T_193_103 (Or.inl F_6_7) (hP.o hpo) (Eq.trans (hP.gi hpo (key := 2199) rfl) huu) ?_
  refine x_cv5 T_193_106 mN_67 mL_67 (Nat.le_of_ble_eq_true rfl) mO_67 (hP.o hO) (Nat.le_of_ble_eq_true rfl) (hins) ?_
  clear hP hins
  rintro _ σ ⟨rfl, hP⟩
  refine cR ?_
  refine x_sr (ls1 := [some (vR (some S)), some (vR (some pr)), some (vI (16 * p + 16)), some (vR (some bd)), some (vR (some bs)), some (vR (some b))]) T_193_109 rfl ?_
  refine x_lr (z := some b) T_193_111 rfl ?_
  refine x_gR (z := some (b + 1)) T_193_113 F_8_0 (hP.o hbno) (hP.rc hbno rfl rfl) ?_
  refine x_sta T_193_116 rfl ?_
  refine x_cv2 T_193_119 mN_11 mL_11 (Nat.le_of_ble_eq_true rfl) mO_11 (hP.o hsh.1) (Nat.le_of_ble_eq_true rfl) (htk σ hP) ?_
  clear hP htk
  rintro _ σ ⟨rfl, W3, hP, hB3, hF3⟩
  refine cV ?_
  refine x_lr (z := some b) T_193_122 rfl ?_
  refine x_lr (z := some pr) T_193_124 rfl ?_
  refine z_pR hP T_193_125 F_8_2 rfl hbno (key := 2258) rfl (fun σ hP => ?_)
  refine x_lr (z := some b) T_193_128 rfl ?_
  refine x_ic T_193_130 ?_
  refine z_pI hP T_193_131 F_8_3 hbno (key := 2259) rfl (fun σ hP => ?_)
  refine x_rv T_193_134 ?_
  exact hend σ W3 hP hB3 hF3
theorem shw_1 {Post : Option AV → hM → Prop} {bd : Nat} (hP : PX σ0 W R σ) (hS : VS S 2) (hX : XVL L W R Q S 2 ord t) (hK : CT K W R) (hp : 0 ≤ p ∧ p < 8) (hpr : 295 + 125 * p.toNat = pr) (hnum : W pr 2192 = p) (huu : W pr 2199 = u) (hu3 : 0 ≤ u ∧ u ≤ 3) (hQu : Q 2322 p = u) (hlen : ord.length ≤ 63) (hin : ∀ m, L m → (m = 0 ∨ m = 1 ∨ (16 ≤ m ∧ m < 144 ∧ m % 16 ≤ 2))) (hup : ∀ m ∈ ord, ¬ m = 0 → qUp Q 2 m ∈ ord) (hfd : ∀ k, 192 ≤ k → k < 288 → ¬ Q 2304 k = 0 → Q 2310 k = 0 → ¬ Q 2306 k = n) (hn : n = 16 * p + 17) (hno : n ∉ ord) (hbd : noA S ord t (16 * p + 16) = some bd) (hbo : tX bd = some (Sum.inl 8)) (hgo : ∀ (σ : hM) (W4 : qR) (R4 : rR) (ord4 : List Int) (t4 : Nat → Nat) (bs : Nat), PX σ0 W4 R4 σ → XVL (fun m => L m ∨ m = n) W4 R4 Q S 2 ord4 t4 → CT K W4 R4 → FV S 0 W W4 R R4 → (∀ m, m ∈ ord4 ↔ m = n ∨ m ∈ ord) → ord4.length = ord.length + 1 → noA S ord4 t4 (16 * p + 16) = some bd → tX bs = some (Sum.inl 8) → WP fb (d + 7) 193 94 [some (vR (some S)), some (vR (some pr)), some (vI (16 * p + 16)), some (vR (some bd)), some (vR (some bs)), none] [] σ Post) : WP fb (d + 7) 193 54 [some (vR (some S)), some (vR (some pr)), some (vI (16 * p + 16)), some (vR (some bd)), none, none] [] σ Post := by
  have hO := hS.o
  have hrg := hS.rng
  have hS2 := hS.2
  have hpo : tX pr = some (Sum.inl 6) := by rw [← hpr]; exact tX_prc p.toNat (by omega)
  have hnn : 16 ≤ n ∧ n < 144 ∧ n % 16 ≤ 2 := by omega
  have hn16 : n / 16 - 1 = p := by omega
  have hnl := hX.1.1.2.1
  obtain ⟨C, hC⟩ : ∃ C : Int, (ord.length : Int) = C := ⟨_, rfl⟩
  have hcnt := hX.1.1.2.2.1
  rw [hC] at hcnt
  obtain ⟨q, hq, hlo, hhi⟩ := hX.1.pos hno
  rw [hC] at hq hhi
  have htC := hX.1.2.1.1 C.toNat (by omega)
  obtain ⟨b, hb⟩ : ∃ nb, S + 6 + 3 * t C.toNat = nb := ⟨_, rfl⟩
  have hbno : tX b = some (Sum.inl 8) := by rw [← hb]; exact hS.nd htC
  have hsh : SH (b + 1) 12 := by
    have := hS.sh htC
    rw [show S + 7 + 3 * t C.toNat = b + 1 by omega] at this
    exact this
  have hqu : qUp Q 2 n = (16 * p + 16) := by
    unfold qUp
    rw [if_neg (show ¬ (2 : Int) < 2 by decide)]
    rw [if_neg (by omega)]
    omega
  have hmd : md2 n = 292 := by
    unfold md2
    rw [if_neg (by omega), if_pos (by omega)]
  have hdv : dv2 n = 2 := by
    unfold dv2
    rw [if_neg (by omega), if_pos (by omega)]
  have hnm2 : qNm2 n = [115, 116, 97, 116, 117, 115] := by
    unfold qNm2
    rw [if_neg (by omega), if_neg (by omega), if_neg (by omega), if_pos (by omega)]
  have hnu : qUp Q 2 n ∈ ord := by
    rw [hqu]
    unfold noA at hbd
    split at hbd
    · assumption
    · cases hbd
  have hstp := fun (W3 W4 : qR) (R4 : rR) (hB3 : BY W3 (b + 1) 12 (qNm2 n)) (hF3 : FB (b + 1) (ndW (rU W S 2230 (C + 1)) b n (md2 n) u) W3) (e4 : W4 = rU W3 b 2259 (dv2 n)) (e5 : R4 = oU (ndR (oU (dnR R S q C) (S + 1) q (some b)) b (some bd)) b 2258 (some pr)) => shw_st (K := K) (L2 := fun m => L m ∨ m = n) (dr := some bd) (sh := some pr) hS hX hC (by omega) hq hlo hhi hnn hno (fun m => Iff.rfl) hb (by rw [hn16]; exact hQu) hu3 hup hnu (by rw [hqu]; exact hbd.symm) hfd hB3 hF3 (by rw [hn16, hpr]) e4 e5
  rw [hmd, hdv, hnm2] at hstp
  have hins := x_insert (fb := fb) (d := d + 5) (p := n) (md := 292) (u := u) (dr := some bd) (q := q) (g := fun i => lg ord i) hP hS hcnt ⟨by omega, by omega⟩ hX.1.2.1.1 hX.1.2.2.1 (fun k k0 k1 => by
    have hNk := hX.1.2.2.2.1 k k0 (by omega)
    exact hNk.2.2.1.1.trans (if_neg (by decide))) hq hhi (by
    by_cases c : q = 0
    · exact Or.inl c
    · have := hlo (q - 1) (by omega) (by omega)
      exact Or.inr (by omega)) hb
  have hmem := fun m => mem_ins (ord := ord) (n := n) (k := m) (q := q) (by omega)
  have hln := ins_len (ord := ord) (n := n) (q := q) (by omega)
  have hna : noA S (ord.insertIdx q.toNat n) (insT t q C) (16 * p + 16) = some bd := by
    have := noA_ins (S := S) (t := t) hX.1.nodup (show 0 ≤ q ∧ q ≤ (ord.length : Int) by omega) hno (k := 16 * p + 16) (by omega)
    rw [← hC, this, hbd]
  obtain ⟨WI, hWI⟩ : ∃ WI, ndW (rU W S 2230 (C + 1)) b n 292 u = WI := ⟨_, rfl⟩
  obtain ⟨RI, hRI⟩ : ∃ RI, ndR (oU (dnR R S q C) (S + 1) q (some b)) b (some bd) = RI := ⟨_, rfl⟩
  rw [hWI, hRI] at hins
  rw [hWI, hRI] at hstp
  have hpu : ∀ k : Int, 2000 ≤ k → WI pr k = W pr k := fun k hk => by
    rw [← hWI]
    unfold ndW
    have e : pr ≠ b := by omega
    rw [rU_f e, rU_f e, rU_f e, rU_f e, rU_f e, rU_f e, rU_f e, rU_f e, rU_f (by omega)]
  have htk := fun (σ : hM) (hP : PX σ0 WI RI σ) => x_takeText0 (fb := fb) (d := d + 1) (c := 52) (by decide) hP hsh (by decide +kernel)
  rw [show txt 52 = [115, 116, 97, 116, 117, 115] by decide +kernel] at htk
  have hend : ∀ (σ : hM) (W3 : qR), PX σ0 (rU W3 b 2259 2) (oU RI b 2258 (some pr)) σ → BY W3 (b + 1) 12 [115, 116, 97, 116, 117, 115] → FB (b + 1) WI W3 → WP fb (d + 7) 193 94 [some (vR (some S)), some (vR (some pr)), some (vI (16 * p + 16)), some (vR (some bd)), some (vR (some b)), none] [] σ Post := fun σ W3 hP hB hF => by
    obtain ⟨g1, g2, g3⟩ := hstp W3 _ (oU RI b 2258 (some pr)) hB hF rfl rfl
    exact hgo σ _ _ _ _ b hP g1 (g2 hK) g3 hmem (by omega) hna hbno
  clear hstp hX hK hWI hRI hmem hln hna hgo
  refine x_lr (z := some S) T_193_54 rfl ?_
  refine x_li (z := (16 * p + 16)) T_193_55 rfl ?_
  refine x_ic T_193_56 ?_
  refine x_ib (w := n) T_193_57 (fun h => absurd h.1 (by decide)) (by rw [hn]; exact w32_e (by omega) (by omega) (by omega)) ?_
  refine x_lr (z := some bd) T_193_58 rfl ?_
  refine x_ic T_193_59 ?_
  refine x_lr (z := some pr) T_193_62 rfl ?_
  refine x_gI (z := u) T_193_63 (Or.inl F_6_7) (hP.o hpo) (Eq.trans (hP.gi hpo (key := 2199) rfl) huu) ?_
  refine x_cv5 T_193_66 mN_67 mL_67 (Nat.le_of_ble_eq_true rfl) mO_67 (hP.o hO) (Nat.le_of_ble_eq_true rfl) (hins) ?_
  clear hP hins
  rintro _ σ ⟨rfl, hP⟩
  refine cR ?_
  refine x_sr (ls1 := [some (vR (some S)), some (vR (some pr)), some (vI (16 * p + 16)), some (vR (some bd)), some (vR (some b)), none]) T_193_69 rfl ?_
  refine x_lr (z := some b) T_193_71 rfl ?_
  refine x_gR (z := some (b + 1)) T_193_73 F_8_0 (hP.o hbno) (hP.rc hbno rfl rfl) ?_
  refine x_sta T_193_76 rfl ?_
  refine x_cv2 T_193_79 mN_11 mL_11 (Nat.le_of_ble_eq_true rfl) mO_11 (hP.o hsh.1) (Nat.le_of_ble_eq_true rfl) (htk σ hP) ?_
  clear hP htk
  rintro _ σ ⟨rfl, W3, hP, hB3, hF3⟩
  refine cV ?_
  refine x_lr (z := some b) T_193_82 rfl ?_
  refine x_lr (z := some pr) T_193_84 rfl ?_
  refine z_pR hP T_193_85 F_8_2 rfl hbno (key := 2258) rfl (fun σ hP => ?_)
  refine x_lr (z := some b) T_193_88 rfl ?_
  refine x_ic T_193_90 ?_
  refine z_pI hP T_193_91 F_8_3 hbno (key := 2259) rfl (fun σ hP => ?_)
  exact hend σ W3 hP hB3 hF3
theorem shw_0 {Post : Option AV → hM → Prop} {a0 : Nat} (hP : PX σ0 W R σ) (hS : VS S 2) (hX : XVL L W R Q S 2 ord t) (hK : CT K W R) (hp : 0 ≤ p ∧ p < 8) (hpr : 295 + 125 * p.toNat = pr) (hnum : W pr 2192 = p) (huu : W pr 2199 = u) (hu3 : 0 ≤ u ∧ u ≤ 3) (hQu : Q 2322 p = u) (hlen : ord.length ≤ 63) (hin : ∀ m, L m → (m = 0 ∨ m = 1 ∨ (16 ≤ m ∧ m < 144 ∧ m % 16 ≤ 2))) (hup : ∀ m ∈ ord, ¬ m = 0 → qUp Q 2 m ∈ ord) (hfd : ∀ k, 192 ≤ k → k < 288 → ¬ Q 2304 k = 0 → Q 2310 k = 0 → ¬ Q 2306 k = n) (hn : n = 16 * p + 16) (hno : n ∉ ord) (h0 : noA S ord t 0 = some a0) (h00 : (0 : Int) ∈ ord) (hr0 : R (S + 1) 0 = some a0) (hgo : ∀ (σ : hM) (W4 : qR) (R4 : rR) (ord4 : List Int) (t4 : Nat → Nat) (bd : Nat), PX σ0 W4 R4 σ → XVL (fun m => L m ∨ m = n) W4 R4 Q S 2 ord4 t4 → CT K W4 R4 → FV S 0 W W4 R R4 → (∀ m, m ∈ ord4 ↔ m = n ∨ m ∈ ord) → ord4.length = ord.length + 1 → noA S ord4 t4 n = some bd → tX bd = some (Sum.inl 8) → WP fb (d + 7) 193 54 [some (vR (some S)), some (vR (some pr)), some (vI (16 * p + 16)), some (vR (some bd)), none, none] [] σ Post) : CL fb (d + 7) 193 [vR (some S), vR (some pr)] σ Post := by
  have hO := hS.o
  have hrg := hS.rng
  have hS2 := hS.2
  have hpo : tX pr = some (Sum.inl 6) := by rw [← hpr]; exact tX_prc p.toNat (by omega)
  have hnn : 16 ≤ n ∧ n < 144 ∧ n % 16 ≤ 2 := by omega
  have hn16 : n / 16 - 1 = p := by omega
  have hnl := hX.1.1.2.1
  obtain ⟨C, hC⟩ : ∃ C : Int, (ord.length : Int) = C := ⟨_, rfl⟩
  have hcnt := hX.1.1.2.2.1
  rw [hC] at hcnt
  obtain ⟨q, hq, hlo, hhi⟩ := hX.1.pos hno
  rw [hC] at hq hhi
  have htC := hX.1.2.1.1 C.toNat (by omega)
  obtain ⟨b, hb⟩ : ∃ nb, S + 6 + 3 * t C.toNat = nb := ⟨_, rfl⟩
  have hbno : tX b = some (Sum.inl 8) := by rw [← hb]; exact hS.nd htC
  have hsh : SH (b + 1) 12 := by
    have := hS.sh htC
    rw [show S + 7 + 3 * t C.toNat = b + 1 by omega] at this
    exact this
  have hqu : qUp Q 2 n = 0 := by
    unfold qUp
    rw [if_neg (show ¬ (2 : Int) < 2 by decide)]
    rw [if_pos (Or.inr (by omega))]
  have hmd : md2 n = -2147483283 := by
    unfold md2
    rw [if_pos (by omega)]
  have hdv : dv2 n = 0 := by
    unfold dv2
    rw [if_pos (by omega)]
  have hnm2 : qNm2 n = [47 + n / 16] := by
    unfold qNm2
    rw [if_neg (by omega), if_neg (by omega), if_pos (by omega)]
  have hnu : qUp Q 2 n ∈ ord := by
    rw [hqu]
    exact h00
  have hstp := fun (W3 W4 : qR) (R4 : rR) (hB3 : BY W3 (b + 1) 12 (qNm2 n)) (hF3 : FB (b + 1) (ndW (rU W S 2230 (C + 1)) b n (md2 n) u) W3) (e4 : W4 = rU W3 b 2259 (dv2 n)) (e5 : R4 = oU (ndR (oU (dnR R S q C) (S + 1) q (some b)) b (some a0)) b 2258 (some pr)) => shw_st (K := K) (L2 := fun m => L m ∨ m = n) (dr := some a0) (sh := some pr) hS hX hC (by omega) hq hlo hhi hnn hno (fun m => Iff.rfl) hb (by rw [hn16]; exact hQu) hu3 hup hnu (by rw [hqu]; exact h0.symm) hfd hB3 hF3 (by rw [hn16, hpr]) e4 e5
  rw [hmd, hdv, hnm2] at hstp
  have hins := x_insert (fb := fb) (d := d + 5) (p := n) (md := (-2147483283)) (u := u) (dr := some a0) (q := q) (g := fun i => lg ord i) hP hS hcnt ⟨by omega, by omega⟩ hX.1.2.1.1 hX.1.2.2.1 (fun k k0 k1 => by
    have hNk := hX.1.2.2.2.1 k k0 (by omega)
    exact hNk.2.2.1.1.trans (if_neg (by decide))) hq hhi (by
    by_cases c : q = 0
    · exact Or.inl c
    · have := hlo (q - 1) (by omega) (by omega)
      exact Or.inr (by omega)) hb
  have hmem := fun m => mem_ins (ord := ord) (n := n) (k := m) (q := q) (by omega)
  have hln := ins_len (ord := ord) (n := n) (q := q) (by omega)
  have hna : noA S (ord.insertIdx q.toNat n) (insT t q C) n = some b := by
    have := noA_new (S := S) (t := t) hX.1.nodup (show 0 ≤ q ∧ q ≤ (ord.length : Int) by omega) hno
    rw [← hC, this, ← hb, ← hC, Int.toNat_natCast]
  obtain ⟨WI, hWI⟩ : ∃ WI, ndW (rU W S 2230 (C + 1)) b n (-2147483283) u = WI := ⟨_, rfl⟩
  obtain ⟨RI, hRI⟩ : ∃ RI, ndR (oU (dnR R S q C) (S + 1) q (some b)) b (some a0) = RI := ⟨_, rfl⟩
  rw [hWI, hRI] at hins
  rw [hWI, hRI] at hstp
  have hpu : ∀ k : Int, 2000 ≤ k → WI pr k = W pr k := fun k hk => by
    rw [← hWI]
    unfold ndW
    have e : pr ≠ b := by omega
    rw [rU_f e, rU_f e, rU_f e, rU_f e, rU_f e, rU_f e, rU_f e, rU_f e, rU_f (by omega)]
  have hnumI : WI pr 2192 = p := (hpu _ (by decide)).trans hnum
  have hcl := fun (σ : hM) (hP : PX σ0 WI RI σ) => x_clear0 (fb := fb) (d := d + 6) hP hsh
  have had := fun (σ : hM) (W2 : qR) (hP : PX σ0 W2 RI σ) (hB : BY W2 (b + 1) 12 []) => x_addNumber (fb := fb) (d := d + 6) (v := p) hP hB ⟨by omega, by omega⟩
  rw [show (([] : List Int) ++ decL p).take 12 = [47 + n / 16] by
    have h8 : p = 0 ∨ p = 1 ∨ p = 2 ∨ p = 3 ∨ p = 4 ∨ p = 5 ∨ p = 6 ∨ p = 7 := by omega
    rcases h8 with rfl | rfl | rfl | rfl | rfl | rfl | rfl | rfl <;> (subst hn; decide +kernel)] at had
  have hend : ∀ (σ : hM) (W3 : qR), PX σ0 W3 (oU RI b 2258 (some pr)) σ → BY W3 (b + 1) 12 [47 + n / 16] → FB (b + 1) WI W3 → WP fb (d + 7) 193 54 [some (vR (some S)), some (vR (some pr)), some (vI n), some (vR (some b)), none, none] [] σ Post := fun σ W3 hP hB hF => by
    have e9 : W3 b 2259 = 0 := by
      rw [hF.o (by decide) (by decide), ← hWI]
      unfold ndW
      exact rU_s
    obtain ⟨g1, g2, g3⟩ := hstp W3 W3 (oU RI b 2258 (some pr)) hB hF (rU_id e9).symm rfl
    have h := hgo σ _ _ _ _ b hP g1 (g2 hK) g3 hmem (by omega) hna hbno
    rw [← hn] at h
    exact h
  clear hstp hX hK hWI hRI hmem hln hna hgo
  refine CL_in mL_193 rfl ?_
  show WP fb _ 193 0 [some (vR (some S)), some (vR (some pr)), none, none, none, none] [] σ _
  refine x_ic T_193_0 ?_
  refine x_lr (z := some pr) T_193_2 rfl ?_
  refine x_gI (z := p) T_193_3 (Or.inl F_6_0) (hP.o hpo) (Eq.trans (hP.gi hpo (key := 2192) rfl) hnum) ?_
  refine x_ib (w := (16 * p)) T_193_6 (fun h => absurd h.1 (by decide)) (w32_id (by omega) (by omega)) ?_
  refine x_ic T_193_7 ?_
  refine x_ib (w := n) T_193_9 (fun h => absurd h.1 (by decide)) (by rw [hn]; exact w32_id (by omega) (by omega)) ?_
  refine x_si (ls1 := [some (vR (some S)), some (vR (some pr)), some (vI n), none, none, none]) T_193_10 rfl ?_
  refine x_lr (z := some S) T_193_11 rfl ?_
  refine x_li (z := n) T_193_12 rfl ?_
  refine x_lr (z := some S) T_193_13 rfl ?_
  refine x_gR (z := some (S + 1)) T_193_14 F_7_2 (hP.o hO) (hP.rc hO rfl rfl) ?_
  refine x_ic T_193_17 ?_
  refine x_alR (z := some a0) T_193_18 (hP.ta hS.an) (by decide) (by omega) (by omega) (Eq.trans (hP.arm hS.an rfl (by omega)) hr0) ?_
  refine x_ic T_193_19 ?_
  refine x_lr (z := some pr) T_193_22 rfl ?_
  refine x_gI (z := u) T_193_23 (Or.inl F_6_7) (hP.o hpo) (Eq.trans (hP.gi hpo (key := 2199) rfl) huu) ?_
  refine x_cv5 T_193_26 mN_67 mL_67 (Nat.le_of_ble_eq_true rfl) mO_67 (hP.o hO) (Nat.le_of_ble_eq_true rfl) (hins) ?_
  clear hP hins
  rintro _ σ ⟨rfl, hP⟩
  refine cR ?_
  refine x_sr (ls1 := [some (vR (some S)), some (vR (some pr)), some (vI n), some (vR (some b)), none, none]) T_193_29 rfl ?_
  refine x_lr (z := some b) T_193_30 rfl ?_
  refine x_gR (z := some (b + 1)) T_193_31 F_8_0 (hP.o hbno) (hP.rc hbno rfl rfl) ?_
  refine x_cv1 T_193_34 mN_27 mL_27 (Nat.le_of_ble_eq_true rfl) mO_27 (hP.o hsh.1) (Nat.le_of_ble_eq_true rfl) (hcl σ hP) ?_
  clear hP hcl
  rintro _ σ ⟨rfl, W2, hP, hB2, hF2⟩
  have hnum2 : W2 pr 2192 = p := (hF2.o (by decide) (by decide)).trans hnumI
  refine cV ?_
  refine x_lr (z := some b) T_193_37 rfl ?_
  refine x_gR (z := some (b + 1)) T_193_38 F_8_0 (hP.o hbno) (hP.rc hbno rfl rfl) ?_
  refine x_lr (z := some pr) T_193_41 rfl ?_
  refine x_gI (z := p) T_193_42 (Or.inl F_6_0) (hP.o hpo) (Eq.trans (hP.gi hpo (key := 2192) rfl) hnum2) ?_
  refine x_i2l T_193_45 ?_
  refine x_cv2 T_193_46 mN_75 mL_75 (Nat.le_of_ble_eq_true rfl) mO_75 (hP.o hsh.1) (Nat.le_of_ble_eq_true rfl) (had σ W2 hP hB2) ?_
  clear hP had
  rintro _ σ ⟨rfl, W3, hP, hB3, hF3⟩
  refine cV ?_
  refine x_lr (z := some b) T_193_49 rfl ?_
  refine x_lr (z := some pr) T_193_50 rfl ?_
  refine z_pR hP T_193_51 F_8_2 rfl hbno (key := 2258) rfl (fun σ hP => ?_)
  exact hend σ W3 hP hB3 (FB_tr hF2 hF3)
theorem nodup_len : ∀ (l m : List Int), l.Nodup → (∀ n ∈ l, n ∈ m) → l.length ≤ m.length
  | [], _, _, _ => Nat.zero_le _
  | a :: l, m, h, hm => by
    obtain ⟨h1, h2⟩ := List.nodup_cons.mp h
    have ha := hm a List.mem_cons_self
    have ih := nodup_len l (m.erase a) h2 (fun n hn => (List.mem_erase_of_ne (fun c => h1 (by rw [← c]; exact hn))).mpr (hm n (List.mem_cons_of_mem _ hn)))
    have hl := List.length_erase_of_mem ha
    have := List.length_pos_of_mem ha
    rw [List.length_cons]
    omega
/-- how many files server 2 has at most -/
theorem two_len (h : NT W R P S 2 ord t) (hd : P 2320 p = 0) (hp : 0 ≤ p ∧ p < 8) : ord.length ≤ 23 := by
  have hnd := h.nodup
  have hb := nodup_len ord ([0, 1] ++ (((List.range 8).filter (fun (q : Nat) => decide ((q : Int) ≠ p))).flatMap (fun (q : Nat) => [16 * (q : Int) + 16, 16 * (q : Int) + 17, 16 * (q : Int) + 18]))) hnd (fun n hn => ?_)
  · refine Nat.le_trans hb ?_
    have h8 : p = 0 ∨ p = 1 ∨ p = 2 ∨ p = 3 ∨ p = 4 ∨ p = 5 ∨ p = 6 ∨ p = 7 := by omega
    rcases h8 with rfl | rfl | rfl | rfl | rfl | rfl | rfl | rfl <;> decide
  · rcases (h.1.1 n).mp hn with q | ⟨-, q⟩
    · omega
    · rw [List.mem_append]
      rcases q with rfl | rfl | ⟨q0, q1, q2, q3⟩
      · exact Or.inl (by decide)
      · exact Or.inl (by decide)
      · refine Or.inr (List.mem_flatMap.mpr ⟨(n / 16 - 1).toNat, List.mem_filter.mpr ⟨List.mem_range.mpr (by omega), ?_⟩, ?_⟩)
        · rw [decide_eq_true_eq]
          intro c
          rw [show n / 16 - 1 = p by omega] at q3
          exact q3 hd
        · simp only [List.mem_cons, List.not_mem_nil, or_false]
          omega
abbrev XSH (σ0 : hM) (K : Int) (W : qR) (R : rR) (S : Nat) (Q : qR) : Option AV → hM → Prop := fun r σ' => r = none ∧ ∃ W2 R2 ord2 t2, PX σ0 W2 R2 σ' ∧ XV W2 R2 Q S 2 ord2 t2 ∧ CT K W2 R2 ∧ FV S 0 W W2 R R2
/-- a process comes -/
theorem x_show (hP : PX σ0 W R σ) (hS : VS S 2) (hX : XV W R P S 2 ord t) (hK : CT K W R) (hG : GI T U P) (hD : TI P) (hp : 0 ≤ p ∧ p < 8) (hd : P 2320 p = 0) (hpr : 295 + 125 * p.toNat = pr) (hnum : W pr 2192 = p) (huu : W pr 2199 = u) (hu3 : 0 ≤ u ∧ u ≤ 3) (hQu : Q 2322 p = u) (hQp : ∀ k, ¬ Q 2320 k = 0 ↔ k = p ∨ ¬ P 2320 k = 0) (hQo : ∀ k, k ≠ p → Q 2322 k = P 2322 k) (hQf : ∀ (f : Nat) (k : Int), fidL.elem f = true ∨ f = 2313 → Q f k = P f k) : CL fb (d + 7) 193 [vR (some S), vR (some pr)] σ (XSH σ0 K W R S Q) := by
  have e2 : ¬ (2 : Int) < 2 := by decide
  have hR := TRX_of hX.1 hG hS.1
  have hl23 := two_len hX.1 hd hp
  have hupQ : ∀ m, qUp Q 2 m = qUp P 2 m := fun m => by unfold qUp; rw [if_neg e2, if_neg e2]
  have hmem : ∀ m, m ∈ ord ↔ isN P 2 m := hX.1.1.1
  have hnp : ∀ y, 16 * p + 16 ≤ y → y ≤ 16 * p + 18 → y ∉ ord := fun y y0 y1 c => by
    rcases (hmem _).mp c with q | ⟨-, q | q | ⟨q0, q1, q2, q3⟩⟩
    · omega
    · omega
    · omega
    · rw [show y / 16 - 1 = p by omega] at q3
      exact q3 hd
  have hEN : ∀ m ∈ ord, EN Q P 2 m := fun m hm => by
    have hu : qUid Q 2 m = qUid P 2 m := by
      unfold qUid
      rw [if_neg e2, if_neg e2]
      split
      · rfl
      · rcases (hmem m).mp hm with q | ⟨-, q⟩
        · omega
        · refine hQo _ (fun c => ?_)
          rcases q with q | q | q
          · omega
          · omega
          · rw [c] at q
            exact q.2.2.2 hd
    have em : qMode Q 2 m = qMode P 2 m := by unfold qMode; rw [if_neg e2, if_neg e2]
    have en : qNs Q 2 m = qNs P 2 m := by unfold qNs; rw [if_neg e2, if_neg e2]
    have eg : qGid Q 2 m = qGid P 2 m := by unfold qGid; rw [if_neg e2, if_neg e2, hu]
    refine ⟨⟨em, ?_, ?_, hu, eg, ?_, ?_⟩, ?_, en, hupQ m⟩
    · unfold qPath; rw [if_neg e2, if_neg e2]
    · unfold qVer; rw [if_neg e2, if_neg e2]
    · unfold qMuid; rw [if_neg e2, if_neg e2, hu]
    · unfold qLen; rw [if_neg (fun c => e2 c.1), if_neg (fun c => e2 c.1)]
    · unfold qNm
      rw [en]
      exact seg_seg.mpr (fun j _ _ => by unfold qNb; rw [if_neg e2, if_neg e2])
  have hX0 : XVL (fun n => isN P 2 n) W R Q S 2 ord t := by
    refine ⟨(NTL_of hX.1).en hEN, hX.2.1.pp (fun f k hf => hQf f k (Or.inl hf)), ?_, fun i i0 i1 => ⟨fun c => by omega, (hX.2.2.2 i i0 i1).2⟩⟩
    obtain ⟨z1, z2, z3, z4⟩ := hX.2.2.1
    unfold SZ
    rw [hQf 2313 _ (Or.inr rfl), hQf 2313 _ (Or.inr rfl)]
    exact ⟨z1, z2, z3, fun c => by omega, z4.2⟩
  have hin : ∀ m, isN P 2 m → (m = 0 ∨ m = 1 ∨ (16 ≤ m ∧ m < 144 ∧ m % 16 ≤ 2)) := fun m hm => by
    rcases hm with q | ⟨-, q⟩
    · omega
    · rcases q with q | q | q
      · exact Or.inl q
      · exact Or.inr (Or.inl q)
      · exact Or.inr (Or.inr ⟨q.1, q.2.1, q.2.2.1⟩)
  have hfd : ∀ y, 16 * p + 16 ≤ y → y ≤ 16 * p + 18 → ∀ k, 192 ≤ k → k < 288 → ¬ Q 2304 k = 0 → Q 2310 k = 0 → ¬ Q 2306 k = y := fun y y0 y1 k k0 k1 c1 c2 c3 => by
    rw [hQf 2304 _ (Or.inl rfl)] at c1
    rw [hQf 2310 _ (Or.inl rfl)] at c2
    rw [hQf 2306 _ (Or.inl rfl)] at c3
    have := hD.2.2.2.2.1 k k0 k1 c1 c2
    rw [c3] at this
    exact hnp y y0 y1 ((hmem _).mpr this)
  have h00 : (0 : Int) ∈ ord := (hmem 0).mpr (Or.inr ⟨rfl, Or.inl rfl⟩)
  have hg0 := noA_get (S := S) (t := t) hX.1.nodup (show (0 : Int) ≤ 0 by decide) (show (0 : Int) < ord.length by have := hR.1.1; omega)
  rw [hR.1.2] at hg0
  have hr0 := hX.1.2.2.1 0 (by decide) (by decide)
  have hup0 : ∀ m ∈ ord, ¬ m = 0 → qUp Q 2 m ∈ ord := fun m hm _ => by
    rw [hupQ]
    exact (hmem _).mpr (hR.2.2.1 m ((hmem m).mp hm))
  have hfin : ∀ m, (((isN P 2 m ∨ m = 16 * p + 16) ∨ m = 16 * p + 17) ∨ m = 16 * p + 18) ↔ isN Q 2 m := fun m => by
    unfold isN
    rw [hQp]
    constructor
    · rintro (((q | q) | q) | q)
      · rcases q with q | ⟨q0, q⟩
        · omega
        · refine Or.inr ⟨rfl, ?_⟩
          rcases q with q | q | q
          · exact Or.inl q
          · exact Or.inr (Or.inl q)
          · exact Or.inr (Or.inr ⟨q.1, q.2.1, q.2.2.1, Or.inr q.2.2.2⟩)
      · exact Or.inr ⟨rfl, Or.inr (Or.inr ⟨by omega, by omega, by omega, Or.inl (by omega)⟩)⟩
      · exact Or.inr ⟨rfl, Or.inr (Or.inr ⟨by omega, by omega, by omega, Or.inl (by omega)⟩)⟩
      · exact Or.inr ⟨rfl, Or.inr (Or.inr ⟨by omega, by omega, by omega, Or.inl (by omega)⟩)⟩
    · rintro (q | ⟨-, q⟩)
      · omega
      · rcases q with q | q | ⟨q0, q1, q2, q3 | q3⟩
        · exact Or.inl (Or.inl (Or.inl (Or.inr ⟨rfl, Or.inl q⟩)))
        · exact Or.inl (Or.inl (Or.inl (Or.inr ⟨rfl, Or.inr (Or.inl q)⟩)))
        · have h3 : m = 16 * p + 16 ∨ m = 16 * p + 17 ∨ m = 16 * p + 18 := by omega
          rcases h3 with h | h | h
          · exact Or.inl (Or.inl (Or.inr h))
          · exact Or.inl (Or.inr h)
          · exact Or.inr h
        · exact Or.inl (Or.inl (Or.inl (Or.inr ⟨rfl, Or.inr (Or.inr ⟨q0, q1, q2, q3⟩)⟩)))
  have hQup : ∀ j, 0 < j → j ≤ 2 → qUp Q 2 (16 * p + 16 + j) = 16 * p + 16 := fun j j0 j1 => by
    unfold qUp
    rw [if_neg e2, if_neg (by omega)]
    omega
  have hQup0 : qUp Q 2 (16 * p + 16) = 0 := by
    unfold qUp
    rw [if_neg e2, if_pos (Or.inr (by omega))]
  have hS2 := hS.2
  have hrg := hS.rng
  refine shw_0 (n := 16 * p + 16) hP hS hX0 hK hp hpr hnum huu hu3 hQu (by omega) hin hup0 (hfd _ (by omega) (by omega)) rfl (hnp _ (by omega) (by omega)) hg0 h00 hr0 (fun σ W4 R4 ord4 t4 bd hP4 hX4 hK4 hF4 hm4 hl4 hb4 hbo4 => ?_)
  have hup4 : ∀ m ∈ ord4, ¬ m = 0 → qUp Q 2 m ∈ ord4 := fun m hm hm0 => by
    rcases (hm4 m).mp hm with q | q
    · rw [q, hQup0]
      exact (hm4 0).mpr (Or.inr h00)
    · exact (hm4 _).mpr (Or.inr (hup0 m q hm0))
  refine shw_1 (n := 16 * p + 17) hP4 hS hX4 hK4 hp hpr ((hF4.1 _ _ (by omega) (Or.inl (by omega)) (by omega) (by omega) (by omega)).trans hnum) ((hF4.1 _ _ (by omega) (Or.inl (by omega)) (by omega) (by omega) (by omega)).trans huu) hu3 hQu (by omega) (fun m hm => by
    rcases hm with q | q
    · exact hin m q
    · exact Or.inr (Or.inr (by omega))) hup4 (hfd _ (by omega) (by omega)) rfl (fun c => by
    rcases (hm4 _).mp c with q | q
    · omega
    · exact hnp _ (by omega) (by omega) q) hb4 hbo4 (fun σ W5 R5 ord5 t5 bs hP5 hX5 hK5 hF5 hm5 hl5 hb5 hbo5 => ?_)
  have hup5 : ∀ m ∈ ord5, ¬ m = 0 → qUp Q 2 m ∈ ord5 := fun m hm hm0 => by
    rcases (hm5 m).mp hm with q | q
    · rw [q, show (16 * p + 17 : Int) = 16 * p + 16 + 1 by omega, hQup 1 (by decide) (by decide)]
      exact (hm5 _).mpr (Or.inr ((hm4 _).mpr (Or.inl rfl)))
    · exact (hm5 _).mpr (Or.inr (hup4 m q hm0))
  have hF45 := FV_tr hF4 hF5
  refine shw_2 (n := 16 * p + 18) hP5 hS hX5 hK5 hp hpr ((hF45.1 _ _ (by omega) (Or.inl (by omega)) (by omega) (by omega) (by omega)).trans hnum) ((hF45.1 _ _ (by omega) (Or.inl (by omega)) (by omega) (by omega) (by omega)).trans huu) hu3 hQu (by omega) (fun m hm => by
    rcases hm with (q | q) | q
    · exact hin m q
    · exact Or.inr (Or.inr (by omega))
    · exact Or.inr (Or.inr (by omega))) hup5 (hfd _ (by omega) (by omega)) rfl (fun c => by
    rcases (hm5 _).mp c with q | q
    · omega
    · rcases (hm4 _).mp q with q | q
      · omega
      · exact hnp _ (by omega) (by omega) q) hb5 hbo4 hbo5 (fun σ W6 R6 ord6 t6 hP6 hX6 hK6 hF6 => ?_)
  exact ⟨rfl, W6, R6, ord6, t6, hP6, ⟨NT_of hX6.1 hfin, hX6.2⟩, hK6, FV_tr hF45 hF6⟩
end XSHW
