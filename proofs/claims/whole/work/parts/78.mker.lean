/-! What a message asked leaves: the answer, the rows, all bounds. -/
theorem T_339_0 : hTab 339 0 = some ((1, 0, 0, []), 1) := rfl
theorem T_339_1 : hTab 339 1 = some ((4, 3, 1, []), 2) := rfl
theorem T_339_2 : hTab 339 2 = some ((0, 0, 0, []), 3) := rfl
theorem T_339_3 : hTab 339 3 = some ((4, 5, 0, []), 5) := rfl
theorem T_339_5 : hTab 339 5 = some ((3, 5, 0, []), 7) := rfl
theorem T_339_7 : hTab 339 7 = some ((3, 2, 0, []), 8) := rfl
theorem T_339_8 : hTab 339 8 = some ((19, 3, Int.ofNat 36, []), 11) := rfl
theorem T_339_11 : hTab 339 11 = some ((3, 3, 1, []), 12) := rfl
theorem T_339_12 : hTab 339 12 = some ((3, 0, 2, []), 13) := rfl
theorem T_339_13 : hTab 339 13 = some ((24, 17, Int.ofNat 5, []), 16) := rfl
theorem T_339_16 : hTab 339 16 = some ((3, 1, 0, []), 17) := rfl
theorem T_339_17 : hTab 339 17 = some ((3, 5, 0, []), 19) := rfl
theorem T_339_19 : hTab 339 19 = some ((10, 0, 0, []), 20) := rfl
theorem T_339_20 : hTab 339 20 = some ((26, 0, 0, []), 21) := rfl
theorem T_339_21 : hTab 339 21 = some ((14, 0, 0, []), 22) := rfl
theorem T_339_22 : hTab 339 22 = some ((0, 0, 8, []), 24) := rfl
theorem T_339_24 : hTab 339 24 = some ((3, 5, 0, []), 26) := rfl
theorem T_339_26 : hTab 339 26 = some ((10, 2, 0, []), 27) := rfl
theorem T_339_27 : hTab 339 27 = some ((12, 0, 0, []), 28) := rfl
theorem T_339_28 : hTab 339 28 = some ((11, 6, 0, []), 29) := rfl
theorem T_339_29 : hTab 339 29 = some ((4, 3, 1, []), 30) := rfl
theorem T_339_30 : hTab 339 30 = some ((5, 5, 1, []), 33) := rfl
theorem T_339_33 : hTab 339 33 = some ((22, 0, Int.ofNat 5, []), 36) := rfl
theorem T_339_36 : hTab 339 36 = some ((3, 3, 1, []), 37) := rfl
theorem T_339_37 : hTab 339 37 = some ((33, 3, 0, []), 38) := rfl
theorem mN_339 : hmN 339 = 3 := by decide +kernel
theorem mL_339 : hmL 339 = 6 := by decide +kernel
theorem mK_339 : hmK 339 = 1 := by decide +kernel
theorem mO_339 : hmO 339 = 17 := by decide +kernel
/-- scratch that a message leaves as it is -/
def KA (S S1 : qR) : Prop := (∀ k : Int, k ≠ 4 → k ≠ 6 → k ≠ 7 → k ≠ 8 → k ≠ 9 → k ≠ 12 → k ≠ 92 → S1 2281 k = S 2281 k) ∧ ∀ (f : Nat) (k : Int), scrR f = true → f ≠ 2285 → f ≠ 2286 → f ≠ 2287 → f ≠ 2288 → S1 f k = S f k
/-- an answer lies there -/
def AN (S : qR) (l : List Int) : Prop := S 2281 6 = (l.length : Int) ∧ (∀ i : Int, 0 ≤ i → i < l.length → S 2286 i = lg l i) ∧ (l.length : Int) ≤ 407 ∧ byt l
section MKER
variable {fb : Bool} {d : Nat} {σ0 σ : hM} {P Q S S1 S2 : qR} {T U s w : Int} {l R : List Int}
theorem KA_rfl : KA S S := ⟨fun _ _ _ _ _ _ _ _ => rfl, fun _ _ _ _ _ _ _ => rfl⟩
theorem KA_tr (h1 : KA S S1) (h2 : KA S1 S2) : KA S S2 := ⟨fun k a b c e f g i => (h2.1 k a b c e f g i).trans (h1.1 k a b c e f g i), fun f k a b c e g => (h2.2 f k a b c e g).trans (h1.2 f k a b c e g)⟩
theorem TA.an (h : TA T U S S1 l) : AN S1 l ∧ KA S S1 ∧ IV true T U S1 := ⟨⟨h.1, h.2.1, h.2.2.2.2.2.1, h.2.2.2.2.2.2⟩, ⟨h.2.2.2.1, h.2.2.2.2.1⟩, h.2.2.1⟩
theorem GI_gM1 (h : GI T U P) (hb : byt R) (hz : (R.length : Int) ≤ 420) : GI (T + 1) U (gM1 P R) := h.of (l := [2316, 2317, 2281]) (MI_gM1 h.1.1 hb hz) (fun f k hf => gM1_f (fun e => by rw [e] at hf; exact absurd hf (by decide)) (fun e => by rw [e] at hf; exact absurd hf (by decide)) (fun e => by rw [e] at hf; exact absurd hf (by decide))) rfl rfl rfl rfl rfl rfl rfl rfl rfl
theorem msgA_4 (h : 1 ≤ l.length) : nu (msgA l) 4 1 = lg l 0 := by
  show 0 + msgA l (4 + ((0 : Nat) : Int)) * 256 ^ 0 = lg l 0
  unfold msgA
  rw [lg_app (by decide), leb_len, if_neg (by decide)]
  show 0 + lg l 0 * 1 = lg l 0
  omega
theorem GI_tP (h : GI T U P) (hT : 0 ≤ T) (hs : 0 ≤ s ∧ s < 3) (hl : byt l) (hz : 3 ≤ l.length ∧ l.length ≤ 416) (ht : lg l 0 ≠ 100) (h1 : lg l 0 = 104 → nu (msgA l) 7 4 ≤ 47) (h2 : lg l 0 = 110 → nu (msgA l) 11 4 ≤ 47) (ha : ((tA P s l).length : Int) ≤ 407 ∧ byt (tA P s l)) : GI (T + 4) U (tP P s l) := by
  have hR : GI (T + 1) U (gM1 P (seg (msgA l) 0 (4 + (l.length : Int)).toNat)) := GI_gM1 h (by rw [msgA_seg]; exact msgA_byt hl) (by rw [seg_len]; omega)
  have hS : GI (T + 3) U (srvP (gM1 P (seg (msgA l) 0 (4 + (l.length : Int)).toNat)) s 0 (msgA l) (4 + (l.length : Int))) := by
    unfold srvP
    split
    · exact hR.mono (by omega)
    · split
      · exact hR.mono (by omega)
      · rw [msgA_4 (by omega)]
        exact (GI_srP hR (by omega) hs (by decide) (fun j h0 _ => msgA_byt hl j h0) (by omega) (fun q _ => h1 q) (fun q _ => h2 q) ht).mono (by omega)
  have := GI_gM1 (R := tA P s l) hS ha.2 (by omega)
  rw [show T + 3 + 1 = T + 4 by omega] at this
  exact this
/-- rows that no message changes -/
theorem tP_f {f : Nat} {k : Int} (h : srvRow f = false) (h0 : f ≠ 2281) (h1 : f ≠ 2316) (h2 : f ≠ 2317) : tP P s l f k = P f k := by
  unfold tP trP
  rw [gM1_f h0 h1 h2, SF_srvP f k h (fun e => h0 e.1), gM1_f h0 h1 h2]
theorem tP_n {k : Int} (h0 : k ≠ 39) (h1 : k ≠ 41) (h2 : k ≠ 42) (h3 : k ≠ 45) : tP P s l 2281 k = P 2281 k := by
  unfold tP trP
  rw [gM1_k h3 h2, SF_srvP 2281 k rfl (fun e => by omega), gM1_k h3 h2]
/-- a message came back, and all bounds hold -/
abbrev rG (T U : Int) (σ0 : hM) (P S : qR) (s : Int) (l : List Int) : Option AV → hM → Prop := fun r σ' => ∃ S2 : qR, r = some (vI (tE P s l)) ∧ PM σ0 (tP P s l) S2 σ' ∧ GI (T + 4) U (tP P s l) ∧ IV true (T + 4) U S2 ∧ AN S2 (tA P s l) ∧ KA S S2
theorem rK_rG {r : Option AV} {σ1 : hM} (h : rK T U σ0 P S s l r σ1) (hG : GI T U P) (hT : 0 ≤ T) (hs : 0 ≤ s ∧ s < 3) (hl : byt l) (hz : 3 ≤ l.length ∧ l.length ≤ 416) (ht : lg l 0 ≠ 100) (h1 : lg l 0 = 104 → nu (msgA l) 7 4 ≤ 47) (h2 : lg l 0 = 110 → nu (msgA l) 11 4 ≤ 47) : rG T U σ0 P S s l r σ1 := by
  obtain ⟨S2, e, hP, hA⟩ := h
  obtain ⟨a1, a2, a3⟩ := hA.an
  exact ⟨S2, e, hP, GI_tP hG hT hs hl hz ht h1 h2 ⟨a1.2.2.1, a1.2.2.2⟩, a3.mono (by omega) (Int.le_refl U), a1, a2⟩
theorem m_trG (hP : PM σ0 P S1 σ) (hQ : RQ T U S S1 w l) (hG : GI T U P) (hT : T + 49 ≤ 2147483000) (hs : 0 ≤ s ∧ s < 3) (hz : 3 ≤ l.length) (ht : lg l 0 ≠ 100) (h1 : lg l 0 = 104 → nu (msgA l) 7 4 ≤ 47) (h2 : lg l 0 = 110 → nu (msgA l) 11 4 ≤ 47) : CL fb (d + 10) 231 [vR (some 2281), vI s] σ (rG T U σ0 P S s l) := by
  have hm : 0 ≤ P 2281 42 ∧ P 2281 42 ≤ T := IV.n hG.iv 42 42 rfl rfl (by decide)
  have hw := hQ.rg
  have hw2 := hQ.2.1
  exact CL.mono (m_tr hP hQ (hG.si (by omega) hs.1) hT hs) (fun r σ1 h => rK_rG h hG (by omega) hs hQ.2.2.2.1 ⟨hz, by omega⟩ ht h1 h2)
/-- a number out of a list -/
theorem nu_lg {l1 l2 : List Int} {v : Int} : ∀ (k : Nat), nu (lg (l1 ++ (leb k v ++ l2))) (l1.length : Int) k = v % 256 ^ k := by
  intro k
  have key : ∀ (j : Nat), j ≤ k → nu (lg (l1 ++ (leb k v ++ l2))) (l1.length : Int) j = v % 256 ^ j := by
    intro j
    induction j with
    | zero => intro _; show (0 : Int) = v % 1; omega
    | succ j ih =>
      intro hj
      show nu (lg (l1 ++ (leb k v ++ l2))) (l1.length : Int) j + lg (l1 ++ (leb k v ++ l2)) ((l1.length : Int) + j) * 256 ^ j = v % 256 ^ (j + 1)
      rw [ih (by omega), lg_app (by omega), if_neg (by omega), lg_app (by omega), leb_len, if_pos (by omega)]
      have e : ∀ (k : Nat) (v : Int) (j : Nat), j < k → lg (leb k v) (j : Int) = v / 256 ^ j % 256 := by
        intro k
        induction k with
        | zero => intro v j h; omega
        | succ k ih =>
          intro v j h
          show lg (v % 256 :: leb k (v / 256)) (j : Int) = _
          rw [lg_cons (by omega)]
          cases j with
          | zero => show v % 256 = v / 1 % 256; rw [Int.ediv_one]
          | succ j =>
            rw [if_neg (by omega), show ((j + 1 : Nat) : Int) - 1 = (j : Int) by omega, ih _ j (by omega), Int.ediv_ediv_of_nonneg (by decide), show (256 : Int) ^ (j + 1) = 256 * 256 ^ j by rw [Int.pow_succ, Int.mul_comm]]
      rw [show (l1.length : Int) + j - l1.length = (j : Int) by omega, e k v j (by omega), show (256 : Int) ^ (j + 1) = 256 ^ j * 256 from Int.pow_succ _ _]
      have hp : (0 : Int) < 256 ^ j := Int.pow_pos (by decide)
      have h1 := Int.emod_add_mul_ediv v (256 ^ j * 256)
      have h2 := Int.emod_add_mul_ediv v (256 ^ j)
      have h3 := Int.emod_add_mul_ediv (v / 256 ^ j) 256
      rw [Int.ediv_ediv_of_nonneg (by omega)] at h3
      have h4 : v % (256 ^ j * 256) = v - 256 ^ j * 256 * (v / (256 ^ j * 256)) := by omega
      have h5 : v % 256 ^ j = v - 256 ^ j * (v / 256 ^ j) := by omega
      rw [h4, h5]
      have h6 : v / 256 ^ j % 256 = v / 256 ^ j - 256 * (v / (256 ^ j * 256)) := by omega
      rw [h6, Int.sub_mul, Int.mul_comm (v / 256 ^ j) (256 ^ j), Int.mul_comm 256 (v / (256 ^ j * 256)), Int.mul_assoc, Int.mul_comm (v / (256 ^ j * 256)) (256 * 256 ^ j), Int.mul_comm 256 (256 ^ j)]
      omega
  exact key k (Nat.le_refl k)
theorem nu_lg2 {l1 l2 : List Int} {v o : Int} (k : Nat) (ho : (l1.length : Int) = o) (hv : 0 ≤ v ∧ v < 256 ^ k) : nu (lg (l1 ++ (leb k v ++ l2))) o k = v := by
  rw [← ho, nu_lg, Int.emod_eq_of_lt hv.1 hv.2]
/-- numbers of the answer -/
theorem m_told_loop {p n : Int} (hn : n ≤ 8) (hp : 0 ≤ p) (h1 : p + n ≤ 512) (hb : ∀ j, p ≤ j → j < p + n → 0 ≤ S 2286 j ∧ S 2286 j ≤ 255) (hP : PM σ0 P S σ) : ∀ (m : Nat) (i : Int), i + m = n → 0 ≤ i → WP fb d 339 5 [some (vR (some 2281)), some (vI p), some (vI n), some (vL (w64 (nu (S 2286) p i.toNat))), none, some (vI i)] [] σ (rPL (w64 (nu (S 2286) p n.toNat)) σ) := by
  intro m
  induction m with
  | zero =>
    intro i hi hi0
    refine x_li (z := i) T_339_5 rfl ?_
    refine x_li (z := n) T_339_7 rfl ?_
    refine x_ic2 T_339_8 (fun _ => ?_) (fun h => absurd (show n ≤ i by omega) h)
    refine x_ll (z := (w64 (nu (S 2286) p i.toNat))) T_339_36 rfl ?_
    refine x_rl T_339_37 ?_
    exact ⟨by rw [show i = n by omega], rfl⟩
  | succ m ih =>
    intro i hi hi0
    have hr := nu_rng (f := S 2286) (i := p) i.toNat (fun k hk => hb _ (by omega) (by omega))
    have hbi := hb (p + i) (by omega) (by omega)
    have hlt : (256 : Int) ^ i.toNat ≤ 256 ^ 7 := pow256_le (by omega)
    have h7 : (256 : Int) ^ 7 = 72057594037927936 := by decide
    have hw : w64 (nu (S 2286) p i.toNat) = nu (S 2286) p i.toNat := w64_id (by omega) (by omega)
    refine x_li (z := i) T_339_5 rfl ?_
    refine x_li (z := n) T_339_7 rfl ?_
    refine x_ic2 T_339_8 (fun h => absurd (show n ≤ i from h) (by omega)) (fun _ => ?_)
    refine x_ll (z := (w64 (nu (S 2286) p i.toNat))) T_339_11 rfl ?_
    refine x_lr (z := some 2281) T_339_12 rfl ?_
    refine x_gR (z := some 2286) T_339_13 F_17_5 (PM.t hP) (PM.r hP 5 2286 rfl) ?_
    refine x_li (z := p) T_339_16 rfl ?_
    refine x_li (z := i) T_339_17 rfl ?_
    refine x_ib (w := (p + i)) T_339_19 (fun h => absurd h.1 (by decide)) (w32_id (by omega) (by omega)) ?_
    refine x_alI (z := S 2286 (p + i)) T_339_20 (by decide) (PM.ta hP 2286 0 512 rfl rfl) (by omega) (by omega) (PM.aS hP 2286 rfl rfl (by omega)) ?_
    refine x_i2l T_339_21 ?_
    refine x_ic T_339_22 ?_
    refine x_li (z := i) T_339_24 rfl ?_
    refine x_ib (w := (8 * i)) T_339_26 (fun h => absurd h.1 (by decide)) (w32_id (by omega) (by omega)) ?_
    refine x_lh (w := (w64 (S 2286 (p + i) * 256 ^ i.toNat))) T_339_27 (shl64_8 (by omega) (by omega)) ?_
    refine x_lb (w := (w64 (nu (S 2286) p (i.toNat + 1)))) T_339_28 (fun h => absurd h.1 (by decide)) (by rw [hw]; exact (or64_add (by omega) hr hbi).trans (by show w64 (nu (S 2286) p i.toNat + S 2286 (p + i) * 256 ^ i.toNat) = w64 (nu (S 2286) p i.toNat + S 2286 (p + (i.toNat : Nat)) * 256 ^ i.toNat); rw [Int.toNat_of_nonneg hi0])) ?_
    refine x_sl (ls1 := [some (vR (some 2281)), some (vI p), some (vI n), some (vL (w64 (nu (S 2286) p (i.toNat + 1)))), none, some (vI i)]) T_339_29 rfl ?_
    refine x_inc (w := (i + 1)) (ls1 := [some (vR (some 2281)), some (vI p), some (vI n), some (vL (w64 (nu (S 2286) p (i.toNat + 1)))), none, some (vI (i + 1))]) T_339_30 rfl (w32_id (by omega) (by omega)) rfl ?_
    refine x_goto T_339_33 ?_
    rw [show i.toNat + 1 = (i + 1).toNat by omega]
    exact ih (i + 1) (by omega) (by omega)
theorem m_told {p n : Int} (hP : PM σ0 P S σ) (hJ : IV true T U S) (hn : 0 ≤ n ∧ n ≤ 8) (hp : 0 ≤ p) (h1 : p + n ≤ 512) : CL fb d 339 [vR (some 2281), vI p, vI n] σ (rPL (w64 (nu (S 2286) p n.toNat)) σ) := by
  refine CL_in mL_339 rfl ?_
  show WP fb _ 339 0 [some (vR (some 2281)), some (vI p), some (vI n), none, none, none] [] σ _
  refine x_lc T_339_0 ?_
  refine x_sl (ls1 := [some (vR (some 2281)), some (vI p), some (vI n), some (vL 0), none, none]) T_339_1 rfl ?_
  refine x_ic T_339_2 ?_
  refine x_si (ls1 := [some (vR (some 2281)), some (vI p), some (vI n), some (vL 0), none, some (vI 0)]) T_339_3 rfl ?_
  exact m_told_loop hn.2 hp h1 (fun j h2 h3 => IV.a hJ 2286 0 512 rfl rfl rfl (by omega) (by omega)) hP n.toNat 0 (by omega) (by decide)
theorem AN_nu (h : AN S l) {p : Int} {n : Nat} (hp : 0 ≤ p) (hn : p + n ≤ l.length) : nu (S 2286) p n = nu (lg l) p n := nu_eqz (z := (l.length : Int)) (fun i h0 h1 => h.2.1 i h0 h1) hp n hn
end MKER
