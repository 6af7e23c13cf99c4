/-! The class's server 2: a process's files go. -/
theorem T_202_0 : hTab 202 0 = some ((3, 0, 2, []), 1) := rfl
theorem T_202_1 : hTab 202 1 = some ((24, 7, Int.ofNat 6, []), 4) := rfl
theorem T_202_4 : hTab 202 4 = some ((0, 0, 1, []), 5) := rfl
theorem T_202_5 : hTab 202 5 = some ((10, 1, 0, []), 6) := rfl
theorem T_202_6 : hTab 202 6 = some ((4, 2, 0, []), 7) := rfl
theorem T_202_7 : hTab 202 7 = some ((3, 2, 0, []), 8) := rfl
theorem T_202_8 : hTab 202 8 = some ((18, 2, Int.ofNat 40, []), 11) := rfl
theorem T_202_11 : hTab 202 11 = some ((3, 0, 2, []), 12) := rfl
theorem T_202_12 : hTab 202 12 = some ((24, 7, Int.ofNat 2, []), 15) := rfl
theorem T_202_15 : hTab 202 15 = some ((3, 2, 0, []), 16) := rfl
theorem T_202_16 : hTab 202 16 = some ((26, 10, 0, []), 17) := rfl
theorem T_202_17 : hTab 202 17 = some ((24, 8, Int.ofNat 2, []), 20) := rfl
theorem T_202_20 : hTab 202 20 = some ((3, 1, 2, []), 21) := rfl
theorem T_202_21 : hTab 202 21 = some ((21, 1, Int.ofNat 34, []), 24) := rfl
theorem T_202_24 : hTab 202 24 = some ((3, 0, 2, []), 25) := rfl
theorem T_202_25 : hTab 202 25 = some ((3, 0, 2, []), 26) := rfl
theorem T_202_26 : hTab 202 26 = some ((24, 7, Int.ofNat 2, []), 29) := rfl
theorem T_202_29 : hTab 202 29 = some ((3, 2, 0, []), 30) := rfl
theorem T_202_30 : hTab 202 30 = some ((26, 10, 0, []), 31) := rfl
theorem T_202_31 : hTab 202 31 = some ((31, 46, 0, []), 34) := rfl
theorem T_202_34 : hTab 202 34 = some ((5, 2, (-1), []), 37) := rfl
theorem T_202_37 : hTab 202 37 = some ((22, 0, Int.ofNat 7, []), 40) := rfl
theorem T_202_40 : hTab 202 40 = some ((33, 0, 0, []), 41) := rfl
theorem mN_202 : hmN 202 = 2 := by decide +kernel
theorem mL_202 : hmL 202 = 3 := by decide +kernel
theorem mK_202 : hmK 202 = 1 := by decide +kernel
theorem mO_202 : hmO 202 = 7 := by decide +kernel
def ownP (p n : Int) : Prop := 16 * p + 16 ≤ n ∧ n ≤ 16 * p + 18
/-- what holds while they go -/
def HI (K : Int) (S : Nat) (p : Int) (W : qR) (R : rR) (P W1 : qR) (R1 : rR) (P1 : qR) (ord : List Int) (t : Nat → Nat) : Prop := XVL (fun x => x ∈ ord) W1 R1 P1 S 2 ord t ∧ CT K W1 R1 ∧ FV S 0 W W1 R R1 ∧ (∀ x ∈ ord, ¬ x = 0 → qUp P 2 x ∈ ord) ∧ (∀ x, ¬ ownP p x → (x ∈ ord ↔ isN P 2 x)) ∧ (∀ x ∈ ord, isN P 2 x) ∧ (∀ (f : Nat) (k : Int), f ≠ 2310 → P1 f k = P f k) ∧ ∀ k, 192 ≤ k → k < 288 → ¬ P 2304 k = 0 → (P1 2310 k = 0 ↔ P 2310 k = 0 ∧ (ownP p (P 2306 k) → P 2306 k ∈ ord))
section XHID
variable {fb : Bool} {d S a b rp pr : Nat} {σ0 σ : hM} {W W1 W2 P P1 Q : qR} {R R1 R2 : rR} {i j k x z v s e w c f u y n p q K C T U : Int} {l nm ord : List Int} {t : Nat → Nat}
theorem tkR_out {y : Nat} (h : y < S ∨ S + 294 ≤ y) (hb : S + 6 ≤ b ∧ b < S + 294) : tkR R S b p C y k = R y k := by
  unfold tkR
  rw [oU_f (by omega), oU_f (by omega), oU_f (by omega)]
  unfold mvR
  rw [if_neg (fun c => by omega)]
  unfold gnR
  exact if_neg (fun c => by omega)
theorem HI.take (h : HI K S p W R P W1 R1 P1 ord t) (hS : VS S 2) (hp : 0 ≤ p ∧ p < 8) (hi : 0 ≤ i ∧ i < C) (hC : (ord.length : Int) = C) (hb : S + 6 + 3 * t i.toNat = b) (hn : lg ord i = n) (ho : ownP p n) (hab : ∀ j, i < j → j < C → ¬ ownP p (lg ord j)) : HI K S p W R P (tkW W1 S b C 0) (tkR R1 S b i C) (gGone P1 192 288 n) (ord.eraseIdx i.toNat) (tkT t i C) ∧ ∀ j, i ≤ j → j < C - 1 → ¬ ownP p (lg (ord.eraseIdx i.toNat) j) := by
  have hrg := hS.rng
  obtain ⟨hX, hK, hF, hup, h4, h5, h6, h7⟩ := h
  have hl := hX.1.1.2.1
  have hnd := hX.1.nodup
  have t0 := hX.1.2.1.1 i.toNat (by omega)
  have hme := fun x => mem_erase (n := x) hnd (p := i) (by omega)
  have hfe : FE (gGone P1 192 288 n) P1 := fun f k hf => gGone_f (fun q => by rw [q] at hf; exact absurd hf (by decide))
  have hle := erase_len (ord := ord) (p := i) (by omega)
  have hsort : ∀ x ∈ ord, n < x → ¬ ownP p x := fun x hx hlt => by
    obtain ⟨j, j0, j1, hj⟩ := mem_lg hx
    by_cases c : i < j
    · rw [← hj]
      exact hab j c (by omega)
    · exfalso
      have hs := hX.1.1.2.2.2
      rw [List.pairwise_iff_getElem] at hs
      have e : ∀ m, qPath P1 2 m = m := fun m => if_neg (by decide)
      have eg : ∀ (L : List Int) (i : Nat) (h : i < L.length), L[i] = lg L (i : Int) := fun L i h => by
        unfold lg
        rw [List.getD_eq_getElem?_getD, Int.toNat_natCast, List.getElem?_eq_getElem h]
        rfl
      by_cases c2 : j = i
      · rw [c2, hn] at hj
        omega
      · have := hs j.toNat i.toNat (by omega) (by omega) (by omega)
        rw [e, e, eg _ _ (by omega), eg _ _ (by omega), Int.toNat_of_nonneg j0, Int.toNat_of_nonneg hi.1, hj, hn] at this
        omega
  have huq : ∀ x ∈ ord, ¬ x = 0 → ¬ qUp P 2 x = n := fun x hx hx0 c => by
    have hlt : n < x ∧ ownP p x := by
      have hx2 := h5 x hx
      unfold qUp at c
      rw [if_neg (show ¬ (2 : Int) < 2 by decide)] at c
      unfold ownP at ho ⊢
      rcases hx2 with q | ⟨-, q⟩
      · omega
      · split at c <;> omega
    exact hsort x hx hlt.1 hlt.2
  have hu1 : ∀ x, qUp (gGone P1 192 288 n) 2 x = qUp P 2 x := fun x => by unfold qUp; rw [if_neg (show ¬ (2 : Int) < 2 by decide), if_neg (show ¬ (2 : Int) < 2 by decide)]
  refine ⟨⟨⟨hX.1.take hi hC hb (fun m => hme m) (fun m _ _ => EN_fe hfe) (fun m hm hm0 => ?_), hX.2.1.takeL hX.1 hi hC hb (fun k k0 k1 => ?_), ?_, hX.2.2.2.takeL hX.1 hi hC hb (fun m q => by omega) (fun m q => by omega) (by omega)⟩, hK.fv (tkW_o (by omega) (by omega)) (tkW_o (by omega) (by omega)) (fun x => tkR_k (by decide) (by decide) (by decide) (by decide) (by omega)), FV_tr hF (FV_of hS (fun x k hx => tkW_o (by omega) (by omega)) (fun x k hx => tkR_out hx (by omega)) (tkR_k (by decide) (by decide) (by decide) (by decide) (by omega)) (tkR_k (by decide) (by decide) (by decide) (by decide) (by omega)) (tkW_o (by omega) (by omega)) (fun x => tkR_k (by decide) (by decide) (by decide) (by decide) (by omega))), fun x hx hx0 => ?_, fun x hx => ?_, fun x hx => h5 x ((hme x).mp hx).1, fun f k hf => (gGone_f hf).trans (h6 f k hf), fun k k0 k1 hk => ?_⟩, fun j j0 j1 => ?_⟩
  · have hm2 := (hme m).mp hm
    rw [hu1]
    refine (hme _).mpr ⟨hup m hm2.1 hm0, ?_⟩
    rw [hn]
    exact huq m hm2.1 hm0
  · have g : ∀ f : Nat, f ≠ 2310 → gGone P1 192 288 n f k = P1 f k := fun f hf => gGone_f hf
    refine ⟨g _ (by decide), g _ (by decide), g _ (by decide), g _ (by decide), g _ (by decide), g _ (by decide), g _ (by decide), g _ (by decide), fun c => ?_⟩
    rw [hn]
    unfold gGone
    rw [if_pos ⟨rfl, by omega, by omega⟩]
    constructor
    · intro c2
      by_cases c3 : ¬ P1 2310 k = 0 ∨ (¬ P1 2304 k = 0 ∧ P1 2306 k = n)
      · rw [if_pos c3] at c2
        omega
      · exact ⟨Decidable.byContradiction fun c4 => c3 (Or.inl c4), fun c4 => c3 (Or.inr ⟨c, c4⟩)⟩
    · rintro ⟨c2, c3⟩
      rw [if_neg (fun c4 => by
        rcases c4 with c4 | c4
        · exact c4 c2
        · exact c3 c4.2)]
  · obtain ⟨z1, z2, z3, z4⟩ := hX.2.2.1
    have g : ∀ (f : Nat) (k : Int), f ≠ 2310 → gGone P1 192 288 n f k = P1 f k := fun f k hf => gGone_f hf
    refine ⟨(tkW_o (by omega) (by omega)).trans (z1.trans (g _ _ (by decide)).symm), (tkW_o (by omega) (by omega)).trans (z2.trans (g _ _ (by decide)).symm), (tkW_o (by omega) (by omega)).trans z3, fun c => by omega, fun _ => ?_⟩
    unfold tkW
    rw [rU_j (by decide), rU_s]
  · have hx2 := (hme x).mp hx
    refine (hme _).mpr ⟨hup x hx2.1 hx0, ?_⟩
    rw [hn]
    exact huq x hx2.1 hx0
  · rw [hme, hn, h4 x hx]
    exact ⟨fun c => c.1, fun c => ⟨c, fun c2 => hx (by rw [c2]; exact ho)⟩⟩
  · have e1 : P1 2304 k = P 2304 k := h6 _ _ (by decide)
    have e2 : P1 2306 k = P 2306 k := h6 _ _ (by decide)
    have h8 := h7 k k0 k1 hk
    unfold gGone
    rw [if_pos ⟨rfl, k0, k1⟩, e1, e2]
    constructor
    · intro c
      by_cases c3 : ¬ P1 2310 k = 0 ∨ (¬ P 2304 k = 0 ∧ P 2306 k = n)
      · rw [if_pos c3] at c
        omega
      · have c4 : P1 2310 k = 0 := Decidable.byContradiction fun c4 => c3 (Or.inl c4)
        obtain ⟨c5, c6⟩ := h8.mp c4
        exact ⟨c5, fun c7 => (hme _).mpr ⟨c6 c7, fun c8 => c3 (Or.inr ⟨hk, by rw [c8, hn]⟩)⟩⟩
    · rintro ⟨c1, c2⟩
      rw [if_neg]
      intro c3
      rcases c3 with c3 | ⟨-, c3⟩
      · exact c3 (h8.mpr ⟨c1, fun c => ((hme _).mp (c2 c)).1⟩)
      · have := (hme _).mp (c2 (by rw [c3]; exact ho))
        rw [hn] at this
        exact this.2 c3
  · have hm := (hme _).mp (lg_mem (ord := ord.eraseIdx i.toNat) (i := j) (by omega) (by omega))
    refine hsort _ hm.1 ?_
    have hj := lg_erase (ord := ord) (p := i) (i := j) hi.1 (by omega)
    rw [if_neg (by omega)] at hj
    rw [hj]
    have hs := hX.1.1.2.2.2
    rw [List.pairwise_iff_getElem] at hs
    have e : ∀ m, qPath P1 2 m = m := fun m => if_neg (by decide)
    have eg : ∀ (L : List Int) (i : Nat) (h : i < L.length), L[i] = lg L (i : Int) := fun L i h => by
      unfold lg
      rw [List.getD_eq_getElem?_getD, Int.toNat_natCast, List.getElem?_eq_getElem h]
      rfl
    have := hs i.toNat (j + 1).toNat (by omega) (by omega) (by omega)
    rw [e, e, eg _ _ (by omega), eg _ _ (by omega), Int.toNat_of_nonneg hi.1, Int.toNat_of_nonneg (by omega), hn] at this
    exact this
theorem hid_loop {Post : Option AV → hM → Prop} (hS : VS S 2) (hp : 0 ≤ p ∧ p < 8) (hpr : 295 + 125 * p.toNat = pr) (hfin : ∀ (σ : hM) (W2 : qR) (R2 : rR) (P2 : qR) (ord2 : List Int) (t2 : Nat → Nat), PX σ0 W2 R2 σ → HI K S p W R P W2 R2 P2 ord2 t2 → (∀ x ∈ ord2, ¬ ownP p x) → Post none σ) : ∀ (m : Nat) (i : Int) (W1 : qR) (R1 : rR) (P1 : qR) (ord : List Int) (t : Nat → Nat) (σ : hM), i + 1 = m → m ≤ ord.length → PX σ0 W1 R1 σ → HI K S p W R P W1 R1 P1 ord t → (∀ j, (m : Int) ≤ j → j < ord.length → ¬ ownP p (lg ord j)) → WP fb (d + 1) 202 7 [some (vR (some S)), some (vR (some pr)), some (vI i)] [] σ Post := by
  have hO := hS.o
  have hrg := hS.rng
  have hpo : tX pr = some (Sum.inl 6) := by rw [← hpr]; exact tX_prc p.toNat (by omega)
  intro m
  induction m with
  | zero =>
    intro i W1 R1 P1 ord t σ h1 h2 hP hH hno
    have hend := hfin σ W1 R1 P1 ord t hP hH (fun x hx => by
      obtain ⟨j, j0, j1, hj⟩ := mem_lg hx
      rw [← hj]
      exact hno j (by omega) j1)
    have h1 : i + 1 = 0 := h1
    refine x_li (z := i) T_202_7 rfl ?_
    refine x_if T_202_8 (fun _ => ?_) (fun h => absurd (show i < 0 by omega) h)
    refine x_rv T_202_40 ?_
    exact hend
  | succ m ih =>
    intro i W1 R1 P1 ord t σ h1 h2 hP hH hno
    have hX := hH.1
    have hl := hX.1.1.2.1
    have t0 := hX.1.2.1.1 i.toNat (by omega)
    have hrow := hX.1.2.2.1 i (by omega) (by omega)
    obtain ⟨b, hb⟩ : ∃ b, S + 6 + 3 * t i.toNat = b := ⟨_, rfl⟩
    obtain ⟨n, hn⟩ : ∃ n, lg ord i = n := ⟨_, rfl⟩
    have hbno : tX b = some (Sum.inl 8) := by rw [← hb]; exact hS.nd t0
    have hN := hX.1.2.2.2.1 i (by omega) (by omega)
    have hDN := (hX.2.2.2 i (by omega) (by omega)).2 rfl
    rw [hb] at hrow
    rw [hb, hn] at hN hDN
    have hiN := hH.2.2.2.2.2.1 n (by rw [← hn]; exact lg_mem (by omega) (by omega))
    by_cases ho : ownP p n
    · obtain ⟨C, hC⟩ : ∃ C : Int, (ord.length : Int) = C := ⟨_, rfl⟩
      obtain ⟨g1, g2⟩ := hH.take hS hp (i := i) (by omega) hC hb hn ho (fun j j0 j1 => hno j (by omega) (by omega))
      have hcn := hX.1.1.2.2.1
      rw [hC] at hcn
      have hle := erase_len (ord := ord) (p := i) (by omega)
      have hsh : R1 b 2258 = some pr := by
        rw [hDN.2, if_neg (by unfold ownP at ho; omega), show n / 16 - 1 = p by unfold ownP at ho; omega, hpr]
      have hv := hX.2.2.1.2.2.2.2 rfl
      have hw : W1 b 2266 = 0 := hN.2.2.2.2.2.2.2.1.1.trans (if_neg (fun c => absurd c.1 (by decide)))
      have htk := x_takeOut (fb := fb) (d := d) (p := i) (C := C) hP hS hcn (by omega) hX.1.2.1.1 hX.1.2.1.2 hX.1.2.2.1 ⟨by omega, by omega⟩ hb (fun i i0 i1 b2 hb2 => (hX.2.1 i i0 i1).2.2 b2 hb2) hv hw (by decide)
      rw [show (0 : Int) - 0 = 0 by decide] at htk
      have hgo := fun (σ : hM) (hP : PX σ0 (tkW W1 S b C 0) (tkR R1 S b i C) σ) => ih (i + (-1)) _ _ _ _ _ σ (by omega) (by omega) hP g1 (fun j j0 j1 => g2 j (by omega) (by omega))
      refine x_li (z := i) T_202_7 rfl ?_
      refine x_if T_202_8 (fun h => absurd (show i < 0 from h) (by omega)) (fun _ => ?_)
      refine x_lr (z := some S) T_202_11 rfl ?_
      refine x_gR (z := some (S + 1)) T_202_12 F_7_2 (hP.o hO) (hP.rc hO rfl rfl) ?_
      refine x_li (z := i) T_202_15 rfl ?_
      refine x_alR (z := some b) T_202_16 (hP.ta hS.an) (by decide) (by omega) (by omega) (Eq.trans (hP.arm hS.an rfl (by omega)) hrow) ?_
      refine x_gR (z := some pr) T_202_17 F_8_2 (hP.o hbno) (Eq.trans (hP.rm hbno rfl (key := 2258) rfl) hsh) ?_
      refine x_lr (z := some pr) T_202_20 rfl ?_
      refine x_ane T_202_21 (tX_o hpo).1 (tX_o hpo).1 (fun h0 => absurd h0 (by exact fun c => c rfl)) (fun _ => ?_)
      refine x_lr (z := some S) T_202_24 rfl ?_
      refine x_lr (z := some S) T_202_25 rfl ?_
      refine x_gR (z := some (S + 1)) T_202_26 F_7_2 (hP.o hO) (hP.rc hO rfl rfl) ?_
      refine x_li (z := i) T_202_29 rfl ?_
      refine x_alR (z := some b) T_202_30 (hP.ta hS.an) (by decide) (by omega) (by omega) (Eq.trans (hP.arm hS.an rfl (by omega)) hrow) ?_
      refine x_cv2 T_202_31 mN_46 mL_46 (Nat.le_of_ble_eq_true rfl) mO_46 (hP.o hO) (Nat.le_of_ble_eq_true rfl) (htk) ?_
      clear hP htk
      rintro _ σ ⟨rfl, hP⟩
      refine cV ?_
      refine x_inc (w := (i + (-1))) (ls1 := [some (vR (some S)), some (vR (some pr)), some (vI (i + (-1)))]) T_202_34 rfl (w32_id (by omega) (by omega)) rfl ?_
      refine x_goto T_202_37 ?_
      exact hgo σ hP
    · have hgo := fun (σ : hM) (hP : PX σ0 W1 R1 σ) => ih (i + (-1)) W1 R1 P1 ord t σ (by omega) (by omega) hP hH (fun j j0 j1 => by
        by_cases c : j = i
        · rw [c, hn]
          exact ho
        · exact hno j (by omega) j1)
      by_cases q16 : n < 16
      · have hsh : R1 b 2258 = none := by rw [hDN.2, if_pos q16]
        refine x_li (z := i) T_202_7 rfl ?_
        refine x_if T_202_8 (fun h => absurd (show i < 0 from h) (by omega)) (fun _ => ?_)
        refine x_lr (z := some S) T_202_11 rfl ?_
        refine x_gR (z := some (S + 1)) T_202_12 F_7_2 (hP.o hO) (hP.rc hO rfl rfl) ?_
        refine x_li (z := i) T_202_15 rfl ?_
        refine x_alR (z := some b) T_202_16 (hP.ta hS.an) (by decide) (by omega) (by omega) (Eq.trans (hP.arm hS.an rfl (by omega)) hrow) ?_
        refine x_gR (z := none) T_202_17 F_8_2 (hP.o hbno) (Eq.trans (hP.rm hbno rfl (key := 2258) rfl) hsh) ?_
        refine x_lr (z := some pr) T_202_20 rfl ?_
        refine x_ane T_202_21 (tX_o hpo).1 (Nat.le_refl _) (fun _ => ?_) (fun h0 => absurd h0 (by exact fun c => by cases c))
        refine x_inc (w := (i + (-1))) (ls1 := [some (vR (some S)), some (vR (some pr)), some (vI (i + (-1)))]) T_202_34 rfl (w32_id (by omega) (by omega)) rfl ?_
        refine x_goto T_202_37 ?_
        exact hgo σ hP
      · obtain ⟨y, hy⟩ : ∃ y, 295 + 125 * (n / 16 - 1).toNat = y := ⟨_, rfl⟩
        have hsh : R1 b 2258 = some y := by rw [hDN.2, if_neg q16, hy]
        have hq : 16 ≤ n ∧ n < 144 ∧ n % 16 ≤ 2 := by
          rcases hiN with q | ⟨-, q⟩
          · omega
          · rcases q with q | q | q
            · omega
            · omega
            · exact ⟨q.1, q.2.1, q.2.2.1⟩
        have hyo : tX y = some (Sum.inl 6) := by rw [← hy]; exact tX_prc _ (by omega)
        have hne : ¬ (some y : Option Nat) = some pr := fun c => ho (by
          have := Option.some.inj c
          unfold ownP
          omega)
        refine x_li (z := i) T_202_7 rfl ?_
        refine x_if T_202_8 (fun h => absurd (show i < 0 from h) (by omega)) (fun _ => ?_)
        refine x_lr (z := some S) T_202_11 rfl ?_
        refine x_gR (z := some (S + 1)) T_202_12 F_7_2 (hP.o hO) (hP.rc hO rfl rfl) ?_
        refine x_li (z := i) T_202_15 rfl ?_
        refine x_alR (z := some b) T_202_16 (hP.ta hS.an) (by decide) (by omega) (by omega) (Eq.trans (hP.arm hS.an rfl (by omega)) hrow) ?_
        refine x_gR (z := some y) T_202_17 F_8_2 (hP.o hbno) (Eq.trans (hP.rm hbno rfl (key := 2258) rfl) hsh) ?_
        refine x_lr (z := some pr) T_202_20 rfl ?_
        refine x_ane T_202_21 (tX_o hpo).1 (tX_o hyo).1 (fun _ => ?_) (fun h0 => absurd h0 (by exact hne))
        refine x_inc (w := (i + (-1))) (ls1 := [some (vR (some S)), some (vR (some pr)), some (vI (i + (-1)))]) T_202_34 rfl (w32_id (by omega) (by omega)) rfl ?_
        refine x_goto T_202_37 ?_
        exact hgo σ hP
theorem x_hide (hP : PX σ0 W R σ) (hS : VS S 2) (hX : XV W R P S 2 ord t) (hK : CT K W R) (hG : GI T U P) (hD : TI P) (hp : 0 ≤ p ∧ p < 8) (hpr : 295 + 125 * p.toNat = pr) (hQp : ∀ k, ¬ Q 2320 k = 0 ↔ k ≠ p ∧ ¬ P 2320 k = 0) (hQo : ∀ k, Q 2322 k = P 2322 k) (hQf : ∀ (f : Nat) (k : Int), fidL.elem f = true ∨ f = 2313 → f ≠ 2310 → Q f k = P f k) (hQg : ∀ k, 192 ≤ k → k < 288 → ¬ P 2304 k = 0 → (Q 2310 k = 0 ↔ P 2310 k = 0 ∧ ¬ ownP p (P 2306 k))) : CL fb (d + 1) 202 [vR (some S), vR (some pr)] σ (XSH σ0 K W R S Q) := by
  have hO := hS.o
  have e2 : ¬ (2 : Int) < 2 := by decide
  have hR := TRX_of hX.1 hG hS.1
  have hmem : ∀ m, m ∈ ord ↔ isN P 2 m := hX.1.1.1
  have hl := hX.1.1.2.1
  obtain ⟨C, hC⟩ : ∃ C : Int, (ord.length : Int) = C := ⟨_, rfl⟩
  have hcn := hX.1.1.2.2.1
  rw [hC] at hcn
  have hH : HI K S p W R P W R P ord t := ⟨⟨⟨⟨fun n => Iff.rfl, hX.1.1.2⟩, hX.1.2⟩, hX.2⟩, hK, FV_rfl, fun x hx _ => (hmem _).mpr (hR.2.2.1 x ((hmem x).mp hx)), fun x _ => hmem x, fun x hx => (hmem x).mp hx, fun _ _ _ => rfl, fun k k0 k1 hk => ⟨fun c => ⟨c, fun _ => (hmem _).mpr (hD.2.2.2.2.1 k k0 k1 hk c)⟩, fun c => c.1⟩⟩
  have hlp := hid_loop (fb := fb) (d := d) (σ0 := σ0) (K := K) (W := W) (R := R) (P := P) (Post := XSH σ0 K W R S Q) hS hp hpr (fun σ W2 R2 P2 ord2 t2 hP2 hH2 hno => by
    obtain ⟨hX2, hK2, hF2, hup, h4, h5, h6, h7⟩ := hH2
    refine ⟨rfl, W2, R2, ord2, t2, hP2, ⟨NT_of (hX2.1.en (fun m hm => EN_two (fun k => (hQo k).trans (h6 _ _ (by decide)).symm))) (fun x => ?_), fun i i0 i1 => ?_, ?_, fun i i0 i1 => ⟨fun c => by omega, (hX2.2.2.2 i i0 i1).2⟩⟩, hK2, hF2⟩
    · constructor
      · intro hx
        have hi := h5 x hx
        have hn := hno x hx
        rcases hi with q | ⟨-, q⟩
        · omega
        · refine Or.inr ⟨rfl, ?_⟩
          rcases q with q | q | ⟨q0, q1, q2, q3⟩
          · exact Or.inl q
          · exact Or.inr (Or.inl q)
          · exact Or.inr (Or.inr ⟨q0, q1, q2, (hQp _).mpr ⟨fun c => hn (by unfold ownP; omega), q3⟩⟩)
      · intro hx
        have hn : ¬ ownP p x ∧ isN P 2 x := by
          rcases hx with q | ⟨-, q⟩
          · omega
          · rcases q with q | q | ⟨q0, q1, q2, q3⟩
            · exact ⟨by unfold ownP; omega, Or.inr ⟨rfl, Or.inl q⟩⟩
            · exact ⟨by unfold ownP; omega, Or.inr ⟨rfl, Or.inr (Or.inl q)⟩⟩
            · have q4 := (hQp _).mp q3
              exact ⟨fun c => q4.1 (by unfold ownP at c; omega), Or.inr ⟨rfl, Or.inr (Or.inr ⟨q0, q1, q2, q4.2⟩)⟩⟩
        exact (h4 x hn.1).mpr hn.2
    · have e : ∀ f : Nat, fidL.elem f = true → f ≠ 2310 → Q f (96 * 2 + i) = P2 f (96 * 2 + i) := fun f hf hg => (hQf f _ (Or.inl hf) hg).trans (h6 f _ hg).symm
      obtain ⟨a1, a2, a3⟩ := hX2.2.1 i i0 i1
      rw [e 2304 rfl (by decide)]
      refine ⟨a1, fun c => ?_, a3⟩
      have g := a2 c
      unfold FDu at g ⊢
      rw [e 2305 rfl (by decide), e 2308 rfl (by decide), e 2307 rfl (by decide), e 2309 rfl (by decide), e 2311 rfl (by decide), e 2312 rfl (by decide), e 2306 rfl (by decide)]
      obtain ⟨b1, b2, b3, b4, b5, b6, b7, b8⟩ := g
      refine ⟨b1, b2, b3, b4, b5, b6, b7, ?_⟩
      have c3 : ¬ P 2304 (96 * 2 + i) = 0 := by
        rw [h6 _ _ (by decide)] at c
        exact c
      have g1 := hQg (96 * 2 + i) (by omega) (by omega) c3
      have g2 := h7 (96 * 2 + i) (by omega) (by omega) c3
      rw [b8]
      refine ifc (g2.trans (Iff.trans ?_ g1.symm))
      exact ⟨fun q => ⟨q.1, fun q2 => hno _ (q.2 q2) q2⟩, fun q => ⟨q.1, fun q2 => absurd q2 q.2⟩⟩
    · obtain ⟨z1, z2, z3, z4⟩ := hX2.2.2.1
      unfold SZ
      rw [hQf 2313 _ (Or.inr rfl) (by decide), hQf 2313 _ (Or.inr rfl) (by decide), ← h6 2313 _ (by decide), ← h6 2313 _ (by decide)]
      exact ⟨z1, z2, z3, fun c => by omega, z4.2⟩) ord.length (C - 1) W R P ord t σ (by omega) (Nat.le_refl _) hP hH (fun j j0 j1 => by omega)
  refine CL_in mL_202 rfl ?_
  show WP fb _ 202 0 [some (vR (some S)), some (vR (some pr)), none] [] σ _
  refine x_lr (z := some S) T_202_0 rfl ?_
  refine x_gI (z := C) T_202_1 (Or.inl F_7_6) (hP.o hO) (Eq.trans (hP.gi hO (key := 2230) rfl) hcn) ?_
  refine x_ic T_202_4 ?_
  refine x_ib (w := (C - 1)) T_202_5 (fun h => absurd h.1 (by decide)) (w32_id (by omega) (by omega)) ?_
  refine x_si (ls1 := [some (vR (some S)), some (vR (some pr)), some (vI (C - 1))]) T_202_6 rfl ?_
  exact hlp
end XHID
