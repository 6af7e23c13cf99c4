/-! The kernel walks: names one after the other, through points. -/
theorem T_332_123 : hTab 332 123 = some ((3, 8, 0, []), 125) := rfl
theorem T_332_125 : hTab 332 125 = some ((3, 0, 2, []), 126) := rfl
theorem T_332_126 : hTab 332 126 = some ((24, 17, Int.ofNat 67, []), 129) := rfl
theorem T_332_129 : hTab 332 129 = some ((3, 7, 0, []), 131) := rfl
theorem T_332_131 : hTab 332 131 = some ((26, 0, 0, []), 132) := rfl
theorem T_332_132 : hTab 332 132 = some ((19, 3, Int.ofNat 180, []), 135) := rfl
theorem T_332_135 : hTab 332 135 = some ((3, 4, 0, []), 137) := rfl
theorem T_332_137 : hTab 332 137 = some ((18, 0, Int.ofNat 180, []), 140) := rfl
theorem T_332_140 : hTab 332 140 = some ((3, 0, 2, []), 141) := rfl
theorem T_332_141 : hTab 332 141 = some ((3, 0, 2, []), 142) := rfl
theorem T_332_142 : hTab 332 142 = some ((24, 17, Int.ofNat 68, []), 145) := rfl
theorem T_332_145 : hTab 332 145 = some ((0, 0, 6, []), 147) := rfl
theorem T_332_147 : hTab 332 147 = some ((3, 7, 0, []), 149) := rfl
theorem T_332_149 : hTab 332 149 = some ((10, 2, 0, []), 150) := rfl
theorem T_332_150 : hTab 332 150 = some ((3, 8, 0, []), 152) := rfl
theorem T_332_152 : hTab 332 152 = some ((10, 0, 0, []), 153) := rfl
theorem T_332_153 : hTab 332 153 = some ((26, 0, 0, []), 154) := rfl
theorem T_332_154 : hTab 332 154 = some ((3, 0, 2, []), 155) := rfl
theorem T_332_155 : hTab 332 155 = some ((24, 17, Int.ofNat 69, []), 158) := rfl
theorem T_332_158 : hTab 332 158 = some ((0, 0, 6, []), 160) := rfl
theorem T_332_160 : hTab 332 160 = some ((3, 7, 0, []), 162) := rfl
theorem T_332_162 : hTab 332 162 = some ((10, 2, 0, []), 163) := rfl
theorem T_332_163 : hTab 332 163 = some ((3, 8, 0, []), 165) := rfl
theorem T_332_165 : hTab 332 165 = some ((10, 0, 0, []), 166) := rfl
theorem T_332_166 : hTab 332 166 = some ((26, 0, 0, []), 167) := rfl
theorem T_332_167 : hTab 332 167 = some ((3, 5, 0, []), 169) := rfl
theorem T_332_169 : hTab 332 169 = some ((31, 341, 0, []), 172) := rfl
theorem T_332_172 : hTab 332 172 = some ((4, 4, 0, []), 174) := rfl
theorem T_332_174 : hTab 332 174 = some ((5, 8, 1, []), 177) := rfl
theorem T_332_177 : hTab 332 177 = some ((22, 0, Int.ofNat 123, []), 180) := rfl
theorem F_17_67 : (hFd 17 67).2.2.1 = 4 := rfl
theorem F_17_68 : (hFd 17 68).2.2.1 = 4 := rfl
theorem F_17_69 : (hFd 17 69).2.2.1 = 4 := rfl
theorem mN_332 : hmN 332 = 4 := by decide +kernel
theorem mL_332 : hmL 332 = 9 := by decide +kernel
theorem mK_332 : hmK 332 = 1 := by decide +kernel
theorem mO_332 : hmO 332 = 17 := by decide +kernel
def kTry (P : qR) (nm : List Int) (e : Int) : List (Int × Int) → Int × qR × Ch
  | [] => (e, P, c0)
  | x :: r => if kStE P x.1 x.2 nm = 0 then (0, kStP P x.1 x.2 nm, kStC P x.1 x.2 nm) else kTry (kStP P x.1 x.2 nm) nm (kStE P x.1 x.2 nm) r
def kMems (P : qR) (pt : Int) : List (Int × Int) := (List.range (P 2337 pt).toNat).map (fun (i : Nat) => (P 2338 (6 * pt + (i : Int)), P 2339 (6 * pt + (i : Int))))
def kNext (P : qR) (p : Int) (c : Ch) (nm : List Int) : Int × qR × Ch := if qPoint P p c.1 c.2.2.1 < 0 then (kStE P c.1 c.2.1 nm, kStP P c.1 c.2.1 nm, kStC P c.1 c.2.1 nm) else kTry P nm (-1) (kMems P (qPoint P p c.1 c.2.2.1))
def kThru (P : qR) (p : Int) (c : Ch) : Int × qR × Ch := if qPoint P p c.1 c.2.2.1 < 0 then (0, P, c) else (kCpE P (P 2338 (6 * qPoint P p c.1 c.2.2.1)) (P 2339 (6 * qPoint P p c.1 c.2.2.1)), kDrop (kCpP P (P 2338 (6 * qPoint P p c.1 c.2.2.1)) (P 2339 (6 * qPoint P p c.1 c.2.2.1))) c, (P 2338 (6 * qPoint P p c.1 c.2.2.1), qNewF P (P 2338 (6 * qPoint P p c.1 c.2.2.1)), P 2340 (6 * qPoint P p c.1 c.2.2.1), P 2341 (6 * qPoint P p c.1 c.2.2.1), qPoint P p c.1 c.2.2.1))
def kWalkT (P : qR) (p thr : Int) : List (List Int) → Ch → Int × qR × Ch
  | [], c => if thr = 0 then (0, P, c) else kThru P p c
  | nm :: r, c => if 0 < (kNext P p c nm).1 then ((kNext P p c nm).1, kDrop (kNext P p c nm).2.1 c, c) else kWalkT (kDrop (kNext P p c nm).2.1 c) p thr r (kNext P p c nm).2.2
def kWalk (P : qR) (p o thr : Int) (nms : List (List Int)) : Int × qR × Ch := if o < 0 then (if 0 < kCpE P 0 (P 2324 p) then (kCpE P 0 (P 2324 p), kCpP P 0 (P 2324 p), c0) else kWalkT (kCpP P 0 (P 2324 p)) p thr nms (0, qNewF P 0, 0, 128, -1)) else (if 0 < kAtE P o (P 2322 p) then (kAtE P o (P 2322 p), kAtP P o (P 2322 p), c0) else kWalkT (kAtP P o (P 2322 p)) p thr nms (o, qNewF P o, 0, 128, -1))
/-- points have members -/
def PTS (P : qR) : Prop := ∀ g k : Int, 0 ≤ g → g < 8 → 0 ≤ k → k < P 2334 g → 1 ≤ P 2337 (8 * g + k)
/-- rows that no message changes are the same -/
def KF (Q P : qR) : Prop := ∀ (f : Nat) (k : Int), srvRow f = false → f ≠ 2281 → f ≠ 2316 → f ≠ 2317 → Q f k = P f k
section MWALK
variable {fb : Bool} {d : Nat} {σ0 σ : hM} {P Q R S S1 S2 : qR} {T U s w f g u p k c e t z : Int} {l nm : List Int} {h : List Ch} {x y : Ch} {a : Int → Int}
theorem KF_rfl : KF P P := fun _ _ _ _ _ _ => rfl
theorem KF_tr (h1 : KF R Q) (h2 : KF Q P) : KF R P := fun f k q1 q2 q3 q4 => (h1 f k q1 q2 q3 q4).trans (h2 f k q1 q2 q3 q4)
theorem KF_tP : KF (tP P s l) P := fun f k q1 q2 q3 q4 => tP_f q1 q2 q3 q4
theorem KF_cp : KF (kCpP P s f) P := by
  unfold kCpP
  split
  · exact KF_rfl
  · exact KF_tP
theorem KF_at : KF (kAtP P s u) P := by
  unfold kAtP
  split
  · exact KF_rfl
  · exact KF_tP
theorem KF_st : KF (kStP P s f nm) P := by
  unfold kStP
  split
  · exact KF_rfl
  · exact KF_tP
theorem PTS.of (h : PTS P) (hk : KF Q P) : PTS Q := fun g k a b c d => by
  rw [hk 2334 g rfl (by decide) (by decide) (by decide)] at d
  rw [hk 2337 _ rfl (by decide) (by decide) (by decide)]
  exact h g k a b c d
theorem qPoint_kf {path : Int} (hk : KF Q P) : qPoint Q p s path = qPoint P p s path := by
  have e : ∀ (m : Nat) (k : Int), poF Q s path m k = poF P s path m k := by
    intro m
    induction m with
    | zero => intro k; rfl
    | succ m ih =>
      intro k
      unfold poF
      rw [ih, hk 2335 k rfl (by decide) (by decide) (by decide), hk 2336 k rfl (by decide) (by decide) (by decide)]
  unfold qPoint
  rw [e, hk 2334 _ rfl (by decide) (by decide) (by decide), hk 2323 _ rfl (by decide) (by decide) (by decide)]
theorem wlk_e (r : List (List Int)) : ∀ n : Int, 0 ≤ (wlk P s u r n).2.2.1 ∧ (wlk P s u r n).2.2.1 ≤ 3 := by
  induction r with
  | nil => intro n; exact ⟨Int.le_refl _, by show (0 : Int) ≤ 3; decide⟩
  | cons x r ih =>
    intro n
    unfold wlk
    split
    · exact ih _
    · show 0 ≤ qSt P s n u x ∧ qSt P s n u x ≤ 3
      rcases qSt_v P s n u x with g | g <;> omega
theorem srE_rng : 0 ≤ srE P s c t a z ∧ srE P s c t a z ≤ 16 := by
  have h1 : 0 ≤ vsE a z ∧ vsE a z ≤ 16 := by unfold vsE; (repeat' split) <;> decide
  have h2 : 0 ≤ atE P s c a z ∧ atE P s c a z ≤ 16 := by unfold atE; (repeat' split) <;> decide
  have h3 : 0 ≤ wlE P s c a z ∧ wlE P s c a z ≤ 16 := by
    have hw := wlk_e (P := P) (s := s) (u := P 2308 (qFid P s c (nu a 7 4))) (nms a (wkS a z (nu a 15 2).toNat 17)) (P 2306 (qFid P s c (nu a 7 4)))
    have hw : 0 ≤ (wlW P s c a z).2.2.1 ∧ (wlW P s c a z).2.2.1 ≤ 3 := hw
    unfold wlE
    (repeat' split) <;> omega
  have h4 : 0 ≤ opE P s c a z ∧ opE P s c a z ≤ 16 := by unfold opE qOpn; (repeat' split) <;> decide
  have h5 : 0 ≤ crE P s c a z ∧ crE P s c a z ≤ 16 := by
    unfold crE
    split
    · decide
    · rcases qCre_v P s (qFid P s c (nu a 7 4)) (nu a (sE a z 11) 4) (nu a (sE a z 11 + 4) 1) (seg a 13 (nu a 11 2).toNat) with g | g
      · rw [g.1]; decide
      · omega
  have h6 : 0 ≤ rdErr P s c a z ∧ rdErr P s c a z ≤ 16 := by unfold rdErr rdX; (repeat' split) <;> decide
  have h7 : 0 ≤ wrErr P s c a z ∧ wrErr P s c a z ≤ 16 := by
    have hq : ∀ n off y, 0 ≤ qWr P s n off y ∧ qWr P s n off y ≤ 16 := fun n off y => by
      rcases qWr_v P s n off y with g | g
      · rw [g.1]; decide
      · omega
    unfold wrErr wrX wrN
    (repeat' split) <;> first | decide | exact hq _ _ _
  have h8 : 0 ≤ (if z = 11 then onE P s (qFid P s c (nu a 7 4)) t else 14) ∧ (if z = 11 then onE P s (qFid P s c (nu a 7 4)) t else 14) ≤ 16 := by
    have hq : ∀ W n u, 0 ≤ qRem W s n u ∧ qRem W s n u ≤ 16 := fun W n u => by
      rcases qRem_v W s n u with g | g | g <;> rw [g] <;> decide
    unfold onE
    (repeat' split) <;> first | decide | exact hq _ _ _
  have h9 : 0 ≤ wsE P s c a z ∧ wsE P s c a z ≤ 16 := by
    have hq : ∀ n u md ln y nm, 0 ≤ qChg P s n u md ln y nm ∧ qChg P s n u md ln y nm ≤ 16 := fun n u md ln y nm => by
      rcases qChg_v P s n u md ln y nm with g | g
      · rw [g.1]; decide
      · omega
    unfold wsE wsX
    (repeat' split) <;> first | decide | exact hq _ _ _ _ _ _
  unfold srE
  by_cases t1 : t = 100
  · rw [if_pos t1]; exact h1
  rw [if_neg t1]
  by_cases t2 : t = 104
  · rw [if_pos t2]; exact h2
  rw [if_neg t2]
  by_cases t3 : t = 108
  · rw [if_pos t3]; split <;> decide
  rw [if_neg t3]
  by_cases t4 : t = 110
  · rw [if_pos t4]; exact h3
  rw [if_neg t4]
  by_cases t5 : t = 112
  · rw [if_pos t5]; exact h4
  rw [if_neg t5]
  by_cases t6 : t = 114
  · rw [if_pos t6]; exact h5
  rw [if_neg t6]
  by_cases t7 : t = 116
  · rw [if_pos t7]; exact h6
  rw [if_neg t7]
  by_cases t8 : t = 118
  · rw [if_pos t8]; exact h7
  rw [if_neg t8]
  by_cases t9 : t = 120 ∨ t = 122 ∨ t = 124
  · rw [if_pos t9]; exact h8
  rw [if_neg t9]
  by_cases t10 : t = 126
  · rw [if_pos t10]; exact h9
  · rw [if_neg t10]; decide
theorem tE_rng : 0 ≤ tE P s l ∧ tE P s l ≤ 16 := by
  unfold tE trE srvE
  split
  · decide
  · split
    · decide
    · exact srE_rng
theorem kCpE_rng : 0 ≤ kCpE P s f ∧ kCpE P s f ≤ 16 := by
  unfold kCpE
  split
  · decide
  · exact tE_rng
theorem kAtE_rng : 0 ≤ kAtE P s u ∧ kAtE P s u ≤ 16 := by
  unfold kAtE
  split
  · decide
  · exact tE_rng
theorem kStE_rng : 0 ≤ kStE P s f nm ∧ kStE P s f nm ≤ 16 := by
  unfold kStE
  split
  · decide
  · exact tE_rng
theorem kTry_ok (nm : List Int) : ∀ (ms : List (Int × Int)) (e : Int) (P : qR), KF (kTry P nm e ms).2.1 P ∧ (0 < e ∨ ms ≠ [] → 0 ≤ (kTry P nm e ms).1) ∧ (kTry P nm e ms).1 ≤ max e 16
  | [], e, P => ⟨KF_rfl, fun q => by rcases q with q | q; exact Int.le_of_lt q; exact absurd rfl q, by show e ≤ max e 16; omega⟩
  | x :: r, e, P => by
    have hr := kStE_rng (P := P) (s := x.1) (f := x.2) (nm := nm)
    unfold kTry
    split
    · exact ⟨KF_st, fun _ => by show (0 : Int) ≤ 0; decide, by show (0 : Int) ≤ max e 16; omega⟩
    · rename_i q
      obtain ⟨h1, h2, h3⟩ := kTry_ok nm r (kStE P x.1 x.2 nm) (kStP P x.1 x.2 nm)
      exact ⟨KF_tr h1 KF_st, fun _ => h2 (Or.inl (by omega)), by omega⟩
theorem kMems_len {pt : Int} : (kMems P pt).length = (P 2337 pt).toNat := by
  unfold kMems
  rw [List.length_map, List.length_range]
theorem kMems_get {pt : Int} {i : Nat} (hi : i < (kMems P pt).length) : (kMems P pt).getD i (0, 0) = (P 2338 (6 * pt + (i : Int)), P 2339 (6 * pt + (i : Int))) := by
  have hi2 : i < (P 2337 pt).toNat := by rw [kMems_len] at hi; exact hi
  unfold kMems
  rw [List.getD_eq_getElem?_getD, List.getElem?_map, List.getElem?_range hi2]
  rfl
theorem kNext_ok (hpt : 0 ≤ qPoint P p x.1 x.2.2.1 → 1 ≤ P 2337 (qPoint P p x.1 x.2.2.1)) : KF (kNext P p x nm).2.1 P ∧ 0 ≤ (kNext P p x nm).1 := by
  unfold kNext
  split
  · exact ⟨KF_st, kStE_rng.1⟩
  · rename_i q
    have h1 := hpt (by omega)
    obtain ⟨h2, h3, -⟩ := kTry_ok nm (kMems P (qPoint P p x.1 x.2.2.1)) (-1) P
    exact ⟨h2, h3 (Or.inr (fun q2 => by have := kMems_len (P := P) (pt := qPoint P p x.1 x.2.2.1); rw [q2] at this; have : 0 = (P 2337 (qPoint P p x.1 x.2.2.1)).toNat := this; omega))⟩
theorem PTS.pt (hI : IV false T U P) (h : PTS P) (hp : 0 ≤ p ∧ p < 8) {path : Int} (hq : 0 ≤ qPoint P p s path) : 1 ≤ P 2337 (qPoint P p s path) ∧ P 2337 (qPoint P p s path) ≤ 6 ∧ qPoint P p s path < 64 := by
  have b1 : 0 ≤ P 2323 p ∧ P 2323 p ≤ 7 := IV.a hI 2323 0 8 rfl rfl rfl (by omega) (by omega)
  rcases qPoint_rng (P := P) (p := p) (s := s) (path := path) hI hp with q | ⟨q1, q2, q3, q4⟩
  · omega
  · have h1 := h (P 2323 p) (qPoint P p s path - 8 * P 2323 p) (by omega) (by omega) (by omega) (by omega)
    rw [show 8 * P 2323 p + (qPoint P p s path - 8 * P 2323 p) = qPoint P p s path by omega] at h1
    have b2 : 0 ≤ P 2337 (qPoint P p s path) ∧ P 2337 (qPoint P p s path) ≤ 6 := IV.a hI 2337 0 64 rfl rfl rfl (by omega) (by omega)
    exact ⟨h1, b2.2, q4⟩
/-- the names of a path -/
def NL (S : qR) (n : Int) (l : List (List Int)) : Prop := ∀ i : Nat, i < l.length → 0 ≤ S 2347 (n + i) ∧ S 2347 (n + i) ≤ S 2348 (n + i) ∧ S 2348 (n + i) ≤ 200 ∧ seg (S 2346) (S 2347 (n + i)) (S 2348 (n + i) - S 2347 (n + i)).toNat = l.getD i []
theorem NL.sk {n : Int} {l : List (List Int)} (h : NL S n l) (hk : SK S S1) : NL S1 n l := fun i hi => by
  have e : ∀ j, S1 2347 j = S 2347 j := fun j => hk.2 _ _ rfl (by decide) (by decide) (by decide) (by decide) (by decide) (by decide) (by decide) (by decide) (by decide)
  have e2 : ∀ j, S1 2348 j = S 2348 j := fun j => hk.2 _ _ rfl (by decide) (by decide) (by decide) (by decide) (by decide) (by decide) (by decide) (by decide) (by decide)
  have e3 : S1 2346 = S 2346 := funext fun j => hk.2 _ _ rfl (by decide) (by decide) (by decide) (by decide) (by decide) (by decide) (by decide) (by decide) (by decide)
  rw [e, e2, e3]
  exact h i hi
theorem NL.hd {n : Int} {x : List Int} {l : List (List Int)} (h : NL S n (x :: l)) : 0 ≤ S 2347 n ∧ S 2347 n ≤ S 2348 n ∧ S 2348 n ≤ 200 ∧ seg (S 2346) (S 2347 n) (S 2348 n - S 2347 n).toNat = x := by
  have := h 0 (by show 0 < l.length + 1; omega)
  rw [show n + ((0 : Nat) : Int) = n by omega] at this
  exact this
theorem NL.tl {n : Int} {x : List Int} {l : List (List Int)} (h : NL S n (x :: l)) : NL S (n + 1) l := fun i hi => by
  have := h (i + 1) (by show i + 1 < l.length + 1; omega)
  rw [show n + ((i + 1 : Nat) : Int) = n + 1 + (i : Int) by omega] at this
  exact this
theorem HS.ch (hJ : IV true T U S) (hh : HS S (h ++ [x])) : (0 ≤ x.1 ∧ x.1 ≤ 2) ∧ (0 ≤ x.2.1 ∧ x.2.1 ≤ 47) ∧ (0 ≤ x.2.2.1 ∧ x.2.2.1 ≤ T + 200) ∧ (0 ≤ x.2.2.2.1 ∧ x.2.2.2.1 ≤ 255) ∧ (-1 ≤ x.2.2.2.2 ∧ x.2.2.2.2 ≤ 63) := by
  obtain ⟨e1, e2, e3, e4, e5, e6, e7⟩ := hh.last
  have c1 : 0 ≤ S 2350 (h.length : Int) ∧ S 2350 (h.length : Int) ≤ 2 := IV.a hJ 2350 0 64 rfl rfl rfl (by omega) (by omega)
  have c2 : 0 ≤ S 2351 (h.length : Int) ∧ S 2351 (h.length : Int) ≤ 47 := IV.a hJ 2351 0 64 rfl rfl rfl (by omega) (by omega)
  have c3 : 0 ≤ S 2352 (h.length : Int) ∧ S 2352 (h.length : Int) ≤ T + 200 := IV.a hJ 2352 0 64 rfl rfl rfl (by omega) (by omega)
  have c4 : 0 ≤ S 2353 (h.length : Int) ∧ S 2353 (h.length : Int) ≤ 255 := IV.a hJ 2353 0 64 rfl rfl rfl (by omega) (by omega)
  have c5 : -1 ≤ S 2354 (h.length : Int) ∧ S 2354 (h.length : Int) ≤ 63 := IV.a hJ 2354 0 64 rfl rfl rfl (by omega) (by omega)
  rw [e3] at c1
  rw [e4] at c2
  rw [e5] at c3
  rw [e6] at c4
  rw [e7] at c5
  exact ⟨c1, c2, c3, c4, c5⟩
theorem m_walk_try {many thr n pt hh6 : Int} (hn : 0 ≤ n ∧ n < 110) (hpt : 0 ≤ pt ∧ pt < 64) {Q : Option AV → hM → Prop} : ∀ (ms : List (Int × Int)) (j T : Int) (P S1 : qR) (σ : hM) (e : Int), j + ms.length = P 2337 pt → 0 ≤ j → P 2337 pt ≤ 6 → (∀ i : Nat, i < ms.length → P 2338 (6 * pt + (j + i)) = (ms.getD i (0, 0)).1 ∧ P 2339 (6 * pt + (j + i)) = (ms.getD i (0, 0)).2) → ¬ e = 0 → PM σ0 P S1 σ → IV true T U S1 → GI T U P → T + 4 * ms.length + 250 ≤ 2147483000 → HS S1 h → h.length < 60 → NL S1 n [nm] → SK S S1 →
    (∀ (σ : hM) (S2 : qR) (l8 : Option AV), PM σ0 (kTry P nm e ms).2.1 S2 σ → IV true (T + 4 * ms.length) U S2 → GI (T + 4 * ms.length) U (kTry P nm e ms).2.1 → HS S2 (kHold (kTry P nm e ms).1 h (kTry P nm e ms).2.2) → SK S S2 → WP fb (d + 14) 332 180 [some (vR (some 2281)), some (vI p), some (vI many), some (vI thr), some (vI (kTry P nm e ms).1), some (vI n), some (vI hh6), some (vI pt), l8] [] σ Q) →
    WP fb (d + 14) 332 123 [some (vR (some 2281)), some (vI p), some (vI many), some (vI thr), some (vI e), some (vI n), some (vI hh6), some (vI pt), some (vI j)] [] σ Q := by
  intro ms
  induction ms with
  | nil =>
    intro j T P S1 σ e h1 h2 h3 h4 h5 hP hJ hG hT hh hl hN hK hQ
    have h1 : j + ((0 : Nat) : Int) = P 2337 pt := h1
    have hk0 : kHold e h c0 = h := if_neg h5
    have hQ2 := hQ σ S1 (some (vI j)) hP (hJ.mono (by omega) (Int.le_refl U)) (hG.mono (by omega)) (by show HS S1 (kHold e h c0); rw [hk0]; exact hh) hK
    refine x_li (z := j) T_332_123 rfl ?_
    refine x_lr (z := some 2281) T_332_125 rfl ?_
    refine x_gR (z := some 2337) T_332_126 F_17_67 (PM.t hP) (PM.r hP 67 2337 rfl) ?_
    refine x_li (z := pt) T_332_129 rfl ?_
    refine x_alI (z := P 2337 pt) T_332_131 (by decide) (PM.ta hP 2337 0 64 rfl rfl) (by omega) (by omega) (PM.aP hP 2337 rfl rfl (by omega)) ?_
    refine x_ic2 T_332_132 (fun _ => ?_) (fun h => absurd (show P 2337 pt ≤ j by omega) h)
    exact hQ2
  | cons x r ih =>
    intro j T P S1 σ e h1 h2 h3 h4 h5 hP hJ hG hT hh hl hN hK hQ
    have h1 : j + ((r.length + 1 : Nat) : Int) = P 2337 pt := h1
    have hT : T + 4 * ((r.length + 1 : Nat) : Int) + 250 ≤ 2147483000 := hT
    have hx := h4 0 (by show 0 < r.length + 1; omega)
    rw [show j + ((0 : Nat) : Int) = j by omega] at hx
    have hx : P 2338 (6 * pt + j) = x.1 ∧ P 2339 (6 * pt + j) = x.2 := hx
    have b1 : 0 ≤ P 2338 (6 * pt + j) ∧ P 2338 (6 * pt + j) ≤ 2 := IV.a hG.iv 2338 0 384 rfl rfl rfl (by omega) (by omega)
    have b2 : 0 ≤ P 2339 (6 * pt + j) ∧ P 2339 (6 * pt + j) ≤ 47 := IV.a hG.iv 2339 0 384 rfl rfl rfl (by omega) (by omega)
    rw [hx.1] at b1
    rw [hx.2] at b2
    obtain ⟨n1, n2, n3, n4⟩ := hN.hd
    obtain ⟨e1, he1⟩ : ∃ e1, kStE P x.1 x.2 nm = e1 := ⟨_, rfl⟩
    have hst := m_stepFrom (fb := fb) (d := d + 1) (σ := σ) hP hJ hG (by omega) (show 0 ≤ x.1 ∧ x.1 < 3 by omega) hh hl b2 (show 0 ≤ n ∧ n < 110 from hn) rfl rfl ⟨n1, n2, n3⟩ n4
    rw [he1] at hst
    have hkt : kTry P nm e (x :: r) = if e1 = 0 then (0, kStP P x.1 x.2 nm, kStC P x.1 x.2 nm) else kTry (kStP P x.1 x.2 nm) nm e1 r := by rw [← he1]; rfl
    rw [hkt] at hQ
    have hT2 : T + 4 * ((x :: r).length : Int) = T + 4 + 4 * (r.length : Int) := by show T + 4 * ((r.length + 1 : Nat) : Int) = _; omega
    rw [hT2] at hQ
    refine x_li (z := j) T_332_123 rfl ?_
    refine x_lr (z := some 2281) T_332_125 rfl ?_
    refine x_gR (z := some 2337) T_332_126 F_17_67 (PM.t hP) (PM.r hP 67 2337 rfl) ?_
    refine x_li (z := pt) T_332_129 rfl ?_
    refine x_alI (z := P 2337 pt) T_332_131 (by decide) (PM.ta hP 2337 0 64 rfl rfl) (by omega) (by omega) (PM.aP hP 2337 rfl rfl (by omega)) ?_
    refine x_ic2 T_332_132 (fun h => absurd (show P 2337 pt ≤ j from h) (by omega)) (fun _ => ?_)
    refine x_li (z := e) T_332_135 rfl ?_
    refine x_if T_332_137 (fun h => absurd (show e = 0 from h) (by exact fun q => h5 q)) (fun _ => ?_)
    refine x_lr (z := some 2281) T_332_140 rfl ?_
    refine x_lr (z := some 2281) T_332_141 rfl ?_
    refine x_gR (z := some 2338) T_332_142 F_17_68 (PM.t hP) (PM.r hP 68 2338 rfl) ?_
    refine x_ic T_332_145 ?_
    refine x_li (z := pt) T_332_147 rfl ?_
    refine x_ib (w := (6 * pt)) T_332_149 (fun h => absurd h.1 (by decide)) (w32_id (by omega) (by omega)) ?_
    refine x_li (z := j) T_332_150 rfl ?_
    refine x_ib (w := ((6 * pt) + j)) T_332_152 (fun h => absurd h.1 (by decide)) (w32_id (by omega) (by omega)) ?_
    refine x_alI (z := x.1) T_332_153 (by decide) (PM.ta hP 2338 0 384 rfl rfl) (by omega) (by omega) (Eq.trans (PM.aP hP 2338 rfl rfl (by omega)) hx.1) ?_
    refine x_lr (z := some 2281) T_332_154 rfl ?_
    refine x_gR (z := some 2339) T_332_155 F_17_69 (PM.t hP) (PM.r hP 69 2339 rfl) ?_
    refine x_ic T_332_158 ?_
    refine x_li (z := pt) T_332_160 rfl ?_
    refine x_ib (w := (6 * pt)) T_332_162 (fun h => absurd h.1 (by decide)) (w32_id (by omega) (by omega)) ?_
    refine x_li (z := j) T_332_163 rfl ?_
    refine x_ib (w := ((6 * pt) + j)) T_332_165 (fun h => absurd h.1 (by decide)) (w32_id (by omega) (by omega)) ?_
    refine x_alI (z := x.2) T_332_166 (by decide) (PM.ta hP 2339 0 384 rfl rfl) (by omega) (by omega) (Eq.trans (PM.aP hP 2339 rfl rfl (by omega)) hx.2) ?_
    refine x_li (z := n) T_332_167 rfl ?_
    refine x_cv4 T_332_169 mN_341 mL_341 (Nat.le_of_ble_eq_true rfl) mO_341 (PM.t hP) (Nat.le_of_ble_eq_true rfl) (hst) ?_
    clear hP hst
    rintro _ σ ⟨S2, rfl, hP, hG2, hJ2, hh2, hK2⟩
    refine cI ?_
    refine x_si (ls1 := [some (vR (some 2281)), some (vI p), some (vI many), some (vI thr), some (vI e1), some (vI n), some (vI hh6), some (vI pt), some (vI j)]) T_332_172 rfl ?_
    refine x_inc (w := (j + 1)) (ls1 := [some (vR (some 2281)), some (vI p), some (vI many), some (vI thr), some (vI e1), some (vI n), some (vI hh6), some (vI pt), some (vI (j + 1))]) T_332_174 rfl (w32_id (by omega) (by omega)) rfl ?_
    refine x_goto T_332_177 ?_
    by_cases q : e1 = 0
    · rw [if_pos q] at hQ
      rw [q, show kHold 0 h (kStC P x.1 x.2 nm) = h ++ [kStC P x.1 x.2 nm] from if_pos rfl] at hh2
      have hQ2 := hQ σ S2 (some (vI (j + 1))) hP (hJ2.mono (by omega) (Int.le_refl U)) (hG2.mono (by omega)) (by show HS S2 (kHold 0 h (kStC P x.1 x.2 nm)); rw [show kHold 0 h (kStC P x.1 x.2 nm) = h ++ [kStC P x.1 x.2 nm] from if_pos rfl]; exact hh2) (SK_tr hK hK2)
      have hmm : kStP P x.1 x.2 nm 2337 pt = P 2337 pt := KF_st _ _ rfl (by decide) (by decide) (by decide)
      have q2 : e1 = 0 := q
      subst q
      refine x_li (z := (j + 1)) T_332_123 rfl ?_
      refine x_lr (z := some 2281) T_332_125 rfl ?_
      refine x_gR (z := some 2337) T_332_126 F_17_67 (PM.t hP) (PM.r hP 67 2337 rfl) ?_
      refine x_li (z := pt) T_332_129 rfl ?_
      refine x_alI (z := P 2337 pt) T_332_131 (by decide) (PM.ta hP 2337 0 64 rfl rfl) (by omega) (by omega) (Eq.trans (PM.aP hP 2337 rfl rfl (by omega)) hmm) ?_
      refine x_ic2 T_332_132 (fun h132 => ?_) (fun h132 => ?_)
      · replace h132 : P 2337 pt ≤ (j + 1) := h132
        exact hQ2
      · replace h132 : ¬ (P 2337 pt ≤ (j + 1)) := h132
        refine x_li (z := 0) T_332_135 rfl ?_
        refine x_if T_332_137 (fun _ => ?_) (fun h => absurd (show (0 : Int) = 0 by decide) h)
        exact hQ2
    · rw [if_neg q] at hQ
      rw [show kHold e1 h (kStC P x.1 x.2 nm) = h from if_neg q] at hh2
      refine ih (j + 1) (T + 4) _ _ σ e1 ?_ (by omega) ?_ (fun i hi => ?_) q hP hJ2 hG2 (by omega) hh2 hl (hN.sk hK2) (SK_tr hK hK2) hQ
      · rw [KF_st 2337 _ rfl (by decide) (by decide) (by decide)]
        omega
      · rw [KF_st 2337 _ rfl (by decide) (by decide) (by decide)]
        exact h3
      · rw [KF_st 2338 _ rfl (by decide) (by decide) (by decide), KF_st 2339 _ rfl (by decide) (by decide) (by decide), show j + 1 + (i : Int) = j + ((i + 1 : Nat) : Int) by omega]
        exact h4 (i + 1) (by show i + 1 < r.length + 1; omega)
end MWALK
