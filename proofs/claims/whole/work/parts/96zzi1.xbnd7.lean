/-! The class's place, whole. -/
theorem T_174_96 : hTab 174 96 = some ((3, 0, 2, []), 97) := rfl
theorem T_174_97 : hTab 174 97 = some ((24, 14, Int.ofNat 0, []), 100) := rfl
theorem T_174_100 : hTab 174 100 = some ((3, 0, 2, []), 101) := rfl
theorem T_174_101 : hTab 174 101 = some ((24, 14, Int.ofNat 3, []), 104) := rfl
theorem T_174_104 : hTab 174 104 = some ((31, 132, 0, []), 107) := rfl
theorem T_174_107 : hTab 174 107 = some ((7, 0, 0, []), 108) := rfl
theorem T_174_108 : hTab 174 108 = some ((3, 0, 2, []), 109) := rfl
theorem T_174_109 : hTab 174 109 = some ((24, 14, Int.ofNat 0, []), 112) := rfl
theorem T_174_112 : hTab 174 112 = some ((3, 0, 2, []), 113) := rfl
theorem T_174_113 : hTab 174 113 = some ((24, 14, Int.ofNat 2, []), 116) := rfl
theorem T_174_116 : hTab 174 116 = some ((31, 132, 0, []), 119) := rfl
theorem T_174_119 : hTab 174 119 = some ((7, 0, 0, []), 120) := rfl
theorem T_174_120 : hTab 174 120 = some ((3, 6, 0, []), 122) := rfl
theorem T_174_122 : hTab 174 122 = some ((33, 1, 0, []), 123) := rfl
/-- where the point is, or that there is none -/
def PT2 (R : rR) (P : qR) (g old : Int) (y2 : Option Nat) : Prop := (old < 0 ∧ y2 = none) ∨ ∃ (k : Int) (y : Nat), old = 8 * g + k ∧ (0 ≤ k ∧ k < P 2334 g) ∧ y2 = some y ∧ R (grO g + 1) k = some y
def okC (T : Int) (c : Ch) : Prop := (0 ≤ c.1 ∧ c.1 ≤ 2) ∧ (0 ≤ c.2.1 ∧ c.2.1 ≤ 47) ∧ (0 ≤ c.2.2.1 ∧ c.2.2.1 ≤ T + 200) ∧ (0 ≤ c.2.2.2.1 ∧ c.2.2.2.1 ≤ 255)
section XBNJ
variable {fb : Bool} {d n a0 y ga : Nat} {σ0 σ : hM} {W W0 W1 W2 W3 W5 V P P0 Q Q0 Q3 : qR} {R R0 R1 R2 R3 R5 : rR} {i j k z v s e w f g u p pt pa dr sv K T U t N C F v1 st b0 fs T0 old fr mk : Int} {x : Nw} {ns A B L nws : List Nw} {y1 y2 : Option Nat} {c1 c2 ch : Ch} {h h2 : List Ch} {b a c : Bool}
theorem okC.nw (h : okC T ch) (hm : mk = 0 ∨ mk = 1) : nwK T (chN ch mk) := ⟨h.1, h.2.1, h.2.2.1, h.2.2.2, by show 0 ≤ mk ∧ mk ≤ 1; omega⟩
theorem okC.mono (h : okC T ch) (hT : T ≤ T0) : okC T0 ch := ⟨h.1, h.2.1, ⟨h.2.2.1.1, by have := h.2.2.1.2; omega⟩, h.2.2.2⟩
theorem okC.chR (h : okC T ch) (hp : ch.2.2.2.2 < 64) : chR ch := ⟨⟨h.1.1, by have := h.1.2; omega⟩, h.2.1, hp⟩
theorem nwL_ok : ∀ (r : List Ch) (j : Int), (∀ c ∈ r, okC T c) → ∀ x ∈ nwL P fr mk r j, nwK T x
  | [], _, _, x, hx => absurd hx List.not_mem_nil
  | c :: r, j, h, x, hx => by
    rcases List.mem_cons.mp hx with q | q
    · rw [q]
      exact (h c List.mem_cons_self).nw (by split <;> decide)
    · exact nwL_ok r (j + 1) (fun c hc => h c (List.mem_cons_of_mem _ hc)) x q
theorem nwL_kf (hk : KF Q P) : ∀ (r : List Ch) (j : Int), nwL Q fr mk r j = nwL P fr mk r j
  | [], _ => rfl
  | c :: r, j => by
    show chN c (if mk = 1 ∨ ¬ Q 2342 (6 * fr + j) = 0 then 1 else 0) :: nwL Q fr mk r (j + 1) = chN c (if mk = 1 ∨ ¬ P 2342 (6 * fr + j) = 0 then 1 else 0) :: nwL P fr mk r (j + 1)
    rw [nwL_kf hk r (j + 1), nsR_kf hk 2342 _ rfl]
theorem kCps_ok (hI : IV false T U P0) (hfr : 0 ≤ fr ∧ fr < 64) : ∀ (m : Nat) (j : Int) (Q : qR) (h : List Ch), KF Q P0 → 0 ≤ j → j + m ≤ 6 → (∀ c ∈ h, okC T c) → ∀ c ∈ (kCps fr m j Q h).2.2, okC T c
  | 0, _, _, h, _, _, _, hh => hh
  | m + 1, j, Q, h, hk, h0, h1, hh => by
    unfold kCps
    split
    · exact hh
    · rename_i q
      refine kCps_ok hI hfr m (j + 1) _ _ (KF_tr KF_cp hk) (by omega) (by omega) (fun c hc => ?_)
      rcases List.mem_append.mp hc with q2 | q2
      · exact hh c q2
      · rw [List.mem_singleton.mp q2]
        have hr := (kCpE_rng (P := Q) (s := Q 2338 (6 * fr + j)) (f := Q 2339 (6 * fr + j))).1
        have hg : 0 ≤ qNewF Q (Q 2338 (6 * fr + j)) := by
          by_cases q3 : qNewF Q (Q 2338 (6 * fr + j)) < 0
          · exact absurd (show 0 < kCpE Q (Q 2338 (6 * fr + j)) (Q 2339 (6 * fr + j)) by
              unfold kCpE
              rw [if_pos q3]
              decide) q
          · omega
        have hg2 : qNewF Q (Q 2338 (6 * fr + j)) = -1 ∨ (0 ≤ qNewF Q (Q 2338 (6 * fr + j)) ∧ qNewF Q (Q 2338 (6 * fr + j)) ≤ 47) := qNewF_rng
        have hg3 : qNewF Q (Q 2338 (6 * fr + j)) ≤ 47 := by omega
        refine ⟨?_, ⟨hg, hg3⟩, ?_, ?_⟩
        · show 0 ≤ Q 2338 (6 * fr + j) ∧ Q 2338 (6 * fr + j) ≤ 2
          rw [nsR_kf hk 2338 _ rfl]
          exact IV.a hI 2338 0 384 rfl rfl rfl (by omega) (by omega)
        · show 0 ≤ Q 2340 (6 * fr + j) ∧ Q 2340 (6 * fr + j) ≤ T + 200
          rw [nsR_kf hk 2340 _ rfl]
          exact IV.a hI 2340 0 384 rfl rfl rfl (by omega) (by omega)
        · show 0 ≤ Q 2341 (6 * fr + j) ∧ Q 2341 (6 * fr + j) ≤ 255
          rw [nsR_kf hk 2341 _ rfl]
          exact IV.a hI 2341 0 384 rfl rfl rfl (by omega) (by omega)
theorem bfV_01 : bfV b = 0 ∨ bfV b = 1 := by cases b <;> decide
theorem bhV_01 : (bhV b a = 0 ∨ bhV b a = 1) ∧ ¬ (bfV b = 1 ∧ bhV b a = 1) ∧ ((bfV b = 1 ∨ bhV b a = 1) ↔ beV b a = 1) ∧ (fV b a false = 0 ↔ beV b a = 0) ∧ (fV false false c = 0 ↔ bfV c = 0) := by
  cases b <;> cases a <;> cases c <;> decide
theorem PT2.eqv (h : PT2 R P g old y2) (hR : ∀ k : Int, R2 (grO g + 1) k = R (grO g + 1) k) (hQ : Q 2334 g = P 2334 g) : PT2 R2 Q g old y2 := by
  rcases h with h | ⟨k, y, h1, h2, h3, h4⟩
  · exact Or.inl h
  · exact Or.inr ⟨k, y, h1, by rw [hQ]; exact h2, h3, (hR k).trans h4⟩
theorem pl_140 (hP : PX σ0 W R σ) (hX : XW K T U W R Q) (hg : 0 ≤ g ∧ g < 8) (hT : T + 200 ≤ 2147483000) (h2 : TWO W c2) (hr2 : chR c2) (hx2 : okC T c2) (hCP : CPS W nws) (hnw : nws = news Q fr mk h) (hx : ∀ x ∈ nws, nwK T x) (hn1 : 1 ≤ nws.length) (hlen : (jnL Q h c2 old fr (bfV b) (bhV b a) mk).length ≤ 6) (hy : PT2 R Q g old y2) (hnew : old < 0 → Q 2334 g < 8) (hF1 : and32 F 1 = bfV b) : WP fb (d + 10) 174 140 [some (vR (some 2175)), some (vR (some (grO g))), some (vI F), some (vR y2), some (vR y1), some (vI (beV b a)), some (vI 0), none, none, none] [] σ (XCM σ0 K (T + 28) U W R (0, plcF Q g old fr mk h c2 b a, [])) := by
  rcases hy with ⟨ho, rfl⟩ | ⟨k, y, rfl, hk, rfl, hy⟩
  · exact pl_140n hP hX hg hT h2 hr2 (hx2.nw (Or.inl rfl)) hCP hnw hx hn1 hlen ho (hnew ho) hF1
  · exact pl_140o hP hX hg hT h2 hr2 (hx2.nw (Or.inl rfl)) hCP hnw hx hn1 hlen hk hy hF1
/-- at an error both channels go -/
theorem pl_96 (hP : PX σ0 W R σ) (hX : XW K T U W R Q) (hg : 0 ≤ g ∧ g < 8) (hT : T + 200 ≤ 2147483000) (h1 : CHX W R 2178 c1) (r1 : chR c1) (h2 : CHX W R 2179 c2) (r2 : chR c2) : WP fb (d + 10) 174 96 [some (vR (some 2175)), some (vR (some (grO g))), some (vI F), some (vR y2), some (vR y1), some (vI b0), some (vI e), none, none, none] [] σ (XCM σ0 K (T + 8) U W R (e, kDrop (kDrop Q c2) c1, [])) := by
  have hgo3 := grO_o hg
  have hck2 := x_clunkC (fb := fb) (d := d + 1) hP hX (by omega) two_o h2 r2
  have hck1 := fun (σ : hM) (V : qR) (V4 : rR) (hP : PX σ0 V V4 σ) (hX2 : XW K (T + 4) U V V4 (kDrop Q c2)) (hA : FA W V R V4) => x_clunkC (fb := fb) (d := d + 1) hP hX2 (by omega) one_o (h1.fa hA (by decide) (by decide) r1.2.2) r1
  obtain ⟨e2, he2⟩ : ∃ q, tE Q c2.1 (mOne 120 c2.2.1) = q := ⟨_, rfl⟩
  obtain ⟨e1, he1⟩ : ∃ q, tE (kDrop Q c2) c1.1 (mOne 120 c1.2.1) = q := ⟨_, rfl⟩
  rw [he2] at hck2
  simp only [he1] at hck1
  obtain ⟨Q2, hQ2⟩ : ∃ q, kDrop Q c2 = q := ⟨_, rfl⟩
  simp only [hQ2] at hck1 hck2 ⊢
  obtain ⟨Q1, hQ1⟩ : ∃ q, kDrop Q2 c1 = q := ⟨_, rfl⟩
  simp only [hQ1] at hck1 ⊢
  obtain ⟨ga, hga⟩ : ∃ q, grO g = q := ⟨_, rfl⟩
  simp only [hga] at hgo3 ⊢
  refine x_lr (z := some 2175) T_174_96 rfl ?_
  refine x_gR (z := some 129) T_174_97 F_14_0 (hP.o xo_2175) (hP.rc xo_2175 rfl rfl) ?_
  refine x_lr (z := some 2175) T_174_100 rfl ?_
  refine x_gR (z := some 2179) T_174_101 F_14_3 (hP.o xo_2175) (hP.rc xo_2175 rfl rfl) ?_
  refine x_cv2 T_174_104 mN_132 mL_132 (Nat.le_of_ble_eq_true rfl) mO_132 (hP.o xo_129) (Nat.le_of_ble_eq_true rfl) (hck2) ?_
  clear hP hck2
  rintro _ σ ⟨rfl, V, V4, hP, hX2, hA⟩
  have hck1 := hck1 σ V V4 hP hX2 hA
  refine cI ?_
  refine x_popI T_174_107 ?_
  refine x_lr (z := some 2175) T_174_108 rfl ?_
  refine x_gR (z := some 129) T_174_109 F_14_0 (hP.o xo_2175) (hP.rc xo_2175 rfl rfl) ?_
  refine x_lr (z := some 2175) T_174_112 rfl ?_
  refine x_gR (z := some 2178) T_174_113 F_14_2 (hP.o xo_2175) (hP.rc xo_2175 rfl rfl) ?_
  refine x_cv2 T_174_116 mN_132 mL_132 (Nat.le_of_ble_eq_true rfl) mO_132 (hP.o xo_129) (Nat.le_of_ble_eq_true rfl) (hck1) ?_
  clear hP hck1
  rintro _ σ ⟨rfl, V5, V6, hP, hX3, hA3⟩
  refine cI ?_
  refine x_popI T_174_119 ?_
  refine x_li (z := e) T_174_120 rfl ?_
  refine x_ri T_174_122 ?_
  exact ⟨rfl, V5, V6, hP, XW.mono hX3 (by omega), FCM_fa (FA_tr hA hA3)⟩
end XBNJ
