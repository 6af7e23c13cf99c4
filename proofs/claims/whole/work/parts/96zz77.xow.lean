/-! The class's servers: a message to one server leaves the others. -/
def ownN (f : Nat) : Bool := [2289, 2290, 2291, 2292, 2293, 2294, 2295, 2296, 2297, 2299].elem f
def ownF (f : Nat) : Bool := [2304, 2305, 2306, 2307, 2308, 2309, 2310, 2311, 2312].elem f
def ownT (f : Nat) : Bool := [2301, 2302, 2303].elem f
/-- a place of a server's rows -/
def ownR (s : Int) (f : Nat) (k : Int) : Prop := (ownN f = true ∧ 64 * s ≤ k ∧ k < 64 * s + 64) ∨ (f = 2298 ∧ 768 * s ≤ k ∧ k < 768 * s + 768) ∨ (f = 2300 ∧ 38400 * s ≤ k ∧ k < 38400 * s + 38400) ∨ (ownT f = true ∧ k = s) ∨ (ownF f = true ∧ 96 * s ≤ k ∧ k < 96 * s + 96) ∨ (f = 2313 ∧ 2 * s ≤ k ∧ k < 2 * s + 2) ∨ (s = 2 ∧ (f = 2314 ∨ f = 2315 ∨ f = 2321 ∨ (f = 2281 ∧ (k = 39 ∨ k = 41))))
/-- all other places are as they were -/
def OW (s : Int) (Q P : qR) : Prop := ∀ (f : Nat) (k : Int), ¬ ownR s f k → Q f k = P f k
section XOW
variable {S a b : Nat} {W W1 W2 P Q Q1 Q2 : qR} {R R1 R2 : rR} {i j k x z v s e w f u n p g T U c r2 : Int} {l nm ord : List Int} {t : Nat → Nat}
theorem OW_rfl : OW s P P := fun _ _ _ => rfl
theorem OW_tr (h1 : OW s Q1 Q) (h2 : OW s Q P) : OW s Q1 P := fun f k q => (h1 f k q).trans (h2 f k q)
theorem OW_up {g : Nat} {j v : Int} (h : OW s Q P) (hg : ownR s g j) : OW s (rU Q g j v) P := fun f k q => (if_neg (fun e => q (by rw [e.1, e.2]; exact hg))).trans (h f k q)
theorem OW_wr {g : Nat} {o : Int} {l : List Int} (h : OW s Q P) (hg : ∀ k, o ≤ k → k < o + l.length → ownR s g k) : OW s (rW Q g o l) P := fun f k q => by
  by_cases e : f = g
  · by_cases e2 : o ≤ k ∧ k < o + l.length
    · exact absurd (by rw [e]; exact hg k e2.1 e2.2) q
    · rw [e, rW_o (by omega), ← e]
      exact h f k q
  · rw [rW_f e]
    exact h f k q
theorem OW_if {p : Prop} [Decidable p] (h1 : p → OW s Q1 P) (h2 : ¬ p → OW s Q2 P) : OW s (if p then Q1 else Q2) P := by
  split
  · exact h1 ‹_›
  · exact h2 ‹_›
theorem ownR_n {f : Nat} (h : ownN f = true) (hn : 0 ≤ n ∧ n < 64) : ownR s f (64 * s + n) := Or.inl ⟨h, by omega, by omega⟩
theorem ownR_f {f : Nat} (h : ownF f = true) (hk : 96 * s ≤ k ∧ k < 96 * s + 96) : ownR s f k := Or.inr (Or.inr (Or.inr (Or.inr (Or.inl ⟨h, hk⟩))))
theorem ownR_t {f : Nat} (h : ownT f = true) : ownR s f s := Or.inr (Or.inr (Or.inr (Or.inl ⟨h, rfl⟩)))
theorem ownR_m (hk : 768 * s ≤ k ∧ k < 768 * s + 768) : ownR s 2298 k := Or.inr (Or.inl ⟨rfl, hk⟩)
theorem ownR_b (hk : 38400 * s ≤ k ∧ k < 38400 * s + 38400) : ownR s 2300 k := Or.inr (Or.inr (Or.inl ⟨rfl, hk⟩))
theorem ownR_s (hk : 2 * s ≤ k ∧ k < 2 * s + 2) : ownR s 2313 k := Or.inr (Or.inr (Or.inr (Or.inr (Or.inr (Or.inl ⟨rfl, hk⟩)))))
theorem OW_gGrow (hn : 0 ≤ n ∧ n < 64) : OW s (gGrow P s n u) P := OW_up (OW_up OW_rfl (ownR_n rfl hn)) (ownR_n rfl hn)
theorem OW_gGone : OW s (gGone P (96 * s) (96 * s + 96) n) P := fun f k q => by
  by_cases e : f = 2310
  · by_cases e2 : 96 * s ≤ k ∧ k < 96 * s + 96
    · exact absurd (by rw [e]; exact ownR_f rfl e2) q
    · exact gGone_o (by omega)
  · exact gGone_f e
theorem OW_gRem (hn : 0 ≤ n ∧ n < 64) (ha : 0 ≤ P 2290 (64 * s + n) ∧ P 2290 (64 * s + n) < 64) : OW s (gRem P s n u) P := OW_tr OW_gGone (OW_tr (OW_gGrow ha) (OW_up (OW_up (OW_up (OW_up OW_rfl (ownR_n rfl hn)) (ownR_t rfl)) (ownR_t rfl)) (ownR_n rfl hn)))
theorem OW_gSize (hn : 0 ≤ n ∧ n < 64) (hl : 0 ≤ P 2297 (64 * s + n)) (hz : z ≤ 600) : OW s (gSize P s n z) P := by
  refine OW_up (OW_up ?_ (ownR_t rfl)) (ownR_n rfl hn)
  intro f k q
  unfold gZer
  exact if_neg (fun e => q (by rw [e.1]; exact ownR_b (by omega)))
theorem OW_gName (hn : 0 ≤ n ∧ n < 64) (hl : nm.length ≤ 12) : OW s (gName P s n nm) P := OW_up (OW_wr OW_rfl (fun k k0 k1 => ownR_m (by omega))) (ownR_n rfl hn)
theorem OW_gMake (hk : 96 * s ≤ k ∧ k < 96 * s + 96) : OW s (gMake P k v n u) P := OW_up (OW_up (OW_up (OW_up (OW_up (OW_up (OW_up (OW_up (OW_up OW_rfl (ownR_f rfl hk)) (ownR_f rfl hk)) (ownR_f rfl hk)) (ownR_f rfl hk)) (ownR_f rfl hk)) (ownR_f rfl hk)) (ownR_f rfl hk)) (ownR_f rfl hk)) (ownR_f rfl hk)
theorem OW_gOpen {m : Int} (hk : 96 * s ≤ k ∧ k < 96 * s + 96) : OW s (gOpen P k m) P := OW_up (OW_up (OW_up OW_rfl (ownR_f rfl hk)) (ownR_f rfl hk)) (ownR_f rfl hk)
theorem OW_gEnt {off cnt : Int} {r : Int × Int × List Int} (hk : 96 * s ≤ k ∧ k < 96 * s + 96) : OW s (gEnt P k off cnt r) P := OW_up (OW_up OW_rfl (ownR_f rfl hk)) (ownR_f rfl hk)
theorem above_rng (hI : IV false T U P) (hs : 0 ≤ s ∧ s < 2) (hn : 0 ≤ n ∧ n < 64) : 0 ≤ P 2290 (64 * s + n) ∧ P 2290 (64 * s + n) < 64 := by
  have : 0 ≤ P 2290 (64 * s + n) ∧ P 2290 (64 * s + n) ≤ 63 := IV.a hI 2290 0 128 rfl rfl rfl (by omega) (by omega)
  omega
theorem len_rng (hI : IV false T U P) (hs : 0 ≤ s ∧ s < 2) (hn : 0 ≤ n ∧ n < 64) : 0 ≤ P 2297 (64 * s + n) ∧ P 2297 (64 * s + n) ≤ 600 := IV.a hI 2297 0 128 rfl rfl rfl (by omega) (by omega)
theorem OW_gClunk (hG : GI T U P) (hs : 0 ≤ s ∧ s < 3) (hk : 96 * s ≤ k ∧ k < 96 * s + 96) : OW s (gClunk P s k) P := by
  refine OW_up (OW_if (fun q => ?_) (fun _ => OW_rfl)) (ownR_f rfl hk)
  have hr := qRem_0 q.2
  obtain ⟨n1, n2⟩ := fid_node hG hs hk
  have hs2 : s < 2 := by omega
  have hn : 0 ≤ P 2306 k ∧ P 2306 k < 64 := ⟨n1.2.2.1, n1.2.2.2.2 hs2⟩
  exact OW_gRem hn (above_rng hG.iv ⟨hs.1, hs2⟩ hn)
theorem OW_clA (hs : 0 ≤ s ∧ s < 3) (hc : c = 0 ∨ c = 1) : ∀ (m : Nat) (T : Int) (P : qR), GI T U P → OW s (clA P s c m) P := fun m => by
  induction m with
  | zero => intro T P _; exact OW_rfl
  | succ m ih =>
    intro T P hG
    show OW s (if qLeast P s c < 0 then P else clA (gClunk P s (qLeast P s c)) s c m) P
    refine OW_if (fun _ => OW_rfl) (fun q => ?_)
    have hr := lsF_rng (P := P) (lo := 48 * (2 * s + c)) 48 (48 * (2 * s + c)) (-1) (by omega) (by omega) (Or.inl rfl)
    have q2 : ¬ lsF P 48 (48 * (2 * s + c)) (-1) < 0 := q
    have hk : 96 * s ≤ qLeast P s c ∧ qLeast P s c < 96 * s + 96 := by
      have e : lsF P 48 (48 * (2 * s + c)) (-1) = qLeast P s c := rfl
      rw [e] at hr q2
      omega
    have hf : ¬ P 2304 (qLeast P s c) = 0 := by
      rcases hr with hr | hr
      · exfalso
        omega
      · exact hr.2.2
    exact OW_tr (ih (T + 1) _ (GI_gClunk hG hs hk hf)) (OW_gClunk hG hs hk)
theorem OW_gIn (hs : s = 2) : OW s (gIn P n) P := by
  unfold gIn
  refine OW_tr (Q := rU P 2281 39 (P 2281 39 - n)) ?_ (OW_up OW_rfl (Or.inr (Or.inr (Or.inr (Or.inr (Or.inr (Or.inr ⟨hs, Or.inr (Or.inr (Or.inr ⟨rfl, Or.inl rfl⟩))⟩)))))))
  intro f k q
  unfold gSh
  rw [if_neg (fun e => q (by rw [e.1]; exact Or.inr (Or.inr (Or.inr (Or.inr (Or.inr (Or.inr ⟨hs, Or.inl rfl⟩)))))))]
theorem OW_gCon {F : Int → Int} {o : Int} (hs : s = 2) : ∀ m : Nat, OW s (gCon P F o m) P
  | 0 => OW_rfl
  | m + 1 => by
    show OW s (if _ then _ else _) P
    exact OW_if (fun _ => OW_up (OW_up (OW_gCon hs m) (Or.inr (Or.inr (Or.inr (Or.inr (Or.inr (Or.inr ⟨hs, Or.inr (Or.inl rfl)⟩))))))) (Or.inr (Or.inr (Or.inr (Or.inr (Or.inr (Or.inr ⟨hs, Or.inr (Or.inr (Or.inr ⟨rfl, Or.inr rfl⟩))⟩))))))) (fun _ => OW_gCon hs m)
theorem OW_gWr {b : Int} (hI : IV false T U P) (hs : 0 ≤ s ∧ s < 2) (hn : 0 ≤ n ∧ n < 64) (hb : 0 ≤ b ∧ b + l.length ≤ 600) : OW s (gWr P s n u b l) P := by
  have hl := len_rng hI hs hn
  exact OW_if (fun _ => OW_tr (OW_gGrow hn) (OW_wr (OW_if (fun _ => OW_gSize hn hl.1 hb.2) (fun _ => OW_rfl)) (fun k k0 k1 => ownR_b (by omega)))) (fun _ => OW_rfl)
theorem OW_gChg {md ln y : Int} (hI : IV false T U P) (hs : 0 ≤ s ∧ s < 2) (hn : 0 ≤ n ∧ n < 64) (hz : ¬ ln = -1 → ln ≤ 600) (hy : 0 < y → nm.length ≤ 12) : OW s (gChg P s n u md ln y nm) P := by
  have hl := len_rng hI hs hn
  have e1 : OW s (gCh1 P s n y nm) P := OW_if (fun q => OW_gName hn (hy q)) (fun _ => OW_rfl)
  have el : gCh1 P s n y nm 2297 (64 * s + n) = P 2297 (64 * s + n) := by
    unfold gCh1
    split
    · exact gName_f (by decide) (by decide)
    · rfl
  have e2 : OW s (gCh2 (gCh1 P s n y nm) s n ln) (gCh1 P s n y nm) := OW_if (fun q => OW_up (OW_gSize hn (by rw [el]; exact hl.1) (hz q)) (ownR_n rfl hn)) (fun _ => OW_rfl)
  have e3 : OW s (gCh3 (gCh2 (gCh1 P s n y nm) s n ln) s n md) (gCh2 (gCh1 P s n y nm) s n ln) := OW_if (fun _ => OW_up OW_rfl (ownR_n rfl hn)) (fun _ => OW_rfl)
  exact OW_up (OW_tr e3 (OW_tr e2 e1)) (ownR_n rfl hn)
theorem OW_gCre {m into nn : Int} (hk : 96 * s ≤ k ∧ k < 96 * s + 96) (hn : 0 ≤ nn ∧ nn < 64) (hi : 0 ≤ into ∧ into < 64) (hz : nm.length ≤ 12) : OW s (gCre P s k p m into nn u nm) P := by
  unfold gCre
  refine OW_tr (OW_gOpen hk) (OW_up (OW_up (OW_tr (OW_gGrow hi) (OW_up (OW_tr (OW_gName hn hz) ?_) (ownR_t rfl))) (ownR_f rfl hk)) (ownR_f rfl hk))
  exact OW_up (OW_up (OW_up (OW_up (OW_up (OW_up (OW_up (OW_up (OW_up (OW_up OW_rfl (ownR_n rfl hn)) (ownR_n rfl hn)) (ownR_t rfl)) (ownR_n rfl hn)) (ownR_n rfl hn)) (ownR_n rfl hn)) (ownR_n rfl hn)) (ownR_n rfl hn)) (ownR_n rfl hn)) (ownR_n rfl hn)
theorem OW_srP {t z : Int} {a : Int → Int} (h : GI T U P) (hs : 0 ≤ s ∧ s < 3) (hc : 0 ≤ c ∧ c < 2) (hb : ∀ j, 0 ≤ j → j < z → 0 ≤ a j ∧ a j ≤ 255) (hz : 7 ≤ z) : OW s (srP P s c t a z) P := by
  have hin : ∀ v, 0 ≤ qFid P s c v → 96 * s ≤ qFid P s c v ∧ qFid P s c v < 96 * s + 96 := fun v q => by
    have e4 := qFid_in hs hc q
    omega
  unfold srP
  by_cases t1 : t = 100
  · rw [if_pos t1]
    refine OW_if (fun e => ?_) (fun _ => OW_rfl)
    exact OW_up (OW_clA hs (by omega) 48 T P h) (ownR_s (by omega))
  rw [if_neg t1]
  by_cases t2 : t = 104
  · rw [if_pos t2]
    refine OW_if (fun e => ?_) (fun _ => OW_rfl)
    obtain ⟨e1, e2⟩ := atE_0 e
    have e3 := qFree_in hs hc e1
    exact OW_gMake (by omega)
  rw [if_neg t2]
  by_cases t3 : t = 108
  · rw [if_pos t3]
    exact OW_rfl
  rw [if_neg t3]
  by_cases t4 : t = 110
  · rw [if_pos t4]
    refine OW_if (fun e => ?_) (fun _ => OW_rfl)
    obtain ⟨e0, e1, e2, e3⟩ := wlE_0 e
    have e4 := qFid_in hs hc e1
    refine OW_if (fun _ => ?_) (fun _ => OW_rfl)
    have e5 : 48 * (2 * s + c) ≤ wlT P s c a ∧ wlT P s c a < 48 * (2 * s + c) + 48 := by
      unfold wlT at e2 ⊢
      split
      · omega
      · rename_i q
        rw [if_neg q] at e2
        exact qFree_in hs hc e2
    exact OW_gMake (by omega)
  rw [if_neg t4]
  by_cases t5 : t = 112
  · rw [if_pos t5]
    refine OW_if (fun e => ?_) (fun _ => OW_rfl)
    obtain ⟨e0, e1, e2, e3⟩ := opE_0 e
    have hk := hin _ e1
    refine OW_tr (OW_gOpen hk) (OW_if (fun q => ?_) (fun _ => OW_rfl))
    obtain ⟨n1, n2⟩ := fid_node h hs hk
    have hn : 0 ≤ P 2306 (qFid P s c (nu a 7 4)) ∧ P 2306 (qFid P s c (nu a 7 4)) < 64 := ⟨n1.2.2.1, n1.2.2.2.2 q.2.1⟩
    exact OW_tr (OW_gGrow hn) (OW_gSize hn (len_rng h.iv ⟨hs.1, q.2.1⟩ hn).1 (by decide))
  rw [if_neg t5]
  by_cases t6 : t = 114
  · rw [if_pos t6]
    refine OW_if (fun e => ?_) (fun _ => OW_rfl)
    have q := cr_z e
    have e0 : qCre P s (qFid P s c (nu a 7 4)) (nu a (sE a z 11) 4) (nu a (sE a z 11 + 4) 1) (seg a 13 (nu a 11 2).toNat) = 0 := by
      unfold crE at e
      rw [if_neg (fun g => g q)] at e
      exact e
    rcases qCre_v P s (qFid P s c (nu a 7 4)) (nu a (sE a z 11) 4) (nu a (sE a z 11 + 4) 1) (seg a 13 (nu a 11 2).toNat) with g | g
    · obtain ⟨-, g1, g2, g3, g4, g5, g6, g7, g8, g9⟩ := g
      have hk := hin _ g1
      have hs2 : s < 2 := by omega
      have hnw := qNew_ok h.1.1 ⟨hs.1, hs2⟩ (h.2.1.1 s hs.1 hs2).1 g9
      obtain ⟨n1, n2⟩ := fid_node h hs hk
      exact OW_gCre hk (by omega) ⟨n1.2.2.1, n1.2.2.2.2 hs2⟩ (nmOk_no g6).2.2
    · omega
  rw [if_neg t6]
  by_cases t7 : t = 116
  · rw [if_pos t7]
    refine OW_if (fun e => ?_) (fun _ => OW_rfl)
    have e0 := rd_z e
    have e1 : rdX P s (qFid P s c (nu a 7 4)) (w64 (nu a 11 8)) (nu a 19 4) (P 2313 (2 * s + c) - 11) = 0 := by
      unfold rdErr at e
      rw [if_neg (fun g => g e0)] at e
      exact e
    obtain ⟨g1, g2, g3⟩ := rdX_0 e1
    exact OW_if (fun _ => OW_gEnt (hin _ g1)) (fun _ => OW_if (fun _ => OW_rfl) (fun q => OW_if (fun _ => OW_gIn (by omega)) (fun _ => OW_rfl)))
  rw [if_neg t7]
  by_cases t8 : t = 118
  · rw [if_pos t8]
    refine OW_if (fun e => ?_) (fun _ => OW_rfl)
    have e0 := wr_z e
    have e1 : wrX P s (qFid P s c (nu a 7 4)) (w64 (nu a 11 8)) (z - 23) a = 0 := by
      unfold wrErr at e
      split at e
      · omega
      · exact e
    obtain ⟨g1, g2, g3⟩ := wrX_0 e1
    have hk := hin _ g1
    obtain ⟨n1, n2⟩ := fid_node h hs hk
    refine OW_if (fun hs2 => ?_) (fun hs2 => OW_if (fun _ => OW_gCon (by omega) _) (fun _ => OW_up OW_rfl (Or.inr (Or.inr (Or.inr (Or.inr (Or.inr (Or.inr ⟨by omega, Or.inr (Or.inr (Or.inl rfl))⟩))))))))
    have hn : 0 ≤ P 2306 (qFid P s c (nu a 7 4)) ∧ P 2306 (qFid P s c (nu a 7 4)) < 64 := ⟨n1.2.2.1, n1.2.2.2.2 hs2⟩
    have hq := g3 hs2
    have hl := len_rng h.iv ⟨hs.1, hs2⟩ hn
    have h6 : 0 ≤ (if and32 (P 2293 (64 * s + P 2306 (qFid P s c (nu a 7 4)))) 1073741824 = 0 then w64 (nu a 11 8) else P 2297 (64 * s + P 2306 (qFid P s c (nu a 7 4)))) ∧ (if and32 (P 2293 (64 * s + P 2306 (qFid P s c (nu a 7 4)))) 1073741824 = 0 then w64 (nu a 11 8) else P 2297 (64 * s + P 2306 (qFid P s c (nu a 7 4)))) + (z - 23) ≤ 600 := by
      rcases qWr_v P s (P 2306 (qFid P s c (nu a 7 4))) (w64 (nu a 11 8)) (z - 23) with v | v
      · refine ⟨?_, v.2.2.2⟩
        have v1 := v.2.1
        split
        · rename_i c1
          rw [if_pos c1] at v1
          exact v1
        · exact hl.1
      · omega
    exact OW_gWr h.iv ⟨hs.1, hs2⟩ hn ⟨h6.1, by rw [seg_len]; have := h6.2; omega⟩
  rw [if_neg t8]
  by_cases t9 : t = 120 ∨ t = 122 ∨ t = 124
  · rw [if_pos t9]
    refine OW_if (fun e => ?_) (fun _ => OW_rfl)
    refine OW_if (fun _ => OW_rfl) (fun q => ?_)
    have hk := hin (nu a 7 4) (by omega)
    refine OW_if (fun _ => OW_gClunk h hs hk) (fun _ => OW_if (fun t10 => ?_) (fun _ => OW_rfl))
    refine OW_if (fun e => ?_) (fun _ => OW_up OW_rfl (ownR_f rfl hk))
    have e1 : P 2310 (qFid P s c (nu a 7 4)) = 0 ∧ qRem (rU P 2304 (qFid P s c (nu a 7 4)) 0) s (P 2306 (qFid P s c (nu a 7 4))) (P 2308 (qFid P s c (nu a 7 4))) = 0 := by
      unfold onE at e
      (repeat' split at e) <;> first | (exfalso; omega) | exact ⟨by omega, e⟩
    have hr := qRem_0 e1.2
    obtain ⟨n1, n2⟩ := fid_node h hs hk
    have hs2 : s < 2 := by omega
    have hn : 0 ≤ P 2306 (qFid P s c (nu a 7 4)) ∧ P 2306 (qFid P s c (nu a 7 4)) < 64 := ⟨n1.2.2.1, n1.2.2.2.2 hs2⟩
    exact OW_tr (OW_gRem hn (by rw [rU_f (by decide)]; exact above_rng h.iv ⟨hs.1, hs2⟩ hn)) (OW_up OW_rfl (ownR_f rfl hk))
  rw [if_neg t9]
  by_cases t11 : t = 126
  · rw [if_pos t11]
    refine OW_if (fun e => ?_) (fun _ => OW_rfl)
    obtain ⟨e0, e5⟩ := ws_z e
    have e1 : wsX P s (qFid P s c (nu a 7 4)) (wsO a) ((wsY a z 1).2 + (wsY a z 2).2 + (wsY a z 3).2) (wsY a z 0).2 (nu a 34 4) (w64 (nu a 46 8)) (wsN a z) = 0 := by
      unfold wsE at e
      split at e
      · omega
      · exact e
    obtain ⟨g1, g2, g3⟩ := wsX_0 e1
    have hk := hin _ g1
    obtain ⟨n1, n2⟩ := fid_node h hs hk
    refine OW_if (fun q => ?_) (fun _ => OW_rfl)
    have g4 := g3 q.1
    rw [qChg_chain] at g4
    have hn : 0 ≤ P 2306 (qFid P s c (nu a 7 4)) ∧ P 2306 (qFid P s c (nu a 7 4)) < 64 := ⟨n1.2.2.1, n1.2.2.2.2 q.1⟩
    refine OW_gChg h.iv ⟨hs.1, q.1⟩ hn (fun c1 => ?_) (fun c1 => ?_)
    · by_cases c2 : ¬ nrE P s (P 2306 (qFid P s c (nu a 7 4))) (P 2308 (qFid P s c (nu a 7 4))) (wsY a z 0).2 (wsN a z) = 0
      · rw [if_pos c2] at g4
        exact absurd g4 c2
      rw [if_neg c2] at g4
      by_cases c3 : ¬ w64 (nu a 46 8) = -1 ∧ ¬ lrE P s (P 2306 (qFid P s c (nu a 7 4))) (P 2308 (qFid P s c (nu a 7 4))) (w64 (nu a 46 8)) = 0
      · rw [if_pos c3] at g4
        exact absurd g4 c3.2
      apply Decidable.byContradiction
      intro c4
      refine c3 ⟨c1, ?_⟩
      unfold lrE
      split
      · decide
      · split
        · decide
        · rw [if_pos (Or.inl (by omega))]
          decide
    · apply Decidable.byContradiction
      intro c2
      have c5 : ¬ nrE P s (P 2306 (qFid P s c (nu a 7 4))) (P 2308 (qFid P s c (nu a 7 4))) (wsY a z 0).2 (wsN a z) = 0 := by
        unfold nrE
        split
        · decide
        · rw [if_pos ⟨c1, fun c => c2 (nmOk_no c).2.2⟩]
          decide
      rw [if_pos c5] at g4
      exact c5 g4
  · rw [if_neg t11]
    exact OW_rfl
theorem OW_srvP {z : Int} {a : Int → Int} (h : GI T U P) (hs : 0 ≤ s ∧ s < 3) (hc : 0 ≤ c ∧ c < 2) (hb : ∀ j, 0 ≤ j → j < z → 0 ≤ a j ∧ a j ≤ 255) : OW s (srvP P s c a z) P := by
  unfold srvP
  refine OW_if (fun _ => OW_rfl) (fun q => OW_if (fun _ => OW_rfl) (fun _ => OW_srP h hs hc hb ?_))
  have q2 := Decidable.not_not.mp q
  exact q2.1
/-- the others' objects stand for what they did -/
theorem XV.ow (h : XV W R P S s ord t) (hS : VS S s) (hQ : OW r2 Q P) (hr : 0 ≤ r2 ∧ r2 < 3) (hne : r2 ≠ s) (hU : ∀ k, Q 2322 k = P 2322 k) (hPr : ∀ k, Q 2320 k = P 2320 k) (h12 : ∀ n, s < 2 → isN P s n → qNs P s n ≤ 12) (h6 : ∀ n, s < 2 → isN P s n → P 2297 (64 * s + n) ≤ 600) : XV W R Q S s ord t := by
  have hsr := hS.1
  have nn : ∀ (f : Nat) (n : Int), 0 ≤ n → n < 64 → ownN f = true → s < 2 → Q f (64 * s + n) = P f (64 * s + n) := fun f n n0 n1 hf _ => hQ f _ (fun c => by
    rcases c with c | c | c | c | c | c | c
    · omega
    · rw [c.1] at hf; exact absurd hf (by decide)
    · rw [c.1] at hf; exact absurd hf (by decide)
    · have : f = 2301 ∨ f = 2302 ∨ f = 2303 := by simpa [ownT, List.elem_eq_mem] using c.1
      rcases this with q | q | q <;> (rw [q] at hf; exact absurd hf (by decide))
    · have : ownF f = true := c.1
      have h2 : f ∈ ([2304, 2305, 2306, 2307, 2308, 2309, 2310, 2311, 2312] : List Nat) := List.elem_iff.mp this
      simp only [List.mem_cons, List.not_mem_nil, or_false] at h2
      rcases h2 with q | q | q | q | q | q | q | q | q <;> (rw [q] at hf; exact absurd hf (by decide))
    · rw [c.1] at hf; exact absurd hf (by decide)
    · rcases c.2 with q | q | q | q
      · rw [q] at hf; exact absurd hf (by decide)
      · rw [q] at hf; exact absurd hf (by decide)
      · rw [q] at hf; exact absurd hf (by decide)
      · rw [q.1] at hf; exact absurd hf (by decide))
  have ff : ∀ (f : Nat) (i : Int), 0 ≤ i → i < 96 → fidL.elem f = true → Q f (96 * s + i) = P f (96 * s + i) := fun f i i0 i1 hf => hQ f _ (fun c => by
    rcases c with c | c | c | c | c | c | c
    · have h2 : f ∈ ([2289, 2290, 2291, 2292, 2293, 2294, 2295, 2296, 2297, 2299] : List Nat) := List.elem_iff.mp c.1
      simp only [List.mem_cons, List.not_mem_nil, or_false] at h2
      rcases h2 with q | q | q | q | q | q | q | q | q | q <;> (rw [q] at hf; exact absurd hf (by decide))
    · rw [c.1] at hf; exact absurd hf (by decide)
    · rw [c.1] at hf; exact absurd hf (by decide)
    · have h2 : f ∈ ([2301, 2302, 2303] : List Nat) := List.elem_iff.mp c.1
      simp only [List.mem_cons, List.not_mem_nil, or_false] at h2
      rcases h2 with q | q | q <;> (rw [q] at hf; exact absurd hf (by decide))
    · omega
    · rw [c.1] at hf; exact absurd hf (by decide)
    · rcases c.2 with q | q | q | q
      · rw [q] at hf; exact absurd hf (by decide)
      · rw [q] at hf; exact absurd hf (by decide)
      · rw [q] at hf; exact absurd hf (by decide)
      · rw [q.1] at hf; exact absurd hf (by decide))
  have one : ∀ (f : Nat) (k : Int), f = 2298 ∨ f = 2300 ∨ f = 2313 ∨ f = 2301 ∨ f = 2303 → (f = 2298 → 768 * s ≤ k ∧ k < 768 * s + 768) → (f = 2300 → 38400 * s ≤ k ∧ k < 38400 * s + 38400) → (f = 2313 → 2 * s ≤ k ∧ k < 2 * s + 2) → (f = 2301 ∨ f = 2303 → k = s) → Q f k = P f k := fun f k hf g1 g2 g3 g4 => hQ f _ (fun c => by
    rcases hf with rfl | rfl | rfl | rfl | rfl
    · have := g1 rfl
      rcases c with c | c | c | c | c | c | c
      · exact absurd c.1 (by decide)
      · omega
      · exact absurd c.1 (by decide)
      · exact absurd c.1 (by decide)
      · exact absurd c.1 (by decide)
      · exact absurd c.1 (by decide)
      · rcases c.2 with q | q | q | q
        · exact absurd q (by decide)
        · exact absurd q (by decide)
        · exact absurd q (by decide)
        · exact absurd q.1 (by decide)
    · have := g2 rfl
      rcases c with c | c | c | c | c | c | c
      · exact absurd c.1 (by decide)
      · exact absurd c.1 (by decide)
      · omega
      · exact absurd c.1 (by decide)
      · exact absurd c.1 (by decide)
      · exact absurd c.1 (by decide)
      · rcases c.2 with q | q | q | q
        · exact absurd q (by decide)
        · exact absurd q (by decide)
        · exact absurd q (by decide)
        · exact absurd q.1 (by decide)
    · have := g3 rfl
      rcases c with c | c | c | c | c | c | c
      · exact absurd c.1 (by decide)
      · exact absurd c.1 (by decide)
      · exact absurd c.1 (by decide)
      · exact absurd c.1 (by decide)
      · exact absurd c.1 (by decide)
      · omega
      · rcases c.2 with q | q | q | q
        · exact absurd q (by decide)
        · exact absurd q (by decide)
        · exact absurd q (by decide)
        · exact absurd q.1 (by decide)
    · have := g4 (Or.inl rfl)
      rcases c with c | c | c | c | c | c | c
      · exact absurd c.1 (by decide)
      · exact absurd c.1 (by decide)
      · exact absurd c.1 (by decide)
      · omega
      · exact absurd c.1 (by decide)
      · exact absurd c.1 (by decide)
      · rcases c.2 with q | q | q | q
        · exact absurd q (by decide)
        · exact absurd q (by decide)
        · exact absurd q (by decide)
        · exact absurd q.1 (by decide)
    · have := g4 (Or.inr rfl)
      rcases c with c | c | c | c | c | c | c
      · exact absurd c.1 (by decide)
      · exact absurd c.1 (by decide)
      · exact absurd c.1 (by decide)
      · omega
      · exact absurd c.1 (by decide)
      · exact absurd c.1 (by decide)
      · rcases c.2 with q | q | q | q
        · exact absurd q (by decide)
        · exact absurd q (by decide)
        · exact absurd q (by decide)
        · exact absurd q.1 (by decide))
  have hlive : ∀ m, isN Q s m ↔ isN P s m := fun m => by
    by_cases q : s < 2
    · unfold isN
      constructor
      · rintro (c | c)
        · exact Or.inl ⟨c.1, c.2.1, c.2.2.1, by rw [← nn 2289 m c.2.1 c.2.2.1 rfl q]; exact c.2.2.2⟩
        · omega
      · rintro (c | c)
        · exact Or.inl ⟨c.1, c.2.1, c.2.2.1, by rw [nn 2289 m c.2.1 c.2.2.1 rfl q]; exact c.2.2.2⟩
        · omega
    · unfold isN
      rw [hPr]
      constructor
      · rintro (c | c)
        · omega
        · exact Or.inr c
      · rintro (c | c)
        · omega
        · exact Or.inr c
  have hEN : ∀ m ∈ ord, EN Q P s m := fun m hm => by
    have hl := (h.1.1.1 m).mp hm
    by_cases q : s < 2
    · have hlt := isN_lt q hl
      have := h12 m q hl
      refine EN_tree q (fun f hf => nn f m hlt.1 hlt.2.1 ?_ q) (fun k k0 k1 => one _ _ (Or.inl rfl) (fun _ => by omega) (fun c => absurd c (by decide)) (fun c => absurd c (by decide)) (fun c => absurd c (by decide)))
      have h2 : f ∈ fileL := List.elem_iff.mp hf
      unfold fileL at h2
      simp only [List.mem_cons, List.not_mem_nil, or_false] at h2
      rcases h2 with q | q | q | q | q | q | q | q | q <;> (rw [q]; decide)
    · have e : s = 2 := by omega
      rw [e]
      exact EN_two hU
  obtain ⟨⟨⟨a1, a2, a3, a4⟩, b1, c1, d1, e1⟩, hF, ⟨z1, z2, z3, z4⟩, hDv⟩ := h
  refine ⟨⟨⟨fun n => (a1 n).trans (hlive n).symm, a2, a3, ?_⟩, b1, c1, fun j j0 j1 => (d1 j j0 j1).en (hEN _ (lg_mem j0 j1)), fun j j0 j1 => ?_⟩, fun i i0 i1 => ?_, ?_, fun j j0 j1 => (hDv j j0 j1).pp (fun q => ?_) (fun q i i0 i1 => ?_)⟩
  · rw [List.pairwise_iff_getElem] at a4 ⊢
    intro j k hj hk hjk
    rw [(hEN _ (List.getElem_mem _)).1.2.1, (hEN _ (List.getElem_mem _)).1.2.1]
    exact a4 j k hj hk hjk
  · rw [e1 j j0 j1, (hEN _ (lg_mem j0 j1)).2.2.2]
  · have g := hF i i0 i1
    unfold FDu at g ⊢
    rw [ff 2304 i i0 i1 rfl, ff 2305 i i0 i1 rfl, ff 2308 i i0 i1 rfl, ff 2307 i i0 i1 rfl, ff 2309 i i0 i1 rfl, ff 2311 i i0 i1 rfl, ff 2312 i i0 i1 rfl, ff 2310 i i0 i1 rfl, ff 2306 i i0 i1 rfl]
    exact g
  · unfold SZ
    rw [one 2313 (2 * s) (Or.inr (Or.inr (Or.inl rfl))) (fun c => absurd c (by decide)) (fun c => absurd c (by decide)) (fun _ => by omega) (fun c => absurd c (by decide)), one 2313 (2 * s + 1) (Or.inr (Or.inr (Or.inl rfl))) (fun c => absurd c (by decide)) (fun c => absurd c (by decide)) (fun _ => by omega) (fun c => absurd c (by decide)), one 2301 s (Or.inr (Or.inr (Or.inr (Or.inl rfl)))) (fun c => absurd c (by decide)) (fun c => absurd c (by decide)) (fun c => absurd c (by decide)) (fun _ => rfl), one 2303 s (Or.inr (Or.inr (Or.inr (Or.inr rfl)))) (fun c => absurd c (by decide)) (fun c => absurd c (by decide)) (fun c => absurd c (by decide)) (fun _ => rfl)]
    exact ⟨z1, z2, z3, z4⟩
  · have hlt := isN_lt q ((a1 _).mp (lg_mem j0 j1))
    exact nn 2297 _ hlt.1 hlt.2.1 rfl q
  · have hlt := isN_lt q ((a1 _).mp (lg_mem j0 j1))
    have := h6 _ q ((a1 _).mp (lg_mem j0 j1))
    exact one _ _ (Or.inr (Or.inl rfl)) (fun c => absurd c (by decide)) (fun _ => by omega) (fun c => absurd c (by decide)) (fun c => absurd c (by decide))
end XOW
