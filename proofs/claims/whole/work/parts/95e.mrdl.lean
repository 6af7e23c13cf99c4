/-! Reading on and on: how a read goes, and that reading ends. -/
/-- reads of 100 bytes, one behind the other, till one tells none -/
def kRdl (o : qR → List Int → qR) (s f : Int) : Nat → qR → Int → Int × qR × List Int
  | 0, P, _ => (0, P, [])
  | m + 1, P, off => if 0 < tE P s (mRead f off 100) then (tE P s (mRead f off 100), tP P s (mRead f off 100), []) else if (rdB (tA P s (mRead f off 100))).length = 0 then (0, tP P s (mRead f off 100), []) else ((kRdl o s f m (o (tP P s (mRead f off 100)) (rdB (tA P s (mRead f off 100)))) (off + ((rdB (tA P s (mRead f off 100))).length : Int))).1, (kRdl o s f m (o (tP P s (mRead f off 100)) (rdB (tA P s (mRead f off 100)))) (off + ((rdB (tA P s (mRead f off 100))).length : Int))).2.1, rdB (tA P s (mRead f off 100)) ++ (kRdl o s f m (o (tP P s (mRead f off 100)) (rdB (tA P s (mRead f off 100)))) (off + ((rdB (tA P s (mRead f off 100))).length : Int))).2.2)
/-- how much there is still to read -/
def rdMu (P : qR) (s f off : Int) : Int := if qFid P s 0 f < 0 then 0 else if qMode P s (P 2306 (qFid P s 0 f)) < 0 then 64 - (if off = 0 then 0 else P 2312 (qFid P s 0 f)) else if s < 2 then P 2297 (64 * s + P 2306 (qFid P s 0 f)) - off else if P 2306 (qFid P s 0 f) = 1 then P 2281 39 else 8 - off
section MRDL
variable {fb : Bool} {d : Nat} {σ0 σ : hM} {P Q R S S1 S2 : qR} {T U s w g u p k e t z off n pt : Int} {l nm wd A : List Int} {h : List Ch} {a : Int → Int} {x : Int × Int} {c : Ch} {fd : Int}
theorem mRead_f (hf : 0 ≤ fd ∧ fd ≤ 4294967295) : nu (msgA (mRead fd off n)) 7 4 = fd := by
  have e : leb 4 (4 + ((mRead fd off n).length : Int)) ++ mRead fd off n = (leb 4 (4 + ((mRead fd off n).length : Int)) ++ (leb 1 116 ++ leb 2 1)) ++ (leb 4 fd ++ (leb 8 off ++ leb 4 n)) := by
    conv => lhs; rhs; unfold mRead
    simp only [List.append_assoc]
  unfold msgA
  rw [e]
  exact nu_lg2 4 rfl (by rw [show (256 : Int) ^ 4 = 4294967296 by decide]; omega)
theorem mRead_o (ho : 0 ≤ off ∧ off ≤ 9223372036854775807) : w64 (nu (msgA (mRead fd off n)) 11 8) = off := by
  have e : leb 4 (4 + ((mRead fd off n).length : Int)) ++ mRead fd off n = (leb 4 (4 + ((mRead fd off n).length : Int)) ++ (leb 1 116 ++ (leb 2 1 ++ leb 4 fd))) ++ (leb 8 off ++ leb 4 n) := by
    conv => lhs; rhs; unfold mRead
    simp only [List.append_assoc]
  have e1 : nu (msgA (mRead fd off n)) 11 8 = off := by
    unfold msgA
    rw [e]
    exact nu_lg2 8 rfl (by rw [show (256 : Int) ^ 8 = 18446744073709551616 by decide]; omega)
  rw [e1]
  exact w64_id (by omega) (by omega)
theorem mRead_n (hn : 0 ≤ n ∧ n ≤ 4294967295) : nu (msgA (mRead fd off n)) 19 4 = n := by
  have e : leb 4 (4 + ((mRead fd off n).length : Int)) ++ mRead fd off n = (leb 4 (4 + ((mRead fd off n).length : Int)) ++ (leb 1 116 ++ (leb 2 1 ++ (leb 4 fd ++ leb 8 off)))) ++ (leb 4 n ++ []) := by
    conv => lhs; rhs; unfold mRead
    simp only [List.append_assoc, List.append_nil]
  unfold msgA
  rw [e]
  exact nu_lg2 4 rfl (by rw [show (256 : Int) ^ 4 = 4294967296 by decide]; omega)
def rdR1 : List Nat := [2316, 2317, 2312, 2311, 2314, 2281]
theorem rdP_rf {cnt : Int} : RF rdR1 (rdP P s k off cnt) P := by
  unfold rdP
  split
  · exact RF_up (RF_up RF_rfl rfl) rfl
  · split
    · exact RF_rfl
    · split
      · exact fun f k hf => (gSh_f (fun q => by rw [q] at hf; exact absurd hf (by decide))).trans (rU_f (fun q => by rw [q] at hf; exact absurd hf (by decide)))
      · exact RF_rfl
theorem gM1_rf {W : List Int} : RF rdR1 (gM1 P W) P := fun f k hf => gM1_f (fun q => by rw [q] at hf; exact absurd hf (by decide)) (fun q => by rw [q] at hf; exact absurd hf (by decide)) (fun q => by rw [q] at hf; exact absurd hf (by decide))
theorem qFid_rf (hk : RF rdR1 Q P) : qFid Q s 0 fd = qFid P s 0 fd := by
  have e : ∀ (m : Nat) (k : Int), fiFid Q fd m k = fiFid P fd m k := by
    intro m
    induction m with
    | zero => intro k; rfl
    | succ m ih =>
      intro k
      unfold fiFid
      rw [ih, hk 2304 k rfl, hk 2305 k rfl]
  exact e 48 _
theorem qMode_rf (hk : RF rdR1 Q P) : qMode Q s n = qMode P s n := by
  unfold qMode
  rw [hk 2293 _ rfl]
/-- a read that goes: how it looks -/
theorem rd_sem (hf : 0 ≤ fd ∧ fd ≤ 4294967295) (ho : 0 ≤ off ∧ off ≤ 9223372036854775807) (h : tE P s (mRead fd off 100) = 0) : ∃ P1 : qR, RF rdR1 P1 P ∧ P1 2281 39 = P 2281 39 ∧ (∀ k, P1 2312 k = P 2312 k) ∧ 0 ≤ qFid P1 s 0 fd ∧ rdB (tA P s (mRead fd off 100)) = rdD P1 s (qFid P1 s 0 fd) off 100 ∧ RF rdR1 (tP P s (mRead fd off 100)) P ∧ tP P s (mRead fd off 100) 2281 39 = rdP P1 s (qFid P1 s 0 fd) off 100 2281 39 ∧ ∀ k, tP P s (mRead fd off 100) 2312 k = rdP P1 s (qFid P1 s 0 fd) off 100 2312 k := by
  obtain ⟨h1, h2⟩ := tE_0 h ⟨by show 3 ≤ 19; decide, by show 19 ≤ 416; decide⟩
  have e0 : lg (mRead fd off 100) 0 = 116 := rfl
  rw [e0] at h1 h2
  obtain ⟨P1, hP1⟩ : ∃ P1, gM1 P (seg (msgA (mRead fd off 100)) 0 (4 + ((mRead fd off 100).length : Int)).toNat) = P1 := ⟨_, rfl⟩
  rw [hP1] at h1 h2
  have hr1 : RF rdR1 P1 P := by rw [← hP1]; exact gM1_rf
  have h39 : P1 2281 39 = P 2281 39 := by rw [← hP1]; exact gM1_k (by decide) (by decide)
  have hrm : ∀ k, P1 2312 k = P 2312 k := fun k => by rw [← hP1]; exact gM1_f (by decide) (by decide) (by decide)
  have h3 : rdErr P1 s 0 (msgA (mRead fd off 100)) (4 + ((mRead fd off 100).length : Int)) = 0 := h1
  have hz : (4 + ((mRead fd off 100).length : Int)) = 23 := rfl
  have h4 := h3
  unfold rdErr at h4
  rw [if_neg (fun q => q hz), mRead_f hf, mRead_o ho, mRead_n (by decide)] at h4
  obtain ⟨g1, g2, g3⟩ := rdX_0 h4
  have h5 : srL P1 s 0 116 (msgA (mRead fd off 100)) (4 + ((mRead fd off 100).length : Int)) = leb 4 ((rdD P1 s (qFid P1 s 0 fd) off 100).length : Int) ++ rdD P1 s (qFid P1 s 0 fd) off 100 := by
    show leb 4 ((rdD P1 s (qFid P1 s 0 (nu (msgA (mRead fd off 100)) 7 4)) (w64 (nu (msgA (mRead fd off 100)) 11 8)) (nu (msgA (mRead fd off 100)) 19 4)).length : Int) ++ rdD P1 s (qFid P1 s 0 (nu (msgA (mRead fd off 100)) 7 4)) (w64 (nu (msgA (mRead fd off 100)) 11 8)) (nu (msgA (mRead fd off 100)) 19 4) = _
    rw [mRead_f hf, mRead_o ho, mRead_n (by decide)]
  rw [h5] at h2
  have hP2 : srvP P1 s 0 (msgA (mRead fd off 100)) (4 + ((mRead fd off 100).length : Int)) = rdP P1 s (qFid P1 s 0 fd) off 100 := by
    have hsz : ¬ P1 2313 (2 * s + 0) < 4 + ((mRead fd off 100).length : Int) := fun q => by
      unfold tE trE srvE at h
      rw [hP1, if_neg (fun q => q ⟨by rw [hz]; decide, msgA_z (by show 19 ≤ 416; decide)⟩), if_pos q] at h
      omega
    unfold srvP
    rw [if_neg (fun q => q ⟨by rw [hz]; decide, msgA_z (by show 19 ≤ 416; decide)⟩), if_neg hsz, msgA_4 (by show 1 ≤ 19; decide), e0]
    show (if rdErr P1 s 0 (msgA (mRead fd off 100)) (4 + ((mRead fd off 100).length : Int)) = 0 then rdP P1 s (qFid P1 s 0 (nu (msgA (mRead fd off 100)) 7 4)) (w64 (nu (msgA (mRead fd off 100)) 11 8)) (nu (msgA (mRead fd off 100)) 19 4) else P1) = _
    rw [if_pos h3, mRead_f hf, mRead_o ho, mRead_n (by decide)]
  have hT : tP P s (mRead fd off 100) = gM1 (rdP P1 s (qFid P1 s 0 fd) off 100) (srvA P1 s 0 (msgA (mRead fd off 100)) (4 + ((mRead fd off 100).length : Int))) := by
    unfold tP trP
    rw [hP1, hP2]
  refine ⟨P1, hr1, h39, hrm, g1, ?_, ?_, ?_, fun k => ?_⟩
  · rw [h2]
    rfl
  · rw [hT]
    exact RF_tr gM1_rf (RF_tr rdP_rf hr1)
  · rw [hT]
    exact gM1_k (by decide) (by decide)
  · rw [hT]
    exact gM1_f (by decide) (by decide) (by decide)
theorem rdE_more : ∀ (m : Nat) (x l : Int), (rdE P s n m x l).2.2 ≠ [] → x + 1 ≤ (rdE P s n m x l).1 ∨ ¬ 0 ≤ x
  | 0, x, l, h => absurd rfl h
  | m + 1, x, l, h => by
    unfold rdE at h ⊢
    by_cases q : 0 ≤ qEnt P s n x ∧ 58 + qNs P s (qEnt P s n x) ≤ l
    · rw [if_pos q]
      by_cases q2 : 0 ≤ x
      · refine Or.inl ?_
        have hm : ∀ (m : Nat) (x l : Int), x ≤ (rdE P s n m x l).1 := by
          intro m
          induction m with
          | zero => intro x l; exact Int.le_refl x
          | succ m ih =>
            intro x l
            unfold rdE
            split
            · have := ih (x + 1) (l - (58 + qNs P s (qEnt P s n x)))
              exact Int.le_trans (by omega) this
            · exact Int.le_refl x
        exact hm m (x + 1) _
      · exact Or.inr q2
    · rw [if_neg q] at h
      exact absurd rfl h
/-- a read that tells something leaves less -/
theorem rdMu_less (hG : GI T U P) (hs : 0 ≤ s ∧ s < 3) (hf : 0 ≤ fd ∧ fd ≤ 4294967295) (ho : 0 ≤ off ∧ off ≤ 9223372036854775807) (h : tE P s (mRead fd off 100) = 0) (hn : ¬ (rdB (tA P s (mRead fd off 100))).length = 0) : 0 ≤ rdMu (tP P s (mRead fd off 100)) s fd (off + ((rdB (tA P s (mRead fd off 100))).length : Int)) ∧ rdMu (tP P s (mRead fd off 100)) s fd (off + ((rdB (tA P s (mRead fd off 100))).length : Int)) < rdMu P s fd off ∧ ((rdB (tA P s (mRead fd off 100))).length : Int) ≤ 100 := by
  obtain ⟨P1, h1, h39, hrm, g1, g2, g3, g4, g5⟩ := rd_sem hf ho h
  rw [g2] at hn ⊢
  obtain ⟨P2, hP2⟩ : ∃ P2, tP P s (mRead fd off 100) = P2 := ⟨_, rfl⟩
  rw [hP2] at g3 g4 g5 ⊢
  have ek : qFid P1 s 0 fd = qFid P s 0 fd := qFid_rf h1
  have ek2 : qFid P2 s 0 fd = qFid P s 0 fd := qFid_rf g3
  rw [ek] at g1 g2 g4 g5 hn ⊢
  obtain ⟨k, hk⟩ : ∃ k, qFid P s 0 fd = k := ⟨_, rfl⟩
  rw [hk] at ek ek2 g1 g2 g4 g5 hn ⊢
  have hkr := qFid_in (P := P) (s := s) (c := 0) (v := fd) hs (by decide) (by rw [hk]; exact g1)
  rw [hk] at hkr
  have br : 0 ≤ P 2312 k ∧ P 2312 k ≤ 64 := IV.a hG.iv 2312 0 288 rfl rfl rfl (by omega) (by omega)
  have bi : 0 ≤ P 2281 39 ∧ P 2281 39 ≤ 200 := IV.n hG.iv 39 39 rfl rfl (by decide)
  have e1 : P1 2306 k = P 2306 k := h1 _ _ rfl
  have e2 : P2 2306 k = P 2306 k := g3 _ _ rfl
  obtain ⟨n, hn0⟩ : ∃ n, P 2306 k = n := ⟨_, rfl⟩
  rw [hn0] at e1 e2
  have m1 : qMode P1 s n = qMode P s n := qMode_rf h1
  have m2 : qMode P2 s n = qMode P s n := qMode_rf g3
  unfold rdMu
  have hk0 : ¬ k < 0 := by omega
  rw [ek2, hk, if_neg hk0, if_neg hk0, e2, hn0, m2]
  unfold rdD at hn ⊢
  rw [e1, m1] at hn ⊢
  unfold rdP at g4 g5
  rw [e1, m1] at g4 g5
  by_cases c1 : qMode P s n < 0
  · rw [if_pos c1] at hn g5
    rw [if_pos c1, if_pos c1, if_pos c1]
    have hx : (rdR P1 s k off 100).2.2 ≠ [] := fun q => hn (by rw [q]; rfl)
    have hd : s = 2 → 0 < n → n % 16 = 0 := fun q1 q2 => by
      have := qMode_dir2 (P := P) (n := n) (by rw [q1] at c1; exact c1)
      omega
    have hok : okN s n := by
      have := (fid_node hG hs (k := k) (by omega)).1
      rw [hn0] at this
      exact this
    unfold rdR at hx hn g5 ⊢
    rw [e1, hrm] at hx hn g5 ⊢
    obtain ⟨x0, hx0⟩ : ∃ x0, (if off = 0 then 0 else P 2312 k) = x0 := ⟨_, rfl⟩
    have hx1 : 0 ≤ x0 ∧ x0 ≤ 64 := by
      rw [← hx0]
      split <;> omega
    rw [hx0] at hx hn g5 ⊢
    have r1 := (rdE_more 6 x0 100 hx).resolve_right (by omega)
    have r2 := rdE_most (P := P1) (s := s) (n := n) 6 x0 100 hx1.1 hx1.2
    have e5 : P2 2312 k = (rdE P1 s n 6 x0 100).1 := by
      rw [g5 k]
      show rU (rU P1 2312 k (rdE P1 s n 6 x0 100).1) 2311 k _ 2312 k = _
      rw [rU_f (by decide), rU_s]
    have hlz : ((rdE P1 s n 6 x0 100).2.2.length : Int) ≤ 100 := by
      have hlen : ∀ (m : Nat) (x l : Int), 0 ≤ l → 0 ≤ x → (∀ y, 0 ≤ y → 0 ≤ qEnt P1 s n y → 0 ≤ qNs P1 s (qEnt P1 s n y)) → ((rdE P1 s n m x l).2.2.length : Int) ≤ l := by
        intro m
        induction m with
        | zero => intro x l h0 _ _; exact h0
        | succ m ih =>
          intro x l h0 hx0 hq
          unfold rdE
          split
          · rename_i c
            have := ih (x + 1) (l - (58 + qNs P1 s (qEnt P1 s n x))) (by omega) (by omega) hq
            rw [List.length_append]
            have hst := statL_len (P := P1) (s := s) (n := qEnt P1 s n x) (hq x hx0 c.1)
            omega
          · exact h0
      refine hlen 6 x0 100 (by decide) hx1.1 (fun y cy hy => ?_)
      have := (qEnt_ok (P := P1) hok hd cy).2 hy
      unfold qNs
      split
      · rename_i c2
        rw [h1 2299 _ rfl]
        have hb := this.2.2.2.2 c2
        have hb0 := this.2.2.1
        exact (show 0 ≤ P 2299 (64 * s + qEnt P1 s n y) ∧ P 2299 (64 * s + qEnt P1 s n y) ≤ 12 from IV.a hG.iv 2299 0 128 rfl rfl rfl (by omega) (by omega)).1
      · omega
    rw [e5]
    rw [if_neg (show ¬ off + ((rdE P1 s n 6 x0 100).2.2.length : Int) = 0 by omega)]
    omega
  · rw [if_neg c1] at hn g4
    rw [if_neg c1, if_neg c1, if_neg c1]
    by_cases c2 : s < 2
    · rw [if_pos c2] at hn
      rw [if_pos c2, if_pos c2, if_pos c2]
      have el : P1 2297 (64 * s + n) = P 2297 (64 * s + n) := h1 _ _ rfl
      have el2 : P2 2297 (64 * s + n) = P 2297 (64 * s + n) := g3 _ _ rfl
      rw [el] at hn ⊢
      rw [el2]
      unfold part at hn ⊢
      split at hn
      · rename_i c3
        rw [if_pos c3, seg_len]
        rw [seg_len] at hn
        split <;> omega
      · exact absurd rfl hn
    · rw [if_neg c2] at hn g4
      rw [if_neg c2, if_neg c2, if_neg c2]
      by_cases c3 : n = 1
      · rw [if_pos c3] at hn g4
        rw [if_pos c3, if_pos c3, if_pos c3, seg_len]
        rw [seg_len] at hn
        have e4 : P2 2281 39 = P 2281 39 - (if 100 < P 2281 39 then 100 else P 2281 39) := by
          rw [g4, h39]
          exact (gSh_f (by decide)).trans (rU_s.trans (by rw [h39]))
        rw [h39] at hn ⊢
        rw [e4]
        split <;> omega
      · rw [if_neg c3] at hn
        rw [if_neg c3, if_neg c3, if_neg c3]
        unfold part at hn ⊢
        split at hn
        · rename_i c4
          rw [if_pos c4, seg_len]
          rw [seg_len] at hn
          split <;> omega
        · exact absurd rfl hn
end MRDL
