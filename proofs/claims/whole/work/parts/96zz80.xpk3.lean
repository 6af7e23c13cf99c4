/-! What each message keeps true. -/
section XPKC
variable {S a0 b mb : Nat} {W W1 W2 P Q Q1 Q2 : qR} {R R1 R2 : rR} {i j k x z v s e w f u n p g T U c m y ty : Int} {l nm ord : List Int} {t : Nat → Nat} {a : Int → Int}
theorem gM1_RF : RF [2316, 2317, 2281] (gM1 P l) P := fun f k hf => gM1_f (fun q => by rw [q] at hf; exact absurd hf (by decide)) (fun q => by rw [q] at hf; exact absurd hf (by decide)) (fun q => by rw [q] at hf; exact absurd hf (by decide))
theorem PKK.m1 (h : PKK P) : PKK (gM1 P l) := h.rf (h.1.rf gM1_RF rfl rfl rfl rfl rfl rfl rfl rfl rfl rfl rfl rfl rfl rfl rfl) gM1_RF rfl rfl rfl rfl
theorem TI.ent1 (h : TI P) (hm : 0 ≤ P 2309 k) (hq : ∀ (f : Nat) (j : Int), ([2311, 2312] : List Nat).elem f = false → Q f j = P f j) (ho : ∀ (f : Nat) (j : Int), j ≠ k → Q f j = P f j) : TI Q := by
  have h2 := h
  obtain ⟨h1, h2, h3, h4, h5, h6⟩ := h2
  have hfe : FE Q P := fun f j hf => hq f j (by
    cases e : ([2311, 2312] : List Nat).elem f
    · rfl
    · exfalso
      have := List.elem_iff.mp e
      simp only [List.mem_cons, List.not_mem_nil, or_false] at this
      rcases this with rfl | rfl <;> exact absurd hf (by decide))
  refine ⟨fun s s0 s1 n nm m m2 g1 g2 => h1 s s0 s1 n nm m m2 ?_ ?_, fun s n s0 s1 q => ?_, fun j k0 k1 q => ?_, fun j k0 k1 g1 g2 g3 g4 g5 => ?_, fun j k0 k1 g1 g2 => ?_, fun j k0 k1 g1 => ?_⟩
  · obtain ⟨a1, a2, a3, a4⟩ := g1
    exact ⟨hfe.live.mp a1, a2, by rw [← hfe.up]; exact a3, by rw [← hfe.nam]; exact a4⟩
  · obtain ⟨a1, a2, a3, a4⟩ := g2
    exact ⟨hfe.live.mp a1, a2, by rw [← hfe.up]; exact a3, by rw [← hfe.nam]; exact a4⟩
  · rw [hq _ _ rfl, hq _ _ rfl]
    exact h2 s n s0 s1 (hfe.live.mp q)
  · rw [hq _ _ rfl] at q ⊢
    exact h3 j k0 k1 q
  · rw [hq 2304 _ rfl] at g1
    rw [hq 2310 _ rfl] at g2
    rw [hq 2309 _ rfl] at g3 g4 g5
    rw [hq 2293 _ rfl, hq 2306 _ rfl]
    exact h4 j k0 k1 g1 g2 g3 g4 g5
  · rw [hq 2304 _ rfl] at g1
    rw [hq 2310 _ rfl] at g2
    rw [hq 2306 _ rfl]
    exact hfe.live.mpr (h5 j k0 k1 g1 g2)
  · rw [hq 2309 _ rfl] at g1
    by_cases e : j = k
    · rw [e] at g1
      omega
    · rw [ho _ _ e, ho _ _ e]
      exact h6 j k0 k1 g1
theorem gEnt_o {off cnt : Int} {r : Int × Int × List Int} {g : Nat} (h : j ≠ k) : gEnt P k off cnt r g j = P g j := by
  have e : ∀ (Q : qR) (f : Nat) (w : Int), rU Q f k w g j = Q g j := fun Q f w => if_neg (fun q => h q.2)
  unfold gEnt
  rw [e, e]
theorem gEnt_rf {off cnt : Int} {r : Int × Int × List Int} : RF [2311, 2312] (gEnt P k off cnt r) P := RF_up (RF_up RF_rfl rfl) rfl
theorem gIn_rf : RF [2314, 2281] (gIn P n) P := fun f k hf => gIn_f (fun q => by rw [q] at hf; exact absurd hf (by decide)) (fun q => by rw [q] at hf; exact absurd hf (by decide))
theorem gCon_rf {F : Int → Int} {o : Int} : ∀ m : Nat, RF [2315, 2281] (gCon P F o m) P
  | 0 => RF_rfl
  | m + 1 => by
    show RF _ (if _ then _ else _) P
    exact RF_if (RF_up (RF_up (gCon_rf m) rfl) rfl) (gCon_rf m)
theorem TI.wr1 {b2 : Int} (h : TI P) (hd : 0 ≤ P 2293 (64 * s + n)) : TI (gWr P s n u b2 l) := by
  unfold gWr
  split
  · refine TI.grow ?_
    have h1 : TI (if P 2297 (64 * s + n) < b2 + l.length then gSize P s n (b2 + l.length) else P) := by
      split
      · exact h.size hd
      · exact h
    exact h1.rf (L := [2300]) (RF_wr RF_rfl rfl) rfl rfl rfl rfl rfl rfl rfl rfl rfl rfl rfl rfl rfl rfl rfl
  · exact h
theorem isN_root (hG : GI T U P) (hs : 0 ≤ s ∧ s < 3) : isN P s 0 := by
  by_cases q : s < 2
  · refine Or.inl ⟨q, by decide, by decide, ?_⟩
    rw [Int.add_zero]
    exact (hG.2.1.1 s hs.1 q).1
  · exact Or.inr ⟨by omega, Or.inl rfl⟩
theorem up_root (hG : GI T U P) (hs : 0 ≤ s ∧ s < 3) : qUp P s 0 = 0 := by
  unfold qUp
  split
  · rw [Int.add_zero]
    exact (hG.2.1.1 s hs.1 (by omega)).2.1
  · rfl
theorem qFid_f (hs : 0 ≤ s ∧ s < 3) (hc : 0 ≤ c ∧ c < 2) (h : 0 ≤ qFid P s c v) : (∃ i : Int, (0 ≤ i ∧ i < 96) ∧ qFid P s c v = 96 * s + i) ∧ ¬ P 2304 (qFid P s c v) = 0 := by
  have e4 := qFid_in hs hc h
  exact ⟨⟨qFid P s c v - 96 * s, by omega, by omega⟩, e4.2.2⟩
theorem PKK_srP {z : Int} (h : PKK P) (hG : GI T U P) (hs : 0 ≤ s ∧ s < 3) (hc : 0 ≤ c ∧ c < 2) (hb : ∀ j, 0 ≤ j → j < z → 0 ≤ a j ∧ a j ≤ 255) (hz : 7 ≤ z) (hT : NT W R P S s ord t) : PKK (srP P s c ty a z) := by
  have hD := h.1
  have hOW := OW_srP (t := ty) hG hs hc hb hz
  have nr1 : ∀ (o : Int), 0 ≤ o → o + 1 ≤ z → 0 ≤ nu a o 1 ∧ nu a o 1 ≤ 255 := fun o h0 h3 => by
    have := nu_rng (f := a) (i := o) 1 (fun i hi => hb (o + i) (by omega) (by omega))
    have h2 : (256 : Int) ^ 1 = 256 := by decide
    omega
  have hin : ∀ v, 0 ≤ qFid P s c v → 96 * s ≤ qFid P s c v ∧ qFid P s c v < 96 * s + 96 := fun v q => by
    have e4 := qFid_in hs hc q
    omega
  have hU : UNq P s := by
    by_cases q : s < 2
    · exact hD.1 s hs.1 q
    · rw [show s = 2 by omega]
      exact UNq2
  have hR := TRX_of hT hG hs
  have hlive : ∀ k, 96 * s ≤ k → k < 96 * s + 96 → ¬ P 2304 k = 0 → P 2310 k = 0 → isN P s (P 2306 k) := fun k k0 k1 g1 g2 => by
    have := hD.live hG hs (i := k - 96 * s) ⟨by omega, by omega⟩ (by rw [show 96 * s + (k - 96 * s) = k by omega]; exact g1) (by rw [show 96 * s + (k - 96 * s) = k by omega]; exact g2)
    rw [show 96 * s + (k - 96 * s) = k by omega] at this
    exact this
  unfold srP at hOW ⊢
  by_cases t1 : ty = 100
  · rw [if_pos t1]
    split
    · have h1 := PKK.clA hs (c := c) (by omega) 48 T P hG h
      exact h1.rf (L := [2313]) (h1.1.rf (L := [2313]) (RF_up RF_rfl rfl) rfl rfl rfl rfl rfl rfl rfl rfl rfl rfl rfl rfl rfl rfl rfl) (RF_up RF_rfl rfl) rfl rfl rfl rfl
    · exact h
  rw [if_neg t1] at hOW ⊢
  by_cases t2 : ty = 104
  · rw [if_pos t2]
    split
    · rename_i e
      obtain ⟨e1, e2⟩ := atE_0 e
      have e3 := qFree_in hs hc e1
      unfold atP
      rw [show qFree P s c = 96 * s + (qFree P s c - 96 * s) by omega]
      exact h.make hs ⟨by omega, by omega⟩ (isN_root hG hs)
    · exact h
  rw [if_neg t2] at hOW ⊢
  by_cases t3 : ty = 108
  · rw [if_pos t3]
    exact h
  rw [if_neg t3] at hOW ⊢
  by_cases t4 : ty = 110
  · rw [if_pos t4]
    split
    · rename_i e
      obtain ⟨e0, e1, e2, e3⟩ := wlE_0 e
      have e4 := qFid_in hs hc e1
      unfold wlP
      split
      · have e5 : 48 * (2 * s + c) ≤ wlT P s c a ∧ wlT P s c a < 48 * (2 * s + c) + 48 := by
          unfold wlT at e2 ⊢
          split
          · omega
          · rename_i q
            rw [if_neg q] at e2
            exact qFree_in hs hc e2
        rw [show wlT P s c a = 96 * s + (wlT P s c a - 96 * s) by omega]
        exact h.make hs ⟨by omega, by omega⟩ (wlk_to hT hR hU hG.iv hs (up_root hG hs) (hlive _ (by omega) (by omega) e4.2.2 e3) _)
      · exact h
    · exact h
  rw [if_neg t4] at hOW ⊢
  by_cases t5 : ty = 112
  · rw [if_pos t5]
    split
    · rename_i e
      obtain ⟨e0, e1, e2, e3⟩ := opE_0 e
      have e4 := qFid_in hs hc e1
      exact h.opn1 hG hs (hin _ e1) e4.2.2 e2 (nr1 11 (by decide) (by omega)) e3
    · exact h
  rw [if_neg t5] at hOW ⊢
  by_cases t6 : ty = 114
  · rw [if_pos t6] at hOW ⊢
    split at hOW
    · rename_i e
      rw [if_pos e]
      have q := cr_z e
      obtain ⟨f1, f2, f3⟩ := cr_q hb q
      have e0 : qCre P s (qFid P s c (nu a 7 4)) (nu a (sE a z 11) 4) (nu a (sE a z 11 + 4) 1) (seg a 13 (nu a 11 2).toNat) = 0 := by
        unfold crE at e
        rw [if_neg (fun g => g q)] at e
        exact e
      have e9 := e0
      rcases qCre_v P s (qFid P s c (nu a 7 4)) (nu a (sE a z 11) 4) (nu a (sE a z 11 + 4) 1) (seg a 13 (nu a 11 2).toNat) with g | g
      · obtain ⟨-, g1, g2, g3, g4, g5, g6, g7, g8, g9⟩ := g
        have hk := hin _ g1
        have e4 := qFid_in hs hc g1
        have hs2 : s < 2 := by omega
        have hnw := qNew_ok hG.1.1 ⟨hs.1, hs2⟩ (hG.2.1.1 s hs.1 hs2).1 g9
        rw [qCre_if g1 g2 g3, if_neg (fun c => c g4), if_neg g5, if_neg (fun c => c g6), if_neg (by omega), if_neg g8] at e9
        have hp : prmR (nu a (sE a z 11) 4) (nu a (sE a z 11 + 4) 1) = 0 := by
          apply Decidable.byContradiction
          intro c1
          rw [if_pos c1] at e9
          exact c1 e9
        have hN := hlive _ hk.1 hk.2 e4.2.2 g3
        exact h.ow (hD.cre hG ⟨hs.1, hs2⟩ hk hnw hN (nmOk_no g6).2.2 ((qFind_kid hG.iv hs (dirN_of hN g4)).2 g7) (nr1 _ (by omega) (by omega)) hp) hs2 hOW
      · omega
    · rename_i e
      rw [if_neg e]
      exact h
  rw [if_neg t6] at hOW ⊢
  by_cases t7 : ty = 116
  · rw [if_pos t7]
    split
    · rename_i e
      have e0 := rd_z e
      have e1 : rdX P s (qFid P s c (nu a 7 4)) (w64 (nu a 11 8)) (nu a 19 4) (P 2313 (2 * s + c) - 11) = 0 := by
        unfold rdErr at e
        rw [if_neg (fun g => g e0)] at e
        exact e
      obtain ⟨g1, g2, g3⟩ := rdX_0 e1
      have gm : 0 ≤ P 2309 (qFid P s c (nu a 7 4)) := by
        unfold rdX at e1
        rw [if_neg (by omega)] at e1
        by_cases c1 : P 2309 (qFid P s c (nu a 7 4)) < 0 ∨ and32 (P 2309 (qFid P s c (nu a 7 4))) 3 = 1
        · rw [if_pos c1] at e1
          omega
        · omega
      unfold rdP
      split
      · exact h.rf (hD.ent1 gm (fun f j hf => gEnt_rf f j hf) (fun f j hj => gEnt_o hj)) gEnt_rf rfl rfl rfl rfl
      · split
        · exact h
        · split
          · exact h.rf (hD.rf gIn_rf rfl rfl rfl rfl rfl rfl rfl rfl rfl rfl rfl rfl rfl rfl rfl) gIn_rf rfl rfl rfl rfl
          · exact h
    · exact h
  rw [if_neg t7] at hOW ⊢
  by_cases t8 : ty = 118
  · rw [if_pos t8] at hOW ⊢
    split at hOW
    · rename_i e
      rw [if_pos e]
      have e0 := wr_z e
      have e1 : wrX P s (qFid P s c (nu a 7 4)) (w64 (nu a 11 8)) (z - 23) a = 0 := by
        unfold wrErr at e
        split at e
        · omega
        · exact e
      obtain ⟨g1, g2, g3⟩ := wrX_0 e1
      have e4 := qFid_in hs hc g1
      have hk := hin _ g1
      have gm : 0 ≤ P 2309 (qFid P s c (nu a 7 4)) ∧ 1 ≤ and32 (P 2309 (qFid P s c (nu a 7 4))) 3 ∧ and32 (P 2309 (qFid P s c (nu a 7 4))) 3 ≤ 2 := by
        unfold wrX at e1
        rw [if_neg (by omega)] at e1
        by_cases c1 : ¬ (0 ≤ P 2309 (qFid P s c (nu a 7 4)) ∧ 1 ≤ and32 (P 2309 (qFid P s c (nu a 7 4))) 3 ∧ and32 (P 2309 (qFid P s c (nu a 7 4))) 3 ≤ 2)
        · rw [if_pos c1] at e1
          omega
        · exact Decidable.not_not.mp c1
      by_cases qs : s < 2
      · refine h.ow ?_ qs hOW
        unfold wrP
        rw [if_pos qs]
        have h4 := hD.2.2.2.1 _ (by omega) (by omega) e4.2.2 g2 gm.1 gm.2.1 gm.2.2
        rw [show qFid P s c (nu a 7 4) / 96 = s by omega] at h4
        exact hD.wr1 h4
      · unfold wrP
        rw [if_neg qs]
        split
        · exact h.rf (hD.rf (gCon_rf _) rfl rfl rfl rfl rfl rfl rfl rfl rfl rfl rfl rfl rfl rfl rfl) (gCon_rf _) rfl rfl rfl rfl
        · exact h.rf (L := [2321]) (hD.rf (L := [2321]) (RF_up RF_rfl rfl) rfl rfl rfl rfl rfl rfl rfl rfl rfl rfl rfl rfl rfl rfl rfl) (RF_up RF_rfl rfl) rfl rfl rfl rfl
    · rename_i e
      rw [if_neg e]
      exact h
  rw [if_neg t8] at hOW ⊢
  by_cases t9 : ty = 120 ∨ ty = 122 ∨ ty = 124
  · rw [if_pos t9] at hOW ⊢
    split at hOW
    · rename_i e
      rw [if_pos e]
      unfold onP at hOW ⊢
      by_cases q0 : qFid P s c (nu a 7 4) < 0
      · rw [if_pos q0]
        exact h
      rw [if_neg q0] at hOW ⊢
      have hk := hin (nu a 7 4) (by omega)
      by_cases q1 : ty = 120
      · rw [if_pos q1]
        exact h.clunk hG hs hk
      rw [if_neg q1] at hOW ⊢
      by_cases q2 : ty = 122
      · rw [if_pos q2] at hOW ⊢
        by_cases q3 : onE P s (qFid P s c (nu a 7 4)) ty = 0
        · rw [if_pos q3] at hOW ⊢
          have e1 : qRem (rU P 2304 (qFid P s c (nu a 7 4)) 0) s (P 2306 (qFid P s c (nu a 7 4))) (P 2308 (qFid P s c (nu a 7 4))) = 0 := by
            unfold onE at q3
            (repeat' split at q3) <;> first | (exfalso; omega) | exact q3
          have hr := qRem_0 e1
          exact h.ow (hD.isFid.rem) (by omega) hOW
        · rw [if_neg q3]
          exact h.isFid
      · rw [if_neg q2]
        exact h
    · rename_i e
      rw [if_neg e]
      exact h
  rw [if_neg t9] at hOW ⊢
  by_cases t11 : ty = 126
  · rw [if_pos t11] at hOW ⊢
    split at hOW
    · rename_i e
      rw [if_pos e]
      obtain ⟨e0, e5⟩ := ws_z e
      have e1 : wsX P s (qFid P s c (nu a 7 4)) (wsO a) ((wsY a z 1).2 + (wsY a z 2).2 + (wsY a z 3).2) (wsY a z 0).2 (nu a 34 4) (w64 (nu a 46 8)) (wsN a z) = 0 := by
        unfold wsE at e
        split at e
        · omega
        · exact e
      obtain ⟨g1, g2, g3⟩ := wsX_0 e1
      have hk := hin _ g1
      have e4 := qFid_in hs hc g1
      unfold wsQ wsP at hOW ⊢
      split at hOW
      · rename_i q
        rw [if_pos q]
        exact h.ow (hD.chg hG ⟨hs.1, q.1⟩ (hlive _ hk.1 hk.2 e4.2.2 g2) (g3 q.1)) q.1 hOW
      · rename_i q
        rw [if_neg q]
        exact h
    · rename_i e
      rw [if_neg e]
      exact h
  · rw [if_neg t11]
    exact h
theorem PKK_srvP {z : Int} (h : PKK P) (hG : GI T U P) (hs : 0 ≤ s ∧ s < 3) (hc : 0 ≤ c ∧ c < 2) (hb : ∀ j, 0 ≤ j → j < z → 0 ≤ a j ∧ a j ≤ 255) (hT : NT W R P S s ord t) : PKK (srvP P s c a z) := by
  unfold srvP
  split
  · exact h
  · split
    · exact h
    · rename_i q _
      exact PKK_srP h hG hs hc hb (Decidable.not_not.mp q).1 hT
end XPKC
