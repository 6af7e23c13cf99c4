/-! An answer depends on the message's own bytes alone. -/
def eqz (z : Int) (a b : Int → Int) : Prop := ∀ i : Int, 0 ≤ i → i < z → a i = b i
section MCONGR
variable {a b : Int → Int} {z p : Int} {P : qR} {s c t : Int}
theorem eqz.mono {y : Int} (h : eqz z a b) (hy : y ≤ z) : eqz y a b := fun i h0 h1 => h i h0 (by omega)
theorem nu_eqz (h : eqz z a b) {o : Int} (ho : 0 ≤ o) : ∀ n : Nat, o + n ≤ z → nu a o n = nu b o n
  | 0, _ => rfl
  | n + 1, hn => by
    show nu a o n + a (o + n) * 256 ^ n = nu b o n + b (o + n) * 256 ^ n
    rw [nu_eqz h ho n (by omega), h (o + n) (by omega) (by omega)]
theorem seg_eqz (h : eqz z a b) {o : Int} {n : Nat} (ho : 0 ≤ o) (hn : o + n ≤ z) : seg a o n = seg b o n := seg_seg.mpr (fun i h0 h1 => h (o + i) (by omega) (by omega))
theorem sE_eqz (h : eqz z a b) : sE a z p = sE b z p := by
  unfold sE
  by_cases q : p < 0 ∨ z < p + 2
  · rw [if_pos q, if_pos q]
  · rw [if_neg q, if_neg q, nu_eqz h (by omega) 2 (by omega)]
theorem sE_ge (h : 0 ≤ sE a z p) : 0 ≤ p ∧ p + 2 ≤ z ∧ p + 2 + nu a p 2 ≤ z ∧ sE a z p = p + 2 + nu a p 2 := by
  unfold sE at h ⊢
  by_cases q : p < 0 ∨ z < p + 2
  · rw [if_pos q] at h
    omega
  · rw [if_neg q] at h ⊢
    by_cases q2 : z < p + 2 + nu a p 2
    · rw [if_pos q2] at h
      omega
    · rw [if_neg q2]
      omega
theorem wkE_eqz (h : eqz z a b) : ∀ (m : Nat) (p : Int), wkE a z m p = wkE b z m p
  | 0, p => rfl
  | m + 1, p => by
    show wkE a z m (sE a z p) = wkE b z m (sE b z p)
    rw [sE_eqz h, wkE_eqz h m]
theorem wkS_eqz (h : eqz z a b) : ∀ (m : Nat) (p : Int), wkS a z m p = wkS b z m p
  | 0, p => rfl
  | m + 1, p => by
    unfold wkS
    rw [sE_eqz (b := b) h]
    by_cases q : sE b z p < 0
    · rw [if_pos q, if_pos q]
    · obtain ⟨h1, h2, -⟩ := sE_ge (a := b) (z := z) (p := p) (by omega)
      rw [if_neg q, if_neg q, nu_eqz h h1 2 (by omega), wkS_eqz h m]
theorem nms_eqz (h : eqz z a b) : ∀ (m : Nat) (p : Int), nms a (wkS b z m p) = nms b (wkS b z m p)
  | 0, p => rfl
  | m + 1, p => by
    unfold wkS
    by_cases q : sE b z p < 0
    · rw [if_pos q]
      rfl
    · obtain ⟨h1, h2, h3, -⟩ := sE_ge (a := b) (z := z) (p := p) (by omega)
      rw [if_neg q]
      show seg a (p + 2) (nu b p 2).toNat :: nms a (wkS b z m (sE b z p)) = seg b (p + 2) (nu b p 2).toNat :: nms b (wkS b z m (sE b z p))
      rw [nms_eqz h m]
      by_cases q2 : nu b p 2 < 0
      · rw [show (nu b p 2).toNat = 0 by omega]
        rfl
      · rw [seg_eqz h (by omega) (by omega)]
theorem usF_eqz (h : eqz z a b) {o : Int} (ho : 0 ≤ o) (h3 : o + 3 ≤ z) : ∀ (m : Nat) (k : Int), usF a o m k = usF b o m k
  | 0, _ => rfl
  | m + 1, k => by
    unfold usF
    rw [h o (by omega) (by omega), h (o + 1) (by omega) (by omega), h (o + 2) (by omega) (by omega), usF_eqz h ho h3 m]
theorem byte_eqz (h : eqz z a b) (hb : ∀ j, 0 ≤ j → j < z → 0 ≤ a j ∧ a j ≤ 255) : ∀ j, 0 ≤ j → j < z → 0 ≤ b j ∧ b j ≤ 255 := fun j h0 h1 => by
  rw [← h j h0 h1]
  exact hb j h0 h1
theorem nu2_ge (hb : ∀ j, 0 ≤ j → j < z → 0 ≤ a j ∧ a j ≤ 255) {o : Int} (ho : 0 ≤ o) (h : o + 2 ≤ z) : 0 ≤ nu a o 2 := (nu_rng 2 (fun k hk => hb (o + k) (by omega) (by omega))).1
theorem vsE_c (h : eqz z a b) (hz : 7 ≤ z) : vsE a z = vsE b z := by
  unfold vsE
  rw [sE_eqz (b := b) h]
  by_cases q : 11 ≤ z
  · rw [nu_eqz h (by decide) 4 (by omega)]
  · have hne : ¬ sE b z 11 = z := fun e => by
      obtain ⟨-, h2, -⟩ := sE_ge (a := b) (z := z) (p := 11) (by omega)
      omega
    rw [if_pos hne, if_pos hne]
theorem vs_z (h : vsE b z = 0) (hz : 7 ≤ z) : 13 ≤ z ∧ 13 + nu b 11 2 = z ∧ ¬ nu b 7 4 < 64 := by
  unfold vsE at h
  by_cases q : ¬ sE b z 11 = z
  · rw [if_pos q] at h
    omega
  · rw [if_neg q] at h
    obtain ⟨-, h2, h3, h4⟩ := sE_ge (a := b) (z := z) (p := 11) (by omega)
    by_cases q2 : nu b 7 4 < 64
    · rw [if_pos q2] at h
      omega
    · omega
theorem vsP_c (h : eqz z a b) (hz : 7 ≤ z) : (if vsE a z = 0 then vsP P s c a else P) = (if vsE b z = 0 then vsP P s c b else P) := by
  rw [vsE_c h hz]
  by_cases q : vsE b z = 0
  · obtain ⟨h1, -⟩ := vs_z q hz
    rw [if_pos q, if_pos q]
    unfold vsP
    rw [nu_eqz h (by decide) 4 (by omega)]
  · rw [if_neg q, if_neg q]
theorem vsL_c {w : Int} (h : eqz z a b) (hz : 7 ≤ z) (h0 : vsE b z = 0) : vsL a w = vsL b w := by
  obtain ⟨h1, h2, -⟩ := vs_z h0 hz
  unfold vsL
  rw [nu_eqz h (by decide) 2 (by omega)]
  by_cases q : 6 ≤ nu b 11 2
  · rw [seg_eqz h (by decide) (by omega)]
  · rw [if_neg (fun e => q e.1), if_neg (fun e => q e.1)]
theorem atE_c (h : eqz z a b) (hb : ∀ j, 0 ≤ j → j < z → 0 ≤ b j ∧ b j ≤ 255) (hz : 7 ≤ z) : atE P s c a z = atE P s c b z := by
  unfold atE
  rw [sE_eqz (b := b) h, sE_eqz (b := b) h]
  by_cases q : ¬ sE b z (sE b z 15) = z
  · rw [if_pos q, if_pos q]
  · obtain ⟨g1, g2, g3, g4⟩ := sE_ge (a := b) (z := z) (p := sE b z 15) (by omega)
    obtain ⟨f1, f2, f3, f4⟩ := sE_ge (a := b) (z := z) (p := 15) g1
    have hn := nu2_ge hb (o := 15) (by decide) (by omega)
    rw [nu_eqz h (by decide) 4 (by omega), nu_eqz h (by decide) 4 (by omega), nu_eqz h (by decide) 2 (by omega), nu_eqz h g1 2 (by omega), show qUser a 17 (nu b 15 2) = qUser b 17 (nu b 15 2) by
      unfold qUser
      by_cases q3 : nu b 15 2 = 3
      · rw [if_pos q3, if_pos q3, usF_eqz h (by decide) (by omega)]
      · rw [if_neg q3, if_neg q3]]
theorem at_z (h : atE P s c b z = 0) (hb : ∀ j, 0 ≤ j → j < z → 0 ≤ b j ∧ b j ≤ 255) (hz : 7 ≤ z) : 17 ≤ z ∧ 0 ≤ nu b 15 2 ∧ 17 + nu b 15 2 ≤ z := by
  unfold atE at h
  by_cases q : ¬ sE b z (sE b z 15) = z
  · rw [if_pos q] at h
    omega
  · obtain ⟨g1, g2, g3, g4⟩ := sE_ge (a := b) (z := z) (p := sE b z 15) (by omega)
    obtain ⟨f1, f2, f3, f4⟩ := sE_ge (a := b) (z := z) (p := 15) g1
    have hn := nu2_ge hb (o := 15) (by decide) (by omega)
    omega
theorem atP_c0 (h : eqz z a b) (hb : ∀ j, 0 ≤ j → j < z → 0 ≤ b j ∧ b j ≤ 255) (hz : 7 ≤ z) (h0 : atE P s c b z = 0) : atP P s c a = atP P s c b := by
  obtain ⟨h1, h2, h3⟩ := at_z h0 hb hz
  unfold atP
  rw [nu_eqz h (by decide) 4 (by omega), nu_eqz h (by decide) 2 (by omega), show qUser a 17 (nu b 15 2) = qUser b 17 (nu b 15 2) by
    unfold qUser
    by_cases q3 : nu b 15 2 = 3
    · rw [if_pos q3, if_pos q3, usF_eqz h (by decide) (by omega)]
    · rw [if_neg q3, if_neg q3]]
theorem atP_c (h : eqz z a b) (hb : ∀ j, 0 ≤ j → j < z → 0 ≤ b j ∧ b j ≤ 255) (hz : 7 ≤ z) : (if atE P s c a z = 0 then atP P s c a else P) = (if atE P s c b z = 0 then atP P s c b else P) := by
  rw [atE_c h hb hz]
  by_cases q : atE P s c b z = 0
  · rw [if_pos q, if_pos q, atP_c0 h hb hz q]
  · rw [if_neg q, if_neg q]
theorem wlW_c (h : eqz z a b) (hz : 17 ≤ z) : wlW P s c a z = wlW P s c b z := by
  unfold wlW
  rw [nu_eqz h (by decide) 4 (by omega), nu_eqz h (by decide) 2 (by omega), wkS_eqz h, nms_eqz h]
theorem wlT_c (h : eqz z a b) (hz : 17 ≤ z) : wlT P s c a = wlT P s c b := by
  unfold wlT
  rw [nu_eqz h (by decide) 4 (by omega), nu_eqz h (by decide) 4 (by omega)]
theorem wlE_c (h : eqz z a b) : wlE P s c a z = wlE P s c b z := by
  unfold wlE
  by_cases q : 17 ≤ z
  · rw [nu_eqz h (by decide) 4 (by omega), nu_eqz h (by decide) 4 (by omega), nu_eqz h (by decide) 2 (by omega), wkE_eqz h, wlW_c h q, wlT_c h q]
  · rw [if_pos (fun e => q e.1), if_pos (fun e => q e.1)]
theorem wl_z (h : wlE P s c b z = 0) : 17 ≤ z := by
  unfold wlE at h
  by_cases q : ¬ (17 ≤ z ∧ wkE b z (nu b 15 2).toNat 17 = z)
  · rw [if_pos q] at h
    omega
  · exact (Classical.not_not.mp q).1
theorem wlP_c (h : eqz z a b) : (if wlE P s c a z = 0 then wlP P s c a z else P) = (if wlE P s c b z = 0 then wlP P s c b z else P) := by
  rw [wlE_c h]
  by_cases q : wlE P s c b z = 0
  · have hz := wl_z q
    rw [if_pos q, if_pos q]
    unfold wlP
    rw [nu_eqz h (by decide) 4 (by omega), nu_eqz h (by decide) 4 (by omega), nu_eqz h (by decide) 2 (by omega), wlW_c h hz, wlT_c h hz]
  · rw [if_neg q, if_neg q]
theorem opE_c (h : eqz z a b) : opE P s c a z = opE P s c b z := by
  unfold opE
  by_cases q : z = 12
  · rw [nu_eqz h (by decide) 4 (by omega), nu_eqz h (by decide) 1 (by omega)]
  · rw [if_pos q, if_pos q]
theorem op_z (h : opE P s c b z = 0) : z = 12 := by
  unfold opE at h
  by_cases q : ¬ z = 12
  · rw [if_pos q] at h
    omega
  · exact Classical.not_not.mp q
theorem opP_c0 (h : eqz z a b) (hz : 12 ≤ z) : opP P s c a = opP P s c b := by
  unfold opP
  rw [nu_eqz h (by decide) 4 (by omega), nu_eqz h (by decide) 1 (by omega)]
theorem opP_c (h : eqz z a b) : (if opE P s c a z = 0 then opP P s c a else P) = (if opE P s c b z = 0 then opP P s c b else P) := by
  rw [opE_c h]
  by_cases q : opE P s c b z = 0
  · rw [if_pos q, if_pos q, opP_c0 h (by rw [op_z q]; decide)]
  · rw [if_neg q, if_neg q]
theorem cr_q (hb : ∀ j, 0 ≤ j → j < z → 0 ≤ b j ∧ b j ≤ 255) (q : 0 ≤ sE b z 11 ∧ sE b z 11 + 5 = z) : 13 ≤ z ∧ 0 ≤ nu b 11 2 ∧ 13 + nu b 11 2 + 5 = z := by
  obtain ⟨f1, f2, f3, f4⟩ := sE_ge q.1
  have hn := nu2_ge hb (o := 11) (by decide) (by omega)
  omega
theorem crE_c (h : eqz z a b) (hb : ∀ j, 0 ≤ j → j < z → 0 ≤ b j ∧ b j ≤ 255) : crE P s c a z = crE P s c b z := by
  unfold crE
  rw [sE_eqz (b := b) h]
  by_cases q : 0 ≤ sE b z 11 ∧ sE b z 11 + 5 = z
  · obtain ⟨h1, h2, h3⟩ := cr_q hb q
    rw [nu_eqz h (by decide) 4 (by omega), nu_eqz h q.1 4 (by omega), nu_eqz h (show 0 ≤ sE b z 11 + 4 by omega) 1 (by omega), nu_eqz h (by decide) 2 (by omega), seg_eqz h (by decide) (by omega)]
  · rw [if_pos q, if_pos q]
theorem cr_z (h : crE P s c b z = 0) : 0 ≤ sE b z 11 ∧ sE b z 11 + 5 = z := by
  unfold crE at h
  by_cases q : ¬ (0 ≤ sE b z 11 ∧ sE b z 11 + 5 = z)
  · rw [if_pos q] at h
    omega
  · exact Classical.not_not.mp q
theorem crP_c0 (h : eqz z a b) (hb : ∀ j, 0 ≤ j → j < z → 0 ≤ b j ∧ b j ≤ 255) (h0 : crE P s c b z = 0) : crP P s c a z = crP P s c b z := by
  have q := cr_z h0
  obtain ⟨h1, h2, h3⟩ := cr_q hb q
  unfold crP
  rw [sE_eqz (b := b) h, nu_eqz h (by decide) 4 (by omega), nu_eqz h q.1 4 (by omega), nu_eqz h (show 0 ≤ sE b z 11 + 4 by omega) 1 (by omega), nu_eqz h (by decide) 2 (by omega), seg_eqz h (by decide) (by omega)]
theorem crP_c (h : eqz z a b) (hb : ∀ j, 0 ≤ j → j < z → 0 ≤ b j ∧ b j ≤ 255) : (if crE P s c a z = 0 then crP P s c a z else P) = (if crE P s c b z = 0 then crP P s c b z else P) := by
  rw [crE_c h hb]
  by_cases q : crE P s c b z = 0
  · rw [if_pos q, if_pos q, crP_c0 h hb q]
  · rw [if_neg q, if_neg q]
theorem rdErr_c (h : eqz z a b) : rdErr P s c a z = rdErr P s c b z := by
  unfold rdErr
  by_cases q : z = 23
  · rw [nu_eqz h (by decide) 4 (by omega), nu_eqz h (by decide) 8 (by omega), nu_eqz h (by decide) 4 (by omega)]
  · rw [if_pos q, if_pos q]
theorem rd_z (h : rdErr P s c b z = 0) : z = 23 := by
  unfold rdErr at h
  by_cases q : ¬ z = 23
  · rw [if_pos q] at h
    omega
  · exact Classical.not_not.mp q
theorem wrE_c (h : eqz z a b) : wrErr P s c a z = wrErr P s c b z := by
  unfold wrErr
  by_cases q : 23 ≤ z
  · have e : ∀ k off : Int, wrX P s k off (z - 23) a = wrX P s k off (z - 23) b := fun k off => by
      have e2 : wrN P s k (z - 23) a = wrN P s k (z - 23) b := by
        unfold wrN
        by_cases q4 : z - 23 = 4 ∨ z - 23 = 5
        · rw [seg_eqz h (by decide) (by omega)]
          by_cases q5 : z - 23 = 5
          · rw [h 27 (by decide) (by omega)]
          · by_cases g : seg b 23 4 = seg (pkB 1802071148 4) 0 4
            · rw [if_pos ⟨Or.inl (by omega), g⟩, if_pos ⟨Or.inl (by omega), g⟩]
            · rw [if_neg (fun e => g e.2), if_neg (fun e => g e.2)]
        · rw [if_neg (by omega), if_neg (by omega)]
      unfold wrX
      rw [e2]
    rw [nu_eqz h (by decide) 4 (by omega), nu_eqz h (by decide) 8 (by omega), nu_eqz h (by decide) 4 (by omega), e]
  · rw [if_pos (fun e => q e.1), if_pos (fun e => q e.1)]
theorem wr_z (h : wrErr P s c b z = 0) : 23 ≤ z := by
  unfold wrErr at h
  by_cases q : ¬ (23 ≤ z ∧ nu b 19 4 = z - 23)
  · rw [if_pos q] at h
    omega
  · exact (Classical.not_not.mp q).1
theorem gCon_eqz (h : eqz z a b) {o : Int} (ho : 0 ≤ o) : ∀ m : Nat, o + m ≤ z → gCon P a o m = gCon P b o m
  | 0, _ => rfl
  | m + 1, hm => by
    unfold gCon
    rw [gCon_eqz h ho m (by omega), h (o + m) (by omega) (by omega)]
theorem wrP_c0 (h : eqz z a b) (hz : 23 ≤ z) {k off : Int} : wrP P s k off (z - 23) a = wrP P s k off (z - 23) b := by
  unfold wrP
  rw [seg_eqz h (by decide) (by omega), gCon_eqz h (by decide) _ (by omega)]
theorem ws_q (hb : ∀ j, 0 ≤ j → j < z → 0 ≤ b j ∧ b j ≤ 255) : ∀ (m : Nat) (p : Int) (i : Nat), 0 ≤ wkE b z m p → i < m → 0 ≤ ((wkS b z m p).getD i (0, 0)).1 ∧ 0 ≤ ((wkS b z m p).getD i (0, 0)).2 ∧ ((wkS b z m p).getD i (0, 0)).1 + ((wkS b z m p).getD i (0, 0)).2 ≤ z
  | 0, _, _, _, h => absurd h (Nat.not_lt_zero _)
  | m + 1, p, i, h, hi => by
    by_cases q : sE b z p < 0
    · have h2 : wkE b z m (sE b z p) < 0 := wkE_neg q m
      have h3 : 0 ≤ wkE b z m (sE b z p) := h
      omega
    · obtain ⟨h1, h2, h3, h4⟩ := sE_ge (a := b) (z := z) (p := p) (by omega)
      have hn := nu2_ge hb (o := p) h1 (by omega)
      rw [show wkS b z (m + 1) p = (p + 2, nu b p 2) :: wkS b z m (sE b z p) from if_neg q]
      cases i with
      | zero => exact ⟨by show 0 ≤ p + 2; omega, hn, by show p + 2 + nu b p 2 ≤ z; omega⟩
      | succ i => exact ws_q hb m (sE b z p) i h (by omega)
theorem wsN_c (h : eqz z a b) (hb : ∀ j, 0 ≤ j → j < z → 0 ≤ b j ∧ b j ≤ 255) (hw : 0 ≤ wkE b z 4 54) : wsN a z = wsN b z := by
  unfold wsN wsY
  rw [wkS_eqz h]
  have h1 := ws_q hb 4 54 0 hw (by decide)
  exact seg_eqz h h1.1 (by omega)
theorem wsE_c (h : eqz z a b) (hb : ∀ j, 0 ≤ j → j < z → 0 ≤ b j ∧ b j ≤ 255) : wsE P s c a z = wsE P s c b z := by
  unfold wsE
  rw [wkE_eqz h]
  by_cases q : 54 ≤ z ∧ wkE b z 4 54 = z
  · rw [nu_eqz h (by decide) 2 (by omega), nu_eqz h (by decide) 2 (by omega), nu_eqz h (by decide) 4 (by omega), nu_eqz h (by decide) 4 (by omega), nu_eqz h (by decide) 8 (by omega), wsN_c h hb (by omega), show wsO a = wsO b by
      unfold wsO
      rw [nu_eqz h (by decide) 4 (by omega), nu_eqz h (by decide) 4 (by omega), nu_eqz h (by decide) 8 (by omega), nu_eqz h (by decide) 4 (by omega), nu_eqz h (by decide) 1 (by omega), nu_eqz h (by decide) 4 (by omega), nu_eqz h (by decide) 2 (by omega)]]
    unfold wsY
    rw [wkS_eqz h]
  · rw [if_pos (fun e => q ⟨e.1, e.2.1⟩), if_pos (fun e => q ⟨e.1, e.2.1⟩)]
theorem ws_z (h : wsE P s c b z = 0) : 54 ≤ z ∧ wkE b z 4 54 = z := by
  unfold wsE at h
  by_cases q : ¬ (54 ≤ z ∧ wkE b z 4 54 = z ∧ nu b 13 2 = nu b 11 2 - 2 ∧ nu b 11 2 = z - 13)
  · rw [if_pos q] at h
    omega
  · have q := Classical.not_not.mp q
    exact ⟨q.1, q.2.1⟩
theorem wsQ_c (h : eqz z a b) (hb : ∀ j, 0 ≤ j → j < z → 0 ≤ b j ∧ b j ≤ 255) : (if wsE P s c a z = 0 then wsQ P s c a z else P) = (if wsE P s c b z = 0 then wsQ P s c b z else P) := by
  rw [wsE_c h hb]
  by_cases q : wsE P s c b z = 0
  · obtain ⟨h1, h2⟩ := ws_z q
    rw [if_pos q, if_pos q]
    unfold wsQ
    rw [nu_eqz h (by decide) 4 (by omega), nu_eqz h (by decide) 4 (by omega), nu_eqz h (by decide) 8 (by omega), wsN_c h hb (by omega)]
    unfold wsY
    rw [wkS_eqz h]
  · rw [if_neg q, if_neg q]
theorem srE_c (h : eqz z a b) (hb : ∀ j, 0 ≤ j → j < z → 0 ≤ b j ∧ b j ≤ 255) (hz : 7 ≤ z) : srE P s c t a z = srE P s c t b z := by
  unfold srE
  rw [vsE_c h hz, atE_c h hb hz, wlE_c h, opE_c h, crE_c h hb, rdErr_c h, wrE_c h, wsE_c h hb]
  by_cases q : z = 11
  · rw [nu_eqz h (by decide) 4 (by omega)]
  · rw [if_neg q, if_neg q]
theorem srP_c (h : eqz z a b) (hb : ∀ j, 0 ≤ j → j < z → 0 ≤ b j ∧ b j ≤ 255) (hz : 7 ≤ z) : srP P s c t a z = srP P s c t b z := by
  have e1 : (if rdErr P s c a z = 0 then rdP P s (qFid P s c (nu a 7 4)) (w64 (nu a 11 8)) (nu a 19 4) else P) = (if rdErr P s c b z = 0 then rdP P s (qFid P s c (nu b 7 4)) (w64 (nu b 11 8)) (nu b 19 4) else P) := by
    rw [rdErr_c h]
    by_cases q : rdErr P s c b z = 0
    · have := rd_z q
      rw [nu_eqz h (by decide) 4 (by omega), nu_eqz h (by decide) 8 (by omega), nu_eqz h (by decide) 4 (by omega)]
    · rw [if_neg q, if_neg q]
  have e2 : (if wrErr P s c a z = 0 then wrP P s (qFid P s c (nu a 7 4)) (w64 (nu a 11 8)) (z - 23) a else P) = (if wrErr P s c b z = 0 then wrP P s (qFid P s c (nu b 7 4)) (w64 (nu b 11 8)) (z - 23) b else P) := by
    rw [wrE_c h]
    by_cases q : wrErr P s c b z = 0
    · have := wr_z q
      rw [nu_eqz h (by decide) 4 (by omega), nu_eqz h (by decide) 8 (by omega), wrP_c0 h this]
    · rw [if_neg q, if_neg q]
  have e3 : (if z = 11 then onP P s (qFid P s c (nu a 7 4)) t else P) = (if z = 11 then onP P s (qFid P s c (nu b 7 4)) t else P) := by
    by_cases q : z = 11
    · rw [nu_eqz h (by decide) 4 (by omega)]
    · rw [if_neg q, if_neg q]
  unfold srP
  rw [vsP_c h hz, atP_c h hb hz, wlP_c h, opP_c h, crP_c h hb, e1, e2, e3, wsQ_c h hb]
theorem srL_c (h : eqz z a b) (hb : ∀ j, 0 ≤ j → j < z → 0 ≤ b j ∧ b j ≤ 255) (hz : 7 ≤ z) (h0 : srE P s c t b z = 0) : srL P s c t a z = srL P s c t b z := by
  unfold srE at h0
  unfold srL
  by_cases t1 : t = 100
  · rw [if_pos t1] at h0
    obtain ⟨h1, h2, -⟩ := vs_z h0 hz
    rw [if_pos t1, if_pos t1, vsL_c h hz h0, nu_eqz h (by decide) 4 (by omega)]
  by_cases t2 : t = 104
  · rw [if_neg t1, if_pos t2] at h0
    rw [if_neg t1, if_pos t2, if_neg t1, if_pos t2, atP_c0 h hb hz h0]
  by_cases t3 : t = 108
  · rw [if_neg t1, if_neg t2, if_pos t3, if_neg t1, if_neg t2, if_pos t3]
  by_cases t4 : t = 110
  · rw [if_neg t1, if_neg t2, if_neg t3, if_pos t4] at h0
    rw [if_neg t1, if_neg t2, if_neg t3, if_pos t4, if_neg t1, if_neg t2, if_neg t3, if_pos t4]
    unfold wlL
    rw [wlW_c h (wl_z h0)]
  by_cases t5 : t = 112
  · rw [if_neg t1, if_neg t2, if_neg t3, if_neg t4, if_pos t5] at h0
    have h12 := op_z h0
    rw [if_neg t1, if_neg t2, if_neg t3, if_neg t4, if_pos t5, if_neg t1, if_neg t2, if_neg t3, if_neg t4, if_pos t5, opP_c0 h (by omega), nu_eqz h (by decide) 4 (by omega)]
  by_cases t6 : t = 114
  · rw [if_neg t1, if_neg t2, if_neg t3, if_neg t4, if_neg t5, if_pos t6] at h0
    rw [if_neg t1, if_neg t2, if_neg t3, if_neg t4, if_neg t5, if_pos t6, if_neg t1, if_neg t2, if_neg t3, if_neg t4, if_neg t5, if_pos t6, crP_c0 h hb h0]
  by_cases t7 : t = 116
  · rw [if_neg t1, if_neg t2, if_neg t3, if_neg t4, if_neg t5, if_neg t6, if_pos t7] at h0
    have := rd_z h0
    rw [if_neg t1, if_neg t2, if_neg t3, if_neg t4, if_neg t5, if_neg t6, if_pos t7, if_neg t1, if_neg t2, if_neg t3, if_neg t4, if_neg t5, if_neg t6, if_pos t7, nu_eqz h (by decide) 4 (by omega), nu_eqz h (by decide) 8 (by omega), nu_eqz h (by decide) 4 (by omega)]
  by_cases t8 : t = 118
  · rw [if_neg t1, if_neg t2, if_neg t3, if_neg t4, if_neg t5, if_neg t6, if_neg t7, if_pos t8, if_neg t1, if_neg t2, if_neg t3, if_neg t4, if_neg t5, if_neg t6, if_neg t7, if_pos t8]
  by_cases t9 : t = 120 ∨ t = 122 ∨ t = 124
  · rw [if_neg t1, if_neg t2, if_neg t3, if_neg t4, if_neg t5, if_neg t6, if_neg t7, if_neg t8, if_pos t9] at h0
    have : z = 11 := by
      by_cases q : z = 11
      · exact q
      · rw [if_neg q] at h0
        omega
    rw [if_neg t1, if_neg t2, if_neg t3, if_neg t4, if_neg t5, if_neg t6, if_neg t7, if_neg t8, if_pos t9, if_neg t1, if_neg t2, if_neg t3, if_neg t4, if_neg t5, if_neg t6, if_neg t7, if_neg t8, if_pos t9, nu_eqz h (by decide) 4 (by omega)]
  · rw [if_neg t1, if_neg t2, if_neg t3, if_neg t4, if_neg t5, if_neg t6, if_neg t7, if_neg t8, if_neg t9, if_neg t1, if_neg t2, if_neg t3, if_neg t4, if_neg t5, if_neg t6, if_neg t7, if_neg t8, if_neg t9]
theorem srv_small (hz : ¬ 7 ≤ z) : srvE P s c a z = 0 ∧ srvP P s c a z = P ∧ srvA P s c a z = [] := ⟨if_pos (fun e => hz e.1), if_pos (fun e => hz e.1), if_pos (fun e => hz e.1)⟩
theorem srvE_c (h : eqz z a b) (hb : ∀ j, 0 ≤ j → j < z → 0 ≤ b j ∧ b j ≤ 255) : srvE P s c a z = srvE P s c b z := by
  by_cases hz : 7 ≤ z
  · unfold srvE
    rw [nu_eqz h (by decide) 4 (by omega), nu_eqz h (by decide) 1 (by omega), srE_c h hb hz]
  · rw [(srv_small hz).1, (srv_small hz).1]
theorem srvP_c (h : eqz z a b) (hb : ∀ j, 0 ≤ j → j < z → 0 ≤ b j ∧ b j ≤ 255) : srvP P s c a z = srvP P s c b z := by
  by_cases hz : 7 ≤ z
  · unfold srvP
    rw [nu_eqz h (by decide) 4 (by omega), nu_eqz h (by decide) 1 (by omega), srP_c h hb hz]
  · rw [(srv_small hz).2.1, (srv_small hz).2.1]
theorem srvA_c (h : eqz z a b) (hb : ∀ j, 0 ≤ j → j < z → 0 ≤ b j ∧ b j ≤ 255) : srvA P s c a z = srvA P s c b z := by
  by_cases hz : 7 ≤ z
  · unfold srvA
    rw [nu_eqz h (by decide) 4 (by omega), nu_eqz h (by decide) 1 (by omega), srvE_c h hb]
    by_cases q : ¬ (7 ≤ z ∧ nu b 0 4 = z)
    · rw [if_pos q, if_pos q]
    · rw [if_neg q, if_neg q]
      unfold ansL
      rw [h 5 (by decide) (by omega), h 6 (by decide) (by omega)]
      by_cases q2 : srvE P s c b z = 0
      · have h0 := q2
        rw [if_pos q2, if_pos q2, if_pos q2]
        unfold srvE at h0
        rw [if_neg q] at h0
        by_cases q3 : P 2313 (2 * s + c) < z
        · rw [if_pos q3] at h0
          omega
        · rw [if_neg q3] at h0
          rw [srL_c h hb hz h0]
      · rw [if_neg q2, if_neg q2, if_neg q2]
  · rw [(srv_small hz).2.2, (srv_small hz).2.2]
end MCONGR
