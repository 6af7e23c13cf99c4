/-! The Java machine does what a step of mine says: branches, cells. -/
section HST2
variable {p : Program} {l : Launch} {e : Env} {R : Room} {s : State} {m : MethodId} {args : Array Value} {below : List Frame} {meth : Method} {c : Code} {Q : State → Prop} {ρ : Nat → Nat} {K N0 : Nat} {E : Nat → AV} {H00 : Heap} {y nS zS : Nat}
theorem hK_ifC (C : hCtx p s m args meth c y) (cd : ClassFile.Cond) (off : Int) : hOK ρ p l e R s m args below meth c Q K N0 E H00 y nS zS (.ifCond cd off) := by
  intro pc len op nx d la st σ pc1 la1 st1 σ1 H locs ls hd ho hs hl hst hr hlo hn hz hc hsl hf kk
  obtain ⟨hb, he⟩ := hk1_in ho
  cases he
  simp only [Bool.and_eq_true, decide_eq_true_eq] at hb
  obtain ⟨rfl, h0⟩ := hb
  obtain ⟨u, r, rfl, g2⟩ := hs18 hs
  cases Sum.inl.inj g2
  have ou := fa_hd hst
  have kk := kk H locs ls hl (fa_tl hst) hr hlo
  cases cd with
  | eq =>
    refine lv_if_eq C.1 C.2.1 hd (hJ_ok h0) (fun q => ?_) (fun q => ?_)
    · rw [(hcmpB_iff (hcn ClassFile.Cond.eq) u 0).mpr ((eq32 ou ok0).mp q)] at kk; exact kk
    · rw [Bool.eq_false_iff.mpr (fun z => q ((eq32 ou ok0).mpr ((hcmpB_iff (hcn ClassFile.Cond.eq) u 0).mp z)))] at kk; exact kk
  | ne =>
    refine lv_if_ne C.1 C.2.1 hd (hJ_ok h0) (fun q => ?_) (fun q => ?_)
    · rw [(hcmpB_iff (hcn ClassFile.Cond.ne) u 0).mpr (fun z => q ((eq32 ou ok0).mpr z))] at kk; exact kk
    · rw [Bool.eq_false_iff.mpr (fun z => (hcmpB_iff (hcn ClassFile.Cond.ne) u 0).mp z ((eq32 ou ok0).mp q))] at kk; exact kk
  | lt =>
    refine lv_if_lt C.1 C.2.1 hd (hJ_ok h0) (fun q => ?_) (fun q => ?_)
    · rw [(hcmpB_iff (hcn ClassFile.Cond.lt) u 0).mpr ((lt32 ou ok0).mp q)] at kk; exact kk
    · rw [Bool.eq_false_iff.mpr (fun z => q ((lt32 ou ok0).mpr ((hcmpB_iff (hcn ClassFile.Cond.lt) u 0).mp z)))] at kk; exact kk
  | ge =>
    refine lv_if_ge C.1 C.2.1 hd (hJ_ok h0) (fun q => ?_) (fun q => ?_)
    · rw [(hcmpB_iff (hcn ClassFile.Cond.ge) u 0).mpr ((le32 ok0 ou).mp q)] at kk; exact kk
    · rw [Bool.eq_false_iff.mpr (fun z => q ((le32 ok0 ou).mpr ((hcmpB_iff (hcn ClassFile.Cond.ge) u 0).mp z)))] at kk; exact kk
  | gt =>
    refine lv_if_gt C.1 C.2.1 hd (hJ_ok h0) (fun q => ?_) (fun q => ?_)
    · rw [(hcmpB_iff (hcn ClassFile.Cond.gt) u 0).mpr ((lt32 ok0 ou).mp q)] at kk; exact kk
    · rw [Bool.eq_false_iff.mpr (fun z => q ((lt32 ok0 ou).mpr ((hcmpB_iff (hcn ClassFile.Cond.gt) u 0).mp z)))] at kk; exact kk
  | le =>
    refine lv_if_le C.1 C.2.1 hd (hJ_ok h0) (fun q => ?_) (fun q => ?_)
    · rw [(hcmpB_iff (hcn ClassFile.Cond.le) u 0).mpr ((le32 ou ok0).mp q)] at kk; exact kk
    · rw [Bool.eq_false_iff.mpr (fun z => q ((le32 ou ok0).mpr ((hcmpB_iff (hcn ClassFile.Cond.le) u 0).mp z)))] at kk; exact kk
theorem hK_icmp (C : hCtx p s m args meth c y) (cd : ClassFile.Cond) (off : Int) : hOK ρ p l e R s m args below meth c Q K N0 E H00 y nS zS (.if_icmp cd off) := by
  intro pc len op nx d la st σ pc1 la1 st1 σ1 H locs ls hd ho hs hl hst hr hlo hn hz hc hsl hf kk
  obtain ⟨hb, he⟩ := hk1_in ho
  cases he
  simp only [Bool.and_eq_true, decide_eq_true_eq] at hb
  obtain ⟨rfl, h0⟩ := hb
  obtain ⟨v, u, r, rfl, g2⟩ := hs19 hs
  cases Sum.inl.inj g2
  have ov := fa_hd hst
  have ou := fa_hd (fa_tl hst)
  have kk := kk H locs ls hl (fa_tl (fa_tl hst)) hr hlo
  cases cd with
  | eq =>
    refine lv_icmp_eq C.1 C.2.1 hd (hJ_ok h0) (fun q => ?_) (fun q => ?_)
    · rw [(hcmpB_iff (hcn ClassFile.Cond.eq) u v).mpr ((eq32 ou ov).mp q)] at kk; exact kk
    · rw [Bool.eq_false_iff.mpr (fun z => q ((eq32 ou ov).mpr ((hcmpB_iff (hcn ClassFile.Cond.eq) u v).mp z)))] at kk; exact kk
  | ne =>
    refine lv_icmp_ne C.1 C.2.1 hd (hJ_ok h0) (fun q => ?_) (fun q => ?_)
    · rw [(hcmpB_iff (hcn ClassFile.Cond.ne) u v).mpr (fun z => q ((eq32 ou ov).mpr z))] at kk; exact kk
    · rw [Bool.eq_false_iff.mpr (fun z => (hcmpB_iff (hcn ClassFile.Cond.ne) u v).mp z ((eq32 ou ov).mp q))] at kk; exact kk
  | lt =>
    refine lv_icmp_lt C.1 C.2.1 hd (hJ_ok h0) (fun q => ?_) (fun q => ?_)
    · rw [(hcmpB_iff (hcn ClassFile.Cond.lt) u v).mpr ((lt32 ou ov).mp q)] at kk; exact kk
    · rw [Bool.eq_false_iff.mpr (fun z => q ((lt32 ou ov).mpr ((hcmpB_iff (hcn ClassFile.Cond.lt) u v).mp z)))] at kk; exact kk
  | ge =>
    refine lv_icmp_ge C.1 C.2.1 hd (hJ_ok h0) (fun q => ?_) (fun q => ?_)
    · rw [(hcmpB_iff (hcn ClassFile.Cond.ge) u v).mpr ((le32 ov ou).mp q)] at kk; exact kk
    · rw [Bool.eq_false_iff.mpr (fun z => q ((le32 ov ou).mpr ((hcmpB_iff (hcn ClassFile.Cond.ge) u v).mp z)))] at kk; exact kk
  | gt =>
    refine lv_icmp_gt C.1 C.2.1 hd (hJ_ok h0) (fun q => ?_) (fun q => ?_)
    · rw [(hcmpB_iff (hcn ClassFile.Cond.gt) u v).mpr ((lt32 ov ou).mp q)] at kk; exact kk
    · rw [Bool.eq_false_iff.mpr (fun z => q ((lt32 ov ou).mpr ((hcmpB_iff (hcn ClassFile.Cond.gt) u v).mp z)))] at kk; exact kk
  | le =>
    refine lv_icmp_le C.1 C.2.1 hd (hJ_ok h0) (fun q => ?_) (fun q => ?_)
    · rw [(hcmpB_iff (hcn ClassFile.Cond.le) u v).mpr ((le32 ou ov).mp q)] at kk; exact kk
    · rw [Bool.eq_false_iff.mpr (fun z => q ((le32 ou ov).mpr ((hcmpB_iff (hcn ClassFile.Cond.le) u v).mp z)))] at kk; exact kk
theorem hK_ifnull (C : hCtx p s m args meth c y) (off : Int) : hOK ρ p l e R s m args below meth c Q K N0 E H00 y nS zS (.ifnull off) := by
  intro pc len op nx d la st σ pc1 la1 st1 σ1 H locs ls hd ho hs hl hst hr hlo hn hz hc hsl hf kk
  obtain ⟨hb, he⟩ := hk1_in ho
  cases he
  simp only [Bool.and_eq_true, decide_eq_true_eq] at hb
  obtain ⟨rfl, h0⟩ := hb
  obtain ⟨q, r, rfl, g2⟩ := hs20 hs
  cases Sum.inl.inj g2
  have kk := kk H locs ls hl (fa_tl hst) hr hlo
  cases q with
  | none => exact lv_ifnullN C.1 C.2.1 hd (hJ_ok h0) kk
  | some a => exact lv_ifnull C.1 C.2.1 hd kk
theorem hK_ifnonnull (C : hCtx p s m args meth c y) (off : Int) : hOK ρ p l e R s m args below meth c Q K N0 E H00 y nS zS (.ifnonnull off) := by
  intro pc len op nx d la st σ pc1 la1 st1 σ1 H locs ls hd ho hs hl hst hr hlo hn hz hc hsl hf kk
  obtain ⟨hb, he⟩ := hk1_in ho
  cases he
  simp only [Bool.and_eq_true, decide_eq_true_eq] at hb
  obtain ⟨rfl, h0⟩ := hb
  obtain ⟨q, r, rfl, g2⟩ := hs20 hs
  cases Sum.inl.inj g2
  have kk := kk H locs ls hl (fa_tl hst) hr hlo
  cases q with
  | none => exact lv_ifnonnullN C.1 C.2.1 hd kk
  | some a => exact lv_ifnonnull C.1 C.2.1 hd (hJ_ok h0) kk
theorem hK_acmp (C : hCtx p s m args meth c y) (cd : ClassFile.ACond) (off : Int) : hOK ρ p l e R s m args below meth c Q K N0 E H00 y nS zS (.if_acmp cd off) := by
  intro pc len op nx d la st σ pc1 la1 st1 σ1 H locs ls hd ho hs hl hst hr hlo hn hz hc hsl hf kk
  obtain ⟨hb, he⟩ := hk1_in ho
  cases he
  simp only [Bool.and_eq_true, decide_eq_true_eq] at hb
  obtain ⟨rfl, h0⟩ := hb
  obtain ⟨q, z, r, rfl, gq, gz, g2⟩ := hs21 hs
  cases Sum.inl.inj g2
  have kk := kk H locs ls hl (fa_tl (fa_tl hst)) hr hlo
  have hin := hr.1.2.1.opt gz gq
  cases cd with
  | eq =>
    refine lv_acmp_eq C.1 C.2.1 hd (hJ_ok h0) (fun h => ?_) (fun h => ?_)
    · rw [decide_eq_true (hin.mp h)] at kk; exact kk
    · rw [decide_eq_false (fun e => h (hin.mpr e))] at kk; exact kk
  | ne =>
    refine lv_acmp_ne C.1 C.2.1 hd (hJ_ok h0) (fun h => ?_) (fun h => ?_)
    · rw [decide_eq_false (fun e => h (hin.mpr e))] at kk; exact kk
    · rw [decide_eq_true (hin.mp h)] at kk; exact kk
theorem hK_goto (C : hCtx p s m args meth c y) (off : Int) : hOK ρ p l e R s m args below meth c Q K N0 E H00 y nS zS (.goto off) := by
  intro pc len op nx d la st σ pc1 la1 st1 σ1 H locs ls hd ho hs hl hst hr hlo hn hz hc hsl hf kk
  obtain ⟨hb, he⟩ := hk1_in ho
  cases he
  simp only [Bool.and_eq_true, decide_eq_true_eq] at hb
  obtain ⟨rfl, h0⟩ := hb
  cases (show some (Sum.inl ((hJ pc off).toNat, la, st, σ)) = some (Sum.inl (pc1, la1, st1, σ1)) from hs)
  exact lv_goto C.1 C.2.1 hd (hJ_ok h0) (kk H locs ls hl hst hr hlo)
theorem hK_tsw (C : hCtx p s m args meth c y) (dflt lo hi : Int) (offs : Array Int) : hOK ρ p l e R s m args below meth c Q K N0 E H00 y nS zS (.tableswitch dflt lo hi offs) := by
  intro pc len op nx d la st σ pc1 la1 st1 σ1 H locs ls hd ho hs hl hst hr hlo hn hz hc hsl hf kk
  obtain ⟨hb, he⟩ := hk1_in ho
  cases he
  simp only [Bool.and_eq_true, decide_eq_true_eq] at hb
  obtain ⟨⟨h0, h1⟩, h2⟩ := hb
  obtain ⟨u, r, rfl, g2⟩ := hs23 hs
  cases Sum.inl.inj g2
  have ou := fa_hd hst
  have kk := kk H locs ls hl (fa_tl hst) hr hlo
  have hu : (Int32.ofInt u).toInt = u := i32r ou
  have hlen : (offs.toList.map (hJ pc)).length = offs.size := by simp
  by_cases q : u < lo ∨ lo + (offs.toList.map (hJ pc)).length ≤ u
  · rw [if_pos q] at kk
    exact lv_tableOut C.1 C.2.1 hd (by rw [hu]; rw [hlen] at q; rcases q with q | q; exact Or.inl q; exact Or.inr (by omega)) (hJ_ok h0) kk
  · rw [if_neg q] at kk
    rw [hlen] at q
    have hi1 : (u - lo).toNat < offs.size := by omega
    have ho1 : offs[(u - lo).toNat]? = some offs[(u - lo).toNat] := Array.getElem?_eq_getElem hi1
    have hj : 0 ≤ hJ pc offs[(u - lo).toNat] := of_decide_eq_true (List.all_eq_true.mp h2 _ (by simp))
    refine lv_tableIn C.1 C.2.1 hd (by rw [hu]; omega) (by rw [hu]; omega) (by rw [hu]; exact ho1) (hJ_ok hj) ?_
    have e1 : (offs.toList.map (hJ pc)).getD (u - lo).toNat 0 = hJ pc offs[(u - lo).toNat] := by
      rw [List.getD_eq_getElem?_getD, List.getElem?_map]
      simp [hi1]
    rw [e1] at kk
    exact kk
end HST2
