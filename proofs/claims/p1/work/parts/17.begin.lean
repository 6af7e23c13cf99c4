/-! The start: the heap stands as the small machine's first memory says. -/
theorem hTb_ok (j k : Nat) : okv (vI ((hTb.getD j []).getD k 0)) := by
  have h1 : hTb.all (fun l => l.all (fun v => decide (0 ≤ v) && decide (v ≤ 127))) = true := by decide +kernel
  have h2 : ∀ l ∈ hTb, ∀ v ∈ l, 0 ≤ v ∧ v ≤ 127 := fun l hl v hv => by
    have h3 := List.all_eq_true.mp (List.all_eq_true.mp h1 l hl) v hv
    simpa using h3
  rcases Nat.lt_or_ge j hTb.length with hj | hj
  · have e1 : hTb.getD j [] = hTb[j] := by simp [List.getD_eq_getElem?_getD, hj]
    rw [e1]
    rcases Nat.lt_or_ge k hTb[j].length with hk | hk
    · have e2 : hTb[j].getD k 0 = hTb[j][k] := by simp [List.getD_eq_getElem?_getD, hk]
      rw [e2]
      have := h2 _ (List.getElem_mem hj) _ (List.getElem_mem hk)
      exact ⟨by omega, by omega⟩
    · rw [List.getD_eq_getElem?_getD, List.getElem?_eq_none hk]
      exact ⟨by decide, by decide⟩
  · have e1 : hTb.getD j [] = [] := by rw [List.getD_eq_getElem?_getD, List.getElem?_eq_none hj]; rfl
    rw [e1]
    exact ⟨by simp, by simp⟩
theorem hUN_ok (l : List Int) (h : l.all (fun v => decide (0 ≤ v) && decide (v ≤ 2147483647)) = true) (k : Nat) : okv (vI (l.getD k 0)) := by
  rcases Nat.lt_or_ge k l.length with hk | hk
  · have e2 : l.getD k 0 = l[k] := by simp [List.getD_eq_getElem?_getD, hk]
    rw [e2]
    have h3 := List.all_eq_true.mp h _ (List.getElem_mem hk)
    simp only [Bool.and_eq_true, decide_eq_true_eq] at h3
    exact ⟨by omega, by omega⟩
  · rw [List.getD_eq_getElem?_getD, List.getElem?_eq_none hk]
    exact ⟨by decide, by decide⟩
theorem ofNat32 {n : Nat} (h : n ≤ 1000000) : Int32.ofNat n = Int32.ofInt (n : Int) := (cv_len h).1
theorem hRow_of {ρ : Nat → Nat} {s : State} {σ : hM} {a t len N0 : Nat} {ty : FieldType} {f : Nat → Value} (hlt : a < hK) (ht : t < 4) (hty : hArr t = ty) (hlen : len ≤ 1000000) (hT : va_T ty (ρ a) len f (fun q => N0 ≤ q) s s.heap)
    (hv : ∀ j, j < len → f j = cv ρ (hld σ (hat t) a j) ∧ okv (hld σ (hat t) a j)) : hRow ρ s σ s.heap hK a t len := by
  obtain ⟨cell, h1, h2, h3, h4, h5, h6, -⟩ := hT
  refine ⟨cell, h1, h3, by rw [hty]; exact h2, fun h => absurd h (by omega), fun h => absurd h (by omega), ⟨h4, by rw [h5]; exact ofNat32 hlen⟩, hlen, fun j hj => ⟨by rw [h6 j hj, (hv j hj).1], (hv j hj).2⟩⟩
theorem va_T.lt {ty : FieldType} {t len N0 : Nat} {f : Nat → Value} {s : State} (h : va_T ty t len f (fun q => N0 ≤ q) s s.heap) : t < N0 := by
  obtain ⟨cell, h1, h2, h3, h4, h5, h6, h7⟩ := h
  exact Nat.not_le.mp h7
theorem va_O.lt {E : String} {t N0 : Nat} {s : State} (h : va_O E t (fun q => N0 ≤ q) s s.heap) : t < N0 := by
  obtain ⟨cell, h1, h2, h3, h4⟩ := h
  exact Nat.not_le.mp h4
theorem mT0 (L : Nat) (xs : Nat → Int) (a : Nat) : mT (hσ0 L xs) a = if a = 0 then some (Sum.inr (0, L)) else if a = 2 then some (Sum.inr (0, 4)) else if a = 3 then some (Sum.inr (0, 4)) else if 4 ≤ a ∧ a < 4 + 2 * hNS then (if a % 2 = 0 then some (Sum.inl 10) else some (Sum.inr (1, hTl ((a - 4) / 2)))) else none := rfl
theorem mI0 (L : Nat) (xs : Nat → Int) (a k : Nat) : mI (hσ0 L xs) a k = if a = 0 then xs k else if a = 2 then hUN.getD k 0 else if a = 3 then hND.getD k 0 else if 4 ≤ a ∧ a < 4 + 2 * hNS ∧ a % 2 = 1 then (hTb.getD ((a - 4) / 2) []).getD k 0 else 0 := rfl
theorem mR0 (L : Nat) (xs : Nat → Int) (a k : Nat) : mR (hσ0 L xs) a k = if 4 ≤ a ∧ a < 4 + 2 * hNS ∧ a % 2 = 0 ∧ k = 0 then some (a + 1) else none := rfl
theorem start_of {s : State} {b L : Nat} {xs : Nat → Int32} (hL : L ≤ 2560) (hts : ∀ w ∈ lw_tbl, w.before #[Value.ref b] s = true) (hX : va_X b L xs s s.heap) (hbl : b < s.heap.size) (hgv : (Jvm.Cond.and given_1 narrow_1).before #[Value.ref b] s = true) :
    ∃ (ρ : Nat → Nat) (fb : Bool), ρ 0 = b ∧ hRel ρ hK s.heap.size s.heap s (hσ0 L (fun j => (xs j).toInt)) s.heap ∧ hEnv ρ s.heap.size (hE fb) s.heap s := by
  obtain ⟨ad, had⟩ := Classical.axiomOfChoice (str_of hgv)
  obtain ⟨un, hun1, hunT⟩ := ints_of (n := "USER_NAMES") (l := hUN) (by decide) (fun e he => hNar hgv e (List.mem_append_right _ (List.mem_append_left _ he)))
  obtain ⟨nd, hnd1, hndT⟩ := ints_of (n := "NEEDS") (l := hND) (by decide) (fun e he => hNar hgv e (List.mem_append_right _ (List.mem_append_right _ (List.mem_append_left _ he))))
  have hco := va_eqi (hNar hgv (.eq (.static "java/lang/String" "COMPACT_STRINGS" "Z") (.int 1)) (List.mem_append_left _ (by simp)))
  obtain ⟨v, hv, hvr⟩ := Cond.isRef_spec (hNar hgv (.isRef (.static "jdk/internal/util/Preconditions" "SIOOBE_FORMATTER" "Ljava/util/function/BiFunction;")) (List.mem_append_left _ (by simp)))
  obtain ⟨fm, fb, hvf⟩ : ∃ (fm : Nat) (fb : Bool), v = (if fb = true then .ref fm else .null) := by
    have hnull : v = .null ∨ ∃ a, v = .ref a := by cases v <;> simp [Value.isRef] at hvr <;> simp
    rcases hnull with rfl | ⟨a, rfl⟩
    · exact ⟨b, false, rfl⟩
    · exact ⟨a, true, rfl⟩
  have hKK : hK = 128 := rfl
  have hNN : hNS = 58 := rfl
  have r0 : hρ s.heap.size b fm un nd ad 0 = b := rfl
  have r1 : hρ s.heap.size b fm un nd ad 1 = fm := rfl
  have r2 : hρ s.heap.size b fm un nd ad 2 = un := rfl
  have r3 : hρ s.heap.size b fm un nd ad 3 = nd := rfl
  have rK : ∀ j, j < 58 → hρ s.heap.size b fm un nd ad (4 + 2 * j) = (ad j).1 := fun j hj => by
    unfold hρ
    rw [if_pos (by omega), if_neg (by omega), if_neg (by omega), if_neg (by omega), if_pos (by omega), if_pos (by omega), show (4 + 2 * j - 4) / 2 = j by omega]
  have rV : ∀ j, j < 58 → hρ s.heap.size b fm un nd ad (4 + 2 * j + 1) = (ad j).2 := fun j hj => by
    unfold hρ
    rw [if_pos (by omega), if_neg (by omega), if_neg (by omega), if_neg (by omega), if_pos (by omega), if_neg (by omega), show (4 + 2 * j + 1 - 4) / 2 = j by omega]
  have rN : ∀ a, hK ≤ a → hρ s.heap.size b fm un nd ad a = s.heap.size + (a - hK) := fun a ha => by
    unfold hρ
    rw [if_neg (by omega)]
  have hrest : ∀ a, a < hK → a ≠ 1 → a ≠ 2 → a ≠ 3 → ¬ (4 ≤ a ∧ a < 4 + 2 * hNS) → hρ s.heap.size b fm un nd ad a = b := fun a h0 h1 h2 h3 h4 => by
    unfold hρ
    rw [if_pos h0, if_neg h1, if_neg h2, if_neg h3, if_neg h4]
  generalize hρ s.heap.size b fm un nd ad = ρ at r0 r1 r2 r3 rK rV rN hrest
  have split4 : ∀ a, 4 ≤ a ∧ a < 4 + 2 * hNS → ∃ j, j < 58 ∧ (a = 4 + 2 * j ∨ a = 4 + 2 * j + 1) := fun a h => ⟨(a - 4) / 2, by omega, by omega⟩
  refine ⟨ρ, fb, r0, ⟨⟨rfl, ⟨fun a ha => by rw [rN a ha]; omega, fun a ha h1 => ?_⟩, rfl, by omega⟩, Nat.le_refl _, fun a _ => rfl, fun a c hc => ?_, fun a t len hc => ?_⟩, ?_⟩
  · by_cases h4 : 4 ≤ a ∧ a < 4 + 2 * hNS
    · obtain ⟨j, hj, rfl | rfl⟩ := split4 a h4
      · rw [rK j hj]; exact (had j hj).2.1.lt
      · rw [rV j hj]; exact (had j hj).2.2.2.2.lt
    · by_cases e2 : a = 2
      · rw [e2, r2]; exact hunT.lt
      · by_cases e3 : a = 3
        · rw [e3, r3]; exact hndT.lt
        · by_cases e0 : a = 0
          · rw [e0, r0]; exact hbl
          · have hx : ρ a = b := hrest a ha h1 e2 e3 h4
            rw [hx]; exact hbl
  · rw [mT0] at hc
    by_cases h4 : 4 ≤ a ∧ a < 4 + 2 * hNS
    · rw [if_neg (by omega), if_neg (by omega), if_neg (by omega), if_pos h4] at hc
      obtain ⟨j, hj, rfl | rfl⟩ := split4 a h4
      · rw [if_pos (by omega)] at hc
        cases hc
        obtain ⟨g1, ⟨cell, c1, c2, c3, c4⟩, ⟨cf, kc, fi, f, cell2, d1, d2, d3, d4, d5, d6⟩, ⟨cf3, kc3, fi3, f3, cell3, e1, e2, e3, e4, e5, e6⟩, -⟩ := had j hj
        cases c1.symm.trans d3
        cases c1.symm.trans e3
        refine ⟨cell, by rw [rK j hj]; exact c1, d4, c2, c3, fun h => absurd h (by omega), fun k hk => ?_⟩
        match k, hk with
        | 0, _ =>
          refine ⟨cf3, kc3, fi3, f3, e1, e2, ?_, trivial⟩
          rw [show hld (hσ0 L (fun j => (xs j).toInt)) (hFd 10 0).2.2.1 (4 + 2 * j) 0 = vR (some (4 + 2 * j + 1)) by show vR (mR _ _ _) = _; rw [mR0, if_pos (by omega)]]
          rw [e5]
          show _ = some (Value.ref (ρ (4 + 2 * j + 1)))
          rw [rV j hj]
        | 1, _ =>
          have e9 : hld (hσ0 L (fun j => (xs j).toInt)) (hFd 10 1).2.2.1 (4 + 2 * j) 1 = vI 0 := by show vI (mI _ _ _) = _; rw [mI0, if_neg (by omega), if_neg (by omega), if_neg (by omega), if_neg (by omega)]
          rw [e9]
          exact ⟨cf, kc, fi, f, d1, d2, d5, ⟨by decide, by decide⟩⟩
        | k + 2, h => exact absurd h (by show ¬ k + 2 < 2; omega)
      · rw [if_neg (by omega)] at hc; cases hc
    · exfalso
      by_cases e0 : a = 0
      · rw [if_pos e0] at hc; cases hc
      · rw [if_neg e0] at hc
        by_cases e2 : a = 2
        · rw [if_pos e2] at hc; cases hc
        · rw [if_neg e2] at hc
          by_cases e3 : a = 3
          · rw [if_pos e3] at hc; cases hc
          · rw [if_neg e3, if_neg h4] at hc; cases hc
  · rw [mT0] at hc
    by_cases e0 : a = 0
    · rw [if_pos e0] at hc
      cases hc
      subst e0
      obtain ⟨scr, x1, x2, x3, x4, x5⟩ := hX
      refine ⟨scr, by rw [r0]; exact x1, x3, x2, fun h => absurd h (by omega), fun h => absurd h (by omega), ⟨by omega, by rw [x4]; exact (cv_len (by omega)).1⟩, by omega, fun j hj => ?_⟩
      have e9 : hld (hσ0 L (fun j => (xs j).toInt)) (hat 0) 0 j = vI (xs j).toInt := rfl
      rw [e9, x5 j hj]
      exact ⟨by show _ = some (Value.int (Int32.ofInt (xs j).toInt)); rw [Int32.ofInt_toInt], ok_t32 _⟩
    · rw [if_neg e0] at hc
      by_cases e2 : a = 2
      · rw [if_pos e2] at hc
        cases hc
        subst e2
        refine hRow_of (ty := .int) (by omega) (by omega) rfl (by omega) (by rw [r2]; exact hunT) (fun j hj => ?_)
        have e9 : hld (hσ0 L (fun j => (xs j).toInt)) (hat 0) 2 j = vI (hUN.getD j 0) := rfl
        rw [e9]
        exact ⟨rfl, hUN_ok hUN (by decide) j⟩
      · rw [if_neg e2] at hc
        by_cases e3 : a = 3
        · rw [if_pos e3] at hc
          cases hc
          subst e3
          refine hRow_of (ty := .int) (by omega) (by omega) rfl (by omega) (by rw [r3]; exact hndT) (fun j hj => ?_)
          have e9 : hld (hσ0 L (fun j => (xs j).toInt)) (hat 0) 3 j = vI (hND.getD j 0) := rfl
          rw [e9]
          exact ⟨rfl, hUN_ok hND (by decide) j⟩
        · rw [if_neg e3] at hc
          by_cases h4 : 4 ≤ a ∧ a < 4 + 2 * hNS
          · rw [if_pos h4] at hc
            obtain ⟨j, hj, rfl | rfl⟩ := split4 a h4
            · rw [if_pos (by omega)] at hc; cases hc
            · rw [if_neg (by omega), show (4 + 2 * j + 1 - 4) / 2 = j by omega] at hc
              cases hc
              refine hRow_of (ty := .byte) (by omega) (by omega) rfl (by have := hTl_lt (j := j) hj; omega) (by rw [rV j hj]; exact (had j hj).2.2.2.2) (fun k hk => ?_)
              have e9 : hld (hσ0 L (fun j => (xs j).toInt)) (hat 1) (4 + 2 * j + 1) k = vI ((hTb.getD j []).getD k 0) := by
                show vI (mI _ _ _) = _
                rw [mI0, if_neg (by omega), if_neg (by omega), if_neg (by omega), if_pos (by omega), show (4 + 2 * j + 1 - 4) / 2 = j by omega]
              rw [e9]
              exact ⟨rfl, hTb_ok j k⟩
          · rw [if_neg h4] at hc; cases hc
  · have hA : ∀ a : Nat, a < s.heap.size → ¬ s.heap.size ≤ a := fun a h1 h2 => by omega
    have hini : ∀ o, (hIq.any (fun e => decide (e.2 = o))) = true → (Cond.initialized (hName o)).before #[Value.ref b] s = true := by
      intro o h
      obtain ⟨p, hp⟩ := hMin1 h
      exact hts _ (hwalk_mem hIq_ok (List.mem_map.mpr ⟨_, hp, rfl⟩))
    have hsta : ∀ j, (hSq.any (fun e => decide (e.2 = j))) = true → (Cond.laysStatic (hSn j).1 (hSn j).2.1 (hSn j).2.2).before #[Value.ref b] s = true := by
      intro j h
      obtain ⟨p, hp⟩ := hMin1 h
      exact hts _ (hwalk_mem hSq_ok (List.mem_map.mpr ⟨_, hp, rfl⟩))
    refine ⟨fun q hq hn => ?_, fun q hq hn hn2 => ?_, fun q hq hn => ?_, fun q hq => ?_, fun q hq => ?_, fun j hj => ?_, fun j => ?_⟩
    · have e : hwF q = .fieldLinkNest (hName q.1) q.2.1 (hName q.2.2.1) (hFd q.2.2.1 q.2.2.2.1).1 (hFd q.2.2.1 q.2.2.2.1).2.1 q.2.2.2.2.2.2 := if_neg hn
      have h := hts _ (hwalk_mem hLF_ok (List.mem_map.mpr ⟨_, hq, rfl⟩))
      rw [e] at h ⊢
      exact va_Nw.of rfl h
    · have e : hwL q = .methodLinkNest (hName q.1) q.2.1 (hmY q.2.2.1) q.2.2.2.2.2 := (if_neg hn).trans (if_neg hn2)
      have h := hts _ (hwalk_mem hLM_ok (List.mem_map.mpr ⟨_, hq, rfl⟩))
      rw [e] at h ⊢
      exact va_Nw.of rfl h
    · have e : hwG q = .fieldLinkNest (hName q.1) q.2.1 (hSn q.2.2.1).1 (hSn q.2.2.1).2.1 (hSn q.2.2.1).2.2 q.2.2.2.2.2 := if_neg hn
      have h := hts _ (hwalk_mem hLG_ok (List.mem_map.mpr ⟨_, hq, rfl⟩))
      rw [e] at h ⊢
      exact va_Nw.of rfl h
    · exact va_AO.of (hts _ (hwalk_mem hAq_ok (List.mem_map.mpr ⟨_, hq, rfl⟩)))
    · have h1 : (hLS.all (fun q => decide (q.2.2.1 < 58) && decide (hLS.getD q.2.2.1 (0, 0, 0, 0) = q))) = true := by decide +kernel
      have h2 := List.all_eq_true.mp h1 q hq
      simp only [Bool.and_eq_true, decide_eq_true_eq] at h2
      refine ⟨4 + 2 * q.2.2.1, (by rw [Nat.add_comm 4]; rfl), vk_R.of (hts _ (hwalk_mem hLS_ok (List.mem_map.mpr ⟨_, hq, rfl⟩))) ?_⟩
      have h3 := (had q.2.2.1 h2.1).1
      unfold hTm at h3
      rw [h2.2] at h3
      rw [rK _ h2.1]
      exact h3
    · match j, hj with
      | 0, _ => exact va_Zof (hsta 0 (by decide)) (hini 10 (by decide)) hco hA
      | 1, _ =>
        refine va_Zof (hsta 1 (by decide)) (hini 12 (by decide)) ?_ hA
        have e9 : cv ρ (hE fb 1) = v := by
          rw [hvf]
          cases fb
          · rfl
          · show Value.ref (ρ 1) = _
            rw [r1]
            rfl
        rw [e9]
        exact hv
      | 2, _ =>
        refine va_Zof (hsta 2 (by decide)) (hini 0 (by decide)) ?_ hA
        show _ = some (Value.ref (ρ 2))
        rw [r2]
        exact hun1
      | 3, _ =>
        refine va_Zof (hsta 3 (by decide)) (hini 0 (by decide)) ?_ hA
        show _ = some (Value.ref (ρ 3))
        rw [r3]
        exact hnd1
      | k + 4, h => exact absurd h (by omega)
    · match j with
      | 0 => exact ⟨by decide, by decide⟩
      | 1 => cases fb <;> trivial
      | 2 => trivial
      | 3 => trivial
      | k + 4 => trivial
/-- the law's whole run, out of the small machine's -/
theorem whole_of {T : Nat → Nat → Option (hOp × Nat)} (hT : hTok T) {p : Program} {e : Env} {s : State} {m : MethodId} {below : List Frame} {meth : Method} {c : Code} (l : Launch) {b L : Nat} {xs : Nat → Int32} (hL : L ≤ 2560) (C0 : lw_At p s m meth c b L xs)
    (hrun : ∀ fb : Bool, ∃ n σ1, hx hK (hE fb) T n 22 hNM 0 (hpad (hent [vR (some 0)]) 4) [] (hσ0 L (fun j => (xs j).toInt)) = some (some (vI 1), σ1) ∧ σ1.1 ≤ hK + 600000 ∧ σ1.2.1 ≤ 7302250) :
    W p l e room_1 s m #[Value.ref b] below meth c s.heap [] 0 0 (lw_Z below #[Value.ref b] s) (entryFrame m ([Value.ref b] : List Value).toArray 4) := by
  obtain ⟨hx1, hb1, hret1, hml, hown, hts, hX, hbl, hlocks, hgv⟩ := C0
  obtain ⟨ρ, fb, r0, hrel, henv⟩ := start_of hL hts hX hbl hgv
  obtain ⟨n, σ1, hrun, hc1, hz1⟩ := hrun fb
  have C : hCtx p s m #[Value.ref b] meth c hNM := ⟨hx1, hb1, hml, hown, fun w hw => hts w (hBig_ok w hw).1, fun h => absurd h (by decide)⟩
  have hloc : hLoc ρ ((lg_sl ([vR (some 0)].map (cv ρ)) ++ List.replicate (4 - (lg_sl ([vR (some 0)].map (cv ρ))).length) Slot.unset).toArray) 4 (hpad (hent [vR (some 0)]) 4) := hLoc_entry [vR (some 0)] 4 (fun v hv => by rw [List.mem_singleton.mp hv]; trivial) (by decide)
  rw [lg_entry_eq]
  have e0 : ([Value.ref b] : List Value) = [vR (some 0)].map (cv ρ) := by show _ = [Value.ref (ρ 0)]; rw [r0]
  rw [show (lg_sl [Value.ref b] ++ List.replicate (4 - (lg_sl [Value.ref b]).length) Slot.unset).toArray = (lg_sl ([vR (some 0)].map (cv ρ)) ++ List.replicate (4 - (lg_sl ([vR (some 0)].map (cv ρ))).length) Slot.unset).toArray by rw [e0]]
  have key := hx_body ρ l hK s.heap.size (hE fb) s.heap hT n (p := p) (e := e) (R := room_1) (below := below) (Q := lw_Z below #[Value.ref b] s) (nS := hK) (zS := 0) (locs := []) C henv hml (by decide) (by decide) hrun hloc (fun v hv => absurd hv List.not_mem_nil) hrel (fun q hq => absurd hq List.not_mem_nil) (Nat.le_refl _) (Nat.le_refl _) hc1 (by show _ ≤ 0 + 7302250; omega)
    (fun H1 locs1 ls1 pc1 i len nx d1 k b1 tg la1 st1 hd ho hs hst1 hr1 hlo1 => by
      obtain ⟨r', h1, hst, h3⟩ := hs33 hs
      cases Sum.inr.inj (Sum.inr.inj h1)
      subst hst
      have hk : k = 1 ∨ k = 2 ∨ k = 5 ∨ k = 6 := by
        rcases h3 with ⟨h, -⟩ | ⟨z, -, h | ⟨h, -⟩ | ⟨h, -⟩ | ⟨h, -⟩⟩ | ⟨z, h, -⟩ | ⟨q, h, -⟩
        · cases h
        · exact Or.inl h
        · exact Or.inr (Or.inl h)
        · exact Or.inr (Or.inr (Or.inl h))
        · exact Or.inr (Or.inr (Or.inr h))
        · cases h
        · cases h
      have hi : i = .ireturn ∧ len = 1 := by
        by_cases h4 : i = .ireturn
        · subst h4
          refine ⟨rfl, ?_⟩
          have ho : ((33, k, b1, tg), nx) ∈ hk1 (decide (len = 1) && decide (hmR hNM = some .int)) (33, 1, 0, []) (pc1 + 1) ++ (hk1 (decide (len = 1) && decide (hmR hNM = some .boolean)) (33, 2, 0, []) (pc1 + 1) ++
            (hk1 (decide (len = 1) && decide (hmR hNM = some .byte)) (33, 5, 0, []) (pc1 + 1) ++ hk1 (decide (len = 1) && decide (hmR hNM = some .char)) (33, 6, 0, []) (pc1 + 1))) := ho
          have fin : ∀ {bb : Bool} {op : hOp} {nx2 : Nat}, ((33, k, b1, tg), nx) ∈ hk1 (decide (len = 1) && bb) op nx2 → len = 1 := by
            intro bb op nx2 h
            have h5 := (hk1_in h).1
            simp only [Bool.and_eq_true, decide_eq_true_eq] at h5
            exact h5.1
          rcases List.mem_append.mp ho with ho | ho
          · exact fin ho
          · rcases List.mem_append.mp ho with ho | ho
            · exact fin ho
            · rcases List.mem_append.mp ho with ho | ho
              · exact fin ho
              · exact fin ho
        · exfalso
          by_cases g1 : i = .return_
          · subst g1
            obtain ⟨-, he⟩ := hk1_in ho
            cases he
            omega
          · by_cases g2 : i = .lreturn
            · subst g2
              obtain ⟨-, he⟩ := hk1_in ho
              cases he
              omega
            · by_cases g3 : i = .areturn
              · subst g3
                obtain ⟨-, he⟩ := hk1_in ho
                cases he
                omega
              · exact hret_no g1 g2 g3 h4 ho
      obtain ⟨rfl, rfl⟩ := hi
      refine va_forget hlo1 (W.widen (k := 600000) (n := 7302250) (by omega) (by omega) ?_)
      exact lw_ret hx1 hb1 hret1 hlocks hd)
  rw [show (hσ0 L (fun j => (xs j).toInt)).1 - hK = 0 from Nat.sub_self _] at key
  exact key
