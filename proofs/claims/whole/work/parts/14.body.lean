/-! Whatever the small machine comes to, the Java machine comes to: by induction on the small machine's steps. -/
theorem hmF {y : Nat} (h : y < hNM) : ((hmY y).cls ≠ "java/lang/invoke/MethodHandle" ∧ (hmY y).cls ≠ "java/lang/invoke/VarHandle") ∧ plainFor (hmY y) = true ∧ (parseMethodDescriptor (hmY y).desc).map (fun d => d.parameters.length) = some (hmN y - (if hmK y = 0 then 0 else 1)) ∧ hmL y ≤ 17 ∧ (hmK y = 0 ∨ 1 ≤ hmN y) ∧
    (hmK y ≤ 1 ∨ (hmY y).name = "<init>" ∧ hmR y = none ∧ hmK y = 2) := by
  have h1 := List.all_eq_true.mp hmOk1_all y (List.mem_range.mpr h)
  have h2 := List.all_eq_true.mp hmOk2_all y (List.mem_range.mpr h)
  have h3 := List.all_eq_true.mp hmOk3_all y (List.mem_range.mpr h)
  unfold hmOk1 at h1
  unfold hmOk2 at h2
  unfold hmOk3 at h3
  simp only [Bool.and_eq_true, Bool.or_eq_true, decide_eq_true_eq] at h1 h2 h3
  exact ⟨⟨h1.1.1, h1.1.2⟩, h1.2, h2.1.1, h2.1.2, h2.2, h3.1.imp id (fun q => ⟨q.1.1, q.1.2, q.2⟩)⟩
theorem opt_map {ρ : Nat → Nat} (r : Option AV) : r.toList.map (cv ρ) = (r.map (cv ρ)).toList := by cases r <;> rfl
theorem hmC_word {y : Nat} (h : y < hNM) : Cond.code (hmY y) (hmB y) (hmL y) (hmR y) ∈ lw_tbl := (hMw_of h).1
theorem hmS_word {y : Nat} (h : y < hNM) (hk : hmK y = 0) : Cond.static (hmY y) ∈ lw_tbl := by
  have h1 := (hMw_of h).2.2.1
  have e : hwM y 2 = .static (hmY y) := if_pos hk
  rw [e] at h1
  exact h1
theorem hmI_word {y : Nat} (h : y < hNM) (hk : hmK y ≠ 0) : Cond.instanceMethod (hmY y) ∈ lw_tbl := by
  have h1 := (hMw_of h).2.2.1
  have e : hwM y 2 = .instanceMethod (hmY y) := if_neg hk
  rw [e] at h1
  exact h1
theorem hmV_word {y : Nat} (h : y < hNM) (hk : hmK y = 1) : Cond.selects (hName (hmO y)) (hmY y) (hmY y) ∈ lw_tbl := (hMw_of h).2.2.2 hk
theorem hLM_word {o k y1 ns pp : Nat} {host : String} (e : hf3 hLM o k = some (y1, ns, pp, host)) : hwL (o, k, y1, ns, pp, host) ∈ lw_tbl := hwalk_mem hLM_ok (List.mem_map.mpr ⟨_, hf3_in _ _ _ _ e, rfl⟩)
section HCALL
variable {p : Program} {l : Launch} {e : Env} {R : Room} {s : State} {m : MethodId} {args : Array Value} {below : List Frame} {meth : Method} {c : Code} {H : Heap} {locs : List Loc} {cells slots : Nat}
variable {y : MethodName} {bytes cc : ByteArray} {maxL nL mc ms n index : Nat} {ret : Option FieldType} {ws : List Cond} {rm : Room} {Pc : Array Value → State → Prop} {Qc : Array Value → State → Outcome → State → Prop} {free : Addr → Prop} {Ts : List Cond} {own C : String} {b : Addr} {As rest : List Value} {g : JFrame}
/-- a virtual call above up to ten words of the caller's stack -/
theorem hRunV (S : CallFix p m c cc nL s args Ts own) (hM : Met l y ws rm Pc Qc mc ms free) (cw : CallW R s args own C index y bytes maxL ret ws rm mc ms n) (h10 : 10 + (maxL + 11) + rm.locals ≤ R.locals) (hp : PreV s H C b Pc As)
    (hg : g.method = m) (hn : As.length = n) (hsize : g.locals.size = nL) (hstack : g.stack = As.reverse ++ .ref b :: rest) (hW : 2 * g.monitorRoom + (rest.map fun v => v.category).sum ≤ 10) (hdg : decode cc g.pc = .ok (.invokevirtual index, 3)) (hf : cells + mc ≤ R.cells ∧ slots + ms ≤ R.slots) :
    va_Run p l e R s m args below meth c H locs cells slots mc ms g rest (Qc (Value.ref b :: As).toArray) free := fun T hT X => by
  obtain ⟨cb, hin, hse⟩ := cw
  obtain ⟨w1, w2, w3, -, w5, w6, w7, w8, w9, w10, w11⟩ := cb
  obtain ⟨s1, s2, s3, s4, -⟩ := S
  obtain ⟨hbl, ⟨cell, b1, b2, b3⟩, hPc⟩ := hp
  have hK : Back l R p e below s args y 3 10 (PreOf R mc ms Pc) (PostOf Qc mc ms free) := back_of (bytes := bytes) (maxL := maxL) (ret := ret) hM hbl w1 w2 w3 h10 w5 w6 (fun a U hU => word_at hU (Or.inl (by first | rfl | simp [Cond.onTables, Cond.keeps, Cond.steady])) w8)
  have hc := callV X s1 (C := C) (bytes := bytes) (maxL := maxL) (ret := ret) s4 w11 hin hse w7 w9 hK (by rw [hT]; exact b1) b2 b3 hg (hsize.trans s3.symm) (argsL := As) (rest := rest) (fun sig h => hn.trans (w10 sig h)) hstack hW (by rw [s2]; exact hdg) (fun V hV => ⟨hf.1, hf.2, hPc (T.setVm V) hT hV⟩)
  obtain ⟨v, V, ⟨U1, l2, c2, k2⟩, hV, X1, ⟨g1, mk, t, L, e1, e2, hq, q1, hL, q2, q3⟩, st⟩ := hc
  dsimp only [Pt.U, Pt.locs, Pt.cells, Pt.slots] at X1 e1 e2 q1 q2 q3 st
  subst q1 q2 q3
  exact ⟨v, (T.setVm V).calling g1 mk (Value.ref b :: As).toArray, t, U1, L, hT, X1, hL, e1, e2, hq, st⟩
end HCALL
section HBODY
variable {p : Program} {l : Launch} {e : Env} {R : Room} {s : State} {m : MethodId} {args : Array Value} {below : List Frame} {meth : Method} {c : Code} {Q : State → Prop} {ρ : Nat → Nat} {K N0 : Nat} {E : Nat → AV} {H00 : Heap} {y nS zS : Nat}
theorem hx_call (C : hCtx p s m args meth c y) (V : hEnv ρ N0 E H00 s) (hsz : c.maxLocals = hmL y) {i : Instr} {pc len nx d1 y1 : Nat} {b : Int} {tg : List Int} {la : hLs} {st : List AV} {σ σ2 : hM} {r : Option AV} {y2 : Nat} {as : List AV} {pc1 : Nat} {la1 : hLs} {st1 : List AV} {H : Heap} {locs : List Loc} {ls : Array Slot}
    (hd : decode (hmB y) pc = .ok (i, len)) (ho : ((31, y1, b, tg), nx) ∈ hops y pc i len) (hs : hstep K E (d1 + 1) y (31, y1, b, tg) nx la st σ = some (Sum.inr (Sum.inl (y2, as, pc1, la1, st1))))
    (hM : y2 < hNM → as.length = hmN y2 → (hent as).length ≤ hmL y2 → Met l (hmY y2) (hWs y2) (hRm d1 (σ2.1 - σ.1) (σ2.2.1 - σ.2.1)) (hPc ρ K N0 E H00 as σ) (hQc ρ K N0 H00 r σ2) (σ2.1 - σ.1) (σ2.2.1 - σ.2.1) (fun q => N0 ≤ q))
    (hst : ∀ v ∈ st, okv v) (hl : hLoc ρ ls (hmL y) la) (hr : hRel ρ K N0 H00 s σ H) (hlo : ∀ q ∈ locs, N0 ≤ q.base) (hRf : d1 + 1 ≤ R.frames) (hRl : 40 * (d1 + 1) ≤ R.locals) (hc : σ.1 - nS + (σ2.1 - σ.1) ≤ R.cells) (hz : σ.2.1 - zS + (σ2.2.1 - σ.2.1) ≤ R.slots)
    (kk : ∀ (H1 : Heap) (locs1 : List Loc), (∀ v ∈ r.toList, okv v) → hRel ρ K N0 H00 s σ2 H1 → (∀ q ∈ locs1, N0 ≤ q.base) → W p l e R s m args below meth c H1 locs1 (σ.1 - nS + (σ2.1 - σ.1)) (σ.2.1 - zS + (σ2.2.1 - σ.2.1)) Q (F0 m pc1 ls ((r.map (cv ρ)).toList ++ st1.map (cv ρ)))) :
    W p l e R s m args below meth c H locs (σ.1 - nS) (σ.2.1 - zS) Q (F0 m pc ls (st.map (cv ρ))) := by
  obtain ⟨g1, g2, g3, g4, g5⟩ := hs31 hs
  have g5 := Sum.inl.inj (Sum.inr.inj g5)
  simp only [Prod.mk.injEq] at g5
  obtain ⟨rfl, rfl, rfl, rfl, rfl⟩ := g5
  have hlen : ((st.take (hmN y2)).reverse).length = hmN y2 := by rw [List.length_reverse, List.length_take]; omega
  have hts := C.2.2.2.2.1
  have hargs : ∀ v ∈ (st.take (hmN y2)).reverse, okv v := fun v hv => hst v (List.mem_of_mem_take (List.mem_reverse.mp hv))
  have hstk : st.map (cv ρ) = (((st.take (hmN y2)).reverse).map (cv ρ)).reverse ++ (st.drop (hmN y2)).map (cv ρ) := by
    rw [← List.map_reverse, List.reverse_reverse, ← List.map_append, List.take_append_drop]
  have hPre : ∀ U : State, U.heap = H → s.WarmedH U.vm → hPc ρ K N0 E H00 (st.take (hmN y2)).reverse σ (((st.take (hmN y2)).reverse).map (cv ρ)).toArray U := fun U hU hW => ⟨rfl, hargs, by rw [hU]; exact hr.moved hW.alike, V.warm hW⟩
  have e5 : (((st.drop (hmN y2)).map (cv ρ)).map fun v => v.category).sum = ((st.drop (hmN y2)).map hwd).sum := by
    rw [List.map_map]
    congr 1
    exact List.map_congr_left (fun v _ => cv_cat v)
  have hcat : hmK y2 ≠ 1 → 2 * 0 + (((st.drop (hmN y2)).map (cv ρ)).map fun v => v.category).sum ≤ 8 := fun h => by
    rw [e5]
    rcases g2 with g2 | g2
    · omega
    · exact absurd g2.1 h
  have hcat10 : 2 * 0 + (((st.drop (hmN y2)).map (cv ρ)).map fun v => v.category).sum ≤ 10 := by
    rw [e5]
    omega
  have hS : CallFix p m c (hmB y) (hmL y) s args hBig (hName (hmO y)) := ⟨C.1, C.2.1, hsz, C.2.2.2.1, hts⟩
  have hlsz : (F0 m pc ls (st.map (cv ρ))).locals.size = hmL y := hl.1
  generalize has : (st.take (hmN y2)).reverse = as at hlen hargs hstk hPre hM g3 g4
  have hinst : ∀ (hk : hmK y2 ≠ 0), ∃ (a : Nat) (as' : List AV), as = vR (some a) :: as' ∧ (∃ cellB : Cell, H[ρ a]? = some cellB ∧ cellB.vm.isStatics = false ∧ s.vm.findClass (hName (hmO y2)) = some cellB.cls) := by
    intro hk
    rcases g4 with h | ⟨r0, as', e1, h⟩
    · exact absurd h hk
    · obtain ⟨a, rfl, ha⟩ := hIsO_of h
      obtain ⟨cell, b1, b2, b3, b4, -⟩ := hr.2.2.2.1 a _ ha
      exact ⟨a, as', e1, cell, b1, b3, b4⟩
  rcases hcall_no ho with ⟨k, rfl⟩ | ⟨k, rfl⟩ | ⟨k, rfl⟩
  · have ho : ((31, y2, b, tg), pc1) ∈ ho_invokevirtual y pc k len := ho
    unfold ho_invokevirtual at ho
    cases e1 : hf3 hLM (hmO y) k with
    | none => rw [e1] at ho; cases ho
    | some x =>
      obtain ⟨y3, ns, pp, host⟩ := x
      rw [e1] at ho
      obtain ⟨hb, he⟩ := hk1_in ho
      cases he
      simp only [Bool.and_eq_true, decide_eq_true_eq] at hb
      obtain ⟨⟨⟨rfl, rfl⟩, hy⟩, hk⟩ := hb
      obtain ⟨f1, f2, f3, f4, f5, f6⟩ := hmF hy
      obtain ⟨a, as', rfl, hcell⟩ := hinst (by omega)
      have hlink : Cond.methodLink (hName (hmO y)) k (hmY y2) ∈ lw_tbl := by
        have h := hLM_word e1
        have e : hwL (hmO y, k, y2, 0, pp, host) = .methodLink (hName (hmO y)) k (hmY y2) := (if_neg (show ¬ y2 = 9999 by have h0 : hNM < 9999 := (by decide); omega)).trans (if_pos rfl)
        rw [e] at h
        exact h
      have cw : CallW R s args (hName (hmO y)) (hName (hmO y2)) k (hmY y2) (hmB y2) (hmL y2) (hmR y2) (hWs y2) (hRm d1 (σ2.1 - σ.1) (σ2.2.1 - σ.2.1)) (σ2.1 - σ.1) (σ2.2.1 - σ.2.1) (hmN y2 - 1) :=
        ⟨callB_of (hmN y2 - 1) hts (hGoodW hy) rfl rfl rfl (hts _ (hBig_in (hMw_of hy).2.1 rfl)) (hts _ (hBig_in hlink rfl)) ⟨f1.1, f1.2, by rw [f3, hk]; rfl⟩ ⟨hRf, by show 8 + (hmL y2 + 11) + 40 * d1 ≤ _; omega⟩, hts _ (hBig_in (hmI_word hy (by omega)) rfl), hts _ (hBig_in (hmV_word hy hk) rfl)⟩
      exact hcall_go (hRunV hS (hM hy hlen g3) cw (show 10 + (hmL y2 + 11) + 40 * d1 ≤ _ by omega) ⟨hPc_blind _ _ _ _ _ _ _, hcell, hPre⟩ rfl (As := as'.map (cv ρ)) (by rw [List.length_map]; simp only [List.length_cons] at hlen; omega) hlsz (by rw [show (F0 m pc ls (st.map (cv ρ))).stack = st.map (cv ρ) from rfl, hstk]; simp [va_rf, cv]) hcat10 hd ⟨hc, hz⟩) hlo kk
  · have ho : ((31, y2, b, tg), pc1) ∈ ho_invokespecial y pc k len := ho
    unfold ho_invokespecial at ho
    cases e1 : hf3 hLM (hmO y) k with
    | none => rw [e1] at ho; cases ho
    | some x =>
      obtain ⟨y3, ns, pp, host⟩ := x
      rw [e1] at ho
      dsimp only at ho
      by_cases h9 : y3 = 9999
      · rw [if_pos h9] at ho
        obtain ⟨hb, he⟩ := hk1_in ho
        cases he
      · rw [if_neg h9] at ho
        obtain ⟨hb, he⟩ := hk1_in ho
        cases he
        simp only [Bool.and_eq_true, decide_eq_true_eq] at hb
        obtain ⟨⟨rfl, hy⟩, hk⟩ := hb
        obtain ⟨f1, f2, f3, f4, f5, f6⟩ := hmF hy
        have f6 := f6.resolve_left (by omega)
        obtain ⟨a, as', rfl, hcell⟩ := hinst (by omega)
        have hcode : hWs y2 = Cond.code (hmY y2) (hmB y2) (hmL y2) none :: hBig := by unfold hWs; rw [f6.2.1]
        have hnn : as'.length = hmN y2 - 1 := by simp only [List.length_cons] at hlen; omega
        by_cases hns : ns = 0
        · subst hns
          have hlink : Cond.methodLink (hName (hmO y)) k (hmY y2) ∈ lw_tbl := by
            have h := hLM_word e1
            have e : hwL (hmO y, k, y2, 0, pp, host) = .methodLink (hName (hmO y)) k (hmY y2) := (if_neg h9).trans (if_pos rfl)
            rw [e] at h
            exact h
          exact hcall_go (va_runI hS (hM hy hlen g3) ⟨callB_of (hmN y2 - 1) hts (hGoodW hy) hcode rfl rfl (hts _ (hBig_in (hMw_of hy).2.1 rfl)) (hts _ (hBig_in hlink rfl)) ⟨f1.1, f1.2, by rw [f3, hk]; rfl⟩ ⟨hRf, by show 8 + (hmL y2 + 11) + 40 * d1 ≤ _; omega⟩, f6.1, hts _ (hBig_in (hmI_word hy (by omega)) rfl)⟩
            ⟨hPc_blind _ _ _ _ _ _ _, hPre⟩ rfl (As := as'.map (cv ρ)) (by rw [List.length_map]; exact hnn) hlsz (by rw [show (F0 m pc ls (st.map (cv ρ))).stack = st.map (cv ρ) from rfl, hstk]; simp [va_rf, cv]) (hcat (by omega)) hd ⟨hc, hz⟩) hlo kk
        · have hlink : va_Nw (.methodLinkNest (hName (hmO y)) k (hmY y2) host) s := by
            have h := V.2.1 _ (hf3_in _ _ _ _ e1) h9 hns
            have e : hwL (hmO y, k, y2, ns, pp, host) = .methodLinkNest (hName (hmO y)) k (hmY y2) host := (if_neg h9).trans (if_neg hns)
            rw [e] at h
            exact h
          exact hcall_go (va_runIN hS (hM hy hlen g3) ⟨va_cnB (hmN y2 - 1) hts (hGoodW hy) hcode rfl rfl hlink (hts _ (hBig_in (hMw_of hy).2.1 rfl)) ⟨f1.1, f1.2, by rw [f3, hk]; rfl⟩ ⟨hRf, by show 8 + (hmL y2 + 11) + 40 * d1 ≤ _; omega⟩, f6.1, hts _ (hBig_in (hmI_word hy (by omega)) rfl)⟩
            ⟨hPc_blind _ _ _ _ _ _ _, hPre⟩ rfl (As := as'.map (cv ρ)) (by rw [List.length_map]; exact hnn) hlsz (by rw [show (F0 m pc ls (st.map (cv ρ))).stack = st.map (cv ρ) from rfl, hstk]; simp [va_rf, cv]) (hcat (by omega)) hd ⟨hc, hz⟩) hlo kk
  · have ho : ((31, y2, b, tg), pc1) ∈ ho_invokestatic y pc k len := ho
    unfold ho_invokestatic at ho
    cases e1 : hf3 hLM (hmO y) k with
    | none => rw [e1] at ho; cases ho
    | some x =>
      obtain ⟨y3, ns, pp, host⟩ := x
      rw [e1] at ho
      obtain ⟨hb, he⟩ := hk1_in ho
      cases he
      simp only [Bool.and_eq_true, decide_eq_true_eq] at hb
      obtain ⟨⟨rfl, hy⟩, hk⟩ := hb
      obtain ⟨f1, f2, f3, f4, f5, f6⟩ := hmF hy
      have h9 : ¬ y2 = 9999 := by have : hNM < 9999 := by decide
                                  omega
      have hnn : (as.map (cv ρ)).length = hmN y2 - 0 := by rw [List.length_map]; omega
      by_cases hns : ns = 0
      · subst hns
        have hlink : Cond.methodLink (hName (hmO y)) k (hmY y2) ∈ lw_tbl := by
          have h := hLM_word e1
          have e : hwL (hmO y, k, y2, 0, pp, host) = .methodLink (hName (hmO y)) k (hmY y2) := (if_neg h9).trans (if_pos rfl)
          rw [e] at h
          exact h
        exact hcall_go (va_runS hS (hM hy hlen g3) ⟨callB_of (hmN y2 - 0) hts (hGoodW hy) rfl rfl rfl (hts _ (hBig_in (hMw_of hy).2.1 rfl)) (hts _ (hBig_in hlink rfl)) ⟨f1.1, f1.2, by rw [f3, hk]; rfl⟩ ⟨hRf, by show 8 + (hmL y2 + 11) + 40 * d1 ≤ _; omega⟩, hts _ (hBig_in (hmS_word hy hk) rfl)⟩
          ⟨hPc_blind _ _ _ _ _ _ _, hPre⟩ rfl hnn hlsz hstk (hcat (by omega)) hd ⟨hc, hz⟩) hlo kk
      · have hlink : va_Nw (.methodLinkNest (hName (hmO y)) k (hmY y2) host) s := by
          have h := V.2.1 _ (hf3_in _ _ _ _ e1) h9 hns
          have e : hwL (hmO y, k, y2, ns, pp, host) = .methodLinkNest (hName (hmO y)) k (hmY y2) host := (if_neg h9).trans (if_neg hns)
          rw [e] at h
          exact h
        exact hcall_go (va_runSN hS (hM hy hlen g3) ⟨va_cnB (hmN y2 - 0) hts (hGoodW hy) rfl rfl rfl hlink (hts _ (hBig_in (hMw_of hy).2.1 rfl)) ⟨f1.1, f1.2, by rw [f3, hk]; rfl⟩ ⟨hRf, by show 8 + (hmL y2 + 11) + 40 * d1 ≤ _; omega⟩, hts _ (hBig_in (hmS_word hy hk) rfl), trivial⟩
          ⟨hPc_blind _ _ _ _ _ _ _, hPre⟩ rfl hnn hlsz hstk (hcat (by omega)) hd ⟨hc, hz⟩) hlo kk
end HBODY
/-- the body of a method, from any place on: as far as n steps of mine -/
def hBodyP (ρ : Nat → Nat) (l : Launch) (K N0 : Nat) (E : Nat → AV) (H00 : Heap) (T : Nat → Nat → Option (hOp × Nat)) (n : Nat) : Prop :=
  ∀ {p : Program} {e : Env} {R : Room} {s : State} {m : MethodId} {args : Array Value} {below : List Frame} {meth : Method} {c : Code} {Q : State → Prop} {y nS zS d pc : Nat} {la : hLs} {st : List AV} {σ σ1 : hM} {r : Option AV} {H : Heap} {locs : List Loc} {ls : Array Slot},
    hCtx p s m args meth c y → hEnv ρ N0 E H00 s → c.maxLocals = hmL y → d ≤ R.frames → 40 * d ≤ R.locals → hx K E T n d y pc la st σ = some (r, σ1) →
    hLoc ρ ls (hmL y) la → (∀ v ∈ st, okv v) → hRel ρ K N0 H00 s σ H → (∀ q ∈ locs, N0 ≤ q.base) → nS ≤ σ.1 → zS ≤ σ.2.1 → σ1.1 ≤ nS + R.cells → σ1.2.1 ≤ zS + R.slots →
    (∀ (H1 : Heap) (locs1 : List Loc) (ls1 : Array Slot) (pc1 : Nat) (i : Instr) (len nx d1 k : Nat) (b : Int) (tg : List Int) (la1 : hLs) (st1 : List AV), decode (hmB y) pc1 = .ok (i, len) → ((33, k, b, tg), nx) ∈ hops y pc1 i len →
      hstep K E d1 y (33, k, b, tg) nx la1 st1 σ1 = some (Sum.inr (Sum.inr r)) → (∀ v ∈ st1, okv v) → hRel ρ K N0 H00 s σ1 H1 → (∀ q ∈ locs1, N0 ≤ q.base) → W p l e R s m args below meth c H1 locs1 (σ1.1 - nS) (σ1.2.1 - zS) Q (F0 m pc1 ls1 (st1.map (cv ρ)))) →
    W p l e R s m args below meth c H locs (σ.1 - nS) (σ.2.1 - zS) Q (F0 m pc ls (st.map (cv ρ)))
theorem hLoc_entry {ρ : Nat → Nat} (as : List AV) (n : Nat) (hok : ∀ v ∈ as, okv v) (h : (hent as).length ≤ n) : hLoc ρ ((lg_sl (as.map (cv ρ)) ++ List.replicate (n - (lg_sl (as.map (cv ρ))).length) Slot.unset).toArray) n (hpad (hent as) n) := by
  have hl := lv_entry (as.map (cv ρ)) (n := n) (by rw [hent_len]; exact h)
  refine ⟨hl.1, hl.2.1, fun i v hv => ?_⟩
  obtain ⟨h1, h2⟩ := hent_args as 0 i v (hpad_at _ _ _ _ hv)
  rw [Nat.zero_add] at h1
  exact ⟨hl.2.2 _ h1, hok v h2⟩
theorem hx_metOf {ρ : Nat → Nat} {l : Launch} {K N0 : Nat} {E : Nat → AV} {H00 : Heap} {T : Nat → Nat → Option (hOp × Nat)} {n : Nat} (hB : hBodyP ρ l K N0 E H00 T n) {d y : Nat} {as : List AV} {σ σ1 : hM} {r : Option AV} (hy : y < hNM) (hlen : (hent as).length ≤ hmL y)
    (h : hx K E T n d y 0 (hpad (hent as) (hmL y)) [] σ = some (r, σ1)) : Met l (hmY y) (hWs y) (hRm d (σ1.1 - σ.1) (σ1.2.1 - σ.2.1)) (hPc ρ K N0 E H00 as σ) (hQc ρ K N0 H00 r σ1) (σ1.1 - σ.1) (σ1.2.1 - σ.2.1) (fun q => N0 ≤ q) := by
  obtain ⟨f1, f2, f3, f4, f5, f6⟩ := hmF hy
  refine va_MetF (cc := hmB y) (maxL := hmL y) (ret := hmR y) f2 rfl ?_
  intro p e s m args below meth c s₁ B hml hv
  obtain ⟨rfl, hok, hrel, henv⟩ := hv
  have hts := atoms_spec (ws := hWs y) B.pre
  have hin : meth.name = (hmY y).name := (name_of_methodNamed B.named B.method).1
  have C : hCtx p s m (as.map (cv ρ)).toArray meth c y := ⟨B.exec, B.bytes, hml, findClass_of_methodNamed B.named, fun w hw => hts w (List.mem_cons_of_mem _ hw), fun hk => hin.trans (f6.resolve_left (by omega)).1⟩
  have hmono := hx_mono _ _ _ _ _ _ _ _ _ _ _ _ h
  rw [lg_entry_eq]
  have key := hB (p := p) (e := e) (R := hRm d (σ1.1 - σ.1) (σ1.2.1 - σ.2.1)) (below := below) (Q := MQ below (hQc ρ K N0 H00 r σ1) (as.map (cv ρ)).toArray s (σ1.1 - σ.1) (σ1.2.1 - σ.2.1) (fun q => N0 ≤ q)) (nS := σ.1) (zS := σ.2.1) (locs := []) C henv hml (Nat.le_refl _) (Nat.le_refl _) h (hLoc_entry as (hmL y) hok hlen) (fun v hv => absurd hv List.not_mem_nil) hrel (fun q hq => absurd hq List.not_mem_nil) (Nat.le_refl _) (Nat.le_refl _) (by show σ1.1 ≤ σ.1 + (σ1.1 - σ.1); omega) (by show σ1.2.1 ≤ σ.2.1 + (σ1.2.1 - σ.2.1); omega)
    (fun H1 locs1 ls1 pc1 i len nx d1 k b tg la1 st1 hd ho hs hst1 hr1 hlo1 => hK_ret C B.returns B.notSynchronized hd ho hs (fun t ht hW => ⟨rfl, by obtain ⟨r', h1, h2, -⟩ := hs33 hs; cases Sum.inr.inj (Sum.inr.inj h1); rw [← h2]; exact hst1, by rw [ht]; exact hr1.moved hW.alike⟩) hlo1)
  rw [Nat.sub_self, Nat.sub_self] at key
  exact key
theorem hx_body (ρ : Nat → Nat) (l : Launch) (K N0 : Nat) (E : Nat → AV) (H00 : Heap) {T : Nat → Nat → Option (hOp × Nat)} (hT : hTok T) : ∀ n, hBodyP ρ l K N0 E H00 T n := by
  intro n
  induction n with
  | zero => intro p e R s m args below meth c Q y nS zS d pc la st σ σ1 r H locs ls C V hsz hf hlc h; cases h
  | succ n ih =>
    intro p e R s m args below meth c Q y nS zS d pc la st σ σ1 r H locs ls C V hsz hf hlc h hl hst hr hlo hn hz hc hsl fin
    unfold hx at h
    cases eT : T y pc with
    | none => rw [eT] at h; cases h
    | some x =>
      obtain ⟨op, nx⟩ := x
      rw [eT] at h
      dsimp only at h
      obtain ⟨i, len, hd, ho⟩ := hT _ _ _ _ eT
      cases eS : hstep K E d y op nx la st σ with
      | none => rw [eS] at h; cases h
      | some z =>
        rw [eS] at h
        rcases z with ⟨pc1, la1, st1, σ2⟩ | ⟨y1, as, pc1, la1, st1⟩ | r1
        · dsimp only at h
          have hm1 := hstep_mono eS
          have hm2 := hx_mono _ _ _ _ _ _ _ _ _ _ _ _ h
          exact hOK_all C V hsz i pc len op nx d la st σ pc1 la1 st1 σ2 H locs ls hd ho eS hl hst hr hlo hn hz (by omega) (by omega) (fun hd1 => ⟨by omega, by omega⟩)
            (fun H1 locs1 ls1 hl1 hst1 hr1 hlo1 => ih C V hsz hf hlc h hl1 hst1 hr1 hlo1 (by omega) (by omega) hc hsl fin)
        · dsimp only at h
          obtain ⟨y0, b, tg, rfl⟩ := hstep_call eS
          cases d with
          | zero => cases h
          | succ d1 =>
            dsimp only at h
            cases eC : hx K E T n d1 y1 0 (hpad (hent as) (hmL y1)) [] σ with
            | none => rw [eC] at h; cases h
            | some w =>
              obtain ⟨rc, σ2⟩ := w
              rw [eC] at h
              dsimp only at h
              have hm1 := hx_mono _ _ _ _ _ _ _ _ _ _ _ _ eC
              have hm2 := hx_mono _ _ _ _ _ _ _ _ _ _ _ _ h
              refine hx_call (r := rc) (σ2 := σ2) C V hsz hd ho eS (fun hy hlen hle => hx_metOf ih hy hle eC) hst hl hr hlo hf hlc (by omega) (by omega) (fun H1 locs1 hokr1 hr1 hlo1 => ?_)
              obtain ⟨-, -, -, -, g5⟩ := hs31 eS
              have g5 := Sum.inl.inj (Sum.inr.inj g5)
              simp only [Prod.mk.injEq] at g5
              obtain ⟨-, -, -, rfl, rfl⟩ := g5
              have hokr : ∀ v ∈ rc.toList ++ st.drop (hmN y0), okv v := by
                intro v hv
                rcases List.mem_append.mp hv with hv | hv
                · exact hokr1 v hv
                · exact hst v (List.mem_of_mem_drop hv)
              have key := ih C V hsz hf hlc h hl hokr hr1 hlo1 (nS := nS) (zS := zS) (by omega) (by omega) hc hsl fin
              rw [show σ2.1 - nS = σ.1 - nS + (σ2.1 - σ.1) by omega, show σ2.2.1 - zS = σ.2.1 - zS + (σ2.2.1 - σ.2.1) by omega, List.map_append, opt_map] at key
              exact key
        · dsimp only at h
          cases h
          obtain ⟨k, b, tg, rfl⟩ := hstep_ret eS
          exact fin H locs ls pc i len nx d k b tg la st hd ho eS hst hr hlo
