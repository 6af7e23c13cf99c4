/-! The first turn: every method and its fellow answer alike. Printed by wip/gen/pairs.py. -/
section PAIRS
variable {fb : Bool} {L : Nat} {xs : Nat → Int} {σ σ0 : hM}
theorem t2_0 : mT (den hτ2) 0 = none := by
  show (tget hτ2.2.2 0).1 = (none : Option (Nat ⊕ (Nat × Nat)))
  decide +kernel
theorem t2_x : mT (den hτ2) 128 = some (Sum.inl 0) := by
  show (tget hτ2.2.2 128).1 = some (Sum.inl 0)
  decide +kernel
theorem t2_m : mT (den hτ2) 2281 = some (Sum.inl 17) := by
  show (tget hτ2.2.2 2281).1 = some (Sum.inl 17)
  decide +kernel
theorem scr_S2 : Scr L xs (S2 L xs) := scr_ws t2_x t2_m
theorem ps_S2 : PS (S2 L xs) := ⟨show 2372 ≤ 128 + 600000 by omega, show 181098 ≤ 7302250 by omega⟩
theorem Scr.wr {a ra : Nat} (h : Scr L xs σ0) (w : Wr a ra σ0 σ) (ha : a ≠ 0) (hb : ra ≠ 0) : Scr L xs σ := ⟨(w.1 0).trans h.1, fun k => (w.2.2.1 0 k (Ne.symm ha) (Ne.symm hb)).trans (h.2.1 k), (w.1 _).trans h.2.2.1, (w.1 _).trans h.2.2.2⟩
theorem PS.wr {a ra : Nat} (h : PS σ0) (w : Wr a ra σ0 σ) : PS σ := ⟨by rw [w.2.2.2.1]; exact h.1, by rw [w.2.2.2.2]; exact h.2⟩
theorem pair_wr {y1 y2 : Nat} {as : List AV} {v : Int} {a ra a2 ra2 : Nat} (h1 : CL fb 21 y1 (vR (some 128) :: as) (S2 L xs) (fun r σ' => r = some (vI v) ∧ Wr a ra (S2 L xs) σ')) (h2 : ∀ σ, Wr a ra (S2 L xs) σ → CL fb 21 y2 (vR (some 2281) :: as) σ (fun r σ' => r = some (vI v) ∧ Wr a2 ra2 σ σ')) (ha : a ≠ 0) (hb : ra ≠ 0) (ha2 : a2 ≠ 0) (hb2 : ra2 ≠ 0) : PairI fb y1 y2 as L xs (S2 L xs) PS := by
  refine ⟨v, CL.mono h1 ?_⟩
  rintro r σ1 ⟨e, w⟩
  refine ⟨e, scr_S2.wr w ha hb, CL.mono (h2 σ1 w) ?_⟩
  rintro r2 σ2 ⟨e2, w2⟩
  exact ⟨e2, (scr_S2.wr w ha hb).wr w2 ha2 hb2, (ps_S2.wr w).wr w2⟩
theorem pair_S2 {y1 y2 : Nat} {as : List AV} {v : Int} (h1 : CL fb 21 y1 (vR (some 128) :: as) (S2 L xs) (fun r σ' => r = some (vI v) ∧ σ' = S2 L xs)) (h2 : CL fb 21 y2 (vR (some 2281) :: as) (S2 L xs) (fun r σ' => r = some (vI v) ∧ σ' = S2 L xs)) : PairI fb y1 y2 as L xs (S2 L xs) PS := by
  refine ⟨v, CL.mono h1 ?_⟩
  rintro r σ1 ⟨e, rfl⟩
  refine ⟨e, scr_S2, CL.mono h2 ?_⟩
  rintro r2 σ2 ⟨e2, rfl⟩
  exact ⟨e2, scr_S2, ps_S2⟩
theorem pair_S2L {y1 y2 : Nat} {as : List AV} {v : Int} (h1 : CL fb 21 y1 (vR (some 128) :: as) (S2 L xs) (fun r σ' => r = some (vL v) ∧ σ' = S2 L xs)) (h2 : CL fb 21 y2 (vR (some 2281) :: as) (S2 L xs) (fun r σ' => r = some (vL v) ∧ σ' = S2 L xs)) : PairL fb y1 y2 as L xs (S2 L xs) PS := by
  refine ⟨v, CL.mono h1 ?_⟩
  rintro r σ1 ⟨e, rfl⟩
  refine ⟨e, scr_S2, CL.mono h2 ?_⟩
  rintro r2 σ2 ⟨e2, rfl⟩
  exact ⟨e2, scr_S2, ps_S2⟩
theorem pr_type {a b : Int} : PairI fb 95 306 [vL a, vI b] L xs (S2 L xs) PS := by
  by_cases h : 1 ≤ b ∧ b ≤ 8
  · exact pair_wr (a := 2275) (ra := 2276) (a2 := 2281) (ra2 := 2363) (q_x_type h) (fun σ w => q_m_type h ((w.1 _).trans (fT (by decide +kernel))) ((w.2.1 _ _).trans (fR (by decide +kernel))) ((w.1 _).trans (fT (by decide +kernel))) ((w.2.2.1 _ _ (by decide) (by decide)).trans (fI (by decide +kernel)))) (by decide) (by decide) (by decide) (by decide)
  · exact pair_S2 (q_x_type_bad h) (q_m_type_bad h)
theorem pr_enter {a : Int} : PairI fb 96 307 [vI a] L xs (S2 L xs) PS := pair_S2 q_x_enter q_m_enter
theorem pr_login {a : Int} : PairI fb 204 403 [vI a] L xs (S2 L xs) PS := by
  by_cases h : 0 ≤ a ∧ a < 4
  · rcases (show a = 0 ∨ a = 1 ∨ a = 2 ∨ a = 3 by omega) with rfl | rfl | rfl | rfl
    · exact pairJ_ok L xs mL_204 mL_403 (by decide) t2_0 t2_x t2_m (j_login0 fb)
    · exact pairJ_ok L xs mL_204 mL_403 (by decide) t2_0 t2_x t2_m (j_login1 fb)
    · exact pairJ_ok L xs mL_204 mL_403 (by decide) t2_0 t2_x t2_m (j_login2 fb)
    · exact pairJ_ok L xs mL_204 mL_403 (by decide) t2_0 t2_x t2_m (j_login3 fb)
  · exact pair_S2 (q_x_login h) (q_m_login h)
theorem pr_out {a b : Int} : PairI fb 206 404 [vI a, vI b] L xs (S2 L xs) PS := pair_S2 q_x_out q_m_out
theorem pr_wipe {a : Int} : PairI fb 207 405 [vI a] L xs (S2 L xs) PS := pair_S2 q_x_wipe q_m_wipe
theorem pr_input {a : Int} : PairI fb 208 406 [vI a] L xs (S2 L xs) PS := by
  by_cases h : 0 ≤ a ∧ a ≤ 255
  · refine pair_wr (v := 1) (a := 130) (ra := 131) (a2 := 2281) (ra2 := 2314) (CL.mono (q_x_input h) ?_) (fun σ w => CL.mono (q_m_input h ((w.1 _).trans (fT (by decide +kernel))) ((w.2.2.1 _ _ (by decide) (by decide)).trans (fI (by decide +kernel))) ((w.2.1 _ _).trans (fR (by decide +kernel))) ((w.1 _).trans (fT (by decide +kernel)))) ?_) (by decide) (by decide) (by decide) (by decide)
    · rintro r σ1 ⟨e1, rfl⟩
      exact ⟨e1, Wr.refl.w2.w1⟩
    · rintro r σ1 ⟨e1, rfl⟩
      exact ⟨e1, Wr.refl.w2.w1⟩
  · exact pair_S2 (q_x_input_bad h) (q_m_input_bad h)
theorem pr_console {a : Int} : PairI fb 210 407 [vI a] L xs (S2 L xs) PS := pair_S2 q_x_console q_m_console
theorem pr_messages : PairI fb 211 408 [] L xs (S2 L xs) PS := pairJ_ok L xs mL_211 mL_408 (by decide) t2_0 t2_x t2_m (j_messages fb)
theorem pr_message {a b : Int} : PairI fb 212 409 [vI a, vI b] L xs (S2 L xs) PS := by
  by_cases h : (0 ≤ a ∧ a < 6) ∧ (0 ≤ b ∧ b < 19)
  · obtain ⟨i, rfl⟩ := Int.eq_ofNat_of_zero_le h.1.1
    obtain ⟨j, rfl⟩ := Int.eq_ofNat_of_zero_le h.2.1
    exact pairJ_ok L xs mL_212 mL_409 (by decide) t2_0 t2_x t2_m (List.all_eq_true.mp (List.all_eq_true.mp (j_message fb) i (List.mem_range.mpr (by omega))) j (List.mem_range.mpr (by omega)))
  · exact pair_S2 (q_x_message (by omega)) (q_m_message (by omega))
theorem pr_sum : PairL fb 214 410 [] L xs (S2 L xs) PS := pair_S2L q_x_sum q_m_sum
theorem pr_feed {a : Int} : PairI fb 215 411 [vI a] L xs (S2 L xs) PS := by
  by_cases h : 0 ≤ a ∧ a ≤ 255
  · refine pair_wr (v := 1) (a := 2277) (ra := 2278) (a2 := 2281) (ra2 := 2318) (CL.mono (q_x_feed h) ?_) (fun σ w => CL.mono (q_m_feed h ((w.1 _).trans (fT (by decide +kernel))) ((w.2.2.1 _ _ (by decide) (by decide)).trans (fI (by decide +kernel))) ((w.2.1 _ _).trans (fR (by decide +kernel))) ((w.1 _).trans (fT (by decide +kernel)))) ?_) (by decide) (by decide) (by decide) (by decide)
    · rintro r σ1 ⟨e1, rfl⟩
      exact ⟨e1, Wr.refl.w2.w1⟩
    · rintro r σ1 ⟨e1, rfl⟩
      exact ⟨e1, Wr.refl.w2.w1⟩
  · exact pair_S2 (q_x_feed_bad h) (q_m_feed_bad h)
theorem pr_ask {a : Int} : PairI fb 216 412 [vI a] L xs (S2 L xs) PS := by
  by_cases h : 0 ≤ a ∧ a < 3
  · rcases (show a = 0 ∨ a = 1 ∨ a = 2 by omega) with rfl | rfl | rfl
    · exact pairJ_ok L xs mL_216 mL_412 (by decide) t2_0 t2_x t2_m (j_ask0 fb)
    · exact pairJ_ok L xs mL_216 mL_412 (by decide) t2_0 t2_x t2_m (j_ask1 fb)
    · exact pairJ_ok L xs mL_216 mL_412 (by decide) t2_0 t2_x t2_m (j_ask2 fb)
  · exact pair_S2 (q_x_ask h) (q_m_ask h)
theorem pr_answer {a : Int} : PairI fb 217 413 [vI a] L xs (S2 L xs) PS := pair_S2 q_x_answer q_m_answer
theorem pr_process {a b : Int} : PairI fb 218 414 [vI a, vI b] L xs (S2 L xs) PS := pair_S2 q_x_process q_m_process
theorem pr_variable {a b c : Int} : PairI fb 219 415 [vI a, vI b, vI c] L xs (S2 L xs) PS := pair_S2 q_x_variable q_m_variable
theorem pr_dot {a b : Int} : PairI fb 220 416 [vI a, vI b] L xs (S2 L xs) PS := pair_S2 q_x_dot q_m_dot
theorem pr_point {a b c : Int} : PairI fb 221 417 [vI a, vI b, vI c] L xs (S2 L xs) PS := pair_S2 q_x_point q_m_point
theorem pr_member {a b c e : Int} : PairI fb 222 418 [vI a, vI b, vI c, vI e] L xs (S2 L xs) PS := pair_S2 q_x_member q_m_member
theorem pr_descriptor {a b c : Int} : PairI fb 223 419 [vI a, vI b, vI c] L xs (S2 L xs) PS := pair_S2 q_x_descriptor q_m_descriptor
theorem pr_server {a b : Int} : PairI fb 224 420 [vI a, vI b] L xs (S2 L xs) PS := by
  by_cases h : (0 ≤ a ∧ a < 3) ∧ (0 ≤ b ∧ b < 6)
  · obtain ⟨i, rfl⟩ := Int.eq_ofNat_of_zero_le h.1.1
    obtain ⟨j, rfl⟩ := Int.eq_ofNat_of_zero_le h.2.1
    exact pairJ_ok L xs mL_224 mL_420 (by decide) t2_0 t2_x t2_m (List.all_eq_true.mp (List.all_eq_true.mp (j_server fb) i (List.mem_range.mpr (by omega))) j (List.mem_range.mpr (by omega)))
  · exact pair_S2 (q_x_server h) (q_m_server h)
theorem pr_fid {a b c : Int} : PairI fb 226 422 [vI a, vI b, vI c] L xs (S2 L xs) PS := pair_S2 q_x_fid q_m_fid
theorem pairs_S2 {z : Int} : Pairs fb L xs 0 z (S2 L xs) PS := ⟨fun _ => pr_type, fun _ => pr_enter, fun _ => pr_login, fun _ => pr_out, fun _ => pr_wipe, fun _ => pr_input, fun _ => pr_console, fun _ => pr_messages, fun _ => pr_message, fun _ => pr_sum, fun _ => pr_feed, fun _ => pr_ask, fun _ => pr_answer, fun _ => pr_process, fun _ => pr_variable, fun _ => pr_dot, fun _ => pr_point, fun _ => pr_member, fun _ => pr_descriptor, fun _ => pr_server, fun _ => pr_fid⟩
end PAIRS
