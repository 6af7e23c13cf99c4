/-! bindWords: what is bound, where. -/
theorem T_358_195 : hTab 358 195 = some ((3, 0, 2, []), 196) := rfl
theorem T_358_196 : hTab 358 196 = some ((3, 1, 0, []), 197) := rfl
theorem T_358_197 : hTab 358 197 = some ((3, 0, 2, []), 198) := rfl
theorem T_358_198 : hTab 358 198 = some ((24, 17, Int.ofNat 86, []), 201) := rfl
theorem T_358_201 : hTab 358 201 = some ((0, 0, 1, []), 202) := rfl
theorem T_358_202 : hTab 358 202 = some ((26, 0, 0, []), 203) := rfl
theorem T_358_203 : hTab 358 203 = some ((3, 0, 2, []), 204) := rfl
theorem T_358_204 : hTab 358 204 = some ((24, 17, Int.ofNat 88, []), 207) := rfl
theorem T_358_207 : hTab 358 207 = some ((0, 0, 1, []), 208) := rfl
theorem T_358_208 : hTab 358 208 = some ((26, 0, 0, []), 209) := rfl
theorem T_358_209 : hTab 358 209 = some ((31, 340, 0, []), 212) := rfl
theorem T_358_212 : hTab 358 212 = some ((4, 10, 0, []), 214) := rfl
theorem T_358_214 : hTab 358 214 = some ((3, 0, 2, []), 215) := rfl
theorem T_358_215 : hTab 358 215 = some ((24, 17, Int.ofNat 90, []), 218) := rfl
theorem T_358_218 : hTab 358 218 = some ((0, 0, 0, []), 219) := rfl
theorem T_358_219 : hTab 358 219 = some ((26, 0, 0, []), 220) := rfl
theorem T_358_220 : hTab 358 220 = some ((4, 11, 0, []), 222) := rfl
theorem T_358_222 : hTab 358 222 = some ((3, 11, 0, []), 224) := rfl
theorem T_358_224 : hTab 358 224 = some ((18, 2, Int.ofNat 238, []), 227) := rfl
theorem T_358_227 : hTab 358 227 = some ((3, 11, 0, []), 229) := rfl
theorem T_358_229 : hTab 358 229 = some ((3, 10, 0, []), 231) := rfl
theorem T_358_231 : hTab 358 231 = some ((19, 0, Int.ofNat 238, []), 234) := rfl
theorem T_358_234 : hTab 358 234 = some ((0, 0, 1, []), 235) := rfl
theorem T_358_235 : hTab 358 235 = some ((22, 0, Int.ofNat 239, []), 238) := rfl
theorem T_358_238 : hTab 358 238 = some ((0, 0, 0, []), 239) := rfl
theorem T_358_239 : hTab 358 239 = some ((4, 12, 0, []), 241) := rfl
theorem T_358_241 : hTab 358 241 = some ((3, 12, 0, []), 243) := rfl
theorem T_358_243 : hTab 358 243 = some ((18, 0, Int.ofNat 256, []), 246) := rfl
theorem T_358_246 : hTab 358 246 = some ((3, 0, 2, []), 247) := rfl
theorem T_358_247 : hTab 358 247 = some ((24, 17, Int.ofNat 67, []), 250) := rfl
theorem T_358_250 : hTab 358 250 = some ((3, 11, 0, []), 252) := rfl
theorem T_358_252 : hTab 358 252 = some ((26, 0, 0, []), 253) := rfl
theorem T_358_253 : hTab 358 253 = some ((22, 0, Int.ofNat 257, []), 256) := rfl
theorem T_358_256 : hTab 358 256 = some ((0, 0, 1, []), 257) := rfl
theorem T_358_257 : hTab 358 257 = some ((4, 13, 0, []), 259) := rfl
theorem T_358_259 : hTab 358 259 = some ((3, 5, 0, []), 261) := rfl
theorem T_358_261 : hTab 358 261 = some ((18, 1, Int.ofNat 269, []), 264) := rfl
theorem T_358_264 : hTab 358 264 = some ((3, 6, 0, []), 266) := rfl
theorem T_358_266 : hTab 358 266 = some ((18, 0, Int.ofNat 291, []), 269) := rfl
theorem T_358_269 : hTab 358 269 = some ((3, 13, 0, []), 271) := rfl
theorem T_358_271 : hTab 358 271 = some ((3, 10, 0, []), 273) := rfl
theorem T_358_273 : hTab 358 273 = some ((18, 2, Int.ofNat 286, []), 276) := rfl
theorem T_358_276 : hTab 358 276 = some ((3, 0, 2, []), 277) := rfl
theorem T_358_277 : hTab 358 277 = some ((24, 17, Int.ofNat 67, []), 280) := rfl
theorem T_358_280 : hTab 358 280 = some ((3, 10, 0, []), 282) := rfl
theorem T_358_282 : hTab 358 282 = some ((26, 0, 0, []), 283) := rfl
theorem T_358_283 : hTab 358 283 = some ((22, 0, Int.ofNat 287, []), 286) := rfl
theorem T_358_286 : hTab 358 286 = some ((0, 0, 1, []), 287) := rfl
theorem T_358_287 : hTab 358 287 = some ((10, 0, 0, []), 288) := rfl
theorem T_358_288 : hTab 358 288 = some ((22, 0, Int.ofNat 293, []), 291) := rfl
theorem T_358_291 : hTab 358 291 = some ((3, 13, 0, []), 293) := rfl
theorem T_358_293 : hTab 358 293 = some ((4, 14, 0, []), 295) := rfl
theorem T_358_295 : hTab 358 295 = some ((3, 14, 0, []), 297) := rfl
theorem T_358_297 : hTab 358 297 = some ((0, 0, 6, []), 299) := rfl
theorem T_358_299 : hTab 358 299 = some ((19, 4, Int.ofNat 323, []), 302) := rfl
theorem T_358_302 : hTab 358 302 = some ((3, 10, 0, []), 304) := rfl
theorem T_358_304 : hTab 358 304 = some ((18, 3, Int.ofNat 326, []), 307) := rfl
theorem T_358_307 : hTab 358 307 = some ((3, 0, 2, []), 308) := rfl
theorem T_358_308 : hTab 358 308 = some ((24, 17, Int.ofNat 64, []), 311) := rfl
theorem T_358_311 : hTab 358 311 = some ((3, 0, 2, []), 312) := rfl
theorem T_358_312 : hTab 358 312 = some ((24, 17, Int.ofNat 53, []), 315) := rfl
theorem T_358_315 : hTab 358 315 = some ((3, 1, 0, []), 316) := rfl
theorem T_358_316 : hTab 358 316 = some ((26, 0, 0, []), 317) := rfl
theorem T_358_317 : hTab 358 317 = some ((26, 0, 0, []), 318) := rfl
theorem T_358_318 : hTab 358 318 = some ((0, 0, 8, []), 320) := rfl
theorem T_358_320 : hTab 358 320 = some ((19, 1, Int.ofNat 326, []), 323) := rfl
theorem T_358_323 : hTab 358 323 = some ((0, 0, 20, []), 325) := rfl
theorem T_358_325 : hTab 358 325 = some ((33, 1, 0, []), 326) := rfl
theorem T_358_326 : hTab 358 326 = some ((0, 0, 0, []), 327) := rfl
theorem T_358_327 : hTab 358 327 = some ((4, 15, 0, []), 329) := rfl
theorem T_358_399 : hTab 358 399 = some ((3, 12, 0, []), 401) := rfl
theorem T_358_401 : hTab 358 401 = some ((18, 0, Int.ofNat 423, []), 404) := rfl
theorem T_358_404 : hTab 358 404 = some ((3, 0, 2, []), 405) := rfl
theorem T_358_405 : hTab 358 405 = some ((0, 0, 120, []), 407) := rfl
theorem T_358_407 : hTab 358 407 = some ((3, 0, 2, []), 408) := rfl
theorem T_358_408 : hTab 358 408 = some ((24, 17, Int.ofNat 86, []), 411) := rfl
theorem T_358_411 : hTab 358 411 = some ((0, 0, 0, []), 412) := rfl
theorem T_358_412 : hTab 358 412 = some ((26, 0, 0, []), 413) := rfl
theorem T_358_413 : hTab 358 413 = some ((3, 0, 2, []), 414) := rfl
theorem T_358_414 : hTab 358 414 = some ((24, 17, Int.ofNat 87, []), 417) := rfl
theorem T_358_417 : hTab 358 417 = some ((0, 0, 0, []), 418) := rfl
theorem T_358_418 : hTab 358 418 = some ((26, 0, 0, []), 419) := rfl
theorem T_358_419 : hTab 358 419 = some ((31, 345, 0, []), 422) := rfl
theorem T_358_422 : hTab 358 422 = some ((7, 0, 0, []), 423) := rfl
theorem T_358_423 : hTab 358 423 = some ((3, 0, 2, []), 424) := rfl
theorem T_358_424 : hTab 358 424 = some ((3, 1, 0, []), 425) := rfl
theorem T_358_425 : hTab 358 425 = some ((3, 10, 0, []), 427) := rfl
theorem T_358_427 : hTab 358 427 = some ((3, 12, 0, []), 429) := rfl
theorem T_358_429 : hTab 358 429 = some ((18, 0, Int.ofNat 437, []), 432) := rfl
theorem T_358_432 : hTab 358 432 = some ((3, 11, 0, []), 434) := rfl
theorem T_358_434 : hTab 358 434 = some ((22, 0, Int.ofNat 438, []), 437) := rfl
theorem T_358_437 : hTab 358 437 = some ((0, 0, (-1), []), 438) := rfl
theorem T_358_438 : hTab 358 438 = some ((3, 5, 0, []), 440) := rfl
theorem T_358_440 : hTab 358 440 = some ((3, 6, 0, []), 442) := rfl
theorem T_358_442 : hTab 358 442 = some ((3, 7, 0, []), 444) := rfl
theorem T_358_444 : hTab 358 444 = some ((31, 363, 0, []), 447) := rfl
theorem T_358_447 : hTab 358 447 = some ((0, 0, 0, []), 448) := rfl
theorem T_358_448 : hTab 358 448 = some ((33, 1, 0, []), 449) := rfl
def bnMany (P : qR) (fr old : Int) : Int := if 0 ≤ fr ∧ ¬ fr = old then P 2337 fr else 1
def bnSum (P : qR) (fr old bf bh : Int) : Int := if bf = 1 ∨ bh = 1 then bnMany P fr old + (if old < 0 then 1 else P 2337 old) else bnMany P fr old
/-- what is copied of a point's members -/
def bnK (P : qR) (c1 c2 : Ch) : Int × qR × List Ch := kCps c1.2.2.2.2 (P 2337 c1.2.2.2.2).toNat 0 P [c1, c2]
def cBn3 (P : qR) (p bf bh mk old : Int) (c1 c2 : Ch) : Int × qR × List Ch := if 6 < bnSum P c1.2.2.2.2 old bf bh ∨ (old < 0 ∧ P 2334 (P 2323 p) = 8) then (20, P, [c1, c2]) else if 0 ≤ c1.2.2.2.2 ∧ ¬ c1.2.2.2.2 = old then (if 0 < (bnK P c1 c2).1 then bnK P c1 c2 else (0, cJoin (tP (bnK P c1 c2).2.1 c1.1 (mOne 120 c1.2.1)) (P 2323 p) old c1.2.2.2.2 bf bh mk (bnK P c1 c2).2.2 c2, [])) else (0, cJoin P (P 2323 p) old (-1) bf bh mk [c1, c2] c2, [])
section MBIND3
variable {fb : Bool} {d : Nat} {σ0 σ : hM} {P Q R S S1 S2 : qR} {T U s w g u p k e t z o thr pt off n N v mk fr bf bh old mo fi sv e8 bo : Int} {l l1 l2 nm wd A : List Int} {h : List Ch} {f : Int → Int} {x : Nw} {c c1 c2 : Ch} {ns : List Nw}
theorem kCps_app : ∀ (m : Nat) (j : Int) (P : qR) (h : List Ch), ∃ t, (kCps fr m j P h).2.2 = h ++ t ∧ ((kCps fr m j P h).1 = 0 → t.length = m) ∧ 0 ≤ (kCps fr m j P h).1
  | 0, _, _, h => ⟨[], (List.append_nil h).symm, fun _ => rfl, Int.le_refl 0⟩
  | m + 1, j, P, h => by
    unfold kCps
    split
    · rename_i q
      exact ⟨[], (List.append_nil h).symm, fun q2 => by dsimp only at q2; omega, Int.le_of_lt q⟩
    · obtain ⟨t, h1, h2, h3⟩ := kCps_app m (j + 1) (kCpP P (P 2338 (6 * fr + j)) (P 2339 (6 * fr + j))) (h ++ [(P 2338 (6 * fr + j), qNewF P (P 2338 (6 * fr + j)), P 2340 (6 * fr + j), P 2341 (6 * fr + j), -1)])
      exact ⟨_ :: t, by rw [h1, List.append_assoc]; rfl, fun q2 => by rw [List.length_cons, h2 q2], h3⟩
theorem mbs_len (ho : old < 0 ∨ 0 ≤ P 2337 old) : ((mbs P old).length : Int) = if old < 0 then 0 else P 2337 old := by
  unfold mbs
  by_cases q : old < 0
  · rw [if_pos q, if_pos q]
    rfl
  · rw [if_neg q, if_neg q, mbL_len]
    omega
theorem jnL_len {m : Int} (hbf : bf = 0 ∨ bf = 1) (hbh : bh = 0 ∨ bh = 1) (hnb : ¬ (bf = 1 ∧ bh = 1)) (hn : ((news P fr mk h).length : Int) = m) (ho : old < 0 ∨ 0 ≤ P 2337 old) : ((jnL P h c old fr bf bh mk).length : Int) = if bf = 1 ∨ bh = 1 then m + (if old < 0 then 1 else P 2337 old) else m := by
  have hm := mbs_len ho
  unfold jnL
  simp only [List.length_append, Int.natCast_add, hn]
  rcases hbf with rfl | rfl
  · rcases hbh with rfl | rfl
    · simp
    · by_cases q : old < 0
      · simp [q] at hm ⊢
        simp only [hm, List.length_nil]
        omega
      · simp [q] at hm ⊢
        omega
  · rcases hbh with rfl | rfl
    · by_cases q : old < 0
      · simp [q] at hm ⊢
        simp only [hm, List.length_nil]
        omega
      · simp [q] at hm ⊢
        omega
    · exact absurd ⟨rfl, rfl⟩ hnb
theorem ptV.fk (h : ptV P p pt) (hk : KF Q P) : ptV Q p pt := by
  unfold ptV at h ⊢
  rw [hk 2323 _ rfl (by decide) (by decide) (by decide), hk 2334 _ rfl (by decide) (by decide) (by decide)]
  exact h
theorem m_bind_s {fr cp many : Int} (hP : PM σ0 P S σ) (hold : -1 ≤ old ∧ old < 64) (hmo : old < 0 ∨ (0 ≤ P 2337 old ∧ P 2337 old ≤ 6)) (hm : 0 ≤ many ∧ many ≤ 6) (hbf : bf = 0 ∨ bf = 1) (hbh : bh = 0 ∨ bh = 1) {Q : Option AV → hM → Prop} (hQ : WP fb d 358 295 [some (vR (some 2281)), some (vI p), some (vI mo), some (vI fi), some (vI sv), some (vI bf), some (vI bh), some (vI mk), some (vI e8), some (vI bo), some (vI old), some (vI fr), some (vI cp), some (vI many), some (vI (if bf = 1 ∨ bh = 1 then many + (if old < 0 then 1 else P 2337 old) else many)), none, none] [] σ Q) : WP fb d 358 257 [some (vR (some 2281)), some (vI p), some (vI mo), some (vI fi), some (vI sv), some (vI bf), some (vI bh), some (vI mk), some (vI e8), some (vI bo), some (vI old), some (vI fr), some (vI cp), none, none, none, none] [vI many] σ Q := by
  obtain ⟨mm, hmm⟩ : ∃ mm, P 2337 old = mm := ⟨_, rfl⟩
  rw [hmm] at hmo hQ
  by_cases q : old < 0
  · rw [if_pos q] at hQ
    rcases hbf with rfl | rfl
    · rcases hbh with rfl | rfl
      · rw [if_neg (by decide)] at hQ
        refine x_si (ls1 := [some (vR (some 2281)), some (vI p), some (vI mo), some (vI fi), some (vI sv), some (vI 0), some (vI 0), some (vI mk), some (vI e8), some (vI bo), some (vI old), some (vI fr), some (vI cp), some (vI many), none, none, none]) T_358_257 rfl ?_
        refine x_li (z := 0) T_358_259 rfl ?_
        refine x_if T_358_261 (fun h => absurd (show ¬ (0 : Int) = 0 from h) (by decide)) (fun _ => ?_)
        refine x_li (z := 0) T_358_264 rfl ?_
        refine x_if T_358_266 (fun _ => ?_) (fun h => absurd (show (0 : Int) = 0 by decide) h)
        refine x_li (z := many) T_358_291 rfl ?_
        refine x_si (ls1 := [some (vR (some 2281)), some (vI p), some (vI mo), some (vI fi), some (vI sv), some (vI 0), some (vI 0), some (vI mk), some (vI e8), some (vI bo), some (vI old), some (vI fr), some (vI cp), some (vI many), some (vI many), none, none]) T_358_293 rfl ?_
        exact hQ
      · rw [if_pos (by decide)] at hQ
        refine x_si (ls1 := [some (vR (some 2281)), some (vI p), some (vI mo), some (vI fi), some (vI sv), some (vI 0), some (vI 1), some (vI mk), some (vI e8), some (vI bo), some (vI old), some (vI fr), some (vI cp), some (vI many), none, none, none]) T_358_257 rfl ?_
        refine x_li (z := 0) T_358_259 rfl ?_
        refine x_if T_358_261 (fun h => absurd (show ¬ (0 : Int) = 0 from h) (by decide)) (fun _ => ?_)
        refine x_li (z := 1) T_358_264 rfl ?_
        refine x_if T_358_266 (fun h => absurd (show (1 : Int) = 0 from h) (by decide)) (fun _ => ?_)
        refine x_li (z := many) T_358_269 rfl ?_
        refine x_li (z := old) T_358_271 rfl ?_
        refine x_if T_358_273 (fun _ => ?_) (fun h => absurd (show old < 0 by omega) h)
        refine x_ic T_358_286 ?_
        refine x_ib (w := (many + 1)) T_358_287 (fun h => absurd h.1 (by decide)) (w32_id (by omega) (by omega)) ?_
        refine x_goto T_358_288 ?_
        refine x_si (ls1 := [some (vR (some 2281)), some (vI p), some (vI mo), some (vI fi), some (vI sv), some (vI 0), some (vI 1), some (vI mk), some (vI e8), some (vI bo), some (vI old), some (vI fr), some (vI cp), some (vI many), some (vI (many + 1)), none, none]) T_358_293 rfl ?_
        exact hQ
    · rw [if_pos (Or.inl rfl)] at hQ
      refine x_si (ls1 := [some (vR (some 2281)), some (vI p), some (vI mo), some (vI fi), some (vI sv), some (vI 1), some (vI bh), some (vI mk), some (vI e8), some (vI bo), some (vI old), some (vI fr), some (vI cp), some (vI many), none, none, none]) T_358_257 rfl ?_
      refine x_li (z := 1) T_358_259 rfl ?_
      refine x_if T_358_261 (fun _ => ?_) (fun h => absurd (show ¬ (1 : Int) = 0 by decide) h)
      refine x_li (z := many) T_358_269 rfl ?_
      refine x_li (z := old) T_358_271 rfl ?_
      refine x_if T_358_273 (fun _ => ?_) (fun h => absurd (show old < 0 by omega) h)
      refine x_ic T_358_286 ?_
      refine x_ib (w := (many + 1)) T_358_287 (fun h => absurd h.1 (by decide)) (w32_id (by omega) (by omega)) ?_
      refine x_goto T_358_288 ?_
      refine x_si (ls1 := [some (vR (some 2281)), some (vI p), some (vI mo), some (vI fi), some (vI sv), some (vI 1), some (vI bh), some (vI mk), some (vI e8), some (vI bo), some (vI old), some (vI fr), some (vI cp), some (vI many), some (vI (many + 1)), none, none]) T_358_293 rfl ?_
      exact hQ
  · rw [if_neg q] at hQ
    have hmo := hmo.resolve_left q
    rcases hbf with rfl | rfl
    · rcases hbh with rfl | rfl
      · rw [if_neg (by decide)] at hQ
        refine x_si (ls1 := [some (vR (some 2281)), some (vI p), some (vI mo), some (vI fi), some (vI sv), some (vI 0), some (vI 0), some (vI mk), some (vI e8), some (vI bo), some (vI old), some (vI fr), some (vI cp), some (vI many), none, none, none]) T_358_257 rfl ?_
        refine x_li (z := 0) T_358_259 rfl ?_
        refine x_if T_358_261 (fun h => absurd (show ¬ (0 : Int) = 0 from h) (by decide)) (fun _ => ?_)
        refine x_li (z := 0) T_358_264 rfl ?_
        refine x_if T_358_266 (fun _ => ?_) (fun h => absurd (show (0 : Int) = 0 by decide) h)
        refine x_li (z := many) T_358_291 rfl ?_
        refine x_si (ls1 := [some (vR (some 2281)), some (vI p), some (vI mo), some (vI fi), some (vI sv), some (vI 0), some (vI 0), some (vI mk), some (vI e8), some (vI bo), some (vI old), some (vI fr), some (vI cp), some (vI many), some (vI many), none, none]) T_358_293 rfl ?_
        exact hQ
      · rw [if_pos (by decide)] at hQ
        refine x_si (ls1 := [some (vR (some 2281)), some (vI p), some (vI mo), some (vI fi), some (vI sv), some (vI 0), some (vI 1), some (vI mk), some (vI e8), some (vI bo), some (vI old), some (vI fr), some (vI cp), some (vI many), none, none, none]) T_358_257 rfl ?_
        refine x_li (z := 0) T_358_259 rfl ?_
        refine x_if T_358_261 (fun h => absurd (show ¬ (0 : Int) = 0 from h) (by decide)) (fun _ => ?_)
        refine x_li (z := 1) T_358_264 rfl ?_
        refine x_if T_358_266 (fun h => absurd (show (1 : Int) = 0 from h) (by decide)) (fun _ => ?_)
        refine x_li (z := many) T_358_269 rfl ?_
        refine x_li (z := old) T_358_271 rfl ?_
        refine x_if T_358_273 (fun h => absurd (show old < 0 from h) (by omega)) (fun _ => ?_)
        refine x_lr (z := some 2281) T_358_276 rfl ?_
        refine x_gR (z := some 2337) T_358_277 F_17_67 (PM.t hP) (PM.r hP 67 2337 rfl) ?_
        refine x_li (z := old) T_358_280 rfl ?_
        refine x_alI (z := mm) T_358_282 (by decide) (PM.ta hP 2337 0 64 rfl rfl) (by omega) (by omega) (Eq.trans (PM.aP hP 2337 rfl rfl (by omega)) hmm) ?_
        refine x_goto T_358_283 ?_
        refine x_ib (w := (many + mm)) T_358_287 (fun h => absurd h.1 (by decide)) (w32_id (by omega) (by omega)) ?_
        refine x_goto T_358_288 ?_
        refine x_si (ls1 := [some (vR (some 2281)), some (vI p), some (vI mo), some (vI fi), some (vI sv), some (vI 0), some (vI 1), some (vI mk), some (vI e8), some (vI bo), some (vI old), some (vI fr), some (vI cp), some (vI many), some (vI (many + mm)), none, none]) T_358_293 rfl ?_
        exact hQ
    · rw [if_pos (Or.inl rfl)] at hQ
      refine x_si (ls1 := [some (vR (some 2281)), some (vI p), some (vI mo), some (vI fi), some (vI sv), some (vI 1), some (vI bh), some (vI mk), some (vI e8), some (vI bo), some (vI old), some (vI fr), some (vI cp), some (vI many), none, none, none]) T_358_257 rfl ?_
      refine x_li (z := 1) T_358_259 rfl ?_
      refine x_if T_358_261 (fun _ => ?_) (fun h => absurd (show ¬ (1 : Int) = 0 by decide) h)
      refine x_li (z := many) T_358_269 rfl ?_
      refine x_li (z := old) T_358_271 rfl ?_
      refine x_if T_358_273 (fun h => absurd (show old < 0 from h) (by omega)) (fun _ => ?_)
      refine x_lr (z := some 2281) T_358_276 rfl ?_
      refine x_gR (z := some 2337) T_358_277 F_17_67 (PM.t hP) (PM.r hP 67 2337 rfl) ?_
      refine x_li (z := old) T_358_280 rfl ?_
      refine x_alI (z := mm) T_358_282 (by decide) (PM.ta hP 2337 0 64 rfl rfl) (by omega) (by omega) (Eq.trans (PM.aP hP 2337 rfl rfl (by omega)) hmm) ?_
      refine x_goto T_358_283 ?_
      refine x_ib (w := (many + mm)) T_358_287 (fun h => absurd h.1 (by decide)) (w32_id (by omega) (by omega)) ?_
      refine x_goto T_358_288 ?_
      refine x_si (ls1 := [some (vR (some 2281)), some (vI p), some (vI mo), some (vI fi), some (vI sv), some (vI 1), some (vI bh), some (vI mk), some (vI e8), some (vI bo), some (vI old), some (vI fr), some (vI cp), some (vI many), some (vI (many + mm)), none, none]) T_358_293 rfl ?_
      exact hQ
/-- from the copies on: copied first, or not -/
theorem m_bind_d (hP : PM σ0 P S σ) (hK : KS T U P S l [c1, c2]) (hp : 0 ≤ p ∧ p < 8) (hold : old = -1 ∨ (8 * P 2323 p ≤ old ∧ old < 8 * P 2323 p + P 2334 (P 2323 p) ∧ 0 ≤ old ∧ old < 64)) (hfr : ptV P p c1.2.2.2.2) (hs6 : bnSum P c1.2.2.2.2 old bf bh ≤ 6) (hnew : old < 0 → ¬ P 2334 (P 2323 p) = 8) (hbf : bf = 0 ∨ bf = 1) (hbh : bh = 0 ∨ bh = 1) (hnb : ¬ (bf = 1 ∧ bh = 1)) (hmk : mk = 0 ∨ mk = 1) (hT : T + 400 ≤ 2147483000) : WP fb (d + 16) 358 326 [some (vR (some 2281)), some (vI p), some (vI mo), some (vI fi), some (vI sv), some (vI bf), some (vI bh), some (vI mk), some (vI 0), some (vI bo), some (vI old), some (vI c1.2.2.2.2), some (vI (if 0 ≤ c1.2.2.2.2 ∧ ¬ c1.2.2.2.2 = old then 1 else 0)), some (vI (bnMany P c1.2.2.2.2 old)), some (vI (bnSum P c1.2.2.2.2 old bf bh)), none, none] [] σ (KC (T + 56) U σ0 S l (cBn3 P p bf bh mk old c1 c2).1 (cBn3 P p bf bh mk old c1 c2).2.1 (cBn3 P p bf bh mk old c1 c2).2.2) := by
  have hGI := hK.1.iv
  have bg : 0 ≤ P 2323 p ∧ P 2323 p ≤ 7 := IV.a hGI 2323 0 8 rfl rfl rfl (by omega) (by omega)
  obtain ⟨g, hg⟩ : ∃ g, P 2323 p = g := ⟨_, rfl⟩
  have bp : 0 ≤ P 2334 g ∧ P 2334 g ≤ 8 := IV.a hGI 2334 0 8 rfl rfl rfl (by omega) (by omega)
  have ho2 : old < 0 ∨ (0 ≤ P 2337 old ∧ P 2337 old ≤ 6) := by
    rcases hold with q | q
    · left; omega
    · right; exact IV.a hGI 2337 0 64 rfl rfl rfl (by omega) (by omega)
  have hno : ¬ (6 < bnSum P c1.2.2.2.2 old bf bh ∨ (old < 0 ∧ P 2334 (P 2323 p) = 8)) := fun c => c.elim (fun c => by omega) (fun c => hnew c.1 c.2)
  unfold cBn3
  rw [if_neg hno]
  rw [hg] at hold hnew bg ⊢
  have hjold : old = -1 ∨ (8 * g ≤ old ∧ old < 8 * g + P 2334 g) := hold.imp id (fun a => ⟨a.1, a.2.1⟩)
  obtain ⟨fr, hfre⟩ : ∃ fr, c1.2.2.2.2 = fr := ⟨_, rfl⟩
  rw [hfre] at hfr hs6
  rw [hfre]
  obtain ⟨f1, f2, -, -, -⟩ := hK.2.2.2.1.get (z := 0) (i := 0) rfl (show [c1, c2][0]? = some c1 from rfl)
  by_cases q : 0 ≤ fr ∧ ¬ fr = old
  · rw [if_pos q, if_pos q]
    obtain ⟨m1, m6, m64⟩ := hfr.many hGI hK.2.1 hp q.1
    unfold bnSum at hs6 ⊢
    unfold bnMany at hs6 ⊢
    rw [if_pos q] at hs6 ⊢
    have ek : bnK P c1 c2 = kCps fr (P 2337 fr).toNat 0 P [c1, c2] := by unfold bnK; rw [hfre]
    rw [ek]
    obtain ⟨mm, hmm⟩ : ∃ mm, P 2337 fr = mm := ⟨_, rfl⟩
    rw [hmm] at m1 m6 hs6 ⊢
    obtain ⟨sm, hsm⟩ : ∃ sm, (if bf = 1 ∨ bh = 1 then mm + (if old < 0 then 1 else P 2337 old) else mm) = sm := ⟨_, rfl⟩
    rw [hsm] at hs6 ⊢
    obtain ⟨tl, hap, hln, hnn⟩ := kCps_app (fr := fr) mm.toNat 0 P [c1, c2]
    have hkf := kCps_kf (fr := fr) mm.toNat 0 P [c1, c2]
    have hcp := fun {Q : Option AV → hM → Prop} => m_bind_cp (fb := fb) (d := d + 3) (σ0 := σ0) (U := U) (l := l) (p := p) (old := old) (v2 := mo) (v3 := fi) (v4 := sv) (v5 := bf) (v6 := bh) (v7 := mk) (v9 := bo) (v14 := sm) (fr := fr) (n := mm) (Q := Q) ⟨q.1, m64⟩ m6 mm.toNat 0 T P S [c1, c2] σ none (by omega) (by decide) (by show 2 + mm.toNat < 60; omega) (by omega) hP hK
    obtain ⟨K, hKe⟩ : ∃ K, kCps fr mm.toNat 0 P [c1, c2] = K := ⟨_, rfl⟩
    rw [hKe] at hap hln hnn hkf hcp ⊢
    obtain ⟨e, P1, h1⟩ := K
    dsimp only at hap hln hnn hkf hcp ⊢
    refine x_ic T_358_326 ?_
    refine x_si (ls1 := [some (vR (some 2281)), some (vI p), some (vI mo), some (vI fi), some (vI sv), some (vI bf), some (vI bh), some (vI mk), some (vI 0), some (vI bo), some (vI old), some (vI fr), some (vI 1), some (vI mm), some (vI sm), some (vI 0), none]) T_358_327 rfl ?_
    refine hcp (fun r σ' q1 q2 => ?_) (fun q1 σ S2 l16 hP hK2 hX2 => ?_)
    · rw [if_pos q1]
      obtain ⟨S3, r1, r2, r3, r4⟩ := q2
      exact ⟨S3, r1, r2, r3.mono (by omega), r4⟩
    · have he : e = 0 := q1
      subst he
      rw [if_neg (by omega)]
      have hln := hln rfl
      have h1l : h1.length = 2 + mm.toNat := by rw [hap, List.length_append, hln]; rfl
      have g0 : h1[0]? = some c1 := by rw [hap]; rfl
      have g1 : h1[1]? = some c2 := by rw [hap]; rfl
      obtain ⟨f1, f2, -, -, -⟩ := hK2.2.2.2.1.get (z := 0) (i := 0) rfl g0
      have b0 := HS.ci hK2.2.2.1 hK2.2.2.2.1 g0
      obtain ⟨P2, hP2⟩ : ∃ P2, tP P1 c1.1 (mOne 120 c1.2.1) = P2 := ⟨_, rfl⟩
      have hk2 : KF P2 P := by rw [← hP2]; exact KF_tr KF_tP hkf
      have hg2 : P2 2323 p = g := (hk2 _ _ rfl (by decide) (by decide) (by decide)).trans hg
      have hp2 : P2 2334 g = P 2334 g := hk2 _ _ rfl (by decide) (by decide) (by decide)
      have hm2 : P2 2337 old = P 2337 old := hk2 _ _ rfl (by decide) (by decide) (by decide)
      have hnw : ((news P2 fr mk h1).length : Int) = mm := by
        unfold news
        rw [if_neg (by omega), nwL_len, List.length_drop, h1l]
        omega
      have hjl := jnL_len (c := c2) hbf hbh hnb hnw (ho2.imp id (fun a => by rw [hm2]; exact a.1))
      rw [hm2, hsm] at hjl
      have hs1 : 1 ≤ sm := by
        rw [← hsm]
        split
        · split
          · omega
          · rename_i q3; have := ho2.resolve_left q3; omega
        · exact m1
      have hj2 := fun (σ : hM) (S3 : qR) (hP : PM σ0 P2 S3 σ) (hK3 : KS (T + 4 * mm + 4) U P2 S3 l h1) => m_join2 (fb := fb) (d := d + 2) (p := p) (old := old) (fr := fr) (bf := bf) (bh := bh) (mk := mk) hP hK3 hp hg2 (by rw [hp2]; exact hjold) (fun q5 => by rw [hp2]; have := hnew q5; omega) m64 hmk (by omega) (fun q5 => absurd q5 (by omega)) (by omega) g1 hbf hbh (by omega) (by omega) (by omega)
      rw [hP2]
      refine x_li (z := 1) T_358_399 rfl ?_
      refine x_if T_358_401 (fun h => absurd (show (1 : Int) = 0 from h) (by decide)) (fun _ => ?_)
      refine x_lr (z := some 2281) T_358_404 rfl ?_
      refine x_ic T_358_405 ?_
      refine x_lr (z := some 2281) T_358_407 rfl ?_
      refine x_gR (z := some 2350) T_358_408 F_17_86 (PM.t hP) (PM.r hP 86 2350 rfl) ?_
      refine x_ic T_358_411 ?_
      refine x_alI (z := c1.1) T_358_412 (by decide) (PM.ta hP 2350 0 64 rfl rfl) (by omega) (by omega) (Eq.trans (PM.aS hP 2350 rfl rfl (by omega)) f1) ?_
      refine x_lr (z := some 2281) T_358_413 rfl ?_
      refine x_gR (z := some 2351) T_358_414 F_17_87 (PM.t hP) (PM.r hP 87 2351 rfl) ?_
      refine x_ic T_358_417 ?_
      refine x_alI (z := c1.2.1) T_358_418 (by decide) (PM.ta hP 2351 0 64 rfl rfl) (by omega) (by omega) (Eq.trans (PM.aS hP 2351 rfl rfl (by omega)) f2) ?_
      refine x_cv4 T_358_419 mN_345 mL_345 (Nat.le_of_ble_eq_true rfl) mO_345 (PM.t hP) (Nat.le_of_ble_eq_true rfl) (g_askOne hP hK2.2.2.1 hK2.1 (by omega) (by omega) (Or.inl rfl)) ?_
      clear hP
      intro r σ hr
      obtain ⟨S3, rfl, hP, hK3, hX3, -⟩ := hK2.ask (T1 := T + 4 * mm + 4) (by omega) hr
      rw [hP2] at hP hK3
      refine cI ?_
      refine x_popI T_358_422 ?_
      refine x_lr (z := some 2281) T_358_423 rfl ?_
      refine x_li (z := p) T_358_424 rfl ?_
      refine x_li (z := old) T_358_425 rfl ?_
      refine x_li (z := 1) T_358_427 rfl ?_
      refine x_if T_358_429 (fun h => absurd (show (1 : Int) = 0 from h) (by decide)) (fun _ => ?_)
      refine x_li (z := fr) T_358_432 rfl ?_
      refine x_goto T_358_434 ?_
      refine x_li (z := bf) T_358_438 rfl ?_
      refine x_li (z := bh) T_358_440 rfl ?_
      refine x_li (z := mk) T_358_442 rfl ?_
      refine x_cv7 T_358_444 mN_363 mL_363 (Nat.le_of_ble_eq_true rfl) mO_363 (PM.t hP) (Nat.le_of_ble_eq_true rfl) (hj2 σ S3 hP hK3) ?_
      clear hP
      rintro _ σ ⟨S4, rfl, hP, hK4, hX4⟩
      refine cV ?_
      refine x_ic T_358_447 ?_
      refine x_ri T_358_448 ?_
      exact ⟨S4, rfl, hP, hK4.mono (by omega), SX_tr hX2 (SX_tr hX3 hX4)⟩
  · rw [if_neg q, if_neg q]
    unfold bnSum at hs6 ⊢
    unfold bnMany at hs6 ⊢
    rw [if_neg q] at hs6 ⊢
    obtain ⟨sm, hsm⟩ : ∃ sm, (if bf = 1 ∨ bh = 1 then 1 + (if old < 0 then 1 else P 2337 old) else 1) = sm := ⟨_, rfl⟩
    rw [hsm] at hs6 ⊢
    have hnw : ((news P (-1) mk [c1, c2]).length : Int) = 1 := rfl
    have hjl := jnL_len (c := c2) hbf hbh hnb hnw (ho2.imp id (fun a => a.1))
    rw [hsm] at hjl
    have hs1 : 1 ≤ sm := by
      rw [← hsm]
      split
      · split
        · omega
        · rename_i q3; have := ho2.resolve_left q3; omega
      · omega
    have hj2 := m_join2 (fb := fb) (d := d + 2) (p := p) (old := old) (fr := -1) (bf := bf) (bh := bh) (mk := mk) hP hK hp hg hjold (fun q5 => by have := hnew q5; omega) (by omega) hmk (show 2 ≤ 2 by omega) (fun _ => rfl) (show 2 ≤ 8 by omega) (show [c1, c2][1]? = some c2 from rfl) hbf hbh (by omega) (by omega) (by omega)
    refine x_ic T_358_326 ?_
    refine x_si (ls1 := [some (vR (some 2281)), some (vI p), some (vI mo), some (vI fi), some (vI sv), some (vI bf), some (vI bh), some (vI mk), some (vI 0), some (vI bo), some (vI old), some (vI fr), some (vI 0), some (vI 1), some (vI sm), some (vI 0), none]) T_358_327 rfl ?_
    refine x_li (z := 0) T_358_329 rfl ?_
    refine x_li (z := 1) T_358_331 rfl ?_
    refine x_ic2 T_358_333 (fun h => absurd (show 1 ≤ (0 : Int) from h) (by decide)) (fun _ => ?_)
    refine x_li (z := 0) T_358_336 rfl ?_
    refine x_if T_358_338 (fun _ => ?_) (fun h => absurd (show (0 : Int) = 0 by decide) h)
    refine x_li (z := 0) T_358_399 rfl ?_
    refine x_if T_358_401 (fun _ => ?_) (fun h => absurd (show (0 : Int) = 0 by decide) h)
    refine x_lr (z := some 2281) T_358_423 rfl ?_
    refine x_li (z := p) T_358_424 rfl ?_
    refine x_li (z := old) T_358_425 rfl ?_
    refine x_li (z := 0) T_358_427 rfl ?_
    refine x_if T_358_429 (fun _ => ?_) (fun h => absurd (show (0 : Int) = 0 by decide) h)
    refine x_ic T_358_437 ?_
    refine x_li (z := bf) T_358_438 rfl ?_
    refine x_li (z := bh) T_358_440 rfl ?_
    refine x_li (z := mk) T_358_442 rfl ?_
    refine x_cv7 T_358_444 mN_363 mL_363 (Nat.le_of_ble_eq_true rfl) mO_363 (PM.t hP) (Nat.le_of_ble_eq_true rfl) (hj2) ?_
    clear hP
    rintro _ σ ⟨S4, rfl, hP, hK4, hX4⟩
    refine cV ?_
    refine x_ic T_358_447 ?_
    refine x_ri T_358_448 ?_
    exact ⟨S4, rfl, hP, hK4.mono (by omega), hX4⟩
/-- where it is to be -/
theorem m_bind_c (hP : PM σ0 P S σ) (hK : KS T U P S l [c1, c2]) (hp : 0 ≤ p ∧ p < 8) (hfr : ptV P p c1.2.2.2.2) (hbf : bf = 0 ∨ bf = 1) (hbh : bh = 0 ∨ bh = 1) (hnb : ¬ (bf = 1 ∧ bh = 1)) (hmk : mk = 0 ∨ mk = 1) (hT : T + 400 ≤ 2147483000) : WP fb (d + 16) 358 195 [some (vR (some 2281)), some (vI p), some (vI mo), some (vI fi), some (vI sv), some (vI bf), some (vI bh), some (vI mk), some (vI 0), some (vI bo), none, none, none, none, none, none, none] [] σ (KC (T + 56) U σ0 S l (cBn3 P p bf bh mk (qPoint P p c2.1 c2.2.2.1) c1 c2).1 (cBn3 P p bf bh mk (qPoint P p c2.1 c2.2.2.1) c1 c2).2.1 (cBn3 P p bf bh mk (qPoint P p c2.1 c2.2.2.1) c1 c2).2.2) := by
  have hGI := hK.1.iv
  have bg : 0 ≤ P 2323 p ∧ P 2323 p ≤ 7 := IV.a hGI 2323 0 8 rfl rfl rfl (by omega) (by omega)
  have hqr := qPoint_rng (P := P) (p := p) (s := c2.1) (path := c2.2.2.1) hGI hp
  have hpo := m_pointOf (fb := fb) (d := d + 15) (p := p) (s := c2.1) (path := c2.2.2.1) hP hGI hp
  obtain ⟨old, hold⟩ : ∃ old, qPoint P p c2.1 c2.2.2.1 = old := ⟨_, rfl⟩
  rw [hold] at hqr hpo ⊢
  have hd := m_bind_d (fb := fb) (d := d) (mo := mo) (fi := fi) (sv := sv) (bo := bo) (old := old) (bf := bf) (bh := bh) (mk := mk) hP hK hp hqr hfr
  obtain ⟨a1, a2, a3, a4, a5⟩ := hK.2.2.2.1.get (z := 0) (i := 0) rfl (show [c1, c2][0]? = some c1 from rfl)
  obtain ⟨e1, e2, e3, e4, e5⟩ := hK.2.2.2.1.get (z := 1) (i := 1) rfl (show [c1, c2][1]? = some c2 from rfl)
  have ho2 : old < 0 ∨ (0 ≤ P 2337 old ∧ P 2337 old ≤ 6) := by
    rcases hqr with q | q
    · left; omega
    · right; exact IV.a hGI 2337 0 64 rfl rfl rfl (by omega) (by omega)
  have hfr64 : c1.2.2.2.2 = -1 ∨ (0 ≤ c1.2.2.2.2 ∧ c1.2.2.2.2 < 64) := hfr.imp id (fun a => ⟨a.2.2.1, a.2.2.2⟩)
  obtain ⟨fr, hfre⟩ : ∃ fr, c1.2.2.2.2 = fr := ⟨_, rfl⟩
  obtain ⟨g, hg⟩ : ∃ g, P 2323 p = g := ⟨_, rfl⟩
  rw [hg] at bg
  have bp : 0 ≤ P 2334 g ∧ P 2334 g ≤ 8 := IV.a hGI 2334 0 8 rfl rfl rfl (by omega) (by omega)
  obtain ⟨pn, hpn⟩ : ∃ pn, P 2334 g = pn := ⟨_, rfl⟩
  have key : ∀ (many cp : Int), bnMany P fr old = many → (if 0 ≤ fr ∧ ¬ fr = old then (1 : Int) else 0) = cp → 0 ≤ many ∧ many ≤ 6 → WP fb (d + 16) 358 257 [some (vR (some 2281)), some (vI p), some (vI mo), some (vI fi), some (vI sv), some (vI bf), some (vI bh), some (vI mk), some (vI 0), some (vI bo), some (vI old), some (vI fr), some (vI cp), none, none, none, none] [vI many] σ (KC (T + 56) U σ0 S l (cBn3 P p bf bh mk old c1 c2).1 (cBn3 P p bf bh mk old c1 c2).2.1 (cBn3 P p bf bh mk old c1 c2).2.2) := fun many cp hm1 hcp hm2 => by
    refine m_bind_s hP ⟨by omega, by omega⟩ ho2 hm2 hbf hbh ?_
    have es : (if bf = 1 ∨ bh = 1 then many + (if old < 0 then 1 else P 2337 old) else many) = bnSum P fr old bf bh := by
      unfold bnSum
      rw [hm1]
    rw [es]
    rw [hfre] at hd
    have bs : 0 ≤ bnSum P fr old bf bh ∧ bnSum P fr old bf bh ≤ 100 := by
      rw [← es]
      split
      · split
        · omega
        · rename_i q3; have := ho2.resolve_left q3; omega
      · omega
    have ec : cBn3 P p bf bh mk old c1 c2 = if 6 < bnSum P fr old bf bh ∨ (old < 0 ∧ P 2334 (P 2323 p) = 8) then (20, P, [c1, c2]) else cBn3 P p bf bh mk old c1 c2 := by
      split
      · rename_i q
        unfold cBn3
        rw [hfre, if_pos q]
      · rfl
    rw [ec]
    rw [hcp, hm1] at hd
    rw [hg] at hd ⊢
    rw [hpn] at hd ⊢
    obtain ⟨sm, hsm⟩ : ∃ sm, bnSum P fr old bf bh = sm := ⟨_, rfl⟩
    rw [hsm] at hd bs ⊢
    by_cases q1 : 6 < sm
    · rw [if_pos (Or.inl q1)]
      refine x_li (z := sm) T_358_295 rfl ?_
      refine x_ic T_358_297 ?_
      refine x_ic2 T_358_299 (fun _ => ?_) (fun h => absurd (show 6 < sm by omega) h)
      refine x_ic T_358_323 ?_
      refine x_ri T_358_325 ?_
      exact ⟨S, rfl, hP, hK.mono (by omega), SX_rfl⟩
    · by_cases q2 : old < 0
      · by_cases q3 : pn = 8
        · rw [if_pos (Or.inr ⟨q2, q3⟩)]
          refine x_li (z := sm) T_358_295 rfl ?_
          refine x_ic T_358_297 ?_
          refine x_ic2 T_358_299 (fun h => absurd (show 6 < sm from h) (by omega)) (fun _ => ?_)
          refine x_li (z := old) T_358_302 rfl ?_
          refine x_if T_358_304 (fun h => absurd (show 0 ≤ old from h) (by omega)) (fun _ => ?_)
          refine x_lr (z := some 2281) T_358_307 rfl ?_
          refine x_gR (z := some 2334) T_358_308 F_17_64 (PM.t hP) (PM.r hP 64 2334 rfl) ?_
          refine x_lr (z := some 2281) T_358_311 rfl ?_
          refine x_gR (z := some 2323) T_358_312 F_17_53 (PM.t hP) (PM.r hP 53 2323 rfl) ?_
          refine x_li (z := p) T_358_315 rfl ?_
          refine x_alI (z := g) T_358_316 (by decide) (PM.ta hP 2323 0 8 rfl rfl) (by omega) (by omega) (Eq.trans (PM.aP hP 2323 rfl rfl (by omega)) hg) ?_
          refine x_alI (z := pn) T_358_317 (by decide) (PM.ta hP 2334 0 8 rfl rfl) (by omega) (by omega) (Eq.trans (PM.aP hP 2334 rfl rfl (by omega)) hpn) ?_
          refine x_ic T_358_318 ?_
          refine x_ic2 T_358_320 (fun h => absurd (show ¬ pn = 8 from h) (by omega)) (fun _ => ?_)
          refine x_ic T_358_323 ?_
          refine x_ri T_358_325 ?_
          exact ⟨S, rfl, hP, hK.mono (by omega), SX_rfl⟩
        · rw [if_neg (fun c => c.elim q1 (fun c => q3 c.2))]
          have hgo := hd (by omega) (fun _ => q3) hbf hbh hnb hmk hT
          refine x_li (z := sm) T_358_295 rfl ?_
          refine x_ic T_358_297 ?_
          refine x_ic2 T_358_299 (fun h => absurd (show 6 < sm from h) (by omega)) (fun _ => ?_)
          refine x_li (z := old) T_358_302 rfl ?_
          refine x_if T_358_304 (fun h => absurd (show 0 ≤ old from h) (by omega)) (fun _ => ?_)
          refine x_lr (z := some 2281) T_358_307 rfl ?_
          refine x_gR (z := some 2334) T_358_308 F_17_64 (PM.t hP) (PM.r hP 64 2334 rfl) ?_
          refine x_lr (z := some 2281) T_358_311 rfl ?_
          refine x_gR (z := some 2323) T_358_312 F_17_53 (PM.t hP) (PM.r hP 53 2323 rfl) ?_
          refine x_li (z := p) T_358_315 rfl ?_
          refine x_alI (z := g) T_358_316 (by decide) (PM.ta hP 2323 0 8 rfl rfl) (by omega) (by omega) (Eq.trans (PM.aP hP 2323 rfl rfl (by omega)) hg) ?_
          refine x_alI (z := pn) T_358_317 (by decide) (PM.ta hP 2334 0 8 rfl rfl) (by omega) (by omega) (Eq.trans (PM.aP hP 2334 rfl rfl (by omega)) hpn) ?_
          refine x_ic T_358_318 ?_
          refine x_ic2 T_358_320 (fun _ => ?_) (fun h => absurd (show ¬ pn = 8 by omega) h)
          exact hgo
      · rw [if_neg (fun c => c.elim q1 (fun c => q2 c.1))]
        have hgo := hd (by omega) (fun c => absurd c q2) hbf hbh hnb hmk hT
        refine x_li (z := sm) T_358_295 rfl ?_
        refine x_ic T_358_297 ?_
        refine x_ic2 T_358_299 (fun h => absurd (show 6 < sm from h) (by omega)) (fun _ => ?_)
        refine x_li (z := old) T_358_302 rfl ?_
        refine x_if T_358_304 (fun _ => ?_) (fun h => absurd (show 0 ≤ old by omega) h)
        exact hgo
  by_cases q : 0 ≤ fr ∧ ¬ fr = old
  · have hmy := hfr.many hGI hK.2.1 hp (by omega)
    rw [hfre] at hmy
    obtain ⟨mm, hmm⟩ : ∃ mm, P 2337 fr = mm := ⟨_, rfl⟩
    rw [hmm] at hmy
    have hgo := key mm 1 (by unfold bnMany; rw [if_pos q, hmm]) (if_pos q) ⟨by omega, by omega⟩
    rw [hfre] at a5
    refine x_lr (z := some 2281) T_358_195 rfl ?_
    refine x_li (z := p) T_358_196 rfl ?_
    refine x_lr (z := some 2281) T_358_197 rfl ?_
    refine x_gR (z := some 2350) T_358_198 F_17_86 (PM.t hP) (PM.r hP 86 2350 rfl) ?_
    refine x_ic T_358_201 ?_
    refine x_alI (z := c2.1) T_358_202 (by decide) (PM.ta hP 2350 0 64 rfl rfl) (by omega) (by omega) (Eq.trans (PM.aS hP 2350 rfl rfl (by omega)) e1) ?_
    refine x_lr (z := some 2281) T_358_203 rfl ?_
    refine x_gR (z := some 2352) T_358_204 F_17_88 (PM.t hP) (PM.r hP 88 2352 rfl) ?_
    refine x_ic T_358_207 ?_
    refine x_alI (z := c2.2.2.1) T_358_208 (by decide) (PM.ta hP 2352 0 64 rfl rfl) (by omega) (by omega) (Eq.trans (PM.aS hP 2352 rfl rfl (by omega)) e3) ?_
    refine x_cv4 T_358_209 mN_340 mL_340 (Nat.le_of_ble_eq_true rfl) mO_340 (PM.t hP) (Nat.le_of_ble_eq_true rfl) (hpo) ?_
    rintro _ σ ⟨rfl, rfl⟩
    refine cI ?_
    refine x_si (ls1 := [some (vR (some 2281)), some (vI p), some (vI mo), some (vI fi), some (vI sv), some (vI bf), some (vI bh), some (vI mk), some (vI 0), some (vI bo), some (vI old), none, none, none, none, none, none]) T_358_212 rfl ?_
    refine x_lr (z := some 2281) T_358_214 rfl ?_
    refine x_gR (z := some 2354) T_358_215 F_17_90 (PM.t hP) (PM.r hP 90 2354 rfl) ?_
    refine x_ic T_358_218 ?_
    refine x_alI (z := fr) T_358_219 (by decide) (PM.ta hP 2354 0 64 rfl rfl) (by omega) (by omega) (Eq.trans (PM.aS hP 2354 rfl rfl (by omega)) a5) ?_
    refine x_si (ls1 := [some (vR (some 2281)), some (vI p), some (vI mo), some (vI fi), some (vI sv), some (vI bf), some (vI bh), some (vI mk), some (vI 0), some (vI bo), some (vI old), some (vI fr), none, none, none, none, none]) T_358_220 rfl ?_
    refine x_li (z := fr) T_358_222 rfl ?_
    refine x_if T_358_224 (fun h => absurd (show fr < 0 from h) (by omega)) (fun _ => ?_)
    refine x_li (z := fr) T_358_227 rfl ?_
    refine x_li (z := old) T_358_229 rfl ?_
    refine x_ic2 T_358_231 (fun h => absurd (show fr = old from h) (by omega)) (fun _ => ?_)
    refine x_ic T_358_234 ?_
    refine x_goto T_358_235 ?_
    refine x_si (ls1 := [some (vR (some 2281)), some (vI p), some (vI mo), some (vI fi), some (vI sv), some (vI bf), some (vI bh), some (vI mk), some (vI 0), some (vI bo), some (vI old), some (vI fr), some (vI 1), none, none, none, none]) T_358_239 rfl ?_
    refine x_li (z := 1) T_358_241 rfl ?_
    refine x_if T_358_243 (fun h => absurd (show (1 : Int) = 0 from h) (by decide)) (fun _ => ?_)
    refine x_lr (z := some 2281) T_358_246 rfl ?_
    refine x_gR (z := some 2337) T_358_247 F_17_67 (PM.t hP) (PM.r hP 67 2337 rfl) ?_
    refine x_li (z := fr) T_358_250 rfl ?_
    refine x_alI (z := mm) T_358_252 (by decide) (PM.ta hP 2337 0 64 rfl rfl) (by omega) (by omega) (Eq.trans (PM.aP hP 2337 rfl rfl (by omega)) hmm) ?_
    refine x_goto T_358_253 ?_
    exact hgo
  · have hgo := key 1 0 (by unfold bnMany; rw [if_neg q]) (if_neg q) ⟨by omega, by omega⟩
    rw [hfre] at a5 hfr64
    by_cases q2 : fr < 0
    · skip
      refine x_lr (z := some 2281) T_358_195 rfl ?_
      refine x_li (z := p) T_358_196 rfl ?_
      refine x_lr (z := some 2281) T_358_197 rfl ?_
      refine x_gR (z := some 2350) T_358_198 F_17_86 (PM.t hP) (PM.r hP 86 2350 rfl) ?_
      refine x_ic T_358_201 ?_
      refine x_alI (z := c2.1) T_358_202 (by decide) (PM.ta hP 2350 0 64 rfl rfl) (by omega) (by omega) (Eq.trans (PM.aS hP 2350 rfl rfl (by omega)) e1) ?_
      refine x_lr (z := some 2281) T_358_203 rfl ?_
      refine x_gR (z := some 2352) T_358_204 F_17_88 (PM.t hP) (PM.r hP 88 2352 rfl) ?_
      refine x_ic T_358_207 ?_
      refine x_alI (z := c2.2.2.1) T_358_208 (by decide) (PM.ta hP 2352 0 64 rfl rfl) (by omega) (by omega) (Eq.trans (PM.aS hP 2352 rfl rfl (by omega)) e3) ?_
      refine x_cv4 T_358_209 mN_340 mL_340 (Nat.le_of_ble_eq_true rfl) mO_340 (PM.t hP) (Nat.le_of_ble_eq_true rfl) (hpo) ?_
      rintro _ σ ⟨rfl, rfl⟩
      refine cI ?_
      refine x_si (ls1 := [some (vR (some 2281)), some (vI p), some (vI mo), some (vI fi), some (vI sv), some (vI bf), some (vI bh), some (vI mk), some (vI 0), some (vI bo), some (vI old), none, none, none, none, none, none]) T_358_212 rfl ?_
      refine x_lr (z := some 2281) T_358_214 rfl ?_
      refine x_gR (z := some 2354) T_358_215 F_17_90 (PM.t hP) (PM.r hP 90 2354 rfl) ?_
      refine x_ic T_358_218 ?_
      refine x_alI (z := fr) T_358_219 (by decide) (PM.ta hP 2354 0 64 rfl rfl) (by omega) (by omega) (Eq.trans (PM.aS hP 2354 rfl rfl (by omega)) a5) ?_
      refine x_si (ls1 := [some (vR (some 2281)), some (vI p), some (vI mo), some (vI fi), some (vI sv), some (vI bf), some (vI bh), some (vI mk), some (vI 0), some (vI bo), some (vI old), some (vI fr), none, none, none, none, none]) T_358_220 rfl ?_
      refine x_li (z := fr) T_358_222 rfl ?_
      refine x_if T_358_224 (fun _ => ?_) (fun h => absurd (show fr < 0 by omega) h)
      refine x_ic T_358_238 ?_
      refine x_si (ls1 := [some (vR (some 2281)), some (vI p), some (vI mo), some (vI fi), some (vI sv), some (vI bf), some (vI bh), some (vI mk), some (vI 0), some (vI bo), some (vI old), some (vI fr), some (vI 0), none, none, none, none]) T_358_239 rfl ?_
      refine x_li (z := 0) T_358_241 rfl ?_
      refine x_if T_358_243 (fun _ => ?_) (fun h => absurd (show (0 : Int) = 0 by decide) h)
      refine x_ic T_358_256 ?_
      exact hgo
    · skip
      refine x_lr (z := some 2281) T_358_195 rfl ?_
      refine x_li (z := p) T_358_196 rfl ?_
      refine x_lr (z := some 2281) T_358_197 rfl ?_
      refine x_gR (z := some 2350) T_358_198 F_17_86 (PM.t hP) (PM.r hP 86 2350 rfl) ?_
      refine x_ic T_358_201 ?_
      refine x_alI (z := c2.1) T_358_202 (by decide) (PM.ta hP 2350 0 64 rfl rfl) (by omega) (by omega) (Eq.trans (PM.aS hP 2350 rfl rfl (by omega)) e1) ?_
      refine x_lr (z := some 2281) T_358_203 rfl ?_
      refine x_gR (z := some 2352) T_358_204 F_17_88 (PM.t hP) (PM.r hP 88 2352 rfl) ?_
      refine x_ic T_358_207 ?_
      refine x_alI (z := c2.2.2.1) T_358_208 (by decide) (PM.ta hP 2352 0 64 rfl rfl) (by omega) (by omega) (Eq.trans (PM.aS hP 2352 rfl rfl (by omega)) e3) ?_
      refine x_cv4 T_358_209 mN_340 mL_340 (Nat.le_of_ble_eq_true rfl) mO_340 (PM.t hP) (Nat.le_of_ble_eq_true rfl) (hpo) ?_
      rintro _ σ ⟨rfl, rfl⟩
      refine cI ?_
      refine x_si (ls1 := [some (vR (some 2281)), some (vI p), some (vI mo), some (vI fi), some (vI sv), some (vI bf), some (vI bh), some (vI mk), some (vI 0), some (vI bo), some (vI old), none, none, none, none, none, none]) T_358_212 rfl ?_
      refine x_lr (z := some 2281) T_358_214 rfl ?_
      refine x_gR (z := some 2354) T_358_215 F_17_90 (PM.t hP) (PM.r hP 90 2354 rfl) ?_
      refine x_ic T_358_218 ?_
      refine x_alI (z := fr) T_358_219 (by decide) (PM.ta hP 2354 0 64 rfl rfl) (by omega) (by omega) (Eq.trans (PM.aS hP 2354 rfl rfl (by omega)) a5) ?_
      refine x_si (ls1 := [some (vR (some 2281)), some (vI p), some (vI mo), some (vI fi), some (vI sv), some (vI bf), some (vI bh), some (vI mk), some (vI 0), some (vI bo), some (vI old), some (vI fr), none, none, none, none, none]) T_358_220 rfl ?_
      refine x_li (z := fr) T_358_222 rfl ?_
      refine x_if T_358_224 (fun h => absurd (show fr < 0 from h) (by omega)) (fun _ => ?_)
      refine x_li (z := fr) T_358_227 rfl ?_
      refine x_li (z := old) T_358_229 rfl ?_
      refine x_ic2 T_358_231 (fun _ => ?_) (fun h => absurd (show fr = old by omega) h)
      refine x_ic T_358_238 ?_
      refine x_si (ls1 := [some (vR (some 2281)), some (vI p), some (vI mo), some (vI fi), some (vI sv), some (vI bf), some (vI bh), some (vI mk), some (vI 0), some (vI bo), some (vI old), some (vI fr), some (vI 0), none, none, none, none]) T_358_239 rfl ?_
      refine x_li (z := 0) T_358_241 rfl ?_
      refine x_if T_358_243 (fun _ => ?_) (fun h => absurd (show (0 : Int) = 0 by decide) h)
      refine x_ic T_358_256 ?_
      exact hgo
end MBIND3
