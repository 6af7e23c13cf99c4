/-! The class's commands: the members of a point, each by a new fid. -/
theorem T_176_63 : hTab 176 63 = some ((0, 0, 0, []), 64) := rfl
theorem T_176_64 : hTab 176 64 = some ((4, 3, 0, []), 65) := rfl
theorem T_176_65 : hTab 176 65 = some ((0, 0, 0, []), 66) := rfl
theorem T_176_66 : hTab 176 66 = some ((4, 4, 0, []), 68) := rfl
theorem T_176_68 : hTab 176 68 = some ((3, 4, 0, []), 70) := rfl
theorem T_176_70 : hTab 176 70 = some ((3, 1, 2, []), 71) := rfl
theorem T_176_71 : hTab 176 71 = some ((24, 4, Int.ofNat 3, []), 74) := rfl
theorem T_176_74 : hTab 176 74 = some ((19, 3, Int.ofNat 222, []), 77) := rfl
theorem T_176_77 : hTab 176 77 = some ((3, 4, 0, []), 79) := rfl
theorem T_176_79 : hTab 176 79 = some ((0, 0, 6, []), 81) := rfl
theorem T_176_81 : hTab 176 81 = some ((19, 3, Int.ofNat 222, []), 84) := rfl
theorem T_176_84 : hTab 176 84 = some ((3, 3, 0, []), 85) := rfl
theorem T_176_85 : hTab 176 85 = some ((18, 1, Int.ofNat 222, []), 88) := rfl
theorem T_176_88 : hTab 176 88 = some ((3, 1, 2, []), 89) := rfl
theorem T_176_89 : hTab 176 89 = some ((3, 4, 0, []), 91) := rfl
theorem T_176_91 : hTab 176 91 = some ((31, 130, 0, []), 94) := rfl
theorem T_176_94 : hTab 176 94 = some ((4, 5, 2, []), 96) := rfl
theorem T_176_96 : hTab 176 96 = some ((3, 5, 2, []), 98) := rfl
theorem T_176_98 : hTab 176 98 = some ((20, 0, Int.ofNat 216, []), 101) := rfl
theorem T_176_101 : hTab 176 101 = some ((3, 0, 2, []), 102) := rfl
theorem T_176_102 : hTab 176 102 = some ((24, 14, Int.ofNat 0, []), 105) := rfl
theorem T_176_105 : hTab 176 105 = some ((3, 5, 2, []), 107) := rfl
theorem T_176_107 : hTab 176 107 = some ((24, 5, Int.ofNat 0, []), 110) := rfl
theorem T_176_110 : hTab 176 110 = some ((31, 122, 0, []), 113) := rfl
theorem T_176_113 : hTab 176 113 = some ((0, 0, 0, []), 114) := rfl
theorem T_176_114 : hTab 176 114 = some ((3, 0, 2, []), 115) := rfl
theorem T_176_115 : hTab 176 115 = some ((24, 14, Int.ofNat 0, []), 118) := rfl
theorem T_176_118 : hTab 176 118 = some ((3, 5, 2, []), 120) := rfl
theorem T_176_120 : hTab 176 120 = some ((24, 5, Int.ofNat 0, []), 123) := rfl
theorem T_176_123 : hTab 176 123 = some ((3, 5, 2, []), 125) := rfl
theorem T_176_125 : hTab 176 125 = some ((24, 5, Int.ofNat 1, []), 128) := rfl
theorem T_176_128 : hTab 176 128 = some ((0, 0, (-1), []), 129) := rfl
theorem T_176_129 : hTab 176 129 = some ((31, 123, 0, []), 132) := rfl
theorem T_176_132 : hTab 176 132 = some ((3, 0, 2, []), 133) := rfl
theorem T_176_133 : hTab 176 133 = some ((24, 14, Int.ofNat 0, []), 136) := rfl
theorem T_176_136 : hTab 176 136 = some ((24, 1, Int.ofNat 2, []), 139) := rfl
theorem T_176_139 : hTab 176 139 = some ((31, 26, 0, []), 142) := rfl
theorem T_176_142 : hTab 176 142 = some ((4, 3, 0, []), 143) := rfl
theorem T_176_143 : hTab 176 143 = some ((3, 3, 0, []), 144) := rfl
theorem T_176_144 : hTab 176 144 = some ((18, 1, Int.ofNat 216, []), 147) := rfl
theorem T_176_147 : hTab 176 147 = some ((3, 0, 2, []), 148) := rfl
theorem T_176_148 : hTab 176 148 = some ((24, 14, Int.ofNat 4, []), 151) := rfl
theorem T_176_151 : hTab 176 151 = some ((3, 4, 0, []), 153) := rfl
theorem T_176_153 : hTab 176 153 = some ((26, 10, 0, []), 154) := rfl
theorem T_176_154 : hTab 176 154 = some ((3, 5, 2, []), 156) := rfl
theorem T_176_156 : hTab 176 156 = some ((24, 5, Int.ofNat 0, []), 159) := rfl
theorem T_176_159 : hTab 176 159 = some ((3, 0, 2, []), 160) := rfl
theorem T_176_160 : hTab 176 160 = some ((24, 14, Int.ofNat 0, []), 163) := rfl
theorem T_176_163 : hTab 176 163 = some ((24, 1, Int.ofNat 5, []), 166) := rfl
theorem T_176_166 : hTab 176 166 = some ((3, 5, 2, []), 168) := rfl
theorem T_176_168 : hTab 176 168 = some ((24, 5, Int.ofNat 2, []), 171) := rfl
theorem T_176_171 : hTab 176 171 = some ((3, 5, 2, []), 173) := rfl
theorem T_176_173 : hTab 176 173 = some ((24, 5, Int.ofNat 3, []), 176) := rfl
theorem T_176_176 : hTab 176 176 = some ((31, 128, 0, []), 179) := rfl
theorem T_176_179 : hTab 176 179 = some ((3, 0, 2, []), 180) := rfl
theorem T_176_180 : hTab 176 180 = some ((24, 14, Int.ofNat 4, []), 183) := rfl
theorem T_176_183 : hTab 176 183 = some ((3, 4, 0, []), 185) := rfl
theorem T_176_185 : hTab 176 185 = some ((26, 10, 0, []), 186) := rfl
theorem T_176_186 : hTab 176 186 = some ((3, 2, 0, []), 187) := rfl
theorem T_176_187 : hTab 176 187 = some ((18, 1, Int.ofNat 198, []), 190) := rfl
theorem T_176_190 : hTab 176 190 = some ((3, 5, 2, []), 192) := rfl
theorem T_176_192 : hTab 176 192 = some ((24, 5, Int.ofNat 5, []), 195) := rfl
theorem T_176_195 : hTab 176 195 = some ((18, 0, Int.ofNat 202, []), 198) := rfl
theorem T_176_198 : hTab 176 198 = some ((0, 0, 1, []), 199) := rfl
theorem T_176_199 : hTab 176 199 = some ((22, 0, Int.ofNat 203, []), 202) := rfl
theorem T_176_202 : hTab 176 202 = some ((0, 0, 0, []), 203) := rfl
theorem T_176_203 : hTab 176 203 = some ((25, 5, Int.ofNat 5, []), 206) := rfl
theorem T_176_206 : hTab 176 206 = some ((3, 0, 2, []), 207) := rfl
theorem T_176_207 : hTab 176 207 = some ((6, 0, 0, []), 208) := rfl
theorem T_176_208 : hTab 176 208 = some ((24, 14, Int.ofNat 5, []), 211) := rfl
theorem T_176_211 : hTab 176 211 = some ((0, 0, 1, []), 212) := rfl
theorem T_176_212 : hTab 176 212 = some ((10, 0, 0, []), 213) := rfl
theorem T_176_213 : hTab 176 213 = some ((25, 14, Int.ofNat 5, []), 216) := rfl
theorem T_176_216 : hTab 176 216 = some ((5, 4, 1, []), 219) := rfl
theorem T_176_219 : hTab 176 219 = some ((22, 0, Int.ofNat 68, []), 222) := rfl
theorem T_176_222 : hTab 176 222 = some ((3, 0, 2, []), 223) := rfl
theorem T_176_223 : hTab 176 223 = some ((24, 14, Int.ofNat 5, []), 226) := rfl
theorem T_176_226 : hTab 176 226 = some ((0, 0, 1, []), 227) := rfl
theorem T_176_227 : hTab 176 227 = some ((10, 1, 0, []), 228) := rfl
theorem T_176_228 : hTab 176 228 = some ((4, 4, 0, []), 230) := rfl
theorem T_176_230 : hTab 176 230 = some ((3, 4, 0, []), 232) := rfl
theorem T_176_232 : hTab 176 232 = some ((18, 2, Int.ofNat 293, []), 235) := rfl
theorem T_176_235 : hTab 176 235 = some ((3, 3, 0, []), 236) := rfl
theorem T_176_236 : hTab 176 236 = some ((18, 0, Int.ofNat 293, []), 239) := rfl
theorem T_176_239 : hTab 176 239 = some ((3, 0, 2, []), 240) := rfl
theorem T_176_240 : hTab 176 240 = some ((24, 14, Int.ofNat 0, []), 243) := rfl
theorem T_176_243 : hTab 176 243 = some ((3, 0, 2, []), 244) := rfl
theorem T_176_244 : hTab 176 244 = some ((24, 14, Int.ofNat 4, []), 247) := rfl
theorem T_176_247 : hTab 176 247 = some ((3, 4, 0, []), 249) := rfl
theorem T_176_249 : hTab 176 249 = some ((26, 10, 0, []), 250) := rfl
theorem T_176_250 : hTab 176 250 = some ((24, 5, Int.ofNat 0, []), 253) := rfl
theorem T_176_253 : hTab 176 253 = some ((31, 122, 0, []), 256) := rfl
theorem T_176_256 : hTab 176 256 = some ((0, 0, 0, []), 257) := rfl
theorem T_176_257 : hTab 176 257 = some ((3, 0, 2, []), 258) := rfl
theorem T_176_258 : hTab 176 258 = some ((24, 14, Int.ofNat 0, []), 261) := rfl
theorem T_176_261 : hTab 176 261 = some ((0, 0, 120, []), 263) := rfl
theorem T_176_263 : hTab 176 263 = some ((3, 0, 2, []), 264) := rfl
theorem T_176_264 : hTab 176 264 = some ((24, 14, Int.ofNat 4, []), 267) := rfl
theorem T_176_267 : hTab 176 267 = some ((3, 4, 0, []), 269) := rfl
theorem T_176_269 : hTab 176 269 = some ((26, 10, 0, []), 270) := rfl
theorem T_176_270 : hTab 176 270 = some ((24, 5, Int.ofNat 1, []), 273) := rfl
theorem T_176_273 : hTab 176 273 = some ((31, 131, 0, []), 276) := rfl
theorem T_176_276 : hTab 176 276 = some ((3, 0, 2, []), 277) := rfl
theorem T_176_277 : hTab 176 277 = some ((24, 14, Int.ofNat 0, []), 280) := rfl
theorem T_176_280 : hTab 176 280 = some ((24, 1, Int.ofNat 2, []), 283) := rfl
theorem T_176_283 : hTab 176 283 = some ((31, 26, 0, []), 286) := rfl
theorem T_176_286 : hTab 176 286 = some ((7, 0, 0, []), 287) := rfl
theorem T_176_287 : hTab 176 287 = some ((5, 4, (-1), []), 290) := rfl
theorem T_176_290 : hTab 176 290 = some ((22, 0, Int.ofNat 230, []), 293) := rfl
theorem T_176_293 : hTab 176 293 = some ((3, 3, 0, []), 294) := rfl
theorem T_176_294 : hTab 176 294 = some ((33, 1, 0, []), 295) := rfl
section XBNE
variable {fb : Bool} {d b c n a0 y0 ga : Nat} {σ0 σ : hM} {W W1 W2 V P P0 Q : qR} {R R1 R2 V3 : rR} {i j k x z v s e w f g u p pt pa dr sv K T U t N C fr mk n6 : Int} {l l0 lo nm M A wd : List Int} {c1 c2 ch : Ch} {kk cj : Nat} {h h0 : List Ch} {x5 : Option AV}
theorem nwL_snoc : ∀ (r : List Ch) (j : Int), nwL P fr mk (r ++ [ch]) j = nwL P fr mk r j ++ [chN ch (if mk = 1 ∨ ¬ P 2342 (6 * fr + (j + (r.length : Int))) = 0 then 1 else 0)]
  | [], j => by
    show [chN ch (if mk = 1 ∨ ¬ P 2342 (6 * fr + j) = 0 then 1 else 0)] = [chN ch (if mk = 1 ∨ ¬ P 2342 (6 * fr + (j + ((0 : Nat) : Int))) = 0 then 1 else 0)]
    rw [show j + ((0 : Nat) : Int) = j by omega]
  | c :: r, j => by
    show chN c _ :: nwL P fr mk (r ++ [ch]) (j + 1) = chN c _ :: (nwL P fr mk r (j + 1) ++ _)
    rw [nwL_snoc r (j + 1), show j + 1 + (r.length : Int) = j + ((c :: r).length : Int) by rw [List.length_cons]; omega]
/-- one more is to be bound -/
theorem gat_put (hX : XW K T U W R P) (hC : CPS W (nwL P0 fr mk h 0)) (hh : (h.length : Int) = j) (hj : 0 ≤ j ∧ j < 6) {kd : Int} (hdr : (if kd = 128 then 1 else 0) = dr) (hz : (if mk = 1 ∨ ¬ P0 2342 (6 * fr + j) = 0 then 1 else 0) = z) (hcj : 2181 + j.toNat = cj) : XW K T U (rU (rU (chW W cj s f pa dr) cj 2165 z) 2175 2453 (j + 1)) (oU R cj 2164 none) P ∧ CPS (rU (rU (chW W cj s f pa dr) cj 2165 z) 2175 2453 (j + 1)) (nwL P0 fr mk (h ++ [(s, f, pa, kd, -1)]) 0) ∧ FGA W (rU (rU (chW W cj s f pa dr) cj 2165 z) 2175 2453 (j + 1)) R (oU R cj 2164 none) := by
  have hW : ∀ (x : Nat) (k : Int), x ≠ cj → ¬ (x = 2175 ∧ k = 2453) → rU (rU (chW W cj s f pa dr) cj 2165 z) 2175 2453 (j + 1) x k = W x k := fun x k hx hy => by
    unfold chW
    exact (if_neg hy).trans ((rU_f hx).trans ((rU_f hx).trans ((rU_f hx).trans ((rU_f hx).trans ((rU_f hx).trans ((rU_f hx).trans ((rU_f hx).trans (rU_f hx))))))))
  have hR : ∀ (x : Nat) (k : Int), ¬ (x = cj ∧ k = 2164) → oU R cj 2164 none x k = R x k := fun x k hx => if_neg hx
  refine ⟨hX.hiw (fun x k hx => hW x k (by omega) (by omega)) (fun x k hx => hR x k (by omega)), ⟨?_, fun i i0 i1 => ?_⟩, fun x k a b c e => hW x k (by omega) c, fun x k a b => hR x k (by omega)⟩
  · rw [nwL_len, List.length_append, show ((h.length + [((s, f, pa, kd, -1) : Ch)].length : Nat) : Int) = j + 1 by show ((h.length + 1 : Nat) : Int) = j + 1; omega]
    exact rU_s
  · rw [nwL_len, List.length_append] at i1
    have i1 : i < ((h.length + 1 : Nat) : Int) := i1
    have hl : (nwL P0 fr mk h 0).length = h.length := nwL_len _ _
    rw [nwL_snoc]
    by_cases q : i = j
    · subst q
      rw [show (nwL P0 fr mk h 0 ++ [chN ((s, f, pa, kd, -1) : Ch) (if mk = 1 ∨ ¬ P0 2342 (6 * fr + (0 + (h.length : Int))) = 0 then 1 else 0)]).getD i.toNat nw0 = chN ((s, f, pa, kd, -1) : Ch) (if mk = 1 ∨ ¬ P0 2342 (6 * fr + (0 + (h.length : Int))) = 0 then 1 else 0) by
        rw [List.getD_eq_getElem?_getD, List.getElem?_append_right (by omega), hl, show i.toNat - h.length = 0 by omega]
        rfl]
      rw [Int.zero_add, hh, hz, hcj]
      have e : ∀ k : Int, rU (rU (chW W cj s f pa dr) cj 2165 z) 2175 2453 (i + 1) cj k = rU (chW W cj s f pa dr) cj 2165 z cj k := fun k => rU_f (by omega)
      exact ⟨(e _).trans ((rU_k (by decide)).trans chW_at.1), (e _).trans ((rU_k (by decide)).trans chW_at.2.1), (e _).trans ((rU_k (by decide)).trans chW_at.2.2.1), (e _).trans ((rU_k (by decide)).trans (chW_at.2.2.2.1.trans hdr.symm)), (e _).trans rU_s⟩
    · rw [show (nwL P0 fr mk h 0 ++ [chN ((s, f, pa, kd, -1) : Ch) (if mk = 1 ∨ ¬ P0 2342 (6 * fr + (0 + (h.length : Int))) = 0 then 1 else 0)]).getD i.toNat nw0 = (nwL P0 fr mk h 0).getD i.toNat nw0 by
        rw [List.getD_eq_getElem?_getD, List.getD_eq_getElem?_getD, List.getElem?_append_left (by omega)]]
      exact (hC.2 i i0 (by rw [hl]; omega)).eqv (fun k hk => hW _ _ (by omega) (by omega))
/-- an error ends the loop -/
theorem gat_out (hP : PX σ0 W R σ) (hyo : tX y0 = some (Sum.inl 4)) (hyc : W y0 2131 = n6) (he : ¬ e = 0) {Qf : Option AV → hM → Prop} (hQ : WP fb (d + 9) 176 222 [some (vR (some 2175)), some (vR (some y0)), some (vI mk), some (vI e), some (vI j), x5] [] σ Qf) : WP fb (d + 9) 176 68 [some (vR (some 2175)), some (vR (some y0)), some (vI mk), some (vI e), some (vI j), x5] [] σ Qf := by
  by_cases q1 : n6 ≤ j
  · skip
    refine x_li (z := j) T_176_68 rfl ?_
    refine x_lr (z := some y0) T_176_70 rfl ?_
    refine x_gI (z := n6) T_176_71 (Or.inl F_4_3) (hP.o hyo) (Eq.trans (hP.gi hyo (key := 2131) rfl) hyc) ?_
    refine x_ic2 T_176_74 (fun _ => ?_) (fun h => absurd (show n6 ≤ j by omega) h)
    exact hQ
  · by_cases q2 : 6 ≤ j
    · skip
      refine x_li (z := j) T_176_68 rfl ?_
      refine x_lr (z := some y0) T_176_70 rfl ?_
      refine x_gI (z := n6) T_176_71 (Or.inl F_4_3) (hP.o hyo) (Eq.trans (hP.gi hyo (key := 2131) rfl) hyc) ?_
      refine x_ic2 T_176_74 (fun h => absurd (show n6 ≤ j from h) (by omega)) (fun _ => ?_)
      refine x_li (z := j) T_176_77 rfl ?_
      refine x_ic T_176_79 ?_
      refine x_ic2 T_176_81 (fun _ => ?_) (fun h => absurd (show 6 ≤ j by omega) h)
      exact hQ
    · skip
      refine x_li (z := j) T_176_68 rfl ?_
      refine x_lr (z := some y0) T_176_70 rfl ?_
      refine x_gI (z := n6) T_176_71 (Or.inl F_4_3) (hP.o hyo) (Eq.trans (hP.gi hyo (key := 2131) rfl) hyc) ?_
      refine x_ic2 T_176_74 (fun h => absurd (show n6 ≤ j from h) (by omega)) (fun _ => ?_)
      refine x_li (z := j) T_176_77 rfl ?_
      refine x_ic T_176_79 ?_
      refine x_ic2 T_176_81 (fun h => absurd (show 6 ≤ j from h) (by omega)) (fun _ => ?_)
      refine x_li (z := e) T_176_84 rfl ?_
      refine x_if T_176_85 (fun _ => ?_) (fun h => absurd (show ¬ e = 0 by omega) h)
      exact hQ
theorem gat_loop (hfr : 0 ≤ fr ∧ fr < 64) (hn : n6 ≤ 6) (hmk : mk = 0 ∨ mk = 1) {Qf : Option AV → hM → Prop} : ∀ (m : Nat) (j T : Int) (σ : hM) (V : qR) (V3 : rR) (Q : qR) (h : List Ch) (x5 : Option AV), j + m = n6 → 0 ≤ j → Q 2337 fr = n6 → KF Q P0 → T + 4 * m + 150 ≤ 2147483000 → PX σ0 V V3 σ → XW K T U V V3 Q → PTM V V3 y0 Q fr → CPS V (nwL P0 fr mk h 0) → (h.length : Int) = j → (∀ c ∈ h, chR c) → (∀ (σ : hM) (V2 : qR) (V4 : rR) (h2 : List Ch) (j2 : Int) (x5 : Option AV), PX σ0 V2 V4 σ → XW K (T + 4 * m) U V2 V4 (kCps fr m j Q (h0 ++ h)).2.1 → (kCps fr m j Q (h0 ++ h)).2.2 = h0 ++ h2 → CPS V2 (nwL P0 fr mk h2 0) → (∀ c ∈ h2, chR c) → h2.length ≤ 6 → FGA V V2 V3 V4 → WP fb (d + 9) 176 222 [some (vR (some 2175)), some (vR (some y0)), some (vI mk), some (vI (kCps fr m j Q (h0 ++ h)).1), some (vI j2), x5] [] σ Qf) → WP fb (d + 9) 176 68 [some (vR (some 2175)), some (vR (some y0)), some (vI mk), some (vI 0), some (vI j), x5] [] σ Qf := by
  intro m
  induction m with
  | zero =>
    intro j T σ V V3 Q h x5 g1 g2 g3 g4 g5 hP hX hPM hC hh hr hc
    have g1 : j + ((0 : Nat) : Int) = n6 := g1
    have hj : j = n6 := by omega
    subst hj
    have hyc := hPM.2.2.2.1.trans g3
    have hyo := hPM.1
    have hgo : WP fb (d + 9) 176 222 [some (vR (some 2175)), some (vR (some y0)), some (vI mk), some (vI 0), some (vI j), x5] [] σ Qf := hc σ V V3 h j x5 hP (hX.mono (by omega)) rfl hC hr (by omega) FGA_rfl
    refine x_li (z := j) T_176_68 rfl ?_
    refine x_lr (z := some y0) T_176_70 rfl ?_
    refine x_gI (z := j) T_176_71 (Or.inl F_4_3) (hP.o hyo) (Eq.trans (hP.gi hyo (key := 2131) rfl) hyc) ?_
    refine x_ic2 T_176_74 (fun _ => ?_) (fun h => absurd (show j ≤ j by omega) h)
    exact hgo
  | succ m ih =>
    intro j T σ V V3 Q h x5 g1 g2 g3 g4 g5 hP hX hPM hC hh hr hc
    have hyc := hPM.2.2.2.1.trans g3
    have hyo := hPM.1
    have hya := hPM.2.1
    have hyr := hPM.2.2.1
    have hI := hX.1.2.2.2.1.iv
    have hPM0 := hPM
    obtain ⟨cc, k1, k2, k3, m1, m2, m3, m4, m5⟩ := hPM.2.2.2.2 j g2 (by omega)
    have hmo := x_memberOf (fb := fb) (d := d + 8) (k := j) hP hyo hya (by omega) hyc ⟨by omega, hn⟩ (fun _ _ => k1)
    rw [if_pos ⟨g2, by omega⟩] at hmo
    have hb1 : 0 ≤ Q 2338 (6 * fr + j) ∧ Q 2338 (6 * fr + j) ≤ 2 := IV.a hI 2338 0 384 rfl rfl rfl (by omega) (by omega)
    have hb2 : 0 ≤ Q 2339 (6 * fr + j) ∧ Q 2339 (6 * fr + j) ≤ 47 := IV.a hI 2339 0 384 rfl rfl rfl (by omega) (by omega)
    have eK : kCps fr (m + 1) j Q (h0 ++ h) = if 0 < kCpE Q (Q 2338 (6 * fr + j)) (Q 2339 (6 * fr + j)) then (kCpE Q (Q 2338 (6 * fr + j)) (Q 2339 (6 * fr + j)), kCpP Q (Q 2338 (6 * fr + j)) (Q 2339 (6 * fr + j)), h0 ++ h) else kCps fr m (j + 1) (kCpP Q (Q 2338 (6 * fr + j)) (Q 2339 (6 * fr + j))) ((h0 ++ h) ++ [(Q 2338 (6 * fr + j), qNewF Q (Q 2338 (6 * fr + j)), Q 2340 (6 * fr + j), Q 2341 (6 * fr + j), -1)]) := rfl
    have emm : Q 2342 (6 * fr + j) = P0 2342 (6 * fr + j) := nsR_kf g4 2342 _ rfl
    rw [emm] at m5
    obtain ⟨s, hsv⟩ : ∃ q, Q 2338 (6 * fr + j) = q := ⟨_, rfl⟩
    obtain ⟨f, hfd⟩ : ∃ q, Q 2339 (6 * fr + j) = q := ⟨_, rfl⟩
    obtain ⟨pa, hpa⟩ : ∃ q, Q 2340 (6 * fr + j) = q := ⟨_, rfl⟩
    obtain ⟨kd, hkd⟩ : ∃ q, Q 2341 (6 * fr + j) = q := ⟨_, rfl⟩
    obtain ⟨mm, hmm⟩ : ∃ q, P0 2342 (6 * fr + j) = q := ⟨_, rfl⟩
    rw [hsv] at m1 hb1
    rw [hfd] at m2 hb2
    rw [hpa] at m3
    rw [hkd] at m4
    rw [hmm] at m5
    rw [hsv, hfd, hpa, hkd] at eK
    obtain ⟨dr, hdr⟩ : ∃ q : Int, (if kd = 128 then 1 else 0) = q := ⟨_, rfl⟩
    have m4 : V cc 2163 = dr := m4.trans hdr
    have hdr2 : dr = 0 ∨ dr = 1 := by rw [← hdr]; split <;> decide
    have hs : 0 ≤ s ∧ s < 3 := ⟨hb1.1, by omega⟩
    have hf : 0 ≤ f ∧ f ≤ 47 := hb2
    obtain ⟨ord, tt, hXs⟩ := hX.1.1.1 s hs.1 hs.2
    have hho := x_host (fb := fb) (d := d + 8) (s := s) hP hs
    have hwk := x_walking0 (fb := fb) (d := d + 5) hP ⟨hs, rfl⟩ hXs hI hf
    obtain ⟨g, hg⟩ : ∃ q, qNewF Q s = q := ⟨_, rfl⟩
    have hgr2 : g = -1 ∨ (0 ≤ g ∧ g ≤ 47) := by rw [← hg]; exact qNewF_rng
    have eE : kCpE Q s f = if g < 0 then 12 else tE Q s (mCopy f g) := by unfold kCpE; rw [hg]
    have eP : kCpP Q s f = if g < 0 then Q else tP Q s (mCopy f g) := by unfold kCpP; rw [hg]
    rw [hg] at hwk eK
    have hak := fun (σ : hM) (W2 : qR) (hP : PX σ0 W2 V3 σ) (hF : FR1 V W2) (hB : BY W2 138 300 (mFr (mCopy f g))) => x_askN (fb := fb) (d := d + 1) (g := g) hP (hX.fr1 hF) (by omega) hs hB (by rw [mCopy_len]; decide) (by rw [mCopy_0]; decide) (fun q => ⟨fun c => by rw [mCopy_0] at c; exact absurd c (by decide), fun _ => by rw [mCopy_g ⟨by omega, by omega⟩]; omega⟩)
    rw [← eE, ← eP] at hak
    have hE0 : kCpE Q s f = 0 → ¬ g < 0 := fun q c => by rw [eE, if_pos c] at q; omega
    have hEr := (kCpE_rng (P := Q) (s := s) (f := f)).1
    have hkf : KF (kCpP Q s f) Q := KF_cp
    obtain ⟨e, he⟩ : ∃ q, kCpE Q s f = q := ⟨_, rfl⟩
    obtain ⟨Q2, hQ2⟩ : ∃ q, kCpP Q s f = q := ⟨_, rfl⟩
    rw [he] at hak hE0 hEr eK
    rw [hQ2] at hak hkf eK
    have hO := srv_o hs
    obtain ⟨sv, hsw⟩ : ∃ q, 1293 + 294 * s.toNat = q := ⟨_, rfl⟩
    rw [hsw] at hho hO
    simp only [hsw] at hak
    have hgp : ∀ V5 : qR, FR1 V V5 → V5 129 2037 = g → ∀ (V2 : qR) (V4 : rR), FVS 134 V5 V2 V3 V4 → V2 129 2037 = g := fun V5 _ hg V2 V4 h => (h.1 _ _ (by decide) (Or.inl (by decide)) (by decide) (by decide) (by decide) (fun c => by unfold ioP at c; omega) (by decide) (by decide)).trans hg
    have hkp : ∀ (V5 : qR) (V6 : rR), FA V V5 V3 V6 → V5 cc 2160 = s ∧ V5 cc 2162 = pa ∧ V5 cc 2163 = dr ∧ V5 cc 2165 = mm ∧ V5 2175 2453 = j ∧ V5 y0 2131 = n6 := fun V5 V6 h => ⟨(h.ns.1 _ _ k3.1 k3.2 (by decide)).trans m1, (h.ns.1 _ _ k3.1 k3.2 (by decide)).trans m3, (h.ns.1 _ _ k3.1 k3.2 (by decide)).trans m4, (h.ns.1 _ _ k3.1 k3.2 (by decide)).trans m5, (h.cm.1 _ _ (by decide) (by decide) (by decide)).trans (hC.1.trans (by rw [nwL_len]; exact hh)), (h.ns.1 _ _ hyr.1 (by omega) (by decide)).trans hyc⟩
    have hnl : (nwL P0 fr mk h 0).length ≤ 6 := by rw [nwL_len]; omega
    by_cases q : e = 0
    · subst q
      rw [if_neg (show ¬ (0 : Int) < 0 by decide), List.append_assoc] at eK
      rw [eK] at hc
      have hg0 := hE0 rfl
      obtain ⟨cj, hcj⟩ : ∃ cj, 2181 + j.toNat = cj := ⟨_, rfl⟩
      have hco := cp_o (j := j) ⟨g2, by omega⟩
      have hrc := rA_cp (j := j) ⟨g2, by omega⟩
      rw [hcj] at hco hrc
      have hbc := fun (σ : hM) (V5 : qR) (V6 : rR) (hP : PX σ0 V5 V6 σ) => x_become (fb := fb) (d := d + 8) (s := s) (f2 := g) (p := pa) (e := dr) hP hco hdr2
      have hcr : chR (s, g, pa, kd, -1) := ⟨hs, ⟨by show 0 ≤ g; omega, by show g ≤ 47; omega⟩, by show (-1 : Int) < 64; decide⟩
      obtain ⟨z, hz⟩ : ∃ q : Int, (if mk = 1 ∨ ¬ P0 2342 (6 * fr + j) = 0 then 1 else 0) = q := ⟨_, rfl⟩
      have hgo := fun (σ : hM) (V5 : qR) (V6 : rR) (x5 : Option AV) (hX5 : XW K (T + 4) U V5 V6 Q2) (hA : FA V V5 V3 V6) (hP : PX σ0 (rU (rU (chW V5 cj s g pa dr) cj 2165 z) 2175 2453 (j + 1)) (oU V6 cj 2164 none) σ) => by
        obtain ⟨w1, w2, w3⟩ := gat_put (f := g) (s := s) (pa := pa) (kd := kd) hX5 (hC.fa hnl hA) hh ⟨g2, by omega⟩ hdr hz hcj
        have hF2 : FGA V (rU (rU (chW V5 cj s g pa dr) cj 2165 z) 2175 2453 (j + 1)) V3 (oU V6 cj 2164 none) := FGA_tr (FGA_fa hA) w3
        exact ih (j + 1) (T + 4) σ _ _ Q2 (h ++ [(s, g, pa, kd, -1)]) x5 (by omega) (by omega) ((nsR_kf hkf 2337 _ rfl).trans g3) (KF_tr hkf g4) (by omega) hP w1 (hPM0.frn (fun x k a b c => hF2.1 x k (Or.inl ⟨a, b⟩) (by omega) (by omega) c) (fun x k a b => hF2.2 x k (Or.inl ⟨a, b⟩) (by omega)) (fun f k hf => nsR_kf hkf f k hf)) w2 (by rw [List.length_append]; show ((h.length + 1 : Nat) : Int) = j + 1; omega) (fun c hc => by
          rcases List.mem_append.mp hc with q | q
          · exact hr c q
          · rw [List.mem_singleton.mp q]; exact hcr) (fun σ V2 V4 h2 j2 x5 a1 a2 a3 a4 a5 a6 a7 => hc σ V2 V4 h2 j2 x5 a1 (a2.mono (by omega)) a3 a4 a5 a6 (FGA_tr hF2 a7))
      have hcj5 : (2175 : Nat) ≠ cj := by omega
      have hccj : cc ≠ cj := by omega
      rcases hmk with rfl | rfl
      · by_cases q2 : mm = 0
        · have ez : z = 0 := by rw [← hz, hmm]; exact if_neg (fun c => by rcases c with c | c; exact absurd c (by decide); exact c q2)
          subst ez
          refine x_li (z := j) T_176_68 rfl ?_
          refine x_lr (z := some y0) T_176_70 rfl ?_
          refine x_gI (z := n6) T_176_71 (Or.inl F_4_3) (hP.o hyo) (Eq.trans (hP.gi hyo (key := 2131) rfl) hyc) ?_
          refine x_ic2 T_176_74 (fun h => absurd (show n6 ≤ j from h) (by omega)) (fun _ => ?_)
          refine x_li (z := j) T_176_77 rfl ?_
          refine x_ic T_176_79 ?_
          refine x_ic2 T_176_81 (fun h => absurd (show 6 ≤ j from h) (by omega)) (fun _ => ?_)
          refine x_li (z := 0) T_176_84 rfl ?_
          refine x_if T_176_85 (fun h => absurd (show ¬ (0 : Int) = 0 from h) (by decide)) (fun _ => ?_)
          refine x_lr (z := some y0) T_176_88 rfl ?_
          refine x_li (z := j) T_176_89 rfl ?_
          refine x_cv2 T_176_91 mN_130 mL_130 (Nat.le_of_ble_eq_true rfl) mO_130 (hP.o hyo) (Nat.le_of_ble_eq_true rfl) (hmo) ?_
          rintro _ σ ⟨rfl, rfl⟩
          refine cR ?_
          refine x_sr (ls1 := [some (vR (some 2175)), some (vR (some y0)), some (vI 0), some (vI 0), some (vI j), some (vR (some cc))]) T_176_94 rfl ?_
          refine x_lr (z := some cc) T_176_96 rfl ?_
          refine x_nul T_176_98 (fun h0 => absurd h0 (by simp)) (fun _ _ => ?_)
          refine x_lr (z := some 2175) T_176_101 rfl ?_
          refine x_gR (z := some 129) T_176_102 F_14_0 (hP.o xo_2175) (hP.rc xo_2175 rfl rfl) ?_
          refine x_lr (z := some cc) T_176_105 rfl ?_
          refine x_gI (z := s) T_176_107 (Or.inl F_5_0) (hP.o k2) (Eq.trans (hP.gi k2 (key := 2160) rfl) m1) ?_
          refine x_cv2 T_176_110 mN_122 mL_122 (Nat.le_of_ble_eq_true rfl) mO_122 (hP.o xo_129) (Nat.le_of_ble_eq_true rfl) (hho) ?_
          rintro _ σ ⟨rfl, rfl⟩
          refine cR ?_
          refine x_ic T_176_113 ?_
          refine x_lr (z := some 2175) T_176_114 rfl ?_
          refine x_gR (z := some 129) T_176_115 F_14_0 (hP.o xo_2175) (hP.rc xo_2175 rfl rfl) ?_
          refine x_lr (z := some cc) T_176_118 rfl ?_
          refine x_gI (z := s) T_176_120 (Or.inl F_5_0) (hP.o k2) (Eq.trans (hP.gi k2 (key := 2160) rfl) m1) ?_
          refine x_lr (z := some cc) T_176_123 rfl ?_
          refine x_gI (z := f) T_176_125 (Or.inl F_5_1) (hP.o k2) (Eq.trans (hP.gi k2 (key := 2161) rfl) m2) ?_
          refine x_ic T_176_128 ?_
          refine x_cv4 T_176_129 mN_123 mL_123 (Nat.le_of_ble_eq_true rfl) mO_123 (hP.o xo_129) (Nat.le_of_ble_eq_true rfl) (hwk) ?_
          clear hP hwk
          rintro _ σ ⟨rfl, W2, hP, hB2, hF2, hg2⟩
          refine cR ?_
          refine x_lr (z := some 2175) T_176_132 rfl ?_
          refine x_gR (z := some 129) T_176_133 F_14_0 (hP.o xo_2175) (hP.rc xo_2175 rfl rfl) ?_
          refine x_gR (z := some 134) T_176_136 F_1_2 (hP.o xo_129) (hP.rc xo_129 rfl rfl) ?_
          refine x_cv4 T_176_139 mN_26 mL_26 (Nat.le_of_ble_eq_true rfl) mO_26 (hP.o hO) (Nat.le_of_ble_eq_true rfl) (hak σ W2 hP hF2 hB2) ?_
          clear hP hak
          rintro _ σ ⟨rfl, W3, R3, hP, hX3, hB3, hF3⟩
          have hg3 := hgp W2 hF2 hg2 W3 R3 hF3
          have hA3 := FA_tr (FA_fr hF2) (FA_fs hF3)
          obtain ⟨z1, z2, z3, z4, z5, z6⟩ := hkp W3 R3 hA3
          refine cI ?_
          refine x_si (ls1 := [some (vR (some 2175)), some (vR (some y0)), some (vI 0), some (vI 0), some (vI j), some (vR (some cc))]) T_176_142 rfl ?_
          refine x_li (z := 0) T_176_143 rfl ?_
          refine x_if T_176_144 (fun h => absurd (show ¬ (0 : Int) = 0 from h) (by decide)) (fun _ => ?_)
          refine x_lr (z := some 2175) T_176_147 rfl ?_
          refine x_gR (z := some 2180) T_176_148 F_14_4 (hP.o xo_2175) (hP.rc xo_2175 rfl rfl) ?_
          refine x_li (z := j) T_176_151 rfl ?_
          refine x_alR (z := some cj) T_176_153 (hP.ta xa_2180) (by decide) (by omega) (by omega) (hP.arc xa_2180 rfl hrc) ?_
          refine x_lr (z := some cc) T_176_154 rfl ?_
          refine x_gI (z := s) T_176_156 (Or.inl F_5_0) (hP.o k2) (Eq.trans (hP.gi k2 (key := 2160) rfl) z1) ?_
          refine x_lr (z := some 2175) T_176_159 rfl ?_
          refine x_gR (z := some 129) T_176_160 F_14_0 (hP.o xo_2175) (hP.rc xo_2175 rfl rfl) ?_
          refine x_gI (z := g) T_176_163 (Or.inl F_1_5) (hP.o xo_129) (Eq.trans (hP.gi xo_129 (key := 2037) rfl) hg3) ?_
          refine x_lr (z := some cc) T_176_166 rfl ?_
          refine x_gI (z := pa) T_176_168 (Or.inl F_5_2) (hP.o k2) (Eq.trans (hP.gi k2 (key := 2162) rfl) z2) ?_
          refine x_lr (z := some cc) T_176_171 rfl ?_
          refine x_gI (z := dr) T_176_173 (Or.inr (Or.inl F_5_3)) (hP.o k2) (Eq.trans (hP.gi k2 (key := 2163) rfl) z3) ?_
          refine x_cv5 T_176_176 mN_128 mL_128 (Nat.le_of_ble_eq_true rfl) mO_128 (hP.o hco) (Nat.le_of_ble_eq_true rfl) (hbc σ W3 R3 hP) ?_
          clear hP hbc
          rintro _ σ ⟨rfl, hP⟩
          refine cV ?_
          refine x_lr (z := some 2175) T_176_179 rfl ?_
          refine x_gR (z := some 2180) T_176_180 F_14_4 (hP.o xo_2175) (hP.rc xo_2175 rfl rfl) ?_
          refine x_li (z := j) T_176_183 rfl ?_
          refine x_alR (z := some cj) T_176_185 (hP.ta xa_2180) (by decide) (by omega) (by omega) (hP.arc xa_2180 rfl hrc) ?_
          refine x_li (z := 0) T_176_186 rfl ?_
          refine x_if T_176_187 (fun h => absurd (show ¬ (0 : Int) = 0 from h) (by decide)) (fun _ => ?_)
          refine x_lr (z := some cc) T_176_190 rfl ?_
          refine x_gI (z := mm) T_176_192 (Or.inr (Or.inl F_5_5)) (hP.o k2) (Eq.trans (hP.gi k2 (key := 2165) rfl) ((chW_o hccj).trans z4)) ?_
          refine x_if T_176_195 (fun _ => ?_) (fun h => absurd (show mm = 0 by omega) h)
          refine x_ic T_176_202 ?_
          refine z_pZ hP T_176_203 F_5_5 rfl hco (key := 2165) rfl (fun σ hP => ?_)
          refine x_lr (z := some 2175) T_176_206 rfl ?_
          refine x_dupR T_176_207 ?_
          refine x_gI (z := j) T_176_208 (Or.inl F_14_5) (hP.o xo_2175) (Eq.trans (Eq.trans (hP.gi xo_2175 (key := 2453) rfl) (rU_j (by decide))) ((chW_o hcj5).trans z5)) ?_
          refine x_ic T_176_211 ?_
          refine x_ib (w := (j + 1)) T_176_212 (fun h => absurd h.1 (by decide)) (w32_id (by omega) (by omega)) ?_
          refine z_pI hP T_176_213 F_14_5 xo_2175 (key := 2453) rfl (fun σ hP => ?_)
          refine x_inc (w := (j + 1)) (ls1 := [some (vR (some 2175)), some (vR (some y0)), some (vI 0), some (vI 0), some (vI (j + 1)), some (vR (some cc))]) T_176_216 rfl (w32_id (by omega) (by omega)) rfl ?_
          refine x_goto T_176_219 ?_
          exact hgo σ W3 R3 _ hX3 hA3 hP
        · have ez : z = 1 := by rw [← hz, hmm]; exact if_pos (Or.inr q2)
          subst ez
          refine x_li (z := j) T_176_68 rfl ?_
          refine x_lr (z := some y0) T_176_70 rfl ?_
          refine x_gI (z := n6) T_176_71 (Or.inl F_4_3) (hP.o hyo) (Eq.trans (hP.gi hyo (key := 2131) rfl) hyc) ?_
          refine x_ic2 T_176_74 (fun h => absurd (show n6 ≤ j from h) (by omega)) (fun _ => ?_)
          refine x_li (z := j) T_176_77 rfl ?_
          refine x_ic T_176_79 ?_
          refine x_ic2 T_176_81 (fun h => absurd (show 6 ≤ j from h) (by omega)) (fun _ => ?_)
          refine x_li (z := 0) T_176_84 rfl ?_
          refine x_if T_176_85 (fun h => absurd (show ¬ (0 : Int) = 0 from h) (by decide)) (fun _ => ?_)
          refine x_lr (z := some y0) T_176_88 rfl ?_
          refine x_li (z := j) T_176_89 rfl ?_
          refine x_cv2 T_176_91 mN_130 mL_130 (Nat.le_of_ble_eq_true rfl) mO_130 (hP.o hyo) (Nat.le_of_ble_eq_true rfl) (hmo) ?_
          rintro _ σ ⟨rfl, rfl⟩
          refine cR ?_
          refine x_sr (ls1 := [some (vR (some 2175)), some (vR (some y0)), some (vI 0), some (vI 0), some (vI j), some (vR (some cc))]) T_176_94 rfl ?_
          refine x_lr (z := some cc) T_176_96 rfl ?_
          refine x_nul T_176_98 (fun h0 => absurd h0 (by simp)) (fun _ _ => ?_)
          refine x_lr (z := some 2175) T_176_101 rfl ?_
          refine x_gR (z := some 129) T_176_102 F_14_0 (hP.o xo_2175) (hP.rc xo_2175 rfl rfl) ?_
          refine x_lr (z := some cc) T_176_105 rfl ?_
          refine x_gI (z := s) T_176_107 (Or.inl F_5_0) (hP.o k2) (Eq.trans (hP.gi k2 (key := 2160) rfl) m1) ?_
          refine x_cv2 T_176_110 mN_122 mL_122 (Nat.le_of_ble_eq_true rfl) mO_122 (hP.o xo_129) (Nat.le_of_ble_eq_true rfl) (hho) ?_
          rintro _ σ ⟨rfl, rfl⟩
          refine cR ?_
          refine x_ic T_176_113 ?_
          refine x_lr (z := some 2175) T_176_114 rfl ?_
          refine x_gR (z := some 129) T_176_115 F_14_0 (hP.o xo_2175) (hP.rc xo_2175 rfl rfl) ?_
          refine x_lr (z := some cc) T_176_118 rfl ?_
          refine x_gI (z := s) T_176_120 (Or.inl F_5_0) (hP.o k2) (Eq.trans (hP.gi k2 (key := 2160) rfl) m1) ?_
          refine x_lr (z := some cc) T_176_123 rfl ?_
          refine x_gI (z := f) T_176_125 (Or.inl F_5_1) (hP.o k2) (Eq.trans (hP.gi k2 (key := 2161) rfl) m2) ?_
          refine x_ic T_176_128 ?_
          refine x_cv4 T_176_129 mN_123 mL_123 (Nat.le_of_ble_eq_true rfl) mO_123 (hP.o xo_129) (Nat.le_of_ble_eq_true rfl) (hwk) ?_
          clear hP hwk
          rintro _ σ ⟨rfl, W2, hP, hB2, hF2, hg2⟩
          refine cR ?_
          refine x_lr (z := some 2175) T_176_132 rfl ?_
          refine x_gR (z := some 129) T_176_133 F_14_0 (hP.o xo_2175) (hP.rc xo_2175 rfl rfl) ?_
          refine x_gR (z := some 134) T_176_136 F_1_2 (hP.o xo_129) (hP.rc xo_129 rfl rfl) ?_
          refine x_cv4 T_176_139 mN_26 mL_26 (Nat.le_of_ble_eq_true rfl) mO_26 (hP.o hO) (Nat.le_of_ble_eq_true rfl) (hak σ W2 hP hF2 hB2) ?_
          clear hP hak
          rintro _ σ ⟨rfl, W3, R3, hP, hX3, hB3, hF3⟩
          have hg3 := hgp W2 hF2 hg2 W3 R3 hF3
          have hA3 := FA_tr (FA_fr hF2) (FA_fs hF3)
          obtain ⟨z1, z2, z3, z4, z5, z6⟩ := hkp W3 R3 hA3
          refine cI ?_
          refine x_si (ls1 := [some (vR (some 2175)), some (vR (some y0)), some (vI 0), some (vI 0), some (vI j), some (vR (some cc))]) T_176_142 rfl ?_
          refine x_li (z := 0) T_176_143 rfl ?_
          refine x_if T_176_144 (fun h => absurd (show ¬ (0 : Int) = 0 from h) (by decide)) (fun _ => ?_)
          refine x_lr (z := some 2175) T_176_147 rfl ?_
          refine x_gR (z := some 2180) T_176_148 F_14_4 (hP.o xo_2175) (hP.rc xo_2175 rfl rfl) ?_
          refine x_li (z := j) T_176_151 rfl ?_
          refine x_alR (z := some cj) T_176_153 (hP.ta xa_2180) (by decide) (by omega) (by omega) (hP.arc xa_2180 rfl hrc) ?_
          refine x_lr (z := some cc) T_176_154 rfl ?_
          refine x_gI (z := s) T_176_156 (Or.inl F_5_0) (hP.o k2) (Eq.trans (hP.gi k2 (key := 2160) rfl) z1) ?_
          refine x_lr (z := some 2175) T_176_159 rfl ?_
          refine x_gR (z := some 129) T_176_160 F_14_0 (hP.o xo_2175) (hP.rc xo_2175 rfl rfl) ?_
          refine x_gI (z := g) T_176_163 (Or.inl F_1_5) (hP.o xo_129) (Eq.trans (hP.gi xo_129 (key := 2037) rfl) hg3) ?_
          refine x_lr (z := some cc) T_176_166 rfl ?_
          refine x_gI (z := pa) T_176_168 (Or.inl F_5_2) (hP.o k2) (Eq.trans (hP.gi k2 (key := 2162) rfl) z2) ?_
          refine x_lr (z := some cc) T_176_171 rfl ?_
          refine x_gI (z := dr) T_176_173 (Or.inr (Or.inl F_5_3)) (hP.o k2) (Eq.trans (hP.gi k2 (key := 2163) rfl) z3) ?_
          refine x_cv5 T_176_176 mN_128 mL_128 (Nat.le_of_ble_eq_true rfl) mO_128 (hP.o hco) (Nat.le_of_ble_eq_true rfl) (hbc σ W3 R3 hP) ?_
          clear hP hbc
          rintro _ σ ⟨rfl, hP⟩
          refine cV ?_
          refine x_lr (z := some 2175) T_176_179 rfl ?_
          refine x_gR (z := some 2180) T_176_180 F_14_4 (hP.o xo_2175) (hP.rc xo_2175 rfl rfl) ?_
          refine x_li (z := j) T_176_183 rfl ?_
          refine x_alR (z := some cj) T_176_185 (hP.ta xa_2180) (by decide) (by omega) (by omega) (hP.arc xa_2180 rfl hrc) ?_
          refine x_li (z := 0) T_176_186 rfl ?_
          refine x_if T_176_187 (fun h => absurd (show ¬ (0 : Int) = 0 from h) (by decide)) (fun _ => ?_)
          refine x_lr (z := some cc) T_176_190 rfl ?_
          refine x_gI (z := mm) T_176_192 (Or.inr (Or.inl F_5_5)) (hP.o k2) (Eq.trans (hP.gi k2 (key := 2165) rfl) ((chW_o hccj).trans z4)) ?_
          refine x_if T_176_195 (fun h => absurd (show mm = 0 from h) (by omega)) (fun _ => ?_)
          refine x_ic T_176_198 ?_
          refine x_goto T_176_199 ?_
          refine z_pZ hP T_176_203 F_5_5 rfl hco (key := 2165) rfl (fun σ hP => ?_)
          refine x_lr (z := some 2175) T_176_206 rfl ?_
          refine x_dupR T_176_207 ?_
          refine x_gI (z := j) T_176_208 (Or.inl F_14_5) (hP.o xo_2175) (Eq.trans (Eq.trans (hP.gi xo_2175 (key := 2453) rfl) (rU_j (by decide))) ((chW_o hcj5).trans z5)) ?_
          refine x_ic T_176_211 ?_
          refine x_ib (w := (j + 1)) T_176_212 (fun h => absurd h.1 (by decide)) (w32_id (by omega) (by omega)) ?_
          refine z_pI hP T_176_213 F_14_5 xo_2175 (key := 2453) rfl (fun σ hP => ?_)
          refine x_inc (w := (j + 1)) (ls1 := [some (vR (some 2175)), some (vR (some y0)), some (vI 0), some (vI 0), some (vI (j + 1)), some (vR (some cc))]) T_176_216 rfl (w32_id (by omega) (by omega)) rfl ?_
          refine x_goto T_176_219 ?_
          exact hgo σ W3 R3 _ hX3 hA3 hP
      · have ez : z = 1 := by rw [← hz]; exact if_pos (Or.inl rfl)
        subst ez
        refine x_li (z := j) T_176_68 rfl ?_
        refine x_lr (z := some y0) T_176_70 rfl ?_
        refine x_gI (z := n6) T_176_71 (Or.inl F_4_3) (hP.o hyo) (Eq.trans (hP.gi hyo (key := 2131) rfl) hyc) ?_
        refine x_ic2 T_176_74 (fun h => absurd (show n6 ≤ j from h) (by omega)) (fun _ => ?_)
        refine x_li (z := j) T_176_77 rfl ?_
        refine x_ic T_176_79 ?_
        refine x_ic2 T_176_81 (fun h => absurd (show 6 ≤ j from h) (by omega)) (fun _ => ?_)
        refine x_li (z := 0) T_176_84 rfl ?_
        refine x_if T_176_85 (fun h => absurd (show ¬ (0 : Int) = 0 from h) (by decide)) (fun _ => ?_)
        refine x_lr (z := some y0) T_176_88 rfl ?_
        refine x_li (z := j) T_176_89 rfl ?_
        refine x_cv2 T_176_91 mN_130 mL_130 (Nat.le_of_ble_eq_true rfl) mO_130 (hP.o hyo) (Nat.le_of_ble_eq_true rfl) (hmo) ?_
        rintro _ σ ⟨rfl, rfl⟩
        refine cR ?_
        refine x_sr (ls1 := [some (vR (some 2175)), some (vR (some y0)), some (vI 1), some (vI 0), some (vI j), some (vR (some cc))]) T_176_94 rfl ?_
        refine x_lr (z := some cc) T_176_96 rfl ?_
        refine x_nul T_176_98 (fun h0 => absurd h0 (by simp)) (fun _ _ => ?_)
        refine x_lr (z := some 2175) T_176_101 rfl ?_
        refine x_gR (z := some 129) T_176_102 F_14_0 (hP.o xo_2175) (hP.rc xo_2175 rfl rfl) ?_
        refine x_lr (z := some cc) T_176_105 rfl ?_
        refine x_gI (z := s) T_176_107 (Or.inl F_5_0) (hP.o k2) (Eq.trans (hP.gi k2 (key := 2160) rfl) m1) ?_
        refine x_cv2 T_176_110 mN_122 mL_122 (Nat.le_of_ble_eq_true rfl) mO_122 (hP.o xo_129) (Nat.le_of_ble_eq_true rfl) (hho) ?_
        rintro _ σ ⟨rfl, rfl⟩
        refine cR ?_
        refine x_ic T_176_113 ?_
        refine x_lr (z := some 2175) T_176_114 rfl ?_
        refine x_gR (z := some 129) T_176_115 F_14_0 (hP.o xo_2175) (hP.rc xo_2175 rfl rfl) ?_
        refine x_lr (z := some cc) T_176_118 rfl ?_
        refine x_gI (z := s) T_176_120 (Or.inl F_5_0) (hP.o k2) (Eq.trans (hP.gi k2 (key := 2160) rfl) m1) ?_
        refine x_lr (z := some cc) T_176_123 rfl ?_
        refine x_gI (z := f) T_176_125 (Or.inl F_5_1) (hP.o k2) (Eq.trans (hP.gi k2 (key := 2161) rfl) m2) ?_
        refine x_ic T_176_128 ?_
        refine x_cv4 T_176_129 mN_123 mL_123 (Nat.le_of_ble_eq_true rfl) mO_123 (hP.o xo_129) (Nat.le_of_ble_eq_true rfl) (hwk) ?_
        clear hP hwk
        rintro _ σ ⟨rfl, W2, hP, hB2, hF2, hg2⟩
        refine cR ?_
        refine x_lr (z := some 2175) T_176_132 rfl ?_
        refine x_gR (z := some 129) T_176_133 F_14_0 (hP.o xo_2175) (hP.rc xo_2175 rfl rfl) ?_
        refine x_gR (z := some 134) T_176_136 F_1_2 (hP.o xo_129) (hP.rc xo_129 rfl rfl) ?_
        refine x_cv4 T_176_139 mN_26 mL_26 (Nat.le_of_ble_eq_true rfl) mO_26 (hP.o hO) (Nat.le_of_ble_eq_true rfl) (hak σ W2 hP hF2 hB2) ?_
        clear hP hak
        rintro _ σ ⟨rfl, W3, R3, hP, hX3, hB3, hF3⟩
        have hg3 := hgp W2 hF2 hg2 W3 R3 hF3
        have hA3 := FA_tr (FA_fr hF2) (FA_fs hF3)
        obtain ⟨z1, z2, z3, z4, z5, z6⟩ := hkp W3 R3 hA3
        refine cI ?_
        refine x_si (ls1 := [some (vR (some 2175)), some (vR (some y0)), some (vI 1), some (vI 0), some (vI j), some (vR (some cc))]) T_176_142 rfl ?_
        refine x_li (z := 0) T_176_143 rfl ?_
        refine x_if T_176_144 (fun h => absurd (show ¬ (0 : Int) = 0 from h) (by decide)) (fun _ => ?_)
        refine x_lr (z := some 2175) T_176_147 rfl ?_
        refine x_gR (z := some 2180) T_176_148 F_14_4 (hP.o xo_2175) (hP.rc xo_2175 rfl rfl) ?_
        refine x_li (z := j) T_176_151 rfl ?_
        refine x_alR (z := some cj) T_176_153 (hP.ta xa_2180) (by decide) (by omega) (by omega) (hP.arc xa_2180 rfl hrc) ?_
        refine x_lr (z := some cc) T_176_154 rfl ?_
        refine x_gI (z := s) T_176_156 (Or.inl F_5_0) (hP.o k2) (Eq.trans (hP.gi k2 (key := 2160) rfl) z1) ?_
        refine x_lr (z := some 2175) T_176_159 rfl ?_
        refine x_gR (z := some 129) T_176_160 F_14_0 (hP.o xo_2175) (hP.rc xo_2175 rfl rfl) ?_
        refine x_gI (z := g) T_176_163 (Or.inl F_1_5) (hP.o xo_129) (Eq.trans (hP.gi xo_129 (key := 2037) rfl) hg3) ?_
        refine x_lr (z := some cc) T_176_166 rfl ?_
        refine x_gI (z := pa) T_176_168 (Or.inl F_5_2) (hP.o k2) (Eq.trans (hP.gi k2 (key := 2162) rfl) z2) ?_
        refine x_lr (z := some cc) T_176_171 rfl ?_
        refine x_gI (z := dr) T_176_173 (Or.inr (Or.inl F_5_3)) (hP.o k2) (Eq.trans (hP.gi k2 (key := 2163) rfl) z3) ?_
        refine x_cv5 T_176_176 mN_128 mL_128 (Nat.le_of_ble_eq_true rfl) mO_128 (hP.o hco) (Nat.le_of_ble_eq_true rfl) (hbc σ W3 R3 hP) ?_
        clear hP hbc
        rintro _ σ ⟨rfl, hP⟩
        refine cV ?_
        refine x_lr (z := some 2175) T_176_179 rfl ?_
        refine x_gR (z := some 2180) T_176_180 F_14_4 (hP.o xo_2175) (hP.rc xo_2175 rfl rfl) ?_
        refine x_li (z := j) T_176_183 rfl ?_
        refine x_alR (z := some cj) T_176_185 (hP.ta xa_2180) (by decide) (by omega) (by omega) (hP.arc xa_2180 rfl hrc) ?_
        refine x_li (z := 1) T_176_186 rfl ?_
        refine x_if T_176_187 (fun _ => ?_) (fun h => absurd (show ¬ (1 : Int) = 0 by decide) h)
        refine x_ic T_176_198 ?_
        refine x_goto T_176_199 ?_
        refine z_pZ hP T_176_203 F_5_5 rfl hco (key := 2165) rfl (fun σ hP => ?_)
        refine x_lr (z := some 2175) T_176_206 rfl ?_
        refine x_dupR T_176_207 ?_
        refine x_gI (z := j) T_176_208 (Or.inl F_14_5) (hP.o xo_2175) (Eq.trans (Eq.trans (hP.gi xo_2175 (key := 2453) rfl) (rU_j (by decide))) ((chW_o hcj5).trans z5)) ?_
        refine x_ic T_176_211 ?_
        refine x_ib (w := (j + 1)) T_176_212 (fun h => absurd h.1 (by decide)) (w32_id (by omega) (by omega)) ?_
        refine z_pI hP T_176_213 F_14_5 xo_2175 (key := 2453) rfl (fun σ hP => ?_)
        refine x_inc (w := (j + 1)) (ls1 := [some (vR (some 2175)), some (vR (some y0)), some (vI 1), some (vI 0), some (vI (j + 1)), some (vR (some cc))]) T_176_216 rfl (w32_id (by omega) (by omega)) rfl ?_
        refine x_goto T_176_219 ?_
        exact hgo σ W3 R3 _ hX3 hA3 hP
    · rw [if_pos (show 0 < e by omega)] at eK
      rw [eK] at hc
      have hgo := fun (σ : hM) (V5 : qR) (V6 : rR) (x5 : Option AV) (hP : PX σ0 V5 V6 σ) (hX5 : XW K (T + 4) U V5 V6 Q2) (hA : FA V V5 V3 V6) (hy : V5 y0 2131 = n6) => gat_out (fb := fb) (d := d) (j := j + 1) (mk := mk) (x5 := x5) (Qf := Qf) hP hyo hy q (hc σ V5 V6 h (j + 1) x5 hP (hX5.mono (by omega)) rfl (hC.fa hnl hA) hr (by omega) (FGA_fa hA))
      refine x_li (z := j) T_176_68 rfl ?_
      refine x_lr (z := some y0) T_176_70 rfl ?_
      refine x_gI (z := n6) T_176_71 (Or.inl F_4_3) (hP.o hyo) (Eq.trans (hP.gi hyo (key := 2131) rfl) hyc) ?_
      refine x_ic2 T_176_74 (fun h => absurd (show n6 ≤ j from h) (by omega)) (fun _ => ?_)
      refine x_li (z := j) T_176_77 rfl ?_
      refine x_ic T_176_79 ?_
      refine x_ic2 T_176_81 (fun h => absurd (show 6 ≤ j from h) (by omega)) (fun _ => ?_)
      refine x_li (z := 0) T_176_84 rfl ?_
      refine x_if T_176_85 (fun h => absurd (show ¬ (0 : Int) = 0 from h) (by decide)) (fun _ => ?_)
      refine x_lr (z := some y0) T_176_88 rfl ?_
      refine x_li (z := j) T_176_89 rfl ?_
      refine x_cv2 T_176_91 mN_130 mL_130 (Nat.le_of_ble_eq_true rfl) mO_130 (hP.o hyo) (Nat.le_of_ble_eq_true rfl) (hmo) ?_
      rintro _ σ ⟨rfl, rfl⟩
      refine cR ?_
      refine x_sr (ls1 := [some (vR (some 2175)), some (vR (some y0)), some (vI mk), some (vI 0), some (vI j), some (vR (some cc))]) T_176_94 rfl ?_
      refine x_lr (z := some cc) T_176_96 rfl ?_
      refine x_nul T_176_98 (fun h0 => absurd h0 (by simp)) (fun _ _ => ?_)
      refine x_lr (z := some 2175) T_176_101 rfl ?_
      refine x_gR (z := some 129) T_176_102 F_14_0 (hP.o xo_2175) (hP.rc xo_2175 rfl rfl) ?_
      refine x_lr (z := some cc) T_176_105 rfl ?_
      refine x_gI (z := s) T_176_107 (Or.inl F_5_0) (hP.o k2) (Eq.trans (hP.gi k2 (key := 2160) rfl) m1) ?_
      refine x_cv2 T_176_110 mN_122 mL_122 (Nat.le_of_ble_eq_true rfl) mO_122 (hP.o xo_129) (Nat.le_of_ble_eq_true rfl) (hho) ?_
      rintro _ σ ⟨rfl, rfl⟩
      refine cR ?_
      refine x_ic T_176_113 ?_
      refine x_lr (z := some 2175) T_176_114 rfl ?_
      refine x_gR (z := some 129) T_176_115 F_14_0 (hP.o xo_2175) (hP.rc xo_2175 rfl rfl) ?_
      refine x_lr (z := some cc) T_176_118 rfl ?_
      refine x_gI (z := s) T_176_120 (Or.inl F_5_0) (hP.o k2) (Eq.trans (hP.gi k2 (key := 2160) rfl) m1) ?_
      refine x_lr (z := some cc) T_176_123 rfl ?_
      refine x_gI (z := f) T_176_125 (Or.inl F_5_1) (hP.o k2) (Eq.trans (hP.gi k2 (key := 2161) rfl) m2) ?_
      refine x_ic T_176_128 ?_
      refine x_cv4 T_176_129 mN_123 mL_123 (Nat.le_of_ble_eq_true rfl) mO_123 (hP.o xo_129) (Nat.le_of_ble_eq_true rfl) (hwk) ?_
      clear hP hwk
      rintro _ σ ⟨rfl, W2, hP, hB2, hF2, hg2⟩
      refine cR ?_
      refine x_lr (z := some 2175) T_176_132 rfl ?_
      refine x_gR (z := some 129) T_176_133 F_14_0 (hP.o xo_2175) (hP.rc xo_2175 rfl rfl) ?_
      refine x_gR (z := some 134) T_176_136 F_1_2 (hP.o xo_129) (hP.rc xo_129 rfl rfl) ?_
      refine x_cv4 T_176_139 mN_26 mL_26 (Nat.le_of_ble_eq_true rfl) mO_26 (hP.o hO) (Nat.le_of_ble_eq_true rfl) (hak σ W2 hP hF2 hB2) ?_
      clear hP hak
      rintro _ σ ⟨rfl, W3, R3, hP, hX3, hB3, hF3⟩
      have hg3 := hgp W2 hF2 hg2 W3 R3 hF3
      have hA3 := FA_tr (FA_fr hF2) (FA_fs hF3)
      obtain ⟨z1, z2, z3, z4, z5, z6⟩ := hkp W3 R3 hA3
      refine cI ?_
      refine x_si (ls1 := [some (vR (some 2175)), some (vR (some y0)), some (vI mk), some (vI e), some (vI j), some (vR (some cc))]) T_176_142 rfl ?_
      refine x_li (z := e) T_176_143 rfl ?_
      refine x_if T_176_144 (fun _ => ?_) (fun h => absurd (show ¬ e = 0 by omega) h)
      refine x_inc (w := (j + 1)) (ls1 := [some (vR (some 2175)), some (vR (some y0)), some (vI mk), some (vI e), some (vI (j + 1)), some (vR (some cc))]) T_176_216 rfl (w32_id (by omega) (by omega)) rfl ?_
      refine x_goto T_176_219 ?_
      exact hgo σ W3 R3 _ hP hX3 hA3 z6
/-- what was copied is given back, the latest first -/
theorem gat_back (he : ¬ e = 0) {Qf : Option AV → hM → Prop} {h2 : List Ch} (hh6 : h2.length ≤ 6) (hr : ∀ c ∈ h2, chR c) {ns : List Nw} (hns : ns.length = h2.length) (hsf : ∀ i : Int, 0 ≤ i → i < h2.length → (ns.getD i.toNat nw0).1 = (h2.getD i.toNat c0).1 ∧ (ns.getD i.toNat nw0).2.1 = (h2.getD i.toNat c0).2.1) : ∀ (m : Nat) (T : Int) (σ : hM) (V : qR) (V3 : rR), m ≤ h2.length → T + 4 * m + 150 ≤ 2147483000 → PX σ0 V V3 σ → XW K T U V V3 (kDrops P (h2.drop m)) → CPS V ns → (∀ (σ : hM) (V2 : qR) (V4 : rR), PX σ0 V2 V4 σ → XW K (T + 4 * m) U V2 V4 (kDrops P h2) → FA V V2 V3 V4 → Qf (some (vI e)) σ) → WP fb (d + 9) 176 230 [some (vR (some 2175)), some (vR (some y0)), some (vI mk), some (vI e), some (vI ((m : Int) - 1)), x5] [] σ Qf := by
  intro m
  induction m with
  | zero =>
    intro T σ V V3 h1 h2 hP hX hC hc
    have hX : XW K T U V V3 (kDrops P (List.drop 0 _)) := hX
    rw [List.drop_zero] at hX
    have hgo := hc σ V V3 hP (hX.mono (by omega)) FA_rfl
    refine x_li (z := (((0 : Nat) : Int) - 1)) T_176_230 rfl ?_
    refine x_if T_176_232 (fun _ => ?_) (fun h => absurd (show (((0 : Nat) : Int) - 1) < 0 by omega) h)
    refine x_li (z := e) T_176_293 rfl ?_
    refine x_ri T_176_294 ?_
    exact hgo
  | succ m ih =>
    intro T σ V V3 h1 g2 hP hX hC hc
    rw [show ((m + 1 : Nat) : Int) - 1 = (m : Int) by omega]
    have hm : m < h2.length := by omega
    have hcm := hr _ (List.getElem_mem hm)
    have hget : h2.getD m c0 = h2[m] := by rw [List.getD_eq_getElem?_getD, List.getElem?_eq_getElem hm]; rfl
    have eD : kDrops P (h2.drop m) = kDrop (kDrops P (h2.drop (m + 1))) h2[m] := by
      rw [List.drop_eq_getElem_cons hm]
      rfl
    obtain ⟨n1, n2, -⟩ := hC.2 (m : Int) (by omega) (by omega)
    obtain ⟨s1, s2⟩ := hsf (m : Int) (by omega) (by omega)
    rw [Int.toNat_natCast] at n1 n2 s1 s2
    rw [hget] at s1 s2
    have z1 := n1.trans s1
    have z2 := n2.trans s2
    obtain ⟨s, hsv⟩ : ∃ q, (h2[m]).1 = q := ⟨_, rfl⟩
    obtain ⟨f, hfd⟩ : ∃ q, (h2[m]).2.1 = q := ⟨_, rfl⟩
    unfold kDrop at eD
    rw [hsv, hfd] at eD
    rw [hsv] at z1
    rw [hfd] at z2
    have hs : 0 ≤ s ∧ s < 3 := by rw [← hsv]; exact hcm.1
    have hf : 0 ≤ f ∧ f ≤ 47 := by rw [← hfd]; exact hcm.2.1
    have hho := x_host (fb := fb) (d := d + 8) (s := s) hP hs
    have hO := srv_o hs
    have hab := x_about (fb := fb) (d := d + 5) (t := 120) (f := f) hP (by decide) ⟨by omega, by omega⟩
    obtain ⟨o1, o2, o3, o4⟩ := mOne_ok (t := 120) (f := f) (Or.inl rfl)
    have hak := fun (σ : hM) (V2 : qR) (hP : PX σ0 V2 V3 σ) (hF : FR1 V V2) (hB : BY V2 138 300 (mFr (mOne 120 f))) => x_askM (fb := fb) (d := d + 1) hP (hX.fr1 hF) (by omega) hs hB o1 o2 o3 o4
    obtain ⟨e9, he9⟩ : ∃ q, tE (kDrops P (h2.drop (m + 1))) s (mOne 120 f) = q := ⟨_, rfl⟩
    rw [← eD] at hak
    simp only [he9] at hak
    have hgo := fun (σ : hM) (V5 : qR) (V6 : rR) (hP : PX σ0 V5 V6 σ) (hX5 : XW K (T + 4) U V5 V6 (kDrops P (h2.drop m))) (hA : FA V V5 V3 V6) => ih (T + 4) σ V5 V6 (by omega) (by omega) hP hX5 (hC.fa (by omega) hA) (fun σ V2 V4 a1 a2 a3 => hc σ V2 V4 a1 (a2.mono (by omega)) (FA_tr hA a3))
    have hz : ∀ (V5 : qR) (V6 : rR), FA V V5 V3 V6 → V5 (2181 + m) 2161 = f := fun V5 V6 hA => (hA.cm.1 _ _ (by omega) (by omega) (by decide)).trans z2
    obtain ⟨j, hj⟩ : ∃ j : Int, (m : Int) = j := ⟨_, rfl⟩
    obtain ⟨cj, hcj⟩ : ∃ cj, 2181 + m = cj := ⟨_, rfl⟩
    have hj6 : 0 ≤ j ∧ j < 6 := by omega
    have hco := cp_o (j := j) hj6
    have hrc := rA_cp (j := j) hj6
    rw [show 2181 + j.toNat = cj by omega] at hco hrc
    rw [hcj] at z1 z2 hz
    simp only [hj] at hgo ⊢
    obtain ⟨sv, hsw⟩ : ∃ q, 1293 + 294 * s.toNat = q := ⟨_, rfl⟩
    rw [hsw] at hho hO
    simp only [hsw] at hak
    refine x_li (z := j) T_176_230 rfl ?_
    refine x_if T_176_232 (fun h => absurd (show j < 0 from h) (by omega)) (fun _ => ?_)
    refine x_li (z := e) T_176_235 rfl ?_
    refine x_if T_176_236 (fun h => absurd (show e = 0 from h) (by omega)) (fun _ => ?_)
    refine x_lr (z := some 2175) T_176_239 rfl ?_
    refine x_gR (z := some 129) T_176_240 F_14_0 (hP.o xo_2175) (hP.rc xo_2175 rfl rfl) ?_
    refine x_lr (z := some 2175) T_176_243 rfl ?_
    refine x_gR (z := some 2180) T_176_244 F_14_4 (hP.o xo_2175) (hP.rc xo_2175 rfl rfl) ?_
    refine x_li (z := j) T_176_247 rfl ?_
    refine x_alR (z := some cj) T_176_249 (hP.ta xa_2180) (by decide) (by omega) (by omega) (hP.arc xa_2180 rfl hrc) ?_
    refine x_gI (z := s) T_176_250 (Or.inl F_5_0) (hP.o hco) (Eq.trans (hP.gi hco (key := 2160) rfl) z1) ?_
    refine x_cv2 T_176_253 mN_122 mL_122 (Nat.le_of_ble_eq_true rfl) mO_122 (hP.o xo_129) (Nat.le_of_ble_eq_true rfl) (hho) ?_
    rintro _ σ ⟨rfl, rfl⟩
    refine cR ?_
    refine x_ic T_176_256 ?_
    refine x_lr (z := some 2175) T_176_257 rfl ?_
    refine x_gR (z := some 129) T_176_258 F_14_0 (hP.o xo_2175) (hP.rc xo_2175 rfl rfl) ?_
    refine x_ic T_176_261 ?_
    refine x_lr (z := some 2175) T_176_263 rfl ?_
    refine x_gR (z := some 2180) T_176_264 F_14_4 (hP.o xo_2175) (hP.rc xo_2175 rfl rfl) ?_
    refine x_li (z := j) T_176_267 rfl ?_
    refine x_alR (z := some cj) T_176_269 (hP.ta xa_2180) (by decide) (by omega) (by omega) (hP.arc xa_2180 rfl hrc) ?_
    refine x_gI (z := f) T_176_270 (Or.inl F_5_1) (hP.o hco) (Eq.trans (hP.gi hco (key := 2161) rfl) z2) ?_
    refine x_cv3 T_176_273 mN_131 mL_131 (Nat.le_of_ble_eq_true rfl) mO_131 (hP.o xo_129) (Nat.le_of_ble_eq_true rfl) (hab) ?_
    clear hP hab
    rintro _ σ ⟨rfl, V4, hP, hB4, hF4⟩
    refine cR ?_
    refine x_lr (z := some 2175) T_176_276 rfl ?_
    refine x_gR (z := some 129) T_176_277 F_14_0 (hP.o xo_2175) (hP.rc xo_2175 rfl rfl) ?_
    refine x_gR (z := some 134) T_176_280 F_1_2 (hP.o xo_129) (hP.rc xo_129 rfl rfl) ?_
    refine x_cv4 T_176_283 mN_26 mL_26 (Nat.le_of_ble_eq_true rfl) mO_26 (hP.o hO) (Nat.le_of_ble_eq_true rfl) (hak σ V4 hP hF4 hB4) ?_
    clear hP hak
    rintro _ σ ⟨rfl, V5, V6, hP, hX5, hB5, hF5⟩
    refine cI ?_
    refine x_popI T_176_286 ?_
    refine x_inc (w := (j + (-1))) (ls1 := [some (vR (some 2175)), some (vR (some y0)), some (vI mk), some (vI e), some (vI (j + (-1))), x5]) T_176_287 rfl (w32_id (by omega) (by omega)) rfl ?_
    refine x_goto T_176_290 ?_
    exact hgo σ V5 V6 hP hX5 (FA_tr (FA_fr hF4) (FA_fs hF5))
theorem nwL_sf : ∀ (r : List Ch) (j : Int) (i : Nat), i < r.length → ((nwL P fr mk r j).getD i nw0).1 = (r.getD i c0).1 ∧ ((nwL P fr mk r j).getD i nw0).2.1 = (r.getD i c0).2.1
  | [], _, _, h => absurd h (Nat.not_lt_zero _)
  | c :: r, j, 0, _ => ⟨rfl, rfl⟩
  | c :: r, j, i + 1, h => nwL_sf r (j + 1) i (Nat.lt_of_succ_lt_succ h)
theorem x_gather (hP : PX σ0 W R σ) (hX : XW K T U W R P) (hT : T + 300 ≤ 2147483000) (hPM : PTM W R y0 P fr) (hfr : 0 ≤ fr ∧ fr < 64) (hn : P 2337 fr = n6) (hmk : mk = 0 ∨ mk = 1) : CL fb (d + 9) 176 [vR (some 2175), vR (some y0), vI mk] σ (fun r σ' => r = some (vI (kCps fr n6.toNat 0 P h0).1) ∧ ∃ W2 R2 h2, PX σ0 W2 R2 σ' ∧ (kCps fr n6.toNat 0 P h0).2.2 = h0 ++ h2 ∧ ((kCps fr n6.toNat 0 P h0).1 = 0 → XW K (T + 24) U W2 R2 (kCps fr n6.toNat 0 P h0).2.1 ∧ CPS W2 (nwL P fr mk h2 0)) ∧ (¬ (kCps fr n6.toNat 0 P h0).1 = 0 → XW K (T + 48) U W2 R2 (kDrops (kCps fr n6.toNat 0 P h0).2.1 h2)) ∧ h2.length ≤ 6 ∧ FGA W W2 R R2) := by
  have hn6 : 0 ≤ P 2337 fr ∧ P 2337 fr ≤ 6 := IV.a hX.1.2.2.2.1.iv 2337 0 64 rfl rfl rfl (by omega) (by omega)
  rw [hn] at hn6
  have hyo := hPM.1
  have hW0 : ∀ (x : Nat) (k : Int), ¬ (x = 2175 ∧ k = 2453) → rU W 2175 2453 0 x k = W x k := fun x k h => if_neg h
  have hX0 : XW K T U (rU W 2175 2453 0) R P := hX.hiw (fun x k hx => hW0 x k (by omega)) (fun _ _ _ => rfl)
  have hPM0 : PTM (rU W 2175 2453 0) R y0 P fr := hPM.frn (fun x k a b c => hW0 x k (by omega)) (fun _ _ _ _ => rfl) (fun _ _ _ => rfl)
  have hF0 : FGA W (rU W 2175 2453 0) R R := ⟨fun x k _ _ c _ => hW0 x k c, fun _ _ _ _ => rfl⟩
  have hlo := fun (σ : hM) (hP : PX σ0 (rU W 2175 2453 0) R σ) (h222 : _) => gat_loop (fb := fb) (d := d) (K := K) (U := U) (σ0 := σ0) (P0 := P) (h0 := h0) (y0 := y0) (Qf := fun r σ' => r = some (vI (kCps fr n6.toNat 0 P h0).1) ∧ ∃ W2 R2 h2, PX σ0 W2 R2 σ' ∧ (kCps fr n6.toNat 0 P h0).2.2 = h0 ++ h2 ∧ ((kCps fr n6.toNat 0 P h0).1 = 0 → XW K (T + 24) U W2 R2 (kCps fr n6.toNat 0 P h0).2.1 ∧ CPS W2 (nwL P fr mk h2 0)) ∧ (¬ (kCps fr n6.toNat 0 P h0).1 = 0 → XW K (T + 48) U W2 R2 (kDrops (kCps fr n6.toNat 0 P h0).2.1 h2)) ∧ h2.length ≤ 6 ∧ FGA W W2 R R2) hfr hn6.2 hmk n6.toNat 0 T σ (rU W 2175 2453 0) R P [] none (by omega) (by decide) hn KF_rfl (by omega) hP hX0 hPM0 ⟨rU_s, fun j j0 j1 => absurd j1 (by show ¬ j < ((0 : Nat) : Int); omega)⟩ rfl (fun c hc => absurd hc List.not_mem_nil) h222
  rw [List.append_nil] at hlo
  obtain ⟨A, hA⟩ : ∃ A, kCps fr n6.toNat 0 P h0 = A := ⟨_, rfl⟩
  rw [hA] at hlo ⊢
  obtain ⟨e, Q, hh⟩ := A
  dsimp only at hlo ⊢
  have h68 : ∀ σ : hM, PX σ0 (rU W 2175 2453 0) R σ → WP fb (d + 9) 176 68 [some (vR (some 2175)), some (vR (some y0)), some (vI mk), some (vI 0), some (vI 0), none] [] σ (fun r σ' => r = some (vI e) ∧ ∃ W2 R2 h2, PX σ0 W2 R2 σ' ∧ hh = h0 ++ h2 ∧ (e = 0 → XW K (T + 24) U W2 R2 Q ∧ CPS W2 (nwL P fr mk h2 0)) ∧ (¬ e = 0 → XW K (T + 48) U W2 R2 (kDrops Q h2)) ∧ h2.length ≤ 6 ∧ FGA W W2 R R2) := fun σ hP => by
    refine hlo σ hP ?_
    clear hP
    intro σ V2 V4 h2 j2 x5 hP hX2 hE hC hr h6 hF
    have hX3 : XW K (T + 24) U V2 V4 Q := hX2.mono (by omega)
    have hcn : V2 2175 2453 = (h2.length : Int) := hC.1.trans (by rw [nwL_len])
    by_cases q : e = 0
    · subst q
      have hfin : ∃ W2 R2 h2, PX σ0 W2 R2 σ ∧ hh = h0 ++ h2 ∧ ((0 : Int) = 0 → XW K (T + 24) U W2 R2 Q ∧ CPS W2 (nwL P fr mk h2 0)) ∧ (¬ (0 : Int) = 0 → XW K (T + 48) U W2 R2 (kDrops Q h2)) ∧ h2.length ≤ 6 ∧ FGA W W2 R R2 := ⟨V2, V4, h2, hP, hE, fun _ => ⟨hX3, hC⟩, fun c => absurd rfl c, h6, FGA_tr hF0 hF⟩
      obtain ⟨nn, hnn⟩ : ∃ q : Int, (h2.length : Int) = q := ⟨_, rfl⟩
      rw [hnn] at hcn
      by_cases q2 : nn - 1 < 0
      · skip
        refine x_lr (z := some 2175) T_176_222 rfl ?_
        refine x_gI (z := nn) T_176_223 (Or.inl F_14_5) (hP.o xo_2175) (Eq.trans (hP.gi xo_2175 (key := 2453) rfl) hcn) ?_
        refine x_ic T_176_226 ?_
        refine x_ib (w := (nn - 1)) T_176_227 (fun h => absurd h.1 (by decide)) (w32_id (by omega) (by omega)) ?_
        refine x_si (ls1 := [some (vR (some 2175)), some (vR (some y0)), some (vI mk), some (vI 0), some (vI (nn - 1)), x5]) T_176_228 rfl ?_
        refine x_li (z := (nn - 1)) T_176_230 rfl ?_
        refine x_if T_176_232 (fun _ => ?_) (fun h => absurd (show (nn - 1) < 0 by omega) h)
        refine x_li (z := 0) T_176_293 rfl ?_
        refine x_ri T_176_294 ?_
        exact ⟨rfl, hfin⟩
      · skip
        refine x_lr (z := some 2175) T_176_222 rfl ?_
        refine x_gI (z := nn) T_176_223 (Or.inl F_14_5) (hP.o xo_2175) (Eq.trans (hP.gi xo_2175 (key := 2453) rfl) hcn) ?_
        refine x_ic T_176_226 ?_
        refine x_ib (w := (nn - 1)) T_176_227 (fun h => absurd h.1 (by decide)) (w32_id (by omega) (by omega)) ?_
        refine x_si (ls1 := [some (vR (some 2175)), some (vR (some y0)), some (vI mk), some (vI 0), some (vI (nn - 1)), x5]) T_176_228 rfl ?_
        refine x_li (z := (nn - 1)) T_176_230 rfl ?_
        refine x_if T_176_232 (fun h => absurd (show (nn - 1) < 0 from h) (by omega)) (fun _ => ?_)
        refine x_li (z := 0) T_176_235 rfl ?_
        refine x_if T_176_236 (fun _ => ?_) (fun h => absurd (show (0 : Int) = 0 by decide) h)
        refine x_li (z := 0) T_176_293 rfl ?_
        refine x_ri T_176_294 ?_
        exact ⟨rfl, hfin⟩
    · have hbk := fun (σ : hM) (hP : PX σ0 V2 V4 σ) => gat_back (fb := fb) (d := d) (σ0 := σ0) (K := K) (U := U) (P := Q) (e := e) (y0 := y0) (mk := mk) (x5 := x5) (h2 := h2) (ns := nwL P fr mk h2 0) (Qf := fun r σ' => r = some (vI e) ∧ ∃ W2 R2 h2, PX σ0 W2 R2 σ' ∧ hh = h0 ++ h2 ∧ (e = 0 → XW K (T + 24) U W2 R2 Q ∧ CPS W2 (nwL P fr mk h2 0)) ∧ (¬ e = 0 → XW K (T + 48) U W2 R2 (kDrops Q h2)) ∧ h2.length ≤ 6 ∧ FGA W W2 R R2) q h6 hr (nwL_len _ _) (fun i i0 i1 => nwL_sf h2 0 i.toNat (by omega)) h2.length (T + 24) σ V2 V4 (Nat.le_refl _) (by omega) hP (by rw [List.drop_length]; exact hX3) hC (fun σ V5 V6 a1 a2 a3 => ⟨rfl, V5, V6, h2, a1, hE, fun c => absurd c q, fun _ => a2.mono (by omega), h6, FGA_tr hF0 (FGA_tr hF (FGA_fa a3))⟩)
      obtain ⟨nn, hnn⟩ : ∃ q : Int, (h2.length : Int) = q := ⟨_, rfl⟩
      rw [hnn] at hcn hbk
      have hgo := hbk σ hP
      refine x_lr (z := some 2175) T_176_222 rfl ?_
      refine x_gI (z := nn) T_176_223 (Or.inl F_14_5) (hP.o xo_2175) (Eq.trans (hP.gi xo_2175 (key := 2453) rfl) hcn) ?_
      refine x_ic T_176_226 ?_
      refine x_ib (w := (nn - 1)) T_176_227 (fun h => absurd h.1 (by decide)) (w32_id (by omega) (by omega)) ?_
      refine x_si (ls1 := [some (vR (some 2175)), some (vR (some y0)), some (vI mk), some (vI e), some (vI (nn - 1)), x5]) T_176_228 rfl ?_
      exact hgo
  refine CL_in mL_176 rfl ?_
  show WP fb _ 176 0 [some (vR (some 2175)), some (vR (some y0)), some (vI mk), none, none, none] [] σ _
  refine x_lr (z := some 2175) T_176_0 rfl ?_
  refine x_ic T_176_1 ?_
  refine z_pI hP T_176_2 F_14_5 xo_2175 (key := 2453) rfl (fun σ hP => ?_)
  refine x_lr (z := some y0) T_176_5 rfl ?_
  refine x_nnul T_176_6 (fun _ _ => ?_) (fun h0 => absurd h0 (by simp))
  refine x_ic T_176_63 ?_
  refine x_si (ls1 := [some (vR (some 2175)), some (vR (some y0)), some (vI mk), some (vI 0), none, none]) T_176_64 rfl ?_
  refine x_ic T_176_65 ?_
  refine x_si (ls1 := [some (vR (some 2175)), some (vR (some y0)), some (vI mk), some (vI 0), some (vI 0), none]) T_176_66 rfl ?_
  exact h68 σ hP
end XBNE
