/-! The class's servers: the bytes of a file are told. -/
theorem T_69_0 : hTab 69 0 = some ((3, 1, 2, []), 1) := rfl
theorem T_69_1 : hTab 69 1 = some ((24, 8, Int.ofNat 3, []), 4) := rfl
theorem T_69_4 : hTab 69 4 = some ((0, 0, 1, []), 5) := rfl
theorem T_69_5 : hTab 69 5 = some ((19, 1, Int.ofNat 58, []), 8) := rfl
theorem T_69_8 : hTab 69 8 = some ((3, 4, 0, []), 10) := rfl
theorem T_69_10 : hTab 69 10 = some ((3, 0, 2, []), 11) := rfl
theorem T_69_11 : hTab 69 11 = some ((24, 7, Int.ofNat 0, []), 14) := rfl
theorem T_69_14 : hTab 69 14 = some ((24, 1, Int.ofNat 0, []), 17) := rfl
theorem T_69_17 : hTab 69 17 = some ((31, 28, 0, []), 20) := rfl
theorem T_69_20 : hTab 69 20 = some ((31, 70, 0, []), 23) := rfl
theorem T_69_23 : hTab 69 23 = some ((4, 5, 0, []), 25) := rfl
theorem T_69_25 : hTab 69 25 = some ((3, 0, 2, []), 26) := rfl
theorem T_69_26 : hTab 69 26 = some ((24, 7, Int.ofNat 10, []), 29) := rfl
theorem T_69_29 : hTab 69 29 = some ((3, 0, 2, []), 30) := rfl
theorem T_69_30 : hTab 69 30 = some ((24, 7, Int.ofNat 0, []), 33) := rfl
theorem T_69_33 : hTab 69 33 = some ((24, 1, Int.ofNat 0, []), 36) := rfl
theorem T_69_36 : hTab 69 36 = some ((0, 0, 0, []), 37) := rfl
theorem T_69_37 : hTab 69 37 = some ((3, 5, 0, []), 39) := rfl
theorem T_69_39 : hTab 69 39 = some ((31, 32, 0, []), 42) := rfl
theorem T_69_42 : hTab 69 42 = some ((7, 0, 0, []), 43) := rfl
theorem T_69_43 : hTab 69 43 = some ((3, 0, 2, []), 44) := rfl
theorem T_69_44 : hTab 69 44 = some ((24, 7, Int.ofNat 0, []), 47) := rfl
theorem T_69_47 : hTab 69 47 = some ((24, 1, Int.ofNat 0, []), 50) := rfl
theorem T_69_50 : hTab 69 50 = some ((3, 5, 0, []), 52) := rfl
theorem T_69_52 : hTab 69 52 = some ((31, 71, 0, []), 55) := rfl
theorem T_69_55 : hTab 69 55 = some ((22, 0, Int.ofNat 292, []), 58) := rfl
theorem T_69_58 : hTab 69 58 = some ((3, 1, 2, []), 59) := rfl
theorem T_69_59 : hTab 69 59 = some ((24, 8, Int.ofNat 3, []), 62) := rfl
theorem T_69_62 : hTab 69 62 = some ((0, 0, 2, []), 63) := rfl
theorem T_69_63 : hTab 69 63 = some ((19, 1, Int.ofNat 213, []), 66) := rfl
theorem T_69_213 : hTab 69 213 = some ((3, 1, 2, []), 214) := rfl
theorem T_69_214 : hTab 69 214 = some ((24, 8, Int.ofNat 11, []), 217) := rfl
theorem T_69_217 : hTab 69 217 = some ((20, 0, Int.ofNat 292, []), 220) := rfl
theorem T_69_220 : hTab 69 220 = some ((3, 2, 1, []), 221) := rfl
theorem T_69_221 : hTab 69 221 = some ((1, 0, 0, []), 222) := rfl
theorem T_69_222 : hTab 69 222 = some ((17, 0, 0, []), 223) := rfl
theorem T_69_223 : hTab 69 223 = some ((18, 2, Int.ofNat 292, []), 226) := rfl
theorem T_69_226 : hTab 69 226 = some ((3, 2, 1, []), 227) := rfl
theorem T_69_227 : hTab 69 227 = some ((3, 1, 2, []), 228) := rfl
theorem T_69_228 : hTab 69 228 = some ((24, 8, Int.ofNat 10, []), 231) := rfl
theorem T_69_231 : hTab 69 231 = some ((14, 0, 0, []), 232) := rfl
theorem T_69_232 : hTab 69 232 = some ((17, 0, 0, []), 233) := rfl
theorem T_69_233 : hTab 69 233 = some ((18, 3, Int.ofNat 292, []), 236) := rfl
theorem T_69_236 : hTab 69 236 = some ((3, 2, 1, []), 237) := rfl
theorem T_69_237 : hTab 69 237 = some ((15, 0, 0, []), 238) := rfl
theorem T_69_238 : hTab 69 238 = some ((3, 4, 0, []), 240) := rfl
theorem T_69_240 : hTab 69 240 = some ((10, 0, 0, []), 241) := rfl
theorem T_69_241 : hTab 69 241 = some ((3, 1, 2, []), 242) := rfl
theorem T_69_242 : hTab 69 242 = some ((24, 8, Int.ofNat 10, []), 245) := rfl
theorem T_69_245 : hTab 69 245 = some ((31, 70, 0, []), 248) := rfl
theorem T_69_248 : hTab 69 248 = some ((4, 5, 0, []), 250) := rfl
theorem T_69_250 : hTab 69 250 = some ((3, 2, 1, []), 251) := rfl
theorem T_69_251 : hTab 69 251 = some ((15, 0, 0, []), 252) := rfl
theorem T_69_252 : hTab 69 252 = some ((4, 6, 0, []), 254) := rfl
theorem T_69_254 : hTab 69 254 = some ((3, 6, 0, []), 256) := rfl
theorem T_69_256 : hTab 69 256 = some ((3, 5, 0, []), 258) := rfl
theorem T_69_258 : hTab 69 258 = some ((19, 3, Int.ofNat 292, []), 261) := rfl
theorem T_69_261 : hTab 69 261 = some ((3, 6, 0, []), 263) := rfl
theorem T_69_263 : hTab 69 263 = some ((3, 1, 2, []), 264) := rfl
theorem T_69_264 : hTab 69 264 = some ((24, 8, Int.ofNat 11, []), 267) := rfl
theorem T_69_267 : hTab 69 267 = some ((28, 0, 0, []), 268) := rfl
theorem T_69_268 : hTab 69 268 = some ((19, 3, Int.ofNat 292, []), 271) := rfl
theorem T_69_271 : hTab 69 271 = some ((3, 0, 2, []), 272) := rfl
theorem T_69_272 : hTab 69 272 = some ((24, 7, Int.ofNat 10, []), 275) := rfl
theorem T_69_275 : hTab 69 275 = some ((3, 1, 2, []), 276) := rfl
theorem T_69_276 : hTab 69 276 = some ((24, 8, Int.ofNat 11, []), 279) := rfl
theorem T_69_279 : hTab 69 279 = some ((3, 6, 0, []), 281) := rfl
theorem T_69_281 : hTab 69 281 = some ((26, 1, 0, []), 282) := rfl
theorem T_69_282 : hTab 69 282 = some ((31, 73, 0, []), 285) := rfl
theorem T_69_285 : hTab 69 285 = some ((7, 0, 0, []), 286) := rfl
theorem T_69_286 : hTab 69 286 = some ((5, 6, 1, []), 289) := rfl
theorem T_69_289 : hTab 69 289 = some ((22, 0, Int.ofNat 254, []), 292) := rfl
theorem T_69_292 : hTab 69 292 = some ((33, 0, 0, []), 293) := rfl
theorem T_70_0 : hTab 70 0 = some ((3, 0, 0, []), 1) := rfl
theorem T_70_1 : hTab 70 1 = some ((3, 1, 0, []), 2) := rfl
theorem T_70_2 : hTab 70 2 = some ((19, 4, Int.ofNat 9, []), 5) := rfl
theorem T_70_5 : hTab 70 5 = some ((3, 0, 0, []), 6) := rfl
theorem T_70_6 : hTab 70 6 = some ((22, 0, Int.ofNat 10, []), 9) := rfl
theorem T_70_9 : hTab 70 9 = some ((3, 1, 0, []), 10) := rfl
theorem T_70_10 : hTab 70 10 = some ((33, 1, 0, []), 11) := rfl
theorem F_7_0 : (hFd 7 0).2.2.1 = 4 := rfl
theorem mN_69 : hmN 69 = 4 := by decide +kernel
theorem mL_69 : hmL 69 = 7 := by decide +kernel
theorem mK_69 : hmK 69 = 1 := by decide +kernel
theorem mO_69 : hmO 69 = 7 := by decide +kernel
theorem mN_70 : hmN 70 = 2 := by decide +kernel
theorem mL_70 : hmL 70 = 2 := by decide +kernel
theorem mK_70 : hmK 70 = 0 := by decide +kernel
theorem mO_70 : hmO 70 = 13 := by decide +kernel
section XTEL
variable {fb : Bool} {d S a b c c0 rp mb m0 N M fa : Nat} {σ0 σ : hM} {W W1 W2 P Q : qR} {R R1 R2 : rR} {i j k x z v s e w f u p g ln K T U C y off cnt : Int} {ord l l2 nm lo D L li : List Int} {t : Nat → Nat} {r : Option Nat} {F : Int → Int} {n : Nat}
theorem x_min : CL fb d 70 [vI u, vI v] σ (rP (if u ≤ v then u else v) σ) := by
  by_cases q : u ≤ v
  · rw [if_pos q]
    refine CL_in mL_70 rfl ?_
    show WP fb _ 70 0 [some (vI u), some (vI v)] [] σ _
    refine x_li (z := u) T_70_0 rfl ?_
    refine x_li (z := v) T_70_1 rfl ?_
    refine x_ic2 T_70_2 (fun h => absurd (show v < u from h) (by omega)) (fun _ => ?_)
    refine x_li (z := u) T_70_5 rfl ?_
    refine x_goto T_70_6 ?_
    refine x_ri T_70_10 ?_
    exact ⟨rfl, rfl⟩
  · rw [if_neg q]
    refine CL_in mL_70 rfl ?_
    show WP fb _ 70 0 [some (vI u), some (vI v)] [] σ _
    refine x_li (z := u) T_70_0 rfl ?_
    refine x_li (z := v) T_70_1 rfl ?_
    refine x_ic2 T_70_2 (fun _ => ?_) (fun h => absurd (show v < u by omega) h)
    refine x_li (z := v) T_70_9 rfl ?_
    refine x_ri T_70_10 ?_
    exact ⟨rfl, rfl⟩
/-- a byte, as a row of bytes gives it -/
theorem x_addS (hP : PX σ0 W R σ) (hB : BY W b n l) (hx : 0 ≤ x ∧ x ≤ 255) (hl : l.length < n) : CL fb d 73 [vR (some b), vI (sb8 x)] σ (XB σ0 W R b n (l ++ [x]) (some (vI 1))) := by
  obtain ⟨ho, ha, hn, h1, hlz, hb, hv⟩ := id hB
  obtain ⟨z, hz⟩ : ∃ z : Int, (l.length : Int) = z := ⟨_, rfl⟩
  obtain ⟨N, hN⟩ : ∃ N : Int, (n : Int) = N := ⟨_, rfl⟩
  rw [hz] at h1 hv
  obtain ⟨y, hy⟩ : ∃ y, sb8 x = y := ⟨_, rfl⟩
  have hyy : sb8 y = y := by rw [← hy, sb8_sb8]
  rw [hy]
  refine CL_in mL_73 rfl ?_
  show WP fb _ 73 0 [some (vR (some b)), some (vI y)] [] σ _
  refine x_lr (z := some b) T_73_0 rfl ?_
  refine x_gI (z := z) T_73_1 (Or.inl F_2_1) (hP.o ho) (Eq.trans (hP.gi ho (key := 2065) rfl) h1) ?_
  refine x_lr (z := some b) T_73_4 rfl ?_
  refine x_gR (z := some (b + 1)) T_73_5 F_2_0 (hP.o ho) (hP.rc ho rfl rfl) ?_
  refine x_len (len := n) T_73_8 (hP.ta ha) ?_
  rw [hN]
  refine x_ic2 T_73_9 (fun _ => ?_) (fun h => absurd (show z < N by omega) h)
  refine x_lr (z := some b) T_73_14 rfl ?_
  refine x_gR (z := some (b + 1)) T_73_15 F_2_0 (hP.o ho) (hP.rc ho rfl rfl) ?_
  refine x_lr (z := some b) T_73_18 rfl ?_
  refine x_gI (z := z) T_73_19 (Or.inl F_2_1) (hP.o ho) (Eq.trans (hP.gi ho (key := 2065) rfl) h1) ?_
  refine x_li (z := y) T_73_22 rfl ?_
  refine x_i2b (w := y) T_73_23 hyy ?_
  refine z_aB (v := y) hP T_73_24 hyy ha (by omega) (by omega) (fun σ hP => ?_)
  refine x_lr (z := some b) T_73_25 rfl ?_
  refine x_dupR T_73_26 ?_
  refine x_gI (z := z) T_73_27 (Or.inl F_2_1) (hP.o ho) (Eq.trans (Eq.trans (hP.gi ho (key := 2065) rfl) (rU_j (by omega))) h1) ?_
  refine x_ic T_73_30 ?_
  refine x_ib (w := (z + 1)) T_73_31 (fun h => absurd h.1 (by decide)) (w32_id (by omega) (by omega)) ?_
  refine z_pI hP T_73_32 F_2_1 ho (key := 2065) rfl (fun σ hP => ?_)
  refine x_ic T_73_35 ?_
  refine x_rz T_73_36 rfl ?_
  exact ⟨rfl, _, hP, hB.more hz (by omega) hx hy.symm, FB_put (by omega)⟩
theorem tb_loop (hO : tX S = some (Sum.inl 7)) (hno : tX a = some (Sum.inl 8)) (hc : R a 2267 = some c) (h2 : 2372 ≤ c) (hl : (c : Int) < W 0 0) (hrp : R S 2234 = some rp) (hrlt : rp + 1 < 2281) (hr0 : rp ≠ 0) (hf : ∀ i, 0 ≤ i → i < ln → 0 ≤ F i ∧ F i ≤ 255) (hW : ∀ i, 0 ≤ i → i < ln → W c i = sb8 (F i)) (he : e ≤ ln ∧ ln ≤ 600) : ∀ (m : Nat) (i : Int) (L : List Int) (W1 : qR) (σ : hM), i + m = e → 0 ≤ i → PX σ0 W1 R σ → BY W1 rp 300 L → FB rp W W1 → L.length + m ≤ 300 → WP fb (d + 2) 69 254 [some (vR (some S)), some (vR (some a)), some (vL off), none, some (vI w), some (vI e), some (vI i)] [] σ (XB σ0 W R rp 300 (L ++ seg F i m) none) := by
  intro m
  induction m with
  | zero =>
    intro i L W1 σ h1 h3 hP hB hF hL
    have h1 : i + ((0 : Nat) : Int) = e := h1
    refine x_li (z := i) T_69_254 rfl ?_
    refine x_li (z := e) T_69_256 rfl ?_
    refine x_ic2 T_69_258 (fun _ => ?_) (fun h => absurd (show e ≤ i by omega) h)
    refine x_rv T_69_292 ?_
    exact ⟨rfl, W1, hP, by rw [show seg F i 0 = [] from rfl, List.append_nil]; exact hB, hF⟩
  | succ m ih =>
    intro i L W1 σ h1 h3 hP hB hF hL
    have hro := hB.1
    have hlc : (c : Int) < W1 0 0 := ilt_eq hl (hF _ _ (by omega) (by omega))
    obtain ⟨x, hx⟩ : ∃ x, F i = x := ⟨_, rfl⟩
    have hxr := hf i h3 (by omega)
    rw [hx] at hxr
    have hv : W1 c i = sb8 x := by rw [hF _ _ (by omega) (by omega), hW i h3 (by omega), hx]
    obtain ⟨sx, hsx⟩ : ∃ y, sb8 x = y := ⟨_, rfl⟩
    rw [hsx] at hv
    have hadd := x_addS (fb := fb) (d := d + 1) hP hB hxr (by omega)
    rw [hsx] at hadd
    have hgo := fun (σ : hM) (W2 : qR) (hP : PX σ0 W2 R σ) (hB2 : BY W2 rp 300 (L ++ [x])) (hF2 : FB rp W1 W2) => ih (i + 1) (L ++ [x]) W2 σ (by omega) (by omega) hP hB2 (FB_tr hF hF2) (by rw [List.length_append]; show L.length + 1 + m ≤ 300; omega)
    rw [List.append_assoc, show [x] ++ seg F (i + 1) m = seg F i (m + 1) by rw [seg_cons, hx]; rfl] at hgo
    refine x_li (z := i) T_69_254 rfl ?_
    refine x_li (z := e) T_69_256 rfl ?_
    refine x_ic2 T_69_258 (fun h => absurd (show e ≤ i from h) (by omega)) (fun _ => ?_)
    refine x_li (z := i) T_69_261 rfl ?_
    refine x_lr (z := some a) T_69_263 rfl ?_
    refine x_gR (z := some c) T_69_264 F_8_11 (hP.o hno) (Eq.trans (hP.rm hno rfl (key := 2267) rfl) hc) ?_
    refine x_len T_69_267 (hP.tc h2 hlc) ?_
    refine x_ic2 T_69_268 (fun h => absurd (show 600 ≤ i from h) (by omega)) (fun _ => ?_)
    refine x_lr (z := some S) T_69_271 rfl ?_
    refine x_gR (z := some rp) T_69_272 F_7_10 (hP.o hO) (Eq.trans (hP.rm hO rfl (key := 2234) rfl) hrp) ?_
    refine x_lr (z := some a) T_69_275 rfl ?_
    refine x_gR (z := some c) T_69_276 F_8_11 (hP.o hno) (Eq.trans (hP.rm hno rfl (key := 2267) rfl) hc) ?_
    refine x_li (z := i) T_69_279 rfl ?_
    refine x_alI (z := sx) T_69_281 (by decide) (hP.tc h2 hlc) (by omega) (by omega) (Eq.trans (hP.ci h2 (by omega)) hv) ?_
    refine x_cv2 T_69_282 mN_73 mL_73 (Nat.le_of_ble_eq_true rfl) mO_73 (hP.o hro) (Nat.le_of_ble_eq_true rfl) (hadd) ?_
    clear hP hadd
    rintro _ σ ⟨rfl, W2, hP, hB2, hF2⟩
    refine cI ?_
    refine x_popI T_69_285 ?_
    refine x_inc (w := (i + 1)) (ls1 := [some (vR (some S)), some (vR (some a)), some (vL off), none, some (vI w), some (vI e), some (vI (i + 1))]) T_69_286 rfl (w32_id (by omega) (by omega)) rfl ?_
    refine x_goto T_69_289 ?_
    exact hgo σ W2 hP hB2 hF2
/-- a file of the tree -/
theorem tb_file (hP : PX σ0 W R σ) (hO : tX S = some (Sum.inl 7)) (hno : tX a = some (Sum.inl 8)) (hdev : W a 2259 = 0) (hlen : W a 2266 = ln) (hln : 0 ≤ ln ∧ ln ≤ 600) (hcr : ∀ c : Nat, R a 2267 = some c → 2372 ≤ c ∧ (c : Int) < W 0 0) (hct : ln = 0 ∨ ∃ c : Nat, R a 2267 = some c ∧ ∀ i : Int, 0 ≤ i → i < ln → W c i = sb8 (F i)) (hf : ∀ i, 0 ≤ i → i < ln → 0 ≤ F i ∧ F i ≤ 255) (hrp : R S 2234 = some rp) (hB : BY W rp 300 L) (hw : 0 ≤ w ∧ w ≤ 289) (hL : (L.length : Int) + w ≤ 300) : CL fb (d + 2) 69 [vR (some S), vR (some a), vL off, vI w] σ (XB σ0 W R rp 300 (L ++ part F ln off w) none) := by
  have hrlt := hB.lt
  have hr0 := (tX_o hB.1).1
  obtain ⟨cr, hcr0⟩ : ∃ q, R a 2267 = q := ⟨_, rfl⟩
  cases cr with
  | none =>
    have hl0 : ln = 0 := by
      rcases hct with q | ⟨c, q, _⟩
      · exact q
      · rw [hcr0] at q
        cases q
    have ep : part F ln off w = [] := by
      unfold part
      split
      · rw [if_neg (by omega), show (ln - off).toNat = 0 by omega]
        rfl
      · rfl
    rw [ep, List.append_nil]
    refine CL_in mL_69 rfl ?_
    show WP fb _ 69 0 [some (vR (some S)), some (vR (some a)), some (vL off), none, some (vI w), none, none] [] σ _
    refine x_lr (z := some a) T_69_0 rfl ?_
    refine x_gI (z := 0) T_69_1 (Or.inl F_8_3) (hP.o hno) (Eq.trans (hP.gi hno (key := 2259) rfl) hdev) ?_
    refine x_ic T_69_4 ?_
    refine x_ic2 T_69_5 (fun _ => ?_) (fun h => absurd (show ¬ (0 : Int) = 1 by decide) h)
    refine x_lr (z := some a) T_69_58 rfl ?_
    refine x_gI (z := 0) T_69_59 (Or.inl F_8_3) (hP.o hno) (Eq.trans (hP.gi hno (key := 2259) rfl) hdev) ?_
    refine x_ic T_69_62 ?_
    refine x_ic2 T_69_63 (fun _ => ?_) (fun h => absurd (show ¬ (0 : Int) = 2 by decide) h)
    refine x_lr (z := some a) T_69_213 rfl ?_
    refine x_gR (z := none) T_69_214 F_8_11 (hP.o hno) (Eq.trans (hP.rm hno rfl (key := 2267) rfl) hcr0) ?_
    refine x_nul T_69_217 (fun _ => ?_) (fun a0 h0 => absurd h0 (by simp))
    refine x_rv T_69_292 ?_
    exact ⟨rfl, W, hP, hB, FB_rfl⟩
  | some c =>
    obtain ⟨h2, hl⟩ := hcr c hcr0
    by_cases q1 : off < 0
    · rw [show part F ln off w = [] from if_neg (by omega), List.append_nil]
      refine CL_in mL_69 rfl ?_
      show WP fb _ 69 0 [some (vR (some S)), some (vR (some a)), some (vL off), none, some (vI w), none, none] [] σ _
      refine x_lr (z := some a) T_69_0 rfl ?_
      refine x_gI (z := 0) T_69_1 (Or.inl F_8_3) (hP.o hno) (Eq.trans (hP.gi hno (key := 2259) rfl) hdev) ?_
      refine x_ic T_69_4 ?_
      refine x_ic2 T_69_5 (fun _ => ?_) (fun h => absurd (show ¬ (0 : Int) = 1 by decide) h)
      refine x_lr (z := some a) T_69_58 rfl ?_
      refine x_gI (z := 0) T_69_59 (Or.inl F_8_3) (hP.o hno) (Eq.trans (hP.gi hno (key := 2259) rfl) hdev) ?_
      refine x_ic T_69_62 ?_
      refine x_ic2 T_69_63 (fun _ => ?_) (fun h => absurd (show ¬ (0 : Int) = 2 by decide) h)
      refine x_lr (z := some a) T_69_213 rfl ?_
      refine x_gR (z := some c) T_69_214 F_8_11 (hP.o hno) (Eq.trans (hP.rm hno rfl (key := 2267) rfl) hcr0) ?_
      refine x_nul T_69_217 (fun h0 => absurd h0 (by simp)) (fun _ _ => ?_)
      refine x_ll (z := off) T_69_220 rfl ?_
      refine x_lc T_69_221 ?_
      refine x_lif T_69_222 T_69_223 (fun _ => ?_) (fun h => absurd (show off < 0 by omega) h)
      refine x_rv T_69_292 ?_
      exact ⟨rfl, W, hP, hB, FB_rfl⟩
    by_cases q2 : ln ≤ off
    · have ep : part F ln off w = [] := by
        unfold part
        split
        · rw [show (if w < ln - off then w else ln - off).toNat = 0 by split <;> omega]
          rfl
        · rfl
      rw [ep, List.append_nil]
      refine CL_in mL_69 rfl ?_
      show WP fb _ 69 0 [some (vR (some S)), some (vR (some a)), some (vL off), none, some (vI w), none, none] [] σ _
      refine x_lr (z := some a) T_69_0 rfl ?_
      refine x_gI (z := 0) T_69_1 (Or.inl F_8_3) (hP.o hno) (Eq.trans (hP.gi hno (key := 2259) rfl) hdev) ?_
      refine x_ic T_69_4 ?_
      refine x_ic2 T_69_5 (fun _ => ?_) (fun h => absurd (show ¬ (0 : Int) = 1 by decide) h)
      refine x_lr (z := some a) T_69_58 rfl ?_
      refine x_gI (z := 0) T_69_59 (Or.inl F_8_3) (hP.o hno) (Eq.trans (hP.gi hno (key := 2259) rfl) hdev) ?_
      refine x_ic T_69_62 ?_
      refine x_ic2 T_69_63 (fun _ => ?_) (fun h => absurd (show ¬ (0 : Int) = 2 by decide) h)
      refine x_lr (z := some a) T_69_213 rfl ?_
      refine x_gR (z := some c) T_69_214 F_8_11 (hP.o hno) (Eq.trans (hP.rm hno rfl (key := 2267) rfl) hcr0) ?_
      refine x_nul T_69_217 (fun h0 => absurd h0 (by simp)) (fun _ _ => ?_)
      refine x_ll (z := off) T_69_220 rfl ?_
      refine x_lc T_69_221 ?_
      refine x_lif T_69_222 T_69_223 (fun h => absurd (show off < 0 from h) (by omega)) (fun _ => ?_)
      refine x_ll (z := off) T_69_226 rfl ?_
      refine x_lr (z := some a) T_69_227 rfl ?_
      refine x_gI (z := W a 2266) T_69_228 (Or.inl F_8_10) (hP.o hno) (hP.gi hno (key := 2266) rfl) ?_
      refine x_i2l T_69_231 ?_
      refine x_lif T_69_232 T_69_233 (fun _ => ?_) (fun h => absurd (show W a 2266 ≤ off by omega) h)
      refine x_rv T_69_292 ?_
      exact ⟨rfl, W, hP, hB, FB_rfl⟩
    · have hW : ∀ i : Int, 0 ≤ i → i < ln → W c i = sb8 (F i) := by
        rcases hct with q | ⟨c', q, q3⟩
        · omega
        · rw [hcr0] at q
          rw [Option.some.inj q]
          exact q3
      obtain ⟨e, he⟩ : ∃ e, (if off + w ≤ ln then off + w else ln) = e := ⟨_, rfl⟩
      have her : off ≤ e ∧ e ≤ ln ∧ (L.length : Int) + (e - off) ≤ 300 := by rw [← he]; split <;> omega
      have hmin := x_min (fb := fb) (d := d + 1) (σ := σ) (u := off + w) (v := ln)
      rw [he] at hmin
      have hgo := tb_loop (fb := fb) (d := d) (off := off) (w := w) hO hno hcr0 h2 hl hrp (by omega) (by omega) hf hW ⟨her.2.1, hln.2⟩ (e - off).toNat off L W σ (by omega) (by omega) hP hB FB_rfl (by omega)
      have ep : part F ln off w = seg F off (e - off).toNat := by
        unfold part
        rw [if_pos ⟨by omega, by omega⟩]
        congr 2
        rw [← he]
        split <;> split <;> omega
      rw [← ep] at hgo
      refine CL_in mL_69 rfl ?_
      show WP fb _ 69 0 [some (vR (some S)), some (vR (some a)), some (vL off), none, some (vI w), none, none] [] σ _
      refine x_lr (z := some a) T_69_0 rfl ?_
      refine x_gI (z := 0) T_69_1 (Or.inl F_8_3) (hP.o hno) (Eq.trans (hP.gi hno (key := 2259) rfl) hdev) ?_
      refine x_ic T_69_4 ?_
      refine x_ic2 T_69_5 (fun _ => ?_) (fun h => absurd (show ¬ (0 : Int) = 1 by decide) h)
      refine x_lr (z := some a) T_69_58 rfl ?_
      refine x_gI (z := 0) T_69_59 (Or.inl F_8_3) (hP.o hno) (Eq.trans (hP.gi hno (key := 2259) rfl) hdev) ?_
      refine x_ic T_69_62 ?_
      refine x_ic2 T_69_63 (fun _ => ?_) (fun h => absurd (show ¬ (0 : Int) = 2 by decide) h)
      refine x_lr (z := some a) T_69_213 rfl ?_
      refine x_gR (z := some c) T_69_214 F_8_11 (hP.o hno) (Eq.trans (hP.rm hno rfl (key := 2267) rfl) hcr0) ?_
      refine x_nul T_69_217 (fun h0 => absurd h0 (by simp)) (fun _ _ => ?_)
      refine x_ll (z := off) T_69_220 rfl ?_
      refine x_lc T_69_221 ?_
      refine x_lif T_69_222 T_69_223 (fun h => absurd (show off < 0 from h) (by omega)) (fun _ => ?_)
      refine x_ll (z := off) T_69_226 rfl ?_
      refine x_lr (z := some a) T_69_227 rfl ?_
      refine x_gI (z := W a 2266) T_69_228 (Or.inl F_8_10) (hP.o hno) (hP.gi hno (key := 2266) rfl) ?_
      refine x_i2l T_69_231 ?_
      refine x_lif T_69_232 T_69_233 (fun h => absurd (show W a 2266 ≤ off from h) (by omega)) (fun _ => ?_)
      refine x_ll (z := off) T_69_236 rfl ?_
      refine x_l2i (w := off) T_69_237 (w32_id (by omega) (by omega)) ?_
      refine x_li (z := w) T_69_238 rfl ?_
      refine x_ib (w := (off + w)) T_69_240 (fun h => absurd h.1 (by decide)) (w32_id (by omega) (by omega)) ?_
      refine x_lr (z := some a) T_69_241 rfl ?_
      refine x_gI (z := ln) T_69_242 (Or.inl F_8_10) (hP.o hno) (Eq.trans (hP.gi hno (key := 2266) rfl) hlen) ?_
      refine x_cs2 T_69_245 mN_70 mL_70 (Nat.le_of_ble_eq_true rfl) mK_70 (Nat.le_of_ble_eq_true rfl) (hmin) ?_
      rintro _ σ ⟨rfl, rfl⟩
      refine cI ?_
      refine x_si (ls1 := [some (vR (some S)), some (vR (some a)), some (vL off), none, some (vI w), some (vI e), none]) T_69_248 rfl ?_
      refine x_ll (z := off) T_69_250 rfl ?_
      refine x_l2i (w := off) T_69_251 (w32_id (by omega) (by omega)) ?_
      refine x_si (ls1 := [some (vR (some S)), some (vR (some a)), some (vL off), none, some (vI w), some (vI e), some (vI off)]) T_69_252 rfl ?_
      exact hgo
/-- the keys that were pressed -/
theorem tb_cons (hP : PX σ0 W R σ) (hO : tX S = some (Sum.inl 7)) (hno : tX a = some (Sum.inl 8)) (hdev : W a 2259 = 1) (hI : BY W 130 200 li) (hrp : R S 2234 = some rp) (hB : BY W rp 300 L) (hne : rp ≠ 130) (hw : 0 ≤ w ∧ w ≤ 289) (hL : (L.length : Int) + w ≤ 300) (hk : (if w ≤ (li.length : Int) then w else (li.length : Int)) = k) : CL fb (d + 2) 69 [vR (some S), vR (some a), vL off, vI w] σ (fun r σ' => r = none ∧ ∃ W1 W2, PX σ0 W2 R σ' ∧ FB rp W W1 ∧ FB 130 W1 W2 ∧ BY W2 130 200 (li.drop k.toNat) ∧ BY W2 rp 300 (L ++ seg (lg li) 0 k.toNat)) := by
  have hro := hB.1
  have hio := hI.1
  obtain ⟨z, hz⟩ : ∃ z : Int, (li.length : Int) = z := ⟨_, rfl⟩
  rw [hz] at hk
  have hkr : 0 ≤ k ∧ k ≤ w ∧ k ≤ z := by rw [← hk]; split <;> omega
  have hsz := x_size (fb := fb) (d := d + 1) hP hI hz
  have hmin := x_min (fb := fb) (d := d + 1) (σ := σ) (u := w) (v := z)
  rw [hk] at hmin
  have hadd := x_addAll (fb := fb) (d := d + 1) (s := 0) (e := k) hP hB hI (Ne.symm hne) (Or.inr (by decide)) (by omega)
  rw [show k - 0 = k by omega, List.take_of_length_le (by rw [List.length_append, seg_len]; omega), if_pos (by omega)] at hadd
  have hdr := fun (σ : hM) (W1 : qR) (hP : PX σ0 W1 R σ) (hI1 : BY W1 130 200 li) => x_drop (fb := fb) (d := d + 1) (g := k) hP hI1 hz ⟨hkr.1, hkr.2.2⟩
  have hI1 : ∀ W1, FB rp W W1 → BY W1 130 200 li := fun W1 h => h.by hI (Ne.symm hne)
  have hB2 : ∀ (W1 W2 : qR) (l : List Int), BY W1 rp 300 l → FB 130 W1 W2 → BY W2 rp 300 l := fun W1 W2 l h hF => hF.by h hne
  refine CL_in mL_69 rfl ?_
  show WP fb _ 69 0 [some (vR (some S)), some (vR (some a)), some (vL off), none, some (vI w), none, none] [] σ _
  refine x_lr (z := some a) T_69_0 rfl ?_
  refine x_gI (z := 1) T_69_1 (Or.inl F_8_3) (hP.o hno) (Eq.trans (hP.gi hno (key := 2259) rfl) hdev) ?_
  refine x_ic T_69_4 ?_
  refine x_ic2 T_69_5 (fun h => absurd (show ¬ (1 : Int) = 1 from h) (by decide)) (fun _ => ?_)
  refine x_li (z := w) T_69_8 rfl ?_
  refine x_lr (z := some S) T_69_10 rfl ?_
  refine x_gR (z := some 129) T_69_11 F_7_0 (hP.o hO) (hP.rc hO rfl rfl) ?_
  refine x_gR (z := some 130) T_69_14 F_1_0 (hP.o xo_129) (hP.rc xo_129 rfl rfl) ?_
  refine x_cv1 T_69_17 mN_28 mL_28 (Nat.le_of_ble_eq_true rfl) mO_28 (hP.o xo_130) (Nat.le_of_ble_eq_true rfl) (hsz) ?_
  rintro _ σ ⟨rfl, rfl⟩
  refine cI ?_
  refine x_cs2 T_69_20 mN_70 mL_70 (Nat.le_of_ble_eq_true rfl) mK_70 (Nat.le_of_ble_eq_true rfl) (hmin) ?_
  rintro _ σ ⟨rfl, rfl⟩
  refine cI ?_
  refine x_si (ls1 := [some (vR (some S)), some (vR (some a)), some (vL off), none, some (vI w), some (vI k), none]) T_69_23 rfl ?_
  refine x_lr (z := some S) T_69_25 rfl ?_
  refine x_gR (z := some rp) T_69_26 F_7_10 (hP.o hO) (Eq.trans (hP.rm hO rfl (key := 2234) rfl) hrp) ?_
  refine x_lr (z := some S) T_69_29 rfl ?_
  refine x_gR (z := some 129) T_69_30 F_7_0 (hP.o hO) (hP.rc hO rfl rfl) ?_
  refine x_gR (z := some 130) T_69_33 F_1_0 (hP.o xo_129) (hP.rc xo_129 rfl rfl) ?_
  refine x_ic T_69_36 ?_
  refine x_li (z := k) T_69_37 rfl ?_
  refine x_cv4 T_69_39 mN_32 mL_32 (Nat.le_of_ble_eq_true rfl) mO_32 (hP.o hro) (Nat.le_of_ble_eq_true rfl) (hadd) ?_
  clear hP hsz hmin hadd
  rintro _ σ ⟨rfl, W1, hP, hB1, hF1⟩
  refine cI ?_
  refine x_popI T_69_42 ?_
  refine x_lr (z := some S) T_69_43 rfl ?_
  refine x_gR (z := some 129) T_69_44 F_7_0 (hP.o hO) (hP.rc hO rfl rfl) ?_
  refine x_gR (z := some 130) T_69_47 F_1_0 (hP.o xo_129) (hP.rc xo_129 rfl rfl) ?_
  refine x_li (z := k) T_69_50 rfl ?_
  refine x_cv2 T_69_52 mN_71 mL_71 (Nat.le_of_ble_eq_true rfl) mO_71 (hP.o xo_130) (Nat.le_of_ble_eq_true rfl) (hdr σ W1 hP (hI1 W1 hF1)) ?_
  clear hP hdr
  rintro _ σ ⟨rfl, W2, hP, hI2, hF2⟩
  refine cV ?_
  refine x_goto T_69_55 ?_
  refine x_rv T_69_292 ?_
  exact ⟨rfl, W1, W2, hP, hF1, hF2, hI2, hB2 W1 W2 _ hB1 hF2⟩
end XTEL
