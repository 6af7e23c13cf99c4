/-! The class's servers: a write, whole. -/
section XWRC
variable {fb : Bool} {d S a c0 rp mb m0 N M fa pr bb : Nat} {σ0 σ σ' : hM} {W W1 W2 W3 P Q : qR} {R R1 R2 : rR} {b i k x z v s e w f u p g ln K T U C c y off cnt n md tb : Int} {ord l l2 nm lo D L li : List Int} {t : Nat → Nat} {r : Option AV} {F : Int → Int}
/-- what stood before the reply -/
theorem dw_end (hP : PX σ0 W R σ) (hS : VS S s) (hX : XV W R Q S s ord t) (hK : CT K W R) (h6 : ∀ n, s < 2 → isN Q s n → Q 2297 (64 * s + n) ≤ 600) (hr : R S 2233 = some mb) (hB : BY W mb M l) (hz : (l.length : Int) = z) (hz3 : 23 ≤ z) (hrp : R S 2234 = some rp) (hBr : BY W rp 300 l2) (hro : rp + 1 < S ∨ S + 294 ≤ rp) (hroom : l2.length = 7) : WP fb (d + 6) 78 54 [some (vR (some S)), some (vR (some fa)), some (vR (some bb)), none] [vI e] σ (XS σ0 K W R S rp s e Q (l2 ++ leb 4 (z - 23))) := by
  have hrg := hS.rng
  have hrlt := hBr.lt
  have hr0 := (tX_o hBr.1).1
  refine WP.mono (dw_54 (fb := fb) (d := d) hP hS.o hr hB hz hz3 hrp hBr hroom) (fun r1 σ1 h => ?_)
  obtain ⟨h1, W2, l3, h2, h3, h4, h5⟩ := h
  exact ⟨h1, W2, R, _, _, _, h2, h4, h5, hX.fbb h3 (by omega) hro h6, hK.fbb h3 (by omega), FV_fb h3 (by omega) (by omega)⟩
theorem wr_tree (hP : PX σ0 W R σ) (hS : VS S s) (hX : XV W R P S s ord t) (hK : CT K W R) (hG : GI T U P) (hD : TI P) (hIO : SCR W P) (hT : T + 49 ≤ 2147483000) (qs : s < 2) (hi : 0 ≤ i ∧ i < 96) (hfa : S + 198 + i.toNat = fa) (hb : noA S ord t n = some bb) (hld : isN P s n) (hd : 0 ≤ qMode P s n) (hu : W fa 2290 = u) (hu3 : 0 ≤ u ∧ u ≤ 3) (hmo1 : W fa 2293 = x) (hx : x = 1 ∨ x = 2) (hn : R fa 2291 = some bb) (hr : R S 2233 = some mb) (hB : BY W mb M l) (hz : (l.length : Int) = z) (hz3 : 23 ≤ z) (hmo : mb + 1 < S ∨ S + 294 ≤ mb) (hmr : mb ≠ rp) (hrp : R S 2234 = some rp) (hBr : BY W rp 300 l2) (hro : rp + 1 < S ∨ S + 294 ≤ rp) (hroom : l2.length = 7) (n1 : rp ≠ 130) (n2 : rp ≠ 132) (ho : w64 (nu (lg l) 11 8) = off) : CL fb (d + 6) 78 [vR (some S), vR (some fa)] σ (XT σ0 K W R S rp s (qWr P s n off (z - 23)) (if qWr P s n off (z - 23) = 0 then gWr P s n u (if and32 (P 2293 (64 * s + n)) 1073741824 = 0 then off else P 2297 (64 * s + n)) (seg (lg l) 23 (z - 23).toNat) else P) (l2 ++ leb 4 (z - 23))) := by
  have hsr := hS.1
  have hr0 := (tX_o hBr.1).1
  have hm0 := (tX_o hB.1).1
  have hfo := hS.fd hi
  rw [hfa] at hfo
  obtain ⟨b', ix, hb', hix, hbix, hlx, htx, hN⟩ := hX.fnode hld
  have hbe : b' = bb := by
    rw [hb] at hb'
    exact (Option.some.inj hb').symm
  rw [hbe] at hN hbix
  obtain ⟨hdv, _⟩ := (hX.2.2.2 ix hix.1 hix.2).1 qs
  rw [hbix] at hdv
  have hwb := x_writeBytes (fb := fb) (d := d + 4) (u := u) (cnt := z - 23) hP hS hX hK hG hD hT qs hix hbix hlx hd hu3 hr hB hz ⟨by omega, by omega⟩ hmo ho
  obtain ⟨bo, hbo⟩ : ∃ q, (if and32 (P 2293 (64 * s + n)) 1073741824 = 0 then off else P 2297 (64 * s + n)) = q := ⟨_, rfl⟩
  have hv := qWr_v P s n off (z - 23)
  rw [hbo] at hwb hv ⊢
  obtain ⟨e, he⟩ : ∃ q, qWr P s n off (z - 23) = q := ⟨_, rfl⟩
  rw [he] at hwb hv ⊢
  obtain ⟨Q, hQ⟩ : ∃ q, (if e = 0 then gWr P s n u bo (seg (lg l) 23 (z - 23).toNat) else P) = q := ⟨_, rfl⟩
  have h6P := XV.len6 hG.iv hsr.1
  have h6Q : ∀ n, s < 2 → isN Q s n → Q 2297 (64 * s + n) ≤ 600 := by
    rw [← hQ]
    by_cases q : e = 0
    · rw [if_pos q]
      rcases hv with q2 | q2
      · exact gWr_len (by rw [seg_len]; omega) h6P qs
      · omega
    · rw [if_neg q]
      exact h6P
  have hIQ : SCR W Q := by
    rw [← hQ]
    by_cases q : e = 0
    · rw [if_pos q]
      exact hIO.rows (fun _ => gWr_f rfl) (fun _ => gWr_f rfl) (fun _ => gWr_f rfl) (gWr_f rfl) (gWr_f rfl)
    · rw [if_neg q]
      exact hIO
  unfold XWR at hwb
  rw [hQ] at hwb ⊢
  refine dw_file hP hS.o hfo hmo1 hx hn hN.1 hdv hu hwb (fun σ1 h => ?_)
  obtain ⟨W2, R2, h2, h3, h4, h5⟩ := h
  have hB2 := FV_by h5 hB hmo (by omega)
  have hBr2 := FV_by h5 hBr hro (by omega)
  exact WP.mono (dw_end h2 hS h3 h4 h6Q (h5.2.2.1.1.trans hr) hB2 hz hz3 (h5.2.2.1.2.1.trans hrp) hBr2 hro hroom) (fun _ _ h => XT_of (XS.tr (FV_w h5) h) hS hIQ n1 n2)
theorem wr_cons (hP : PX σ0 W R σ) (hS : VS S 2) (hX : XV W R P S 2 ord t) (hK : CT K W R) (hI : IV false T U P) (hIO : SCR W P) (hi : 0 ≤ i ∧ i < 96) (hfa : S + 198 + i.toNat = fa) (hb : noA S ord t 1 = some bb) (hld : isN P 2 1) (hmo1 : W fa 2293 = x) (hx : x = 1 ∨ x = 2) (hn : R fa 2291 = some bb) (hr : R S 2233 = some mb) (hB : BY W mb M l) (hz : (l.length : Int) = z) (hz3 : 23 ≤ z) (hmr : mb ≠ rp) (hrp : R S 2234 = some rp) (hBr : BY W rp 300 l2) (hro : rp + 1 < S ∨ S + 294 ≤ rp) (hroom : l2.length = 7) (n1 : rp ≠ 130) (n2 : rp ≠ 132) (m2 : mb ≠ 132) : CL fb (d + 6) 78 [vR (some S), vR (some fa)] σ (XT σ0 K W R S rp 2 0 (gCon P (lg l) 23 (z - 23).toNat) (l2 ++ leb 4 (z - 23))) := by
  have hrg := hS.rng
  have hr0 := (tX_o hBr.1).1
  have hfo := hS.fd hi
  rw [hfa] at hfo
  obtain ⟨b', ix, hb', hix, hbix, hlx, htx, hN⟩ := hX.fnode hld
  have hbe : b' = bb := by
    rw [hb] at hb'
    exact (Option.some.inj hb').symm
  rw [hbe] at hN hbix
  obtain ⟨hdv, _⟩ := (hX.2.2.2 ix hix.1 hix.2).2 rfl
  rw [hbix, hlx, if_pos rfl] at hdv
  have hco : 0 ≤ P 2281 41 ∧ P 2281 41 ≤ 1000 := IV.n hI 41 41 rfl rfl (by decide)
  have hwb := wd_cons (fb := fb) (d := d) hP hS.o hN.1 hdv hIO.2.1 hr hB hz m2 hz3
  rw [← (gCon_seg (k := 23) (F := lg l) hco (z - 23).toNat).1] at hwb
  refine dw_dev hP hS.o hfo hmo1 hx hn hN.1 hdv (by decide) hwb (fun σ1 h => ?_)
  obtain ⟨W2, h2, h3, h4⟩ := h
  have hq : ∀ (f : Nat) (k : Int), f ≠ 2314 → f ≠ 2315 → f ≠ 2321 → f ≠ 2281 → gCon P (lg l) 23 (z - 23).toNat f k = P f k := fun f k _ q1 _ q2 => gCon_f q1 (fun c => q2 c.1) _
  have hXm := (hX.fr (fun x k _ _ => h3 x k (by omega) (by omega)) (fun _ _ _ _ => rfl) (fun _ c k _ _ _ q => h3 c k (by omega) (by omega)) (fun n q => absurd q (by decide))).rest hq
  have hKm : CT K W2 R := hK.fv (h3 _ _ (by omega) (by omega)) (h3 _ _ (by omega) (by omega)) (fun _ => rfl)
  have hIm : SCR W2 (gCon P (lg l) 23 (z - 23).toNat) := by
    refine ⟨?_, h4, fun p p0 p1 => ?_⟩
    · rw [gCon_f (by decide) (by decide), show gCon P (lg l) 23 (z - 23).toNat 2314 = P 2314 from funext (fun j => gCon_f (by decide) (fun c => absurd c.1 (by decide)) _)]
      exact h3.by hIO.1 (by decide)
    · rw [gCon_f (by decide) (fun c => absurd c.1 (by decide)), h3 _ _ (by omega) (by omega)]
      exact hIO.2.2 p p0 p1
  have hfx : FVX S rp W W2 R R := FVX_io ⟨by omega, by omega, by omega⟩ (fun x k q => h3 x k (by omega) (by omega))
  exact WP.mono (dw_end h2 hS hXm hKm (fun n q => absurd q (by decide)) hr (h3.by hB m2) hz hz3 hrp (h3.by hBr n2) hro hroom) (fun _ _ h => XT.trx hfx (XT_of h hS hIm n1 n2))
theorem wr_ctl (hP : PX σ0 W R σ) (hS : VS S 2) (hX : XV W R P S 2 ord t) (hK : CT K W R) (hIO : SCR W P) (hi : 0 ≤ i ∧ i < 96) (hfa : S + 198 + i.toNat = fa) (hb : noA S ord t n = some bb) (hld : isN P 2 n) (hn16 : 16 ≤ n ∧ n < 144 ∧ ¬ n % 16 = 0) (hmo1 : W fa 2293 = x) (hx : x = 1 ∨ x = 2) (hn : R fa 2291 = some bb) (hr : R S 2233 = some mb) (hB : BY W mb M l) (hz : (l.length : Int) = z) (hz3 : 23 ≤ z) (hmr : mb ≠ rp) (hrp : R S 2234 = some rp) (hBr : BY W rp 300 l2) (hro : rp + 1 < S ∨ S + 294 ≤ rp) (hroom : l2.length = 7) (n1 : rp ≠ 130) (n2 : rp ≠ 132) : CL fb (d + 6) 78 [vR (some S), vR (some fa)] σ (XT σ0 K W R S rp 2 (wrN P 2 0 (z - 23) (lg l)) (if wrN P 2 0 (z - 23) (lg l) = 0 then rU P 2321 (n / 16 - 1) 1 else P) (l2 ++ leb 4 (z - 23))) := by
  have hrg := hS.rng
  have hr0 := (tX_o hBr.1).1
  have hfo := hS.fd hi
  rw [hfa] at hfo
  obtain ⟨b', ix, hb', hix, hbix, hlx, htx, hN⟩ := hX.fnode hld
  have hbe : b' = bb := by
    rw [hb] at hb'
    exact (Option.some.inj hb').symm
  rw [hbe] at hN hbix
  obtain ⟨hdv, hsh⟩ := (hX.2.2.2 ix hix.1 hix.2).2 rfl
  rw [hbix, hlx, if_neg (by omega), if_neg (by omega)] at hdv
  rw [hbix, hlx, if_neg (by omega)] at hsh
  obtain ⟨v, hv⟩ : ∃ v : Int, (if n % 16 = 1 then 2 else 3) = v := ⟨_, rfl⟩
  have hv1 : ¬ v = 1 ∧ ¬ v = 0 := by rw [← hv]; split <;> omega
  rw [hv] at hdv
  have hpo : tX (295 + 125 * (n / 16 - 1).toNat) = some (Sum.inl 6) := tX_prc _ (by omega)
  have hwb := wd_kill (fb := fb) (d := d) hP hS.o hN.1 hdv hv1.1 hsh hpo hr hB hz hz3
  have en : wrN P 2 0 (z - 23) (lg l) = if (z - 23 = 4 ∨ (z - 23 = 5 ∧ lg l 27 = 10)) ∧ seg (lg l) 23 4 = seg (pkB 1802071148 4) 0 4 then 0 else 14 := rfl
  obtain ⟨pr, hpr⟩ : ∃ q, 295 + 125 * (n / 16 - 1).toNat = q := ⟨_, rfl⟩
  rw [hpr] at hwb
  have hIV6 : ∀ (Q : qR) (n : Int), (2 : Int) < 2 → isN Q 2 n → Q 2297 (64 * 2 + n) ≤ 600 := fun Q n q => absurd q (by decide)
  by_cases qk : (z - 23 = 4 ∨ (z - 23 = 5 ∧ lg l 27 = 10)) ∧ seg (lg l) 23 4 = seg (pkB 1802071148 4) 0 4
  · rw [if_pos qk] at en
    rw [if_pos qk, if_pos qk] at hwb
    rw [en, if_pos rfl]
    refine dw_dev hP hS.o hfo hmo1 hx hn hN.1 hdv hv1.2 hwb (fun σ1 h => ?_)
    have hq : ∀ (f : Nat) (k : Int), f ≠ 2314 → f ≠ 2315 → f ≠ 2321 → f ≠ 2281 → rU P 2321 (n / 16 - 1) 1 f k = P f k := fun f k _ _ q1 _ => rU_f q1
    have wo : ∀ (x : Nat) (k : Int), ¬ (x = pr ∧ k = 2198) → rU W pr 2198 1 x k = W x k := fun x k q => if_neg q
    have hXm := (hX.fr (W2 := rU W pr 2198 1) (fun x k _ _ => wo x k (by omega)) (fun _ _ _ _ => rfl) (fun _ c k _ _ _ q => wo c k (by omega)) (fun n q => absurd q (by decide))).rest hq
    have hKm : CT K (rU W pr 2198 1) R := hK.fv (wo _ _ (by omega)) (wo _ _ (by omega)) (fun _ => rfl)
    have hIm : SCR (rU W pr 2198 1) (rU P 2321 (n / 16 - 1) 1) := by
      obtain ⟨i1, i2, i3⟩ := hIO
      refine ⟨?_, ?_, fun p p0 p1 => ?_⟩
      · rw [rU_f (by decide), show rU P 2321 (n / 16 - 1) 1 2314 = P 2314 from funext (fun j => rU_f (by decide))]
        exact i1.key (by decide) (by decide)
      · rw [rU_f (by decide), show rU P 2321 (n / 16 - 1) 1 2315 = P 2315 from funext (fun j => rU_f (by decide))]
        exact i2.key (by decide) (by decide)
      · by_cases q : p = n / 16 - 1
        · rw [q, rU_s, hpr, rU_s]
        · rw [rU_k q, rU_f (by omega)]
          exact i3 p p0 p1
    have hfx : FVX S rp W (rU W pr 2198 1) R R := FVX_io ⟨by omega, by omega, by omega⟩ (fun x k q => wo x k (by omega))
    exact WP.mono (dw_end h hS hXm hKm (hIV6 _) hr (hB.key (by decide) (by decide)) hz hz3 hrp (hBr.key (by decide) (by decide)) hro hroom) (fun _ _ h => XT.trx hfx (XT_of h hS hIm n1 n2))
  · rw [if_neg qk] at en
    rw [if_neg qk, if_neg qk] at hwb
    rw [en, if_neg (by decide)]
    exact dw_dev hP hS.o hfo hmo1 hx hn hN.1 hdv hv1.2 hwb (fun σ1 h => WP.mono (dw_end h hS hX hK (hIV6 _) hr hB hz hz3 hrp hBr hro hroom) (fun _ _ h => XT_of h hS hIO n1 n2))
end XWRC
