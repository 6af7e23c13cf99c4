/-! The class's servers: a read, whichever it is. -/
section XRDD
variable {fb : Bool} {d S a b c0 rp mb m0 N M fa pr : Nat} {σ0 σ σ' : hM} {W W1 W2 W3 P Q : qR} {R R1 R2 : rR} {i j k x z v s e w f u p g ln K T U C c y off cnt n md : Int} {ord l l2 nm lo D L li : List Int} {t : Nat → Nat} {r : Option AV} {F : Int → Int}
theorem VS.tx (h : VS S s) : SH (S + 4) 100 := by
  rcases h.cases with ⟨_, rfl⟩ | ⟨_, rfl⟩ | ⟨_, rfl⟩ <;> exact ⟨rfl, ⟨rfl, by decide⟩, by decide⟩
theorem XT.trx (hF : FVX S rp W W1 R R1) (h : XT σ0 K W1 R1 S rp s e Q L r σ') : XT σ0 K W R S rp s e Q L r σ' := by
  obtain ⟨h1, W3, R3, o3, t3, l3, g1, g2, g3, g4, g5, g6, g7⟩ := h
  exact ⟨h1, W3, R3, o3, t3, l3, g1, g2, g3, g4, g5, FVX_tr hF g6, g7⟩
/-- a tree's file -/
theorem rd_file (hP : PX σ0 W R σ) (hS : VS S s) (hX : XV W R P S s ord t) (hK : CT K W R) (hG : GI T U P) (qs : s < 2) (hb : noA S ord t n = some b) (hld : isN P s n) (hdr : ¬ qMode P s n < 0) (hw : 0 ≤ w ∧ w ≤ 289) (hrp : R S 2234 = some rp) (hB : BY W rp 300 (l2 ++ leb 4 0)) (hro : rp + 1 < S ∨ S + 294 ≤ rp) (hroom : l2.length = 7) : WP fb (d + 3) 68 83 [some (vR (some S)), some (vR (some fa)), some (vR (some b)), some (vL w), none, some (vL off), none, none, none, none] [] σ (XS σ0 K W R S rp s 0 P (l2 ++ (leb 4 ((part (fun x => P 2300 (600 * (64 * s + n) + x)) (P 2297 (64 * s + n)) off w).length : Int) ++ part (fun x => P 2300 (600 * (64 * s + n) + x)) (P 2297 (64 * s + n)) off w))) := by
  have hsr := hS.1
  have h6 := XV.len6 hG.iv hsr.1
  obtain ⟨b', ix, hb', hix, hbix, hlx, htx, hN⟩ := hX.fnode hld
  have hbe : b' = b := by
    rw [hb] at hb'
    exact (Option.some.inj hb').symm
  rw [hbe] at hN hbix
  have hlt := isN_lt qs hld
  obtain ⟨hdv, hct⟩ := (hX.2.2.2 ix hix.1 hix.2).1 qs
  rw [hbix] at hdv hct
  rw [hlx] at hct
  have hln := hN.2.2.2.2.2.2.2.1.1
  rw [show qLen P s n = P 2297 (64 * s + n) from if_pos ⟨qs, by omega⟩] at hln
  have hlr : 0 ≤ P 2297 (64 * s + n) ∧ P 2297 (64 * s + n) ≤ 600 := IV.a hG.iv 2297 0 128 rfl rfl rfl (by omega) (by omega)
  have hlL : ((l2 ++ leb 4 0).length : Int) = 11 := by rw [List.length_append, leb_len]; omega
  have htb := tb_file (fb := fb) (d := d) (F := fun x => P 2300 (600 * (64 * s + n) + x)) (off := off) (w := w) hP hS.o hN.1 hdv hln hlr (fun c hc => (hK.1 b c hc).2) (by
    rcases hct with q | ⟨c, q1, q2, q3⟩
    · exact Or.inl q
    · exact Or.inr ⟨c, q1, q3⟩) (fun j j0 j1 => IV.a hG.iv 2300 0 76800 rfl rfl rfl (by omega) (by omega)) hrp hB hw (by omega)
  refine rd_83f hP hS.o hN.1 hN.2.1.1 hN.2.1.2 hdr hw htb (fun r1 σ1 h => ?_)
  obtain ⟨rfl, W2, hP2, hB2, hF2⟩ := h
  exact ⟨rfl, rd_tail hP2 hS hX hK h6 hrp hF2 hB2 hro hroom rfl⟩
/-- the keys -/
theorem rd_cons (hP : PX σ0 W R σ) (hS : VS S 2) (hX : XV W R P S 2 ord t) (hK : CT K W R) (hI : IV false T U P) (hIO : SCR W P) (hb : noA S ord t 1 = some b) (hld : isN P 2 1) (hw : 0 ≤ w ∧ w ≤ 289) (hrp : R S 2234 = some rp) (hB : BY W rp 300 (l2 ++ leb 4 0)) (hro : rp + 1 < S ∨ S + 294 ≤ rp) (hroom : l2.length = 7) (n1 : rp ≠ 130) (n2 : rp ≠ 132) (hk : (if w < P 2281 39 then w else P 2281 39) = k) : WP fb (d + 3) 68 83 [some (vR (some S)), some (vR (some fa)), some (vR (some b)), some (vL w), none, some (vL off), none, none, none, none] [] σ (XT σ0 K W R S rp 2 0 (gIn P k) (l2 ++ (leb 4 ((seg (P 2314) 0 k.toNat).length : Int) ++ seg (P 2314) 0 k.toNat))) := by
  have hrg := hS.rng
  have hrlt := hB.lt
  have hr0 := (tX_o hB.1).1
  obtain ⟨b', ix, hb', hix, hbix, hlx, htx, hN⟩ := hX.fnode hld
  have hbe : b' = b := by
    rw [hb] at hb'
    exact (Option.some.inj hb').symm
  rw [hbe] at hN hbix
  obtain ⟨hdv, _⟩ := (hX.2.2.2 ix hix.1 hix.2).2 rfl
  rw [hbix, hlx, if_pos rfl] at hdv
  have hin : 0 ≤ P 2281 39 ∧ P 2281 39 ≤ 200 := IV.n hI 39 39 rfl rfl (by decide)
  have hkr : 0 ≤ k ∧ k ≤ P 2281 39 := by rw [← hk]; split <;> omega
  have hlL : ((l2 ++ leb 4 0).length : Int) = 11 := by rw [List.length_append, leb_len]; omega
  have hli : ((seg (P 2314) 0 (P 2281 39).toNat).length : Int) = P 2281 39 := by rw [seg_len]; omega
  have htb := tb_cons (fb := fb) (d := d) (off := off) (w := w) (k := k) hP hS.o hN.1 hdv hIO.1 hrp hB n1 hw (by omega) (by rw [hli, ← hk]; split <;> split <;> omega)
  have hsg : seg (lg (seg (P 2314) 0 (P 2281 39).toNat)) 0 k.toNat = seg (P 2314) 0 k.toNat := seg_seg.mpr (fun j j0 j1 => by
    rw [lg_seg _ _ _ _ (by omega) (by omega), Int.zero_add])
  rw [hsg] at htb
  refine rd_83f hP hS.o hN.1 hN.2.1.1 hN.2.1.2 (by unfold qMode; rw [if_neg (by decide), if_pos rfl]; decide) hw htb (fun r1 σ1 h => ?_)
  obtain ⟨rfl, W2, W3, hP3, hF2, hF3, hI3, hB3⟩ := h
  refine ⟨rfl, ?_⟩
  obtain ⟨Wm, hWm⟩ : ∃ Wm : qR, (fun x k => if (x = 130 ∧ k = 2065) ∨ (x = 131 ∧ k < 2000) then W3 x k else W x k) = Wm := ⟨_, rfl⟩
  have wo : ∀ (x : Nat) (k : Int), ¬ ((x = 130 ∧ k = 2065) ∨ (x = 131 ∧ k < 2000)) → Wm x k = W x k := fun x k q => by
    rw [← hWm]
    exact if_neg q
  have wi : ∀ (x : Nat) (k : Int), ((x = 130 ∧ k = 2065) ∨ (x = 131 ∧ k < 2000)) → Wm x k = W3 x k := fun x k q => by
    rw [← hWm]
    exact if_pos q
  have hFm : FB rp Wm W3 := fun x k q1 q2 => by
    by_cases q : (x = 130 ∧ k = 2065) ∨ (x = 131 ∧ k < 2000)
    · exact (wi x k q).symm
    · rw [wo x k q, hF3 x k (by omega) (by omega), hF2 x k q1 q2]
  have hS2 := hS.2
  have hXm : XV Wm R (gIn P k) S 2 ord t := (hX.fr (fun x k _ _ => wo x k (by omega)) (fun _ _ _ _ => rfl) (fun _ c k _ _ _ q => wo c k (by omega)) (fun n q => absurd q (by decide))).rest (fun f j h1 _ _ h2 => gIn_f h1 h2)
  have hKm : CT K Wm R := hK.fv (wo _ _ (by omega)) (wo _ _ (by omega)) (fun _ => rfl)
  have hIm : SCR Wm (gIn P k) := by
    obtain ⟨y1, y2, y3, y4, y5, y6, y7⟩ := hI3
    exact hIO.keys hkr ⟨y1, y2, y3, (wi _ _ (Or.inl ⟨rfl, rfl⟩)).trans y4, y5, y6, fun i i0 i1 => (wi _ _ (Or.inr ⟨rfl, by omega⟩)).trans (y7 i i0 i1)⟩ (fun x j q => wo _ _ (by omega))
  have hfx : FVX S rp W Wm R R := FVX_io ⟨by omega, by omega, by omega⟩ (fun x k q => wo x k (by omega))
  exact WP.mono (rd_tail hP3 hS hXm hKm (fun n q => absurd q (by decide)) hrp hFm hB3 hro hroom rfl) (fun _ _ h => XT.trx hfx (XT_of h hS hIm n1 n2))
/-- a status -/
theorem rd_stat (hP : PX σ0 W R σ) (hS : VS S 2) (hX : XV W R P S 2 ord t) (hK : CT K W R) (hn : 16 ≤ n ∧ n % 16 = 1) (hb : noA S ord t n = some b) (hld : isN P 2 n) (hst : PST W R P (n / 16 - 1) (295 + 125 * (n / 16 - 1).toNat)) (hw : 0 ≤ w ∧ w ≤ 289) (hrp : R S 2234 = some rp) (hB : BY W rp 300 (l2 ++ leb 4 0)) (hro : rp + 1 < S ∨ S + 294 ≤ rp) (hroom : l2.length = 7) : WP fb (d + 3) 68 83 [some (vR (some S)), some (vR (some fa)), some (vR (some b)), some (vL w), none, some (vL off), none, none, none, none] [] σ (XS σ0 K W R S rp 2 0 P (l2 ++ (leb 4 ((part (lg (stL P (n / 16 - 1))) 8 off w).length : Int) ++ part (lg (stL P (n / 16 - 1))) 8 off w))) := by
  have hrg := hS.rng
  have hr0 := (tX_o hB.1).1
  obtain ⟨b', ix, hb', hix, hbix, hlx, htx, hN⟩ := hX.fnode hld
  have hbe : b' = b := by
    rw [hb] at hb'
    exact (Option.some.inj hb').symm
  rw [hbe] at hN hbix
  obtain ⟨hdv, hsh⟩ := (hX.2.2.2 ix hix.1 hix.2).2 rfl
  rw [hbix, hlx, if_neg (by omega), if_neg (by omega), if_pos hn.2] at hdv
  rw [hbix, hlx, if_neg (by omega)] at hsh
  have hlL : ((l2 ++ leb 4 0).length : Int) = 11 := by rw [List.length_append, leb_len]; omega
  have htb := tb_stat (fb := fb) (d := d) (off := off) (w := w) hP hS.o hS.tx hN.1 hdv hsh hst hrp hB (by omega) hw (by omega)
  refine rd_83f hP hS.o hN.1 hN.2.1.1 hN.2.1.2 (by unfold qMode; rw [if_neg (by decide), if_neg (by omega), if_neg (by omega), if_pos hn.2]; decide) hw htb (fun r1 σ1 h => ?_)
  obtain ⟨rfl, W2, W3, hP3, hF2, hF3, hB3⟩ := h
  have h6 : ∀ n, (2 : Int) < 2 → isN P 2 n → P 2297 (64 * 2 + n) ≤ 600 := fun n q => absurd q (by decide)
  exact ⟨rfl, WP.mono (rd_tail hP3 hS (hX.text hS hF2 h6) (hK.fbb hF2 (by omega)) h6 hrp hF3 hB3 hro hroom rfl) (fun _ _ h => XS.tr (FV_w (FV_fbo hF2 (by omega) (by omega))) h)⟩
end XRDD
