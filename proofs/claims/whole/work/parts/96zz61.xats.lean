/-! The class's servers: an attachment, a status told, as parts of a server's work. -/
section XATS
variable {fb : Bool} {d S a c0 rp mb m0 N M fa pr bb : Nat} {σ0 σ σ' : hM} {W W1 W2 W3 P Q : qR} {R R1 R2 : rR} {b i k x z v s e w f u p g ln K T U C c y off cnt n md tb j : Int} {ord l l2 nm lo D L li : List Int} {t : Nat → Nat} {r : Option AV} {F : Int → Int}
theorem x_statS (hP : PX σ0 W R σ) (hS : VS S s) (hX : XV W R P S s ord t) (hK : CT K W R) (hG : GI T U P) (hD : TI P) (hrp : R S 2234 = some rp) (hBr : BY W rp 300 l2) (hro : rp + 1 < S ∨ S + 294 ≤ rp) (hroom : l2.length = 7) (hi : 0 ≤ i ∧ i < 96) (hu : ¬ P 2304 (96 * s + i) = 0) : CL fb (d + 2) 85 [vR (some S), vR (some (S + 198 + i.toNat))] σ (XS σ0 K W R S rp s (if ¬ P 2310 (96 * s + i) = 0 then 1 else 0) P (l2 ++ (leb 2 (58 + qNs P s (P 2306 (96 * s + i))) ++ statL P s (P 2306 (96 * s + i))))) := by
  have hrlt := hBr.lt
  have hr0 := (tX_o hBr.1).1
  have hfo := hS.fd hi
  obtain ⟨f1, f2, f3, f4, f5, f6, f7, f8⟩ := (hX.2.1 i hi.1 hi.2).2.1 hu
  by_cases q : P 2310 (96 * s + i) = 0
  · rw [if_pos q] at f8
    rw [if_neg (fun c => c q)]
    have hlv := hD.live hG hS.1 hi hu q
    obtain ⟨bb, ix, hb2, hix, hbix, hlx, htx, hN⟩ := hX.fnode hlv
    rw [hb2] at f8
    have hns : 0 ≤ qNs P s (P 2306 (96 * s + i)) ∧ qNs P s (P 2306 (96 * s + i)) ≤ 12 := by
      have h1 := hN.2.2.2.2.2.2.2.2.1.2.2.2.2.1
      have h2 := hN.2.2.2.2.2.2.2.2.2
      have h3 := hN.2.2.2.2.2.2.2.2.1.2.2.2.1
      omega
    refine CL.mono (x_doStat (fb := fb) (d := d) hP hS hfo f8 hrp hBr hN (by omega) (by omega)) (fun r1 σ1 h => ?_)
    obtain ⟨rfl, W2, h1, h2, h3⟩ := h
    exact ⟨rfl, W2, R, _, _, _, h1, h2, fun _ => rfl, hX.fbb h3 (by omega) hro (XV.len6 hG.iv hS.1.1), hK.fbb h3 (by omega), FV_fb h3 (by omega) (by omega)⟩
  · rw [if_neg q] at f8
    rw [if_pos q]
    refine CL.mono (x_doStat_n (fb := fb) (d := d + 2) hP hfo f8) (fun r1 σ1 h => ?_)
    obtain ⟨h1, h2⟩ := h
    subst h2
    exact ⟨h1, W, R, _, _, _, hP, hBr, fun c => absurd c (by decide), hX, hK, FV_rfl⟩
theorem gMk_f {g : Nat} (h : fidL.elem g = false) : gMake P k v n u g j = P g j := by
  have e : ∀ f : Nat, fidL.elem f = true → g ≠ f := fun f hf q => by
    rw [q, hf] at h
    cases h
  unfold gMake
  rw [rU_f (e _ rfl), rU_f (e _ rfl), rU_f (e _ rfl), rU_f (e _ rfl), rU_f (e _ rfl), rU_f (e _ rfl), rU_f (e _ rfl), rU_f (e _ rfl), rU_f (e _ rfl)]
theorem x_attS (hP : PX σ0 W R σ) (hS : VS S s) (hX : XV W R P S s ord t) (hK : CT K W R) (hG : GI T U P) (hr : R S 2233 = some mb) (hrp : R S 2234 = some rp) (hB : BY W mb M l) (hz : (l.length : Int) = z) (hBr : BY W rp 300 l2) (hro : rp + 1 < S ∨ S + 294 ≤ rp) (hroom : l2.length = 7) (hc : c = 0 ∨ c = 1) (hcn : W S 2235 = c) (hw : sE (lg l) z (sE (lg l) z 15) = z) : CL fb (d + 2) 48 [vR (some S)] σ (XS σ0 K W R S rp s (atE P s c (lg l) z) (if atE P s c (lg l) z = 0 then atP P s c (lg l) else P) (l2 ++ qidL (atP P s c (lg l)) s 0)) := by
  have hrg := hS.rng
  have hrlt := hBr.lt
  have hr0 := (tX_o hBr.1).1
  have hR := TRX_of hX.1 hG hS.1
  refine CL.mono (x_doAttach (fb := fb) (d := d) hP hS hr hrp hB hz hBr (by omega) (fun j hj => by omega) hX.1 hR.1 hX.2.1 hc hcn hw) (fun r1 σ1 h => ?_)
  obtain ⟨h1, W2, R2, h2, h3, h4, h5, h6, h7⟩ := h
  have hl6 := XV.len6 hG.iv hS.1.1
  have hQ : ∀ (g : Nat) (j : Int), fidL.elem g = false → (if atE P s c (lg l) z = 0 then atP P s c (lg l) else P) g j = P g j := fun g j hg => by
    split
    · exact gMk_f hg
    · rfl
  obtain ⟨Q, hQd⟩ : ∃ q, (if atE P s c (lg l) z = 0 then atP P s c (lg l) else P) = q := ⟨_, rfl⟩
  rw [hQd] at h4 h5 hQ ⊢
  have hl := hX.1.1.2.1
  refine ⟨h1, W2, R2, ord, t, _, h2, h3, fun q => if_pos q, ⟨h4, h5, ?_, fun i0 i1 i2 => ?_⟩, hK.fv (h6 _ _ (by omega) (by omega) (by omega)) (h6 _ _ (by omega) (by omega) (by omega)) (fun q => h7 _ _ (by omega)), ⟨fun x k _ q1 _ q3 q4 => h6 x k (by omega) q3 q4, fun x k q => h7 x k (by omega), ⟨h7 _ _ (by omega), h7 _ _ (by omega), h6 _ _ (by omega) (by omega) (by omega)⟩, fun c k c0 _ _ => h6 c k (by omega) (by omega) (by omega), by rw [h6 0 0 (by omega) (by omega) (by omega)]; exact Int.le_refl _, fun q => Or.inl (h7 _ _ (by omega))⟩⟩
  · obtain ⟨z1, z2, z3, z4⟩ := hX.2.2.1
    unfold SZ
    rw [h6 (S + 3) 0 (by omega) (by omega) (by omega), h6 (S + 3) 1 (by omega) (by omega) (by omega), h6 S 2225 (by omega) (by omega) (by omega), h6 S 2231 (by omega) (by omega) (by omega), h6 S 2232 (by omega) (by omega) (by omega), hQ _ _ rfl, hQ _ _ rfl, hQ _ _ rfl, hQ _ _ rfl]
    exact ⟨z1, z2, z3, z4⟩
  · have ht := hX.1.2.1.1 i0.toNat (by omega)
    exact ((hX.2.2.2 i0 i1 i2).fr (h6 _ _ (by omega) (by omega) (by omega)) (h7 _ _ (by omega)) (h7 _ _ (by omega)) (fun c _ c2 k k0 k1 => h6 c k (by omega) (by omega) (by omega)) (fun q => hl6 _ q ((hX.1.1.1 _).mp (lg_mem i1 i2)))).pp (fun _ => hQ _ _ rfl) (fun _ _ _ _ => hQ _ _ rfl)
end XATS
