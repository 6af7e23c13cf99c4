/-! What the class's servers hold, told by the reference's rows; what leaves it as it is. -/
def fdMo (m : Int) : Int := if m < 0 then -1 else and32 m 3
def fdRm (m : Int) : Int := if 0 ≤ m ∧ ¬ and32 m 64 = 0 then 1 else 0
/-- a used fid -/
def FDu (W : qR) (R : rR) (P : qR) (S : Nat) (ord : List Int) (t : Nat → Nat) (a : Nat) (k : Int) : Prop := W a 2289 = P 2305 k ∧ W a 2290 = P 2308 k ∧ W a 2292 = P 2307 k ∧ W a 2293 = fdMo (P 2309 k) ∧ W a 2294 = fdRm (P 2309 k) ∧ W a 2295 = P 2311 k ∧ W a 2296 = P 2312 k ∧ R a 2291 = if P 2310 k = 0 then noA S ord t (P 2306 k) else none
def FD (W : qR) (R : rR) (P : qR) (S : Nat) (s : Int) (ord : List Int) (t : Nat → Nat) : Prop := ∀ i : Int, 0 ≤ i → i < 96 → W (S + 198 + i.toNat) 2288 = P 2304 (96 * s + i) ∧ (¬ P 2304 (96 * s + i) = 0 → FDu W R P S ord t (S + 198 + i.toNat) (96 * s + i)) ∧ ∀ b, R (S + 198 + i.toNat) 2291 = some b → 128 ≤ b
def SZ (W P : qR) (S : Nat) (s : Int) : Prop := W (S + 3) 0 = P 2313 (2 * s) ∧ W (S + 3) 1 = P 2313 (2 * s + 1) ∧ W S 2225 = (if s < 2 then 0 else 1) ∧ (s < 2 → W S 2231 = P 2301 s ∧ W S 2232 = P 2303 s) ∧ (s = 2 → W S 2231 = 0)
/-- rows of the reference that files are made of -/
def fileR : List Nat := [2289, 2290, 2291, 2292, 2293, 2294, 2295, 2296, 2297, 2298, 2299, 2320, 2322]
def FE (Q P : qR) : Prop := ∀ (f : Nat) (k : Int), fileR.elem f = true → Q f k = P f k
section XCS
variable {S a b : Nat} {W W2 P Q : qR} {R R2 : rR} {i k x z v s e w c f u y n p : Int} {l nm ord : List Int} {t : Nat → Nat} {r : Option Nat}
theorem FE_rf {L : List Nat} (h : RF L Q P) (hd : fileR.all (fun f => !L.elem f) = true) : FE Q P := fun f k hf => h f k (by
  have := List.all_eq_true.mp hd f (List.elem_iff.mp hf)
  rw [Bool.not_eq_true'] at this
  exact this)
theorem FE.live (h : FE Q P) : isN Q s n ↔ isN P s n := by
  unfold isN
  rw [h 2289 _ rfl, h 2320 _ rfl]
theorem FE.path (h : FE Q P) : qPath Q s n = qPath P s n := by unfold qPath; rw [h 2291 _ rfl]
theorem FE.up (h : FE Q P) : qUp Q s n = qUp P s n := by unfold qUp; rw [h 2290 _ rfl]
theorem FE.mode (h : FE Q P) : qMode Q s n = qMode P s n := by unfold qMode; rw [h 2293 _ rfl]
theorem FE.ver (h : FE Q P) : qVer Q s n = qVer P s n := by unfold qVer; rw [h 2292 _ rfl]
theorem FE.uid (h : FE Q P) : qUid Q s n = qUid P s n := by unfold qUid; rw [h 2294 _ rfl, h 2322 _ rfl]
theorem FE.gid (h : FE Q P) : qGid Q s n = qGid P s n := by unfold qGid; rw [h 2295 _ rfl, h.uid]
theorem FE.muid (h : FE Q P) : qMuid Q s n = qMuid P s n := by unfold qMuid; rw [h 2296 _ rfl, h.uid]
theorem FE.len (h : FE Q P) : qLen Q s n = qLen P s n := by unfold qLen; rw [h 2297 _ rfl, h.mode]
theorem FE.ns (h : FE Q P) : qNs Q s n = qNs P s n := by unfold qNs; rw [h 2299 _ rfl]
theorem FE.nam (h : FE Q P) : qNm Q s n = qNm P s n := by
  unfold qNm
  rw [h.ns, show (fun k => qNb Q s n k) = (fun k => qNb P s n k) from funext fun k => by unfold qNb; rw [h 2298 _ rfl]]
theorem FE.kind (h : FE Q P) : qKind Q s n = qKind P s n := by unfold qKind; rw [h.mode]
theorem FE.qid (h : FE Q P) : qidL Q s n = qidL P s n := by unfold qidL; rw [h.kind, h.ver, h.path]
theorem ND.fe (h : ND W P a s n) (he : FE Q P) : ND W Q a s n := by
  unfold ND at h ⊢
  rw [he.mode, he.path, he.ver, he.uid, he.gid, he.muid, he.len, he.nam, he.ns]
  exact h
theorem NT.fe (h : NT W R P S s ord t) (he : FE Q P) : NT W R Q S s ord t := by
  obtain ⟨⟨a1, a2, a3, a4⟩, b, c, d, e⟩ := h
  refine ⟨⟨fun n => (a1 n).trans he.live.symm, a2, a3, a4.imp (fun hab => by rw [he.path, he.path]; exact hab)⟩, b, c, fun i h0 h1 => (d i h0 h1).fe he, fun i h0 h1 => ?_⟩
  rw [he.up]
  exact e i h0 h1
/-- a place of files is not written -/
def notN (k : Int) : Prop := 2000 ≤ k ∧ k ≠ 2065 ∧ k ≠ 2230 ∧ (k < 2259 ∨ 2266 < k)
theorem ND.key (h : ND W P a s n) (hk : notN k) : ND (rU W b k v) P a s n := by
  obtain ⟨k1, k2, k3, k4⟩ := hk
  obtain ⟨a1, a2, a3, a4, a5, a6, a7, a8, a9, a10⟩ := h
  exact ⟨a1, ⟨(rU_j (by omega)).trans a2.1, a2.2⟩, ⟨(rU_j (by omega)).trans a3.1, a3.2⟩, ⟨(rU_j (by omega)).trans a4.1, a4.2⟩, ⟨(rU_j (by omega)).trans a5.1, a5.2⟩, ⟨(rU_j (by omega)).trans a6.1, a6.2⟩, ⟨(rU_j (by omega)).trans a7.1, a7.2⟩, ⟨(rU_j (by omega)).trans a8.1, a8.2⟩, a9.key k1 k2, a10⟩
theorem NT.key (h : NT W R P S s ord t) (hk : notN k) : NT (rU W b k v) R P S s ord t := by
  obtain ⟨⟨a1, a2, a3, a4⟩, b, c, d, e⟩ := h
  exact ⟨⟨a1, a2, (rU_j (Ne.symm hk.2.2.1)).trans a3, a4⟩, b, c, fun i h0 h1 => (d i h0 h1).key hk, e⟩
theorem ND.fb (h : ND W P a s n) (hF : FB b W W2) (hb : a + 1 ≠ b) : ND W2 P a s n := by
  obtain ⟨a1, a2, a3, a4, a5, a6, a7, a8, a9, a10⟩ := h
  exact ⟨a1, ⟨(hF.o (by decide) (by decide)).trans a2.1, a2.2⟩, ⟨(hF.o (by decide) (by decide)).trans a3.1, a3.2⟩, ⟨(hF.o (by decide) (by decide)).trans a4.1, a4.2⟩, ⟨(hF.o (by decide) (by decide)).trans a5.1, a5.2⟩, ⟨(hF.o (by decide) (by decide)).trans a6.1, a6.2⟩, ⟨(hF.o (by decide) (by decide)).trans a7.1, a7.2⟩, ⟨(hF.o (by decide) (by decide)).trans a8.1, a8.2⟩, hF.by a9 hb, a10⟩
theorem NT.fb (h : NT W R P S s ord t) (hF : FB b W W2) (hb : ∀ j, j < 64 → S + 7 + 3 * j ≠ b) : NT W2 R P S s ord t := by
  obtain ⟨⟨a1, a2, a3, a4⟩, b1, c, d, e⟩ := h
  exact ⟨⟨a1, a2, (hF.o (by decide) (by decide)).trans a3, a4⟩, b1, c, fun i h0 h1 => (d i h0 h1).fb hF (by have := hb _ (b1.1 i.toNat (by omega)); omega), e⟩
theorem NT.ref (h : NT W R P S s ord t) (hk : 2000 ≤ k) (hk2 : k ≠ 2257) : NT W (oU R b k r) P S s ord t := by
  obtain ⟨a, b1, c, d, e⟩ := h
  exact ⟨a, b1, fun i h0 h1 => (oU_j (by omega)).trans (c i h0 h1), d, fun i h0 h1 => (oU_j (Ne.symm hk2)).trans (e i h0 h1)⟩
theorem FD.fu (h : FD W R P S s ord t) : FU W P S s := fun i h0 h1 => ⟨(h i h0 h1).1, fun q => ((h i h0 h1).2.1 q).1⟩
theorem FD.fb (h : FD W R P S s ord t) (hF : FB b W W2) : FD W2 R P S s ord t := fun i h0 h1 => by
  obtain ⟨a1, a2, a3⟩ := h i h0 h1
  refine ⟨(hF.o (by decide) (by decide)).trans a1, fun q => ?_, a3⟩
  obtain ⟨b1, b2, b3, b4, b5, b6, b7, b8⟩ := a2 q
  exact ⟨(hF.o (by decide) (by decide)).trans b1, (hF.o (by decide) (by decide)).trans b2, (hF.o (by decide) (by decide)).trans b3, (hF.o (by decide) (by decide)).trans b4, (hF.o (by decide) (by decide)).trans b5, (hF.o (by decide) (by decide)).trans b6, (hF.o (by decide) (by decide)).trans b7, b8⟩
/-- a fid is begun anew, in the class and in the reference -/
theorem FD.make (h : FD W R P S s ord t) (hS : VS S s) (hi : 0 ≤ i ∧ i < 96) (hn : noA S ord t n = some b) (hp : p = qPath P s n) : FD (fdW W (S + 198 + i.toNat) v u p) (oU R (S + 198 + i.toNat) 2291 (some b)) (gMake P (96 * s + i) v n u) S s ord t := fun j h0 h1 => by
  obtain ⟨a1, a2, a3⟩ := h j h0 h1
  have hb : 128 ≤ b := by
    unfold noA at hn
    split at hn
    · have := Option.some.inj hn
      have := hS.2
      omega
    · cases hn
  have hdiv : (96 * s + i) / 96 = s := by omega
  by_cases q : j = i
  · subst q
    have e1 : gMake P (96 * s + j) v n u 2304 (96 * s + j) = 1 := by
      unfold gMake
      rw [rU_f (by decide), rU_f (by decide), rU_f (by decide), rU_f (by decide), rU_f (by decide), rU_f (by decide), rU_f (by decide), rU_s]
    refine ⟨?_, fun _ => ⟨?_, ?_, ?_, ?_, ?_, ?_, ?_, ?_⟩, fun b2 hb2 => ?_⟩
    · rw [e1]
      unfold fdW
      rw [rU_j (by decide), rU_j (by decide), rU_j (by decide), rU_j (by decide), rU_j (by decide), rU_j (by decide), rU_j (by decide), rU_s]
    · unfold fdW gMake
      rw [rU_j (by decide), rU_j (by decide), rU_j (by decide), rU_j (by decide), rU_j (by decide), rU_j (by decide), rU_s, rU_f (by decide), rU_f (by decide), rU_f (by decide), rU_f (by decide), rU_f (by decide), rU_f (by decide), rU_s]
    · unfold fdW gMake
      rw [rU_j (by decide), rU_j (by decide), rU_j (by decide), rU_j (by decide), rU_j (by decide), rU_s, rU_f (by decide), rU_f (by decide), rU_f (by decide), rU_f (by decide), rU_s]
    · unfold fdW gMake
      rw [rU_j (by decide), rU_j (by decide), rU_j (by decide), rU_j (by decide), rU_s, rU_f (by decide), rU_f (by decide), rU_f (by decide), rU_f (by decide), rU_f (by decide), rU_f (by decide), rU_f (by decide), rU_f (by decide), rU_s, hdiv]
      exact hp
    · unfold fdW gMake
      rw [rU_j (by decide), rU_j (by decide), rU_j (by decide), rU_s, rU_f (by decide), rU_f (by decide), rU_f (by decide), rU_s]
      rfl
    · unfold fdW gMake
      rw [rU_j (by decide), rU_j (by decide), rU_s, rU_f (by decide), rU_f (by decide), rU_f (by decide), rU_s]
      rfl
    · unfold fdW gMake
      rw [rU_j (by decide), rU_s, rU_f (by decide), rU_s]
    · unfold fdW gMake
      rw [rU_s, rU_s]
    · rw [oU_s]
      unfold gMake
      rw [rU_f (by decide), rU_f (by decide), rU_s, if_pos rfl, rU_f (by decide), rU_f (by decide), rU_f (by decide), rU_f (by decide), rU_f (by decide), rU_s, hn]
    · rw [oU_s] at hb2
      cases hb2
      exact hb
  · have hne : S + 198 + j.toNat ≠ S + 198 + i.toNat := by omega
    have hW : ∀ k, fdW W (S + 198 + i.toNat) v u p (S + 198 + j.toNat) k = W (S + 198 + j.toNat) k := fun k => by
      unfold fdW
      rw [rU_f hne, rU_f hne, rU_f hne, rU_f hne, rU_f hne, rU_f hne, rU_f hne, rU_f hne]
    have hG : ∀ g : Nat, gMake P (96 * s + i) v n u g (96 * s + j) = P g (96 * s + j) := fun g => by
      have hk : (96 * s + j) ≠ 96 * s + i := by omega
      unfold gMake
      rw [rU_j hk, rU_j hk, rU_j hk, rU_j hk, rU_j hk, rU_j hk, rU_j hk, rU_j hk, rU_j hk]
    rw [hW, hG, oU_f hne]
    refine ⟨a1, fun c => ?_, a3⟩
    have a2 := a2 c
    unfold FDu at a2 ⊢
    rw [hW, hW, hW, hW, hW, hW, hW, oU_f hne, hG, hG, hG, hG, hG, hG, hG, hG]
    exact a2
end XCS
