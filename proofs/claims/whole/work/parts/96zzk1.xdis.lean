/-! The class's enter: a begun command to its answer, over all verbs but if, for and run. -/
/-- what is asked of a state where a command is done -/
def CJ (T : Int) (P : qR) (p : Int) (l : List Int) : Prop := ¬ P 2320 p = 0 ∧ ((kWW P p 1 (lnB l 1)).1 = 0 → (and32 (kWW P p 1 (lnB l 1)).2.2.2.2.2.1 128 = 0 ↔ ¬ (kWW P p 1 (lnB l 1)).2.2.2.2.2.1 = 128)) ∧ lsOk P p (lnB l 1) ∧ (0 ≤ dgV (lnB l 1) 7 → 0 ≤ P 2327 (8 * p + dgV (lnB l 1) 7) → cClE P p (dgV (lnB l 1) 7) = 0) ∧ (∀ N : Int, ((lnW l).length : Int) = N → (N = 3 ∨ N = 4) → ((kWW P p 1 (lnB l (N - 2))).1 = 0 → chO (T + 300) (kWW P p 1 (lnB l (N - 2))).2.2) ∧ ((kWW (kWW P p 1 (lnB l (N - 2))).2.1 p 0 (lnB l (N - 1))).1 = 0 → chO (T + 600) (kWW (kWW P p 1 (lnB l (N - 2))).2.1 p 0 (lnB l (N - 1))).2.2) ∧ ((kWW (kAtP P (dgV (lnB l (N - 2)) 2) (P 2322 p)) p 0 (lnB l (N - 1))).1 = 0 → chO (T + 304) (kWW (kAtP P (dgV (lnB l (N - 2)) 2) (P 2322 p)) p 0 (lnB l (N - 1))).2.2)) ∧ P 2334 (qFg P) = 0
section XDIS
variable {fb : Bool} {d k : Nat} {σ0 σ : hM} {W P : qR} {R : rR} {i p v K T U N : Int} {l L : List Int} {Q : Option AV → hM → Prop}
theorem ev_d1 {x5 : Option AV} (hp : 0 ≤ p ∧ p < 8) (hP : PX σ0 W R σ) (hX : XW K T U W R P) (hC : CMD W k L) (hN0 : 0 < ((lnW L).length : Int)) (ht : lnB L 0 = txt 22) (hJ : CJ T P p L) (hT : T + 3200 ≤ 2147483000) (hU : 10000 ≤ U ∧ U ≤ 2147480000) (hgo : XEN fb d σ0 K (T + 2712) (U + 400) p i k x5 W R (cCmd P p L) Q) : WP fb (d + 20) 96 70 [some (vR (some 128)), some (vI p), some (vR (some (prO p))), some (vI i), some (vR (some k)), x5] [] σ Q := by
  have hb : byt (lnB L 0) := byt_lnB hC.2.2.2.1.2.2.2.2.2.1
  have hv : vbN (lnB L 0) = 1 := by rw [ht]; decide +kernel
  have hk : pkW (lnB L 0) = 25444 := (pk_txt (by decide) hb (by decide) (by decide) (by decide +kernel) (by decide)).mpr ht
  obtain ⟨N, hN⟩ : ∃ q : Int, ((lnW L).length : Int) = q := ⟨_, rfl⟩
  rw [cm_cd hk hN] at hgo
  by_cases q : N = 2
  · rw [if_pos q] at hgo
    exact ev_c1 hP hC hN0 hv (CL.mono (x_cd (fb := fb) (d := d + 9) hP hX (by omega) hp hJ.1 hC (hN.trans q) hJ.2.1) (fun r σ1 h => XCM.up (by omega) (by omega) h)) hgo
  · rw [if_neg q] at hgo
    exact ev_c1 hP hC hN0 hv (CL.mono (x_cd18 (fb := fb) (d := d + 9) hP hp hC hN q) (fun r σ1 h => XCM.e18 hP hX (by omega) (by omega) h)) hgo
theorem ev_d2 {x5 : Option AV} (hp : 0 ≤ p ∧ p < 8) (hP : PX σ0 W R σ) (hX : XW K T U W R P) (hC : CMD W k L) (hN0 : 0 < ((lnW L).length : Int)) (ht : lnB L 0 = txt 23) (hJ : CJ T P p L) (hT : T + 3200 ≤ 2147483000) (hU : 10000 ≤ U ∧ U ≤ 2147480000) (hgo : XEN fb d σ0 K (T + 2712) (U + 400) p i k x5 W R (cCmd P p L) Q) : WP fb (d + 20) 96 70 [some (vR (some 128)), some (vI p), some (vR (some (prO p))), some (vI i), some (vR (some k)), x5] [] σ Q := by
  have hb : byt (lnB L 0) := byt_lnB hC.2.2.2.1.2.2.2.2.2.1
  have hv : vbN (lnB L 0) = 2 := by rw [ht]; decide +kernel
  have hk : pkW (lnB L 0) = 6513012 := (pk_txt (by decide) hb (by decide) (by decide) (by decide +kernel) (by decide)).mpr ht
  obtain ⟨N, hN⟩ : ∃ q : Int, ((lnW L).length : Int) = q := ⟨_, rfl⟩
  rw [cm_cat hk hN] at hgo
  by_cases q : N = 2
  · rw [if_pos q] at hgo
    exact ev_c2 hP hC hN0 hv (CL.mono (x_cat (fb := fb) (d := d + 9) hP hX (by omega) hp hJ.1 hC (hN.trans q) hJ.2.1) (fun r σ1 h => XCM.up (by omega) (by omega) h)) hgo
  · rw [if_neg q] at hgo
    exact ev_c2 hP hC hN0 hv (CL.mono (x_cat18 (fb := fb) (d := d + 9) hP hp hC hN q) (fun r σ1 h => XCM.e18 hP hX (by omega) (by omega) h)) hgo
theorem ev_d3 {x5 : Option AV} (hp : 0 ≤ p ∧ p < 8) (hP : PX σ0 W R σ) (hX : XW K T U W R P) (hC : CMD W k L) (hN0 : 0 < ((lnW L).length : Int)) (ht : lnB L 0 = txt 24) (hJ : CJ T P p L) (hT : T + 3200 ≤ 2147483000) (hU : 10000 ≤ U ∧ U ≤ 2147480000) (hgo : XEN fb d σ0 K (T + 2712) (U + 400) p i k x5 W R (cCmd P p L) Q) : WP fb (d + 20) 96 70 [some (vR (some 128)), some (vI p), some (vR (some (prO p))), some (vI i), some (vR (some k)), x5] [] σ Q := by
  have hb : byt (lnB L 0) := byt_lnB hC.2.2.2.1.2.2.2.2.2.1
  have hv : vbN (lnB L 0) = 3 := by rw [ht]; decide +kernel
  have hk : pkW (lnB L 0) = 27763 := (pk_txt (by decide) hb (by decide) (by decide) (by decide +kernel) (by decide)).mpr ht
  obtain ⟨N, hN⟩ : ∃ q : Int, ((lnW L).length : Int) = q := ⟨_, rfl⟩
  rw [cm_ls hk hN] at hgo
  by_cases q : N = 2
  · rw [if_pos q] at hgo
    exact ev_c3 hP hC hN0 hv (CL.mono (x_ls (fb := fb) (d := d + 9) hP hX (by omega) hp hJ.1 hC (hN.trans q) hJ.2.2.1 hJ.2.1) (fun r σ1 h => XCM.up (by omega) (by omega) h)) hgo
  · rw [if_neg q] at hgo
    exact ev_c3 hP hC hN0 hv (CL.mono (x_ls18 (fb := fb) (d := d + 9) hP hp hC hN q) (fun r σ1 h => XCM.e18 hP hX (by omega) (by omega) h)) hgo
theorem ev_d4 {x5 : Option AV} (hp : 0 ≤ p ∧ p < 8) (hP : PX σ0 W R σ) (hX : XW K T U W R P) (hC : CMD W k L) (hN0 : 0 < ((lnW L).length : Int)) (ht : lnB L 0 = txt 25) (hJ : CJ T P p L) (hT : T + 3200 ≤ 2147483000) (hU : 10000 ≤ U ∧ U ≤ 2147480000) (hgo : XEN fb d σ0 K (T + 2712) (U + 400) p i k x5 W R (cCmd P p L) Q) : WP fb (d + 20) 96 70 [some (vR (some 128)), some (vI p), some (vR (some (prO p))), some (vI i), some (vR (some k)), x5] [] σ Q := by
  have hb : byt (lnB L 0) := byt_lnB hC.2.2.2.1.2.2.2.2.2.1
  have hv : vbN (lnB L 0) = 4 := by rw [ht]; decide +kernel
  have hk : pkW (lnB L 0) = 1701013615 := (pk_txt (by decide) hb (by decide) (by decide) (by decide +kernel) (by decide)).mpr ht
  obtain ⟨N, hN⟩ : ∃ q : Int, ((lnW L).length : Int) = q := ⟨_, rfl⟩
  rw [cm_echo hk] at hgo
  exact ev_c4 hP hC hN0 hv (CL.mono (x_echo (fb := fb) (d := d + 8) hP hX (by omega) hp hJ.1 hC hN (by omega)) (fun r σ1 h => XCM.up (by omega) (by omega) h)) hgo
theorem ev_d5 {x5 : Option AV} (hp : 0 ≤ p ∧ p < 8) (hP : PX σ0 W R σ) (hX : XW K T U W R P) (hC : CMD W k L) (hN0 : 0 < ((lnW L).length : Int)) (ht : lnB L 0 = txt 26) (hJ : CJ T P p L) (hT : T + 3200 ≤ 2147483000) (hU : 10000 ≤ U ∧ U ≤ 2147480000) (hgo : XEN fb d σ0 K (T + 2712) (U + 400) p i k x5 W R (cCmd P p L) Q) : WP fb (d + 20) 96 70 [some (vR (some 128)), some (vI p), some (vR (some (prO p))), some (vI i), some (vR (some k)), x5] [] σ Q := by
  have hb : byt (lnB L 0) := byt_lnB hC.2.2.2.1.2.2.2.2.2.1
  have hv : vbN (lnB L 0) = 5 := by rw [ht]; decide +kernel
  have hk : pkW (lnB L 0) = 469953177970 := (pk_txt (by decide) hb (by decide) (by decide) (by decide +kernel) (by decide)).mpr ht
  obtain ⟨N, hN⟩ : ∃ q : Int, ((lnW L).length : Int) = q := ⟨_, rfl⟩
  rw [cm_mkdir hk hN] at hgo
  by_cases q : N = 2
  · rw [if_pos q, ← kCreate_m1] at hgo
    exact ev_c5 hP hC hN0 hv (CL.mono (x_mkdir (fb := fb) (d := d + 8) hP hX (by omega) hp hJ.1 hC (hN.trans q)) (fun r σ1 h => XCM.up (by omega) (by omega) h)) hgo
  · rw [if_neg q] at hgo
    exact ev_c5 hP hC hN0 hv (CL.mono (x_mkdir18 (fb := fb) (d := d + 9) hP hp hC hN q) (fun r σ1 h => XCM.e18 hP hX (by omega) (by omega) h)) hgo
theorem ev_d6 {x5 : Option AV} (hp : 0 ≤ p ∧ p < 8) (hP : PX σ0 W R σ) (hX : XW K T U W R P) (hC : CMD W k L) (hN0 : 0 < ((lnW L).length : Int)) (ht : lnB L 0 = txt 27) (hJ : CJ T P p L) (hT : T + 3200 ≤ 2147483000) (hU : 10000 ≤ U ∧ U ≤ 2147480000) (hgo : XEN fb d σ0 K (T + 2712) (U + 400) p i k x5 W R (cCmd P p L) Q) : WP fb (d + 20) 96 70 [some (vR (some 128)), some (vI p), some (vR (some (prO p))), some (vI i), some (vR (some k)), x5] [] σ Q := by
  have hb : byt (lnB L 0) := byt_lnB hC.2.2.2.1.2.2.2.2.2.1
  have hv : vbN (lnB L 0) = 6 := by rw [ht]; decide +kernel
  have hk : pkW (lnB L 0) = 109342978307173 := (pk_txt (by decide) hb (by decide) (by decide) (by decide +kernel) (by decide)).mpr ht
  obtain ⟨N, hN⟩ : ∃ q : Int, ((lnW L).length : Int) = q := ⟨_, rfl⟩
  rw [cm_create hk hN] at hgo
  by_cases q : N = 4
  · rw [if_pos q] at hgo
    exact ev_c6 hP hC hN0 hv (CL.mono (x_createC (fb := fb) (d := d + 8) hP hX (by omega) hU.1 hp hJ.1 hC (hN.trans q)) (fun r σ1 h => XCM.up (by omega) (by omega) h)) hgo
  · rw [if_neg q] at hgo
    exact ev_c6 hP hC hN0 hv (CL.mono (x_create18 (fb := fb) (d := d + 9) hP hp hC hN q) (fun r σ1 h => XCM.e18 hP hX (by omega) (by omega) h)) hgo
theorem ev_d7 {x5 : Option AV} (hp : 0 ≤ p ∧ p < 8) (hP : PX σ0 W R σ) (hX : XW K T U W R P) (hC : CMD W k L) (hN0 : 0 < ((lnW L).length : Int)) (ht : lnB L 0 = txt 28) (hJ : CJ T P p L) (hT : T + 3200 ≤ 2147483000) (hU : 10000 ≤ U ∧ U ≤ 2147480000) (hgo : XEN fb d σ0 K (T + 2712) (U + 400) p i k x5 W R (cCmd P p L) Q) : WP fb (d + 20) 96 70 [some (vR (some 128)), some (vI p), some (vR (some (prO p))), some (vI i), some (vR (some k)), x5] [] σ Q := by
  have hb : byt (lnB L 0) := byt_lnB hC.2.2.2.1.2.2.2.2.2.1
  have hv : vbN (lnB L 0) = 7 := by rw [ht]; decide +kernel
  have hk : pkW (lnB L 0) = 29293 := (pk_txt (by decide) hb (by decide) (by decide) (by decide +kernel) (by decide)).mpr ht
  obtain ⟨N, hN⟩ : ∃ q : Int, ((lnW L).length : Int) = q := ⟨_, rfl⟩
  rw [cm_rm hk hN] at hgo
  by_cases q : N = 2
  · rw [if_pos q] at hgo
    exact ev_c7 hP hC hN0 hv (CL.mono (x_rm (fb := fb) (d := d + 9) hP hX (by omega) hp hJ.1 hC (hN.trans q)) (fun r σ1 h => XCM.up (by omega) (by omega) h)) hgo
  · rw [if_neg q] at hgo
    exact ev_c7 hP hC hN0 hv (CL.mono (x_rm18 (fb := fb) (d := d + 9) hP hp hC hN q) (fun r σ1 h => XCM.e18 hP hX (by omega) (by omega) h)) hgo
theorem ev_d8 {x5 : Option AV} (hp : 0 ≤ p ∧ p < 8) (hP : PX σ0 W R σ) (hX : XW K T U W R P) (hC : CMD W k L) (hN0 : 0 < ((lnW L).length : Int)) (ht : lnB L 0 = txt 29) (hJ : CJ T P p L) (hT : T + 3200 ≤ 2147483000) (hU : 10000 ≤ U ∧ U ≤ 2147480000) (hgo : XEN fb d σ0 K (T + 2712) (U + 400) p i k x5 W R (cCmd P p L) Q) : WP fb (d + 20) 96 70 [some (vR (some 128)), some (vI p), some (vR (some (prO p))), some (vI i), some (vR (some k)), x5] [] σ Q := by
  have hb : byt (lnB L 0) := byt_lnB hC.2.2.2.1.2.2.2.2.2.1
  have hv : vbN (lnB L 0) = 8 := by rw [ht]; decide +kernel
  have hk : pkW (lnB L 0) = 28022 := (pk_txt (by decide) hb (by decide) (by decide) (by decide +kernel) (by decide)).mpr ht
  obtain ⟨N, hN⟩ : ∃ q : Int, ((lnW L).length : Int) = q := ⟨_, rfl⟩
  rw [cm_mv hk hN] at hgo
  by_cases q : N = 3
  · rw [if_pos q] at hgo
    exact ev_c8 hP hC hN0 hv (CL.mono (x_mv (fb := fb) (d := d + 9) hP hX (by omega) hp hJ.1 hC (hN.trans q)) (fun r σ1 h => XCM.up (by omega) (by omega) h)) hgo
  · rw [if_neg q] at hgo
    exact ev_c8 hP hC hN0 hv (CL.mono (x_mv18 (fb := fb) (d := d + 9) hP hp hC hN q) (fun r σ1 h => XCM.e18 hP hX (by omega) (by omega) h)) hgo
theorem ev_d9 {x5 : Option AV} (hp : 0 ≤ p ∧ p < 8) (hP : PX σ0 W R σ) (hX : XW K T U W R P) (hC : CMD W k L) (hN0 : 0 < ((lnW L).length : Int)) (ht : lnB L 0 = txt 30) (hJ : CJ T P p L) (hT : T + 3200 ≤ 2147483000) (hU : 10000 ≤ U ∧ U ≤ 2147480000) (hgo : XEN fb d σ0 K (T + 2712) (U + 400) p i k x5 W R (cCmd P p L) Q) : WP fb (d + 20) 96 70 [some (vR (some 128)), some (vI p), some (vR (some (prO p))), some (vI i), some (vR (some k)), x5] [] σ Q := by
  have hb : byt (lnB L 0) := byt_lnB hC.2.2.2.1.2.2.2.2.2.1
  have hv : vbN (lnB L 0) = 9 := by rw [ht]; decide +kernel
  have hk : pkW (lnB L 0) = 1936292453 := (pk_txt (by decide) hb (by decide) (by decide) (by decide +kernel) (by decide)).mpr ht
  obtain ⟨N, hN⟩ : ∃ q : Int, ((lnW L).length : Int) = q := ⟨_, rfl⟩
  rw [cm_size hk hN] at hgo
  by_cases q : N = 3
  · rw [if_pos q] at hgo
    exact ev_c9 hP hC hN0 hv (CL.mono (x_size_c (fb := fb) (d := d + 9) hP hX (by omega) hp hJ.1 hC (hN.trans q)) (fun r σ1 h => XCM.up (by omega) (by omega) h)) hgo
  · rw [if_neg q] at hgo
    exact ev_c9 hP hC hN0 hv (CL.mono (x_size18 (fb := fb) (d := d + 9) hP hp hC hN q) (fun r σ1 h => XCM.e18 hP hX (by omega) (by omega) h)) hgo
theorem ev_d10 {x5 : Option AV} (hp : 0 ≤ p ∧ p < 8) (hP : PX σ0 W R σ) (hX : XW K T U W R P) (hC : CMD W k L) (hN0 : 0 < ((lnW L).length : Int)) (ht : lnB L 0 = txt 31) (hJ : CJ T P p L) (hT : T + 3200 ≤ 2147483000) (hU : 10000 ≤ U ∧ U ≤ 2147480000) (hgo : XEN fb d σ0 K (T + 2712) (U + 400) p i k x5 W R (cCmd P p L) Q) : WP fb (d + 20) 96 70 [some (vR (some 128)), some (vI p), some (vR (some (prO p))), some (vI i), some (vR (some k)), x5] [] σ Q := by
  have hb : byt (lnB L 0) := byt_lnB hC.2.2.2.1.2.2.2.2.2.1
  have hv : vbN (lnB L 0) = 10 := by rw [ht]; decide +kernel
  have hk : pkW (lnB L 0) = 426953764708 := (pk_txt (by decide) hb (by decide) (by decide) (by decide +kernel) (by decide)).mpr ht
  obtain ⟨N, hN⟩ : ∃ q : Int, ((lnW L).length : Int) = q := ⟨_, rfl⟩
  rw [cm_chmod hk hN] at hgo
  by_cases q : N = 3
  · rw [if_pos q] at hgo
    exact ev_c10 hP hC hN0 hv (CL.mono (x_chmod (fb := fb) (d := d + 9) hP hX (by omega) hp hJ.1 hC (hN.trans q)) (fun r σ1 h => XCM.up (by omega) (by omega) h)) hgo
  · rw [if_neg q] at hgo
    exact ev_c10 hP hC hN0 hv (CL.mono (x_chmod18 (fb := fb) (d := d + 9) hP hp hC hN q) (fun r σ1 h => XCM.e18 hP hX (by omega) (by omega) h)) hgo
theorem ev_d11 {x5 : Option AV} (hp : 0 ≤ p ∧ p < 8) (hP : PX σ0 W R σ) (hX : XW K T U W R P) (hC : CMD W k L) (hN0 : 0 < ((lnW L).length : Int)) (ht : lnB L 0 = txt 32) (hJ : CJ T P p L) (hT : T + 3200 ≤ 2147483000) (hU : 10000 ≤ U ∧ U ≤ 2147480000) (hgo : XEN fb d σ0 K (T + 2712) (U + 400) p i k x5 W R (cCmd P p L) Q) : WP fb (d + 20) 96 70 [some (vR (some 128)), some (vI p), some (vR (some (prO p))), some (vI i), some (vR (some k)), x5] [] σ Q := by
  have hb : byt (lnB L 0) := byt_lnB hC.2.2.2.1.2.2.2.2.2.1
  have hv : vbN (lnB L 0) = 11 := by rw [ht]; decide +kernel
  have hk : pkW (lnB L 0) = 1937006964 := (pk_txt (by decide) hb (by decide) (by decide) (by decide +kernel) (by decide)).mpr ht
  obtain ⟨N, hN⟩ : ∃ q : Int, ((lnW L).length : Int) = q := ⟨_, rfl⟩
  rw [cm_stat hk hN] at hgo
  by_cases q : N = 2
  · rw [if_pos q] at hgo
    exact ev_c11 hP hC hN0 hv (CL.mono (x_stat (fb := fb) (d := d + 9) hP hX (by omega) hp hJ.1 hC (hN.trans q)) (fun r σ1 h => XCM.up (by omega) (by omega) h)) hgo
  · rw [if_neg q] at hgo
    exact ev_c11 hP hC hN0 hv (CL.mono (x_stat18 (fb := fb) (d := d + 9) hP hp hC hN q) (fun r σ1 h => XCM.e18 hP hX (by omega) (by omega) h)) hgo
theorem ev_d12 {x5 : Option AV} (hp : 0 ≤ p ∧ p < 8) (hP : PX σ0 W R σ) (hX : XW K T U W R P) (hC : CMD W k L) (hN0 : 0 < ((lnW L).length : Int)) (ht : lnB L 0 = txt 33) (hJ : CJ T P p L) (hT : T + 3200 ≤ 2147483000) (hU : 10000 ≤ U ∧ U ≤ 2147480000) (hgo : XEN fb d σ0 K (T + 2712) (U + 400) p i k x5 W R (cCmd P p L) Q) : WP fb (d + 20) 96 70 [some (vR (some 128)), some (vI p), some (vR (some (prO p))), some (vI i), some (vR (some k)), x5] [] σ Q := by
  have hb : byt (lnB L 0) := byt_lnB hC.2.2.2.1.2.2.2.2.2.1
  have hv : vbN (lnB L 0) = 12 := by rw [ht]; decide +kernel
  have hk : pkW (lnB L 0) = 1869636974 := (pk_txt (by decide) hb (by decide) (by decide) (by decide +kernel) (by decide)).mpr ht
  obtain ⟨N, hN⟩ : ∃ q : Int, ((lnW L).length : Int) = q := ⟨_, rfl⟩
  rw [cm_open hk hN] at hgo
  by_cases q : N = 3
  · rw [if_pos q] at hgo
    exact ev_c12 hP hC hN0 hv (CL.mono (x_openC (fb := fb) (d := d + 9) hP hX (by omega) hU.1 hp hJ.1 hC (hN.trans q)) (fun r σ1 h => XCM.up (by omega) (by omega) h)) hgo
  · rw [if_neg q] at hgo
    exact ev_c12 hP hC hN0 hv (CL.mono (x_open18 (fb := fb) (d := d + 9) hP hp hC hN q) (fun r σ1 h => XCM.e18 hP hX (by omega) (by omega) h)) hgo
theorem ev_d13 {x5 : Option AV} (hp : 0 ≤ p ∧ p < 8) (hP : PX σ0 W R σ) (hX : XW K T U W R P) (hC : CMD W k L) (hN0 : 0 < ((lnW L).length : Int)) (ht : lnB L 0 = txt 34) (hJ : CJ T P p L) (hT : T + 3200 ≤ 2147483000) (hU : 10000 ≤ U ∧ U ≤ 2147480000) (hgo : XEN fb d σ0 K (T + 2712) (U + 400) p i k x5 W R (cCmd P p L) Q) : WP fb (d + 20) 96 70 [some (vR (some 128)), some (vI p), some (vR (some (prO p))), some (vI i), some (vR (some k)), x5] [] σ Q := by
  have hb : byt (lnB L 0) := byt_lnB hC.2.2.2.1.2.2.2.2.2.1
  have hv : vbN (lnB L 0) = 13 := by rw [ht]; decide +kernel
  have hk : pkW (lnB L 0) = 1919246692 := (pk_txt (by decide) hb (by decide) (by decide) (by decide +kernel) (by decide)).mpr ht
  obtain ⟨N, hN⟩ : ∃ q : Int, ((lnW L).length : Int) = q := ⟨_, rfl⟩
  rw [cm_read hk hN] at hgo
  by_cases q : N = 3
  · rw [if_pos q] at hgo
    exact ev_c13 hP hC hN0 hv (CL.mono (x_read (fb := fb) (d := d + 9) hP hX (by omega) ⟨by omega, hU.2⟩ hp hJ.1 hC (hN.trans q)) (fun r σ1 h => XCM.up (by omega) (by omega) h)) hgo
  · rw [if_neg q] at hgo
    exact ev_c13 hP hC hN0 hv (CL.mono (x_read18 (fb := fb) (d := d + 9) hP hp hC hN q) (fun r σ1 h => XCM.e18 hP hX (by omega) (by omega) h)) hgo
theorem ev_d14 {x5 : Option AV} (hp : 0 ≤ p ∧ p < 8) (hP : PX σ0 W R σ) (hX : XW K T U W R P) (hC : CMD W k L) (hN0 : 0 < ((lnW L).length : Int)) (ht : lnB L 0 = txt 35) (hJ : CJ T P p L) (hT : T + 3200 ≤ 2147483000) (hU : 10000 ≤ U ∧ U ≤ 2147480000) (hgo : XEN fb d σ0 K (T + 2712) (U + 400) p i k x5 W R (cCmd P p L) Q) : WP fb (d + 20) 96 70 [some (vR (some 128)), some (vI p), some (vR (some (prO p))), some (vI i), some (vR (some k)), x5] [] σ Q := by
  have hb : byt (lnB L 0) := byt_lnB hC.2.2.2.1.2.2.2.2.2.1
  have hv : vbN (lnB L 0) = 14 := by rw [ht]; decide +kernel
  have hk : pkW (lnB L 0) = 513020621925 := (pk_txt (by decide) hb (by decide) (by decide) (by decide +kernel) (by decide)).mpr ht
  obtain ⟨N, hN⟩ : ∃ q : Int, ((lnW L).length : Int) = q := ⟨_, rfl⟩
  rw [cm_write hk hN] at hgo
  by_cases q : N = 3
  · rw [if_pos q] at hgo
    exact ev_c14 hP hC hN0 hv (CL.mono (x_write (fb := fb) (d := d + 9) hP hX (by omega) ⟨by omega, hU.2⟩ hp hJ.1 hC (hN.trans q)) (fun r σ1 h => XCM.up (by omega) (by omega) h)) hgo
  · rw [if_neg q] at hgo
    exact ev_c14 hP hC hN0 hv (CL.mono (x_write18 (fb := fb) (d := d + 9) hP hp hC hN q) (fun r σ1 h => XCM.e18 hP hX (by omega) (by omega) h)) hgo
theorem ev_d15 {x5 : Option AV} (hp : 0 ≤ p ∧ p < 8) (hP : PX σ0 W R σ) (hX : XW K T U W R P) (hC : CMD W k L) (hN0 : 0 < ((lnW L).length : Int)) (ht : lnB L 0 = txt 36) (hJ : CJ T P p L) (hT : T + 3200 ≤ 2147483000) (hU : 10000 ≤ U ∧ U ≤ 2147480000) (hgo : XEN fb d σ0 K (T + 2712) (U + 400) p i k x5 W R (cCmd P p L) Q) : WP fb (d + 20) 96 70 [some (vR (some 128)), some (vI p), some (vR (some (prO p))), some (vI i), some (vR (some k)), x5] [] σ Q := by
  have hb : byt (lnB L 0) := byt_lnB hC.2.2.2.1.2.2.2.2.2.1
  have hv : vbN (lnB L 0) = 15 := by rw [ht]; decide +kernel
  have hk : pkW (lnB L 0) = 1936024939 := (pk_txt (by decide) hb (by decide) (by decide) (by decide +kernel) (by decide)).mpr ht
  obtain ⟨N, hN⟩ : ∃ q : Int, ((lnW L).length : Int) = q := ⟨_, rfl⟩
  rw [cm_seek hk hN] at hgo
  by_cases q : N = 3
  · rw [if_pos q] at hgo
    exact ev_c15 hP hC hN0 hv (CL.mono (x_seek (fb := fb) (d := d + 15) hP hX hU.1 hp hJ.1 hC (hN.trans q)) (fun r σ1 h => XCM.up (by omega) (by omega) h)) hgo
  · rw [if_neg q] at hgo
    exact ev_c15 hP hC hN0 hv (CL.mono (x_seek18 (fb := fb) (d := d + 9) hP hp hC hN q) (fun r σ1 h => XCM.e18 hP hX (by omega) (by omega) h)) hgo
theorem ev_d16 {x5 : Option AV} (hp : 0 ≤ p ∧ p < 8) (hP : PX σ0 W R σ) (hX : XW K T U W R P) (hC : CMD W k L) (hN0 : 0 < ((lnW L).length : Int)) (ht : lnB L 0 = txt 37) (hJ : CJ T P p L) (hT : T + 3200 ≤ 2147483000) (hU : 10000 ≤ U ∧ U ≤ 2147480000) (hgo : XEN fb d σ0 K (T + 2712) (U + 400) p i k x5 W R (cCmd P p L) Q) : WP fb (d + 20) 96 70 [some (vR (some 128)), some (vI p), some (vR (some (prO p))), some (vI i), some (vR (some k)), x5] [] σ Q := by
  have hb : byt (lnB L 0) := byt_lnB hC.2.2.2.1.2.2.2.2.2.1
  have hv : vbN (lnB L 0) = 16 := by rw [ht]; decide +kernel
  have hk : pkW (lnB L 0) = 427021005669 := (pk_txt (by decide) hb (by decide) (by decide) (by decide +kernel) (by decide)).mpr ht
  obtain ⟨N, hN⟩ : ∃ q : Int, ((lnW L).length : Int) = q := ⟨_, rfl⟩
  rw [cm_close hk hN] at hgo
  by_cases q : N = 2
  · rw [if_pos q] at hgo
    exact ev_c16 hP hC hN0 hv (CL.mono (x_close (fb := fb) (d := d + 10) hP hX (by omega) hp hJ.1 hC (hN.trans q) hJ.2.2.2.1) (fun r σ1 h => XCM.up (by omega) (by omega) h)) hgo
  · rw [if_neg q] at hgo
    exact ev_c16 hP hC hN0 hv (CL.mono (x_close18 (fb := fb) (d := d + 9) hP hp hC hN q) (fun r σ1 h => XCM.e18 hP hX (by omega) (by omega) h)) hgo
theorem ev_d17 {x5 : Option AV} (hp : 0 ≤ p ∧ p < 8) (hP : PX σ0 W R σ) (hX : XW K T U W R P) (hC : CMD W k L) (hN0 : 0 < ((lnW L).length : Int)) (ht : lnB L 0 = txt 38) (hJ : CJ T P p L) (hT : T + 3200 ≤ 2147483000) (hU : 10000 ≤ U ∧ U ≤ 2147480000) (hgo : XEN fb d σ0 K (T + 2712) (U + 400) p i k x5 W R (cCmd P p L) Q) : WP fb (d + 20) 96 70 [some (vR (some 128)), some (vI p), some (vR (some (prO p))), some (vI i), some (vR (some k)), x5] [] σ Q := by
  have hb : byt (lnB L 0) := byt_lnB hC.2.2.2.1.2.2.2.2.2.1
  have hv : vbN (lnB L 0) = 17 := by rw [ht]; decide +kernel
  have hk : pkW (lnB L 0) = 1651076708 := (pk_txt (by decide) hb (by decide) (by decide) (by decide +kernel) (by decide)).mpr ht
  obtain ⟨N, hN⟩ : ∃ q : Int, ((lnW L).length : Int) = q := ⟨_, rfl⟩
  rw [cm_bind hk hN] at hgo
  by_cases q : (3 ≤ N ∧ N ≤ 4)
  · rw [if_pos q] at hgo
    exact ev_c17 hP hC hN0 hv (CL.mono (x_bind (fb := fb) (d := d + 8) hP hX (by omega) hp hJ.1 hC hN (by omega) (hJ.2.2.2.2.1 N hN (by omega)).1 (hJ.2.2.2.2.1 N hN (by omega)).2.1) (fun r σ1 h => XCM.up (by omega) (by omega) h)) hgo
  · rw [if_neg q] at hgo
    exact ev_c17 hP hC hN0 hv (CL.mono (x_bind18 (fb := fb) (d := d + 8) hP hp hC hN q) (fun r σ1 h => XCM.e18 hP hX (by omega) (by omega) h)) hgo
theorem ev_d18 {x5 : Option AV} (hp : 0 ≤ p ∧ p < 8) (hP : PX σ0 W R σ) (hX : XW K T U W R P) (hC : CMD W k L) (hN0 : 0 < ((lnW L).length : Int)) (ht : lnB L 0 = txt 39) (hJ : CJ T P p L) (hT : T + 3200 ≤ 2147483000) (hU : 10000 ≤ U ∧ U ≤ 2147480000) (hgo : XEN fb d σ0 K (T + 2712) (U + 400) p i k x5 W R (cCmd P p L) Q) : WP fb (d + 20) 96 70 [some (vR (some 128)), some (vI p), some (vR (some (prO p))), some (vI i), some (vR (some k)), x5] [] σ Q := by
  have hb : byt (lnB L 0) := byt_lnB hC.2.2.2.1.2.2.2.2.2.1
  have hv : vbN (lnB L 0) = 18 := by rw [ht]; decide +kernel
  have hk : pkW (lnB L 0) = 470021402228 := (pk_txt (by decide) hb (by decide) (by decide) (by decide +kernel) (by decide)).mpr ht
  obtain ⟨N, hN⟩ : ∃ q : Int, ((lnW L).length : Int) = q := ⟨_, rfl⟩
  rw [cm_mount hk hN] at hgo
  by_cases q : (3 ≤ N ∧ N ≤ 4)
  · rw [if_pos q] at hgo
    exact ev_c18 hP hC hN0 hv (CL.mono (x_mount (fb := fb) (d := d + 8) hP hX (by omega) hp hJ.1 hC hN (by omega) (hJ.2.2.2.2.1 N hN (by omega)).2.2) (fun r σ1 h => XCM.up (by omega) (by omega) h)) hgo
  · rw [if_neg q] at hgo
    exact ev_c18 hP hC hN0 hv (CL.mono (x_mount18 (fb := fb) (d := d + 8) hP hp hC hN q) (fun r σ1 h => XCM.e18 hP hX (by omega) (by omega) h)) hgo
theorem ev_d19 {x5 : Option AV} (hp : 0 ≤ p ∧ p < 8) (hP : PX σ0 W R σ) (hX : XW K T U W R P) (hC : CMD W k L) (hN0 : 0 < ((lnW L).length : Int)) (ht : lnB L 0 = txt 40) (hJ : CJ T P p L) (hT : T + 3200 ≤ 2147483000) (hU : 10000 ≤ U ∧ U ≤ 2147480000) (hgo : XEN fb d σ0 K (T + 2712) (U + 400) p i k x5 W R (cCmd P p L) Q) : WP fb (d + 20) 96 70 [some (vR (some 128)), some (vI p), some (vR (some (prO p))), some (vI i), some (vR (some k)), x5] [] σ Q := by
  have hb : byt (lnB L 0) := byt_lnB hC.2.2.2.1.2.2.2.2.2.1
  have hv : vbN (lnB L 0) = 19 := by rw [ht]; decide +kernel
  have hk : pkW (lnB L 0) = 33053988575604340 := (pk_txt (by decide) hb (by decide) (by decide) (by decide +kernel) (by decide)).mpr ht
  obtain ⟨N, hN⟩ : ∃ q : Int, ((lnW L).length : Int) = q := ⟨_, rfl⟩
  rw [cm_unmount hk hN] at hgo
  by_cases q : (2 ≤ N ∧ N ≤ 3)
  · rw [if_pos q] at hgo
    exact ev_c19 hP hC hN0 hv (CL.mono (x_unmount (fb := fb) (d := d + 9) hP hX (by omega) hp hJ.1 hC hN (by omega)) (fun r σ1 h => XCM.up (by omega) (by omega) h)) hgo
  · rw [if_neg q] at hgo
    exact ev_c19 hP hC hN0 hv (CL.mono (x_unmount18 (fb := fb) (d := d + 9) hP hp hC hN q) (fun r σ1 h => XCM.e18 hP hX (by omega) (by omega) h)) hgo
theorem ev_d20 {x5 : Option AV} (hp : 0 ≤ p ∧ p < 8) (hP : PX σ0 W R σ) (hX : XW K T U W R P) (hC : CMD W k L) (hN0 : 0 < ((lnW L).length : Int)) (ht : lnB L 0 = txt 41) (hJ : CJ T P p L) (hT : T + 3200 ≤ 2147483000) (hU : 10000 ≤ U ∧ U ≤ 2147480000) (hgo : XEN fb d σ0 K (T + 2712) (U + 400) p i k x5 W R (cCmd P p L) Q) : WP fb (d + 20) 96 70 [some (vR (some 128)), some (vI p), some (vR (some (prO p))), some (vI i), some (vR (some k)), x5] [] σ Q := by
  have hb : byt (lnB L 0) := byt_lnB hC.2.2.2.1.2.2.2.2.2.1
  have hv : vbN (lnB L 0) = 20 := by rw [ht]; decide +kernel
  have hk : pkW (lnB L 0) = 1718579819 := (pk_txt (by decide) hb (by decide) (by decide) (by decide +kernel) (by decide)).mpr ht
  obtain ⟨N, hN⟩ : ∃ q : Int, ((lnW L).length : Int) = q := ⟨_, rfl⟩
  rw [cm_fork hk hN] at hgo
  exact ev_c20 hP hC hN0 hv (CL.mono (x_fork (fb := fb) (d := d + 9) hP hX (by omega) hp hJ.1 hJ.2.2.2.2.2 hC hN) (fun r σ1 h => XCM.up (by omega) (by omega) h)) hgo
theorem ev_d21 {x5 : Option AV} (hp : 0 ≤ p ∧ p < 8) (hP : PX σ0 W R σ) (hX : XW K T U W R P) (hC : CMD W k L) (hN0 : 0 < ((lnW L).length : Int)) (ht : lnB L 0 = txt 42) (hJ : CJ T P p L) (hT : T + 3200 ≤ 2147483000) (hU : 10000 ≤ U ∧ U ≤ 2147480000) (hgo : XEN fb d σ0 K (T + 2712) (U + 400) p i k x5 W R (cCmd P p L) Q) : WP fb (d + 20) 96 70 [some (vR (some 128)), some (vI p), some (vR (some (prO p))), some (vI i), some (vR (some k)), x5] [] σ Q := by
  have hb : byt (lnB L 0) := byt_lnB hC.2.2.2.1.2.2.2.2.2.1
  have hv : vbN (lnB L 0) = 21 := by rw [ht]; decide +kernel
  have hk : pkW (lnB L 0) = 1702390132 := (pk_txt (by decide) hb (by decide) (by decide) (by decide +kernel) (by decide)).mpr ht
  obtain ⟨N, hN⟩ : ∃ q : Int, ((lnW L).length : Int) = q := ⟨_, rfl⟩
  rw [cm_exit hk hN] at hgo
  by_cases q : N = 1
  · rw [if_pos q] at hgo
    exact ev_c21 hP hC hN0 hv (CL.mono (x_exit (fb := fb) (d := d + 19) hP hX hp hC (hN.trans q)) (fun r σ1 h => XCM.up (by omega) (by omega) h)) hgo
  · rw [if_neg q] at hgo
    exact ev_c21 hP hC hN0 hv (CL.mono (x_exit18 (fb := fb) (d := d + 9) hP hp hC hN q) (fun r σ1 h => XCM.e18 hP hX (by omega) (by omega) h)) hgo
theorem ev_d22 {x5 : Option AV} (hp : 0 ≤ p ∧ p < 8) (hP : PX σ0 W R σ) (hX : XW K T U W R P) (hC : CMD W k L) (hN0 : 0 < ((lnW L).length : Int)) (ht : lnB L 0 = txt 43) (hJ : CJ T P p L) (hT : T + 3200 ≤ 2147483000) (hU : 10000 ≤ U ∧ U ≤ 2147480000) (hgo : XEN fb d σ0 K (T + 2712) (U + 400) p i k x5 W R (cCmd P p L) Q) : WP fb (d + 20) 96 70 [some (vR (some 128)), some (vI p), some (vR (some (prO p))), some (vI i), some (vR (some k)), x5] [] σ Q := by
  have hb : byt (lnB L 0) := byt_lnB hC.2.2.2.1.2.2.2.2.2.1
  have hv : vbN (lnB L 0) = 22 := by rw [ht]; decide +kernel
  have hk : pkW (lnB L 0) = 7562612 := (pk_txt (by decide) hb (by decide) (by decide) (by decide +kernel) (by decide)).mpr ht
  obtain ⟨N, hN⟩ : ∃ q : Int, ((lnW L).length : Int) = q := ⟨_, rfl⟩
  rw [cm_set hk hN] at hgo
  by_cases q : (2 ≤ N ∧ N ≤ 3)
  · rw [if_pos q] at hgo
    exact ev_c22 hP hC hN0 hv (CL.mono (x_set (fb := fb) (d := d + 15) hP hX hp hJ.1 hC hN (by omega)) (fun r σ1 h => XCM.up (by omega) (by omega) h)) hgo
  · rw [if_neg q] at hgo
    exact ev_c22 hP hC hN0 hv (CL.mono (x_set18 (fb := fb) (d := d + 9) hP hp hC hN (by omega)) (fun r σ1 h => XCM.e18 hP hX (by omega) (by omega) h)) hgo
theorem ev_cmd {x5 : Option AV} (hp : 0 ≤ p ∧ p < 8) (hP : PX σ0 W R σ) (hX : XW K T U W R P) (hC : CMD W k L) (hN0 : 0 < ((lnW L).length : Int)) (hv : ¬ (23 ≤ vbN (lnB L 0) ∧ vbN (lnB L 0) ≤ 25)) (hJ : CJ T P p L) (hT : T + 3200 ≤ 2147483000) (hU : 10000 ≤ U ∧ U ≤ 2147480000) (hgo : XEN fb d σ0 K (T + 2712) (U + 400) p i k x5 W R (cCmd P p L) Q) : WP fb (d + 20) 96 70 [some (vR (some 128)), some (vI p), some (vR (some (prO p))), some (vI i), some (vR (some k)), x5] [] σ Q := by
  by_cases q1 : lnB L 0 = txt 22
  · exact ev_d1 hp hP hX hC hN0 q1 hJ hT hU hgo
  by_cases q2 : lnB L 0 = txt 23
  · exact ev_d2 hp hP hX hC hN0 q2 hJ hT hU hgo
  by_cases q3 : lnB L 0 = txt 24
  · exact ev_d3 hp hP hX hC hN0 q3 hJ hT hU hgo
  by_cases q4 : lnB L 0 = txt 25
  · exact ev_d4 hp hP hX hC hN0 q4 hJ hT hU hgo
  by_cases q5 : lnB L 0 = txt 26
  · exact ev_d5 hp hP hX hC hN0 q5 hJ hT hU hgo
  by_cases q6 : lnB L 0 = txt 27
  · exact ev_d6 hp hP hX hC hN0 q6 hJ hT hU hgo
  by_cases q7 : lnB L 0 = txt 28
  · exact ev_d7 hp hP hX hC hN0 q7 hJ hT hU hgo
  by_cases q8 : lnB L 0 = txt 29
  · exact ev_d8 hp hP hX hC hN0 q8 hJ hT hU hgo
  by_cases q9 : lnB L 0 = txt 30
  · exact ev_d9 hp hP hX hC hN0 q9 hJ hT hU hgo
  by_cases q10 : lnB L 0 = txt 31
  · exact ev_d10 hp hP hX hC hN0 q10 hJ hT hU hgo
  by_cases q11 : lnB L 0 = txt 32
  · exact ev_d11 hp hP hX hC hN0 q11 hJ hT hU hgo
  by_cases q12 : lnB L 0 = txt 33
  · exact ev_d12 hp hP hX hC hN0 q12 hJ hT hU hgo
  by_cases q13 : lnB L 0 = txt 34
  · exact ev_d13 hp hP hX hC hN0 q13 hJ hT hU hgo
  by_cases q14 : lnB L 0 = txt 35
  · exact ev_d14 hp hP hX hC hN0 q14 hJ hT hU hgo
  by_cases q15 : lnB L 0 = txt 36
  · exact ev_d15 hp hP hX hC hN0 q15 hJ hT hU hgo
  by_cases q16 : lnB L 0 = txt 37
  · exact ev_d16 hp hP hX hC hN0 q16 hJ hT hU hgo
  by_cases q17 : lnB L 0 = txt 38
  · exact ev_d17 hp hP hX hC hN0 q17 hJ hT hU hgo
  by_cases q18 : lnB L 0 = txt 39
  · exact ev_d18 hp hP hX hC hN0 q18 hJ hT hU hgo
  by_cases q19 : lnB L 0 = txt 40
  · exact ev_d19 hp hP hX hC hN0 q19 hJ hT hU hgo
  by_cases q20 : lnB L 0 = txt 41
  · exact ev_d20 hp hP hX hC hN0 q20 hJ hT hU hgo
  by_cases q21 : lnB L 0 = txt 42
  · exact ev_d21 hp hP hX hC hN0 q21 hJ hT hU hgo
  by_cases q22 : lnB L 0 = txt 43
  · exact ev_d22 hp hP hX hC hN0 q22 hJ hT hU hgo
  by_cases q23 : lnB L 0 = txt 44
  · exact absurd (show vbN (lnB L 0) = 23 by rw [q23]; decide +kernel) (by omega)
  by_cases q24 : lnB L 0 = txt 45
  · exact absurd (show vbN (lnB L 0) = 24 by rw [q24]; decide +kernel) (by omega)
  by_cases q25 : lnB L 0 = txt 46
  · exact absurd (show vbN (lnB L 0) = 25 by rw [q25]; decide +kernel) (by omega)
  have hv26 : vbN (lnB L 0) = 26 := by
    unfold vbN
    rw [if_neg q1, if_neg q2, if_neg q3, if_neg q4, if_neg q5, if_neg q6, if_neg q7, if_neg q8, if_neg q9, if_neg q10, if_neg q11, if_neg q12, if_neg q13, if_neg q14, if_neg q15, if_neg q16, if_neg q17, if_neg q18, if_neg q19, if_neg q20, if_neg q21, if_neg q22, if_neg q23, if_neg q24, if_neg q25]
  have hb : byt (lnB L 0) := byt_lnB hC.2.2.2.1.2.2.2.2.2.1
  rw [cm_no (fun c => by
    rcases c with c | c | c | c | c | c | c | c | c | c | c | c | c | c | c | c | c | c | c | c | c | c
    · exact q1 ((pk_txt (by decide) hb (by decide) (by decide) (by decide +kernel) (by decide)).mp c)
    · exact q2 ((pk_txt (by decide) hb (by decide) (by decide) (by decide +kernel) (by decide)).mp c)
    · exact q3 ((pk_txt (by decide) hb (by decide) (by decide) (by decide +kernel) (by decide)).mp c)
    · exact q4 ((pk_txt (by decide) hb (by decide) (by decide) (by decide +kernel) (by decide)).mp c)
    · exact q5 ((pk_txt (by decide) hb (by decide) (by decide) (by decide +kernel) (by decide)).mp c)
    · exact q6 ((pk_txt (by decide) hb (by decide) (by decide) (by decide +kernel) (by decide)).mp c)
    · exact q7 ((pk_txt (by decide) hb (by decide) (by decide) (by decide +kernel) (by decide)).mp c)
    · exact q8 ((pk_txt (by decide) hb (by decide) (by decide) (by decide +kernel) (by decide)).mp c)
    · exact q9 ((pk_txt (by decide) hb (by decide) (by decide) (by decide +kernel) (by decide)).mp c)
    · exact q10 ((pk_txt (by decide) hb (by decide) (by decide) (by decide +kernel) (by decide)).mp c)
    · exact q11 ((pk_txt (by decide) hb (by decide) (by decide) (by decide +kernel) (by decide)).mp c)
    · exact q12 ((pk_txt (by decide) hb (by decide) (by decide) (by decide +kernel) (by decide)).mp c)
    · exact q13 ((pk_txt (by decide) hb (by decide) (by decide) (by decide +kernel) (by decide)).mp c)
    · exact q14 ((pk_txt (by decide) hb (by decide) (by decide) (by decide +kernel) (by decide)).mp c)
    · exact q15 ((pk_txt (by decide) hb (by decide) (by decide) (by decide +kernel) (by decide)).mp c)
    · exact q16 ((pk_txt (by decide) hb (by decide) (by decide) (by decide +kernel) (by decide)).mp c)
    · exact q17 ((pk_txt (by decide) hb (by decide) (by decide) (by decide +kernel) (by decide)).mp c)
    · exact q18 ((pk_txt (by decide) hb (by decide) (by decide) (by decide +kernel) (by decide)).mp c)
    · exact q19 ((pk_txt (by decide) hb (by decide) (by decide) (by decide +kernel) (by decide)).mp c)
    · exact q20 ((pk_txt (by decide) hb (by decide) (by decide) (by decide +kernel) (by decide)).mp c)
    · exact q21 ((pk_txt (by decide) hb (by decide) (by decide) (by decide +kernel) (by decide)).mp c)
    · exact q22 ((pk_txt (by decide) hb (by decide) (by decide) (by decide +kernel) (by decide)).mp c))] at hgo
  exact ev_c26 hP hC hN0 hv26 ((hX.mono (by omega)).monoU (by omega)) hgo
end XDIS
