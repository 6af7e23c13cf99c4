/-! What each verb's command comes to, and the class's enter over all of them. -/
section XCMM
variable {fb : Bool} {d k : Nat} {σ0 σ : hM} {W P : qR} {R : rR} {i p v K T U N : Int} {l L : List Int} {Q : Option AV → hM → Prop}
theorem one_no (h : ¬ (v = 25444 ∨ v = 6513012 ∨ v = 27763 ∨ v = 469953177970 ∨ v = 29293 ∨ v = 1937006964 ∨ v = 427021005669 ∨ v = 1718579819)) : cOne P p l v = (18, P, []) := by
  unfold cOne
  rw [if_neg (by omega), if_neg (by omega), if_neg (by omega), if_neg (by omega), if_neg (by omega), if_neg (by omega), if_neg (by omega), if_neg (by omega)]
theorem two_no (h : ¬ (v = 28022 ∨ v = 1936292453 ∨ v = 426953764708 ∨ v = 1869636974 ∨ v = 1919246692 ∨ v = 513020621925 ∨ v = 1936024939)) : cTwo P p l v = (18, P, []) := by
  unfold cTwo
  rw [if_neg (by omega), if_neg (by omega), if_neg (by omega), if_neg (by omega), if_neg (by omega), if_neg (by omega), if_neg (by omega)]
theorem cm_cd (hk : pkW (lnB l 0) = 25444) (hN : ((lnW l).length : Int) = N) : cCmd P p l = (if N = 2 then cCd P p (lnB l 1) else (18, P, [])) := by
  unfold cCmd
  rw [hk, hN]
  by_cases hn : N = 2
  · rw [show (if N = 2 then cCd P p (lnB l 1) else (18, P, [])) = cCd P p (lnB l 1) from if_pos hn]
    rw [if_neg (by decide), if_neg (fun c => absurd c.1 (by decide)), if_neg (fun c => absurd c.1 (by decide)), if_neg (fun c => absurd c.1 (by decide)), if_neg (fun c => absurd c.1 (by decide)), if_neg (fun c => absurd c.2 (by decide)), if_pos hn]
    unfold cOne
    rw [if_pos rfl]
  · rw [show (if N = 2 then cCd P p (lnB l 1) else (18, P, [])) = (18, P, []) from if_neg hn, if_neg (by decide), if_neg (fun c => absurd c.1 (by decide)), if_neg (fun c => absurd c.1 (by decide)), if_neg (fun c => absurd c.1 (by decide)), if_neg (fun c => absurd c.1 (by decide)), if_neg (fun c => absurd c.2 (by decide))]
    rw [if_neg hn]
    by_cases a3 : N = 3
    · rw [if_pos a3, two_no (by decide)]
    rw [if_neg a3]
    rw [if_neg (fun c => absurd c.2 (by decide))]
theorem cm_cat (hk : pkW (lnB l 0) = 6513012) (hN : ((lnW l).length : Int) = N) : cCmd P p l = (if N = 2 then ((cCat P (-1) p (lnB l 1)).1, (cCat P (-1) p (lnB l 1)).2.1, (cCat P (-1) p (lnB l 1)).2.2.1) else (18, P, [])) := by
  unfold cCmd
  rw [hk, hN]
  by_cases hn : N = 2
  · rw [show (if N = 2 then ((cCat P (-1) p (lnB l 1)).1, (cCat P (-1) p (lnB l 1)).2.1, (cCat P (-1) p (lnB l 1)).2.2.1) else (18, P, [])) = ((cCat P (-1) p (lnB l 1)).1, (cCat P (-1) p (lnB l 1)).2.1, (cCat P (-1) p (lnB l 1)).2.2.1) from if_pos hn]
    rw [if_neg (by decide), if_neg (fun c => absurd c.1 (by decide)), if_neg (fun c => absurd c.1 (by decide)), if_neg (fun c => absurd c.1 (by decide)), if_neg (fun c => absurd c.1 (by decide)), if_neg (fun c => absurd c.2 (by decide)), if_pos hn]
    unfold cOne
    rw [if_neg (by decide), if_pos rfl]
  · rw [show (if N = 2 then ((cCat P (-1) p (lnB l 1)).1, (cCat P (-1) p (lnB l 1)).2.1, (cCat P (-1) p (lnB l 1)).2.2.1) else (18, P, [])) = (18, P, []) from if_neg hn, if_neg (by decide), if_neg (fun c => absurd c.1 (by decide)), if_neg (fun c => absurd c.1 (by decide)), if_neg (fun c => absurd c.1 (by decide)), if_neg (fun c => absurd c.1 (by decide)), if_neg (fun c => absurd c.2 (by decide))]
    rw [if_neg hn]
    by_cases a3 : N = 3
    · rw [if_pos a3, two_no (by decide)]
    rw [if_neg a3]
    rw [if_neg (fun c => absurd c.2 (by decide))]
theorem cm_ls (hk : pkW (lnB l 0) = 27763) (hN : ((lnW l).length : Int) = N) : cCmd P p l = (if N = 2 then cLs P p (lnB l 1) else (18, P, [])) := by
  unfold cCmd
  rw [hk, hN]
  by_cases hn : N = 2
  · rw [show (if N = 2 then cLs P p (lnB l 1) else (18, P, [])) = cLs P p (lnB l 1) from if_pos hn]
    rw [if_neg (by decide), if_neg (fun c => absurd c.1 (by decide)), if_neg (fun c => absurd c.1 (by decide)), if_neg (fun c => absurd c.1 (by decide)), if_neg (fun c => absurd c.1 (by decide)), if_neg (fun c => absurd c.2 (by decide)), if_pos hn]
    unfold cOne
    rw [if_neg (by decide), if_neg (by decide), if_pos rfl]
  · rw [show (if N = 2 then cLs P p (lnB l 1) else (18, P, [])) = (18, P, []) from if_neg hn, if_neg (by decide), if_neg (fun c => absurd c.1 (by decide)), if_neg (fun c => absurd c.1 (by decide)), if_neg (fun c => absurd c.1 (by decide)), if_neg (fun c => absurd c.1 (by decide)), if_neg (fun c => absurd c.2 (by decide))]
    rw [if_neg hn]
    by_cases a3 : N = 3
    · rw [if_pos a3, two_no (by decide)]
    rw [if_neg a3]
    rw [if_neg (fun c => absurd c.2 (by decide))]
theorem cm_echo (hk : pkW (lnB l 0) = 1701013615) : cCmd P p l = cEcho P p l := by
  unfold cCmd
  rw [hk, if_pos rfl]
theorem cm_mkdir (hk : pkW (lnB l 0) = 469953177970) (hN : ((lnW l).length : Int) = N) : cCmd P p l = (if N = 2 then kCreate P p (lnB l 1) 2147484159 0 else (18, P, [])) := by
  unfold cCmd
  rw [hk, hN]
  by_cases hn : N = 2
  · rw [show (if N = 2 then kCreate P p (lnB l 1) 2147484159 0 else (18, P, [])) = kCreate P p (lnB l 1) 2147484159 0 from if_pos hn]
    rw [if_neg (by decide), if_neg (fun c => absurd c.1 (by decide)), if_neg (fun c => absurd c.1 (by decide)), if_neg (fun c => absurd c.1 (by decide)), if_neg (fun c => absurd c.1 (by decide)), if_neg (fun c => absurd c.2 (by decide)), if_pos hn]
    unfold cOne
    rw [if_neg (by decide), if_neg (by decide), if_neg (by decide), if_pos rfl]
  · rw [show (if N = 2 then kCreate P p (lnB l 1) 2147484159 0 else (18, P, [])) = (18, P, []) from if_neg hn, if_neg (by decide), if_neg (fun c => absurd c.1 (by decide)), if_neg (fun c => absurd c.1 (by decide)), if_neg (fun c => absurd c.1 (by decide)), if_neg (fun c => absurd c.1 (by decide)), if_neg (fun c => absurd c.2 (by decide))]
    rw [if_neg hn]
    by_cases a3 : N = 3
    · rw [if_pos a3, two_no (by decide)]
    rw [if_neg a3]
    rw [if_neg (fun c => absurd c.2 (by decide))]
theorem cm_create (hk : pkW (lnB l 0) = 109342978307173) (hN : ((lnW l).length : Int) = N) : cCmd P p l = (if N = 4 then cCrt P p (nmN (lnB l 1) 8 3) (dgV (lnB l 3) 2) (lnB l 2) else (18, P, [])) := by
  unfold cCmd
  rw [hk, hN]
  by_cases hn : N = 4
  · rw [show (if N = 4 then cCrt P p (nmN (lnB l 1) 8 3) (dgV (lnB l 3) 2) (lnB l 2) else (18, P, [])) = cCrt P p (nmN (lnB l 1) 8 3) (dgV (lnB l 3) 2) (lnB l 2) from if_pos hn]
    rw [if_neg (by decide), if_neg (fun c => absurd c.1 (by decide)), if_neg (fun c => absurd c.1 (by decide)), if_neg (fun c => absurd c.1 (by decide)), if_neg (fun c => absurd c.1 (by decide)), if_neg (fun c => absurd c.2 (by decide)), if_neg (by omega), if_neg (by omega), if_pos ⟨hn, rfl⟩]
  · rw [show (if N = 4 then cCrt P p (nmN (lnB l 1) 8 3) (dgV (lnB l 3) 2) (lnB l 2) else (18, P, [])) = (18, P, []) from if_neg hn, if_neg (by decide), if_neg (fun c => absurd c.1 (by decide)), if_neg (fun c => absurd c.1 (by decide)), if_neg (fun c => absurd c.1 (by decide)), if_neg (fun c => absurd c.1 (by decide)), if_neg (fun c => absurd c.2 (by decide))]
    by_cases a2 : N = 2
    · rw [if_pos a2, one_no (by decide)]
    rw [if_neg a2]
    by_cases a3 : N = 3
    · rw [if_pos a3, two_no (by decide)]
    rw [if_neg a3]
    rw [if_neg (fun c => hn c.1)]
theorem cm_rm (hk : pkW (lnB l 0) = 29293) (hN : ((lnW l).length : Int) = N) : cCmd P p l = (if N = 2 then cRm P p (lnB l 1) else (18, P, [])) := by
  unfold cCmd
  rw [hk, hN]
  by_cases hn : N = 2
  · rw [show (if N = 2 then cRm P p (lnB l 1) else (18, P, [])) = cRm P p (lnB l 1) from if_pos hn]
    rw [if_neg (by decide), if_neg (fun c => absurd c.1 (by decide)), if_neg (fun c => absurd c.1 (by decide)), if_neg (fun c => absurd c.1 (by decide)), if_neg (fun c => absurd c.1 (by decide)), if_neg (fun c => absurd c.2 (by decide)), if_pos hn]
    unfold cOne
    rw [if_neg (by decide), if_neg (by decide), if_neg (by decide), if_neg (by decide), if_pos rfl]
  · rw [show (if N = 2 then cRm P p (lnB l 1) else (18, P, [])) = (18, P, []) from if_neg hn, if_neg (by decide), if_neg (fun c => absurd c.1 (by decide)), if_neg (fun c => absurd c.1 (by decide)), if_neg (fun c => absurd c.1 (by decide)), if_neg (fun c => absurd c.1 (by decide)), if_neg (fun c => absurd c.2 (by decide))]
    rw [if_neg hn]
    by_cases a3 : N = 3
    · rw [if_pos a3, two_no (by decide)]
    rw [if_neg a3]
    rw [if_neg (fun c => absurd c.2 (by decide))]
theorem cm_mv (hk : pkW (lnB l 0) = 28022) (hN : ((lnW l).length : Int) = N) : cCmd P p l = (if N = 3 then cMv P p (lnB l 1) (lnB l 2) else (18, P, [])) := by
  unfold cCmd
  rw [hk, hN]
  by_cases hn : N = 3
  · rw [show (if N = 3 then cMv P p (lnB l 1) (lnB l 2) else (18, P, [])) = cMv P p (lnB l 1) (lnB l 2) from if_pos hn]
    rw [if_neg (by decide), if_neg (fun c => absurd c.1 (by decide)), if_neg (fun c => absurd c.1 (by decide)), if_neg (fun c => absurd c.1 (by decide)), if_neg (fun c => absurd c.1 (by decide)), if_neg (fun c => absurd c.2 (by decide)), if_neg (by omega), if_pos hn]
    unfold cTwo
    rw [if_pos rfl]
  · rw [show (if N = 3 then cMv P p (lnB l 1) (lnB l 2) else (18, P, [])) = (18, P, []) from if_neg hn, if_neg (by decide), if_neg (fun c => absurd c.1 (by decide)), if_neg (fun c => absurd c.1 (by decide)), if_neg (fun c => absurd c.1 (by decide)), if_neg (fun c => absurd c.1 (by decide)), if_neg (fun c => absurd c.2 (by decide))]
    by_cases a2 : N = 2
    · rw [if_pos a2, one_no (by decide)]
    rw [if_neg a2]
    rw [if_neg hn]
    rw [if_neg (fun c => absurd c.2 (by decide))]
theorem cm_size (hk : pkW (lnB l 0) = 1936292453) (hN : ((lnW l).length : Int) = N) : cCmd P p l = (if N = 3 then cSize P p (lnB l 1) (lnB l 2) else (18, P, [])) := by
  unfold cCmd
  rw [hk, hN]
  by_cases hn : N = 3
  · rw [show (if N = 3 then cSize P p (lnB l 1) (lnB l 2) else (18, P, [])) = cSize P p (lnB l 1) (lnB l 2) from if_pos hn]
    rw [if_neg (by decide), if_neg (fun c => absurd c.1 (by decide)), if_neg (fun c => absurd c.1 (by decide)), if_neg (fun c => absurd c.1 (by decide)), if_neg (fun c => absurd c.1 (by decide)), if_neg (fun c => absurd c.2 (by decide)), if_neg (by omega), if_pos hn]
    unfold cTwo
    rw [if_neg (by decide), if_pos rfl]
  · rw [show (if N = 3 then cSize P p (lnB l 1) (lnB l 2) else (18, P, [])) = (18, P, []) from if_neg hn, if_neg (by decide), if_neg (fun c => absurd c.1 (by decide)), if_neg (fun c => absurd c.1 (by decide)), if_neg (fun c => absurd c.1 (by decide)), if_neg (fun c => absurd c.1 (by decide)), if_neg (fun c => absurd c.2 (by decide))]
    by_cases a2 : N = 2
    · rw [if_pos a2, one_no (by decide)]
    rw [if_neg a2]
    rw [if_neg hn]
    rw [if_neg (fun c => absurd c.2 (by decide))]
theorem cm_chmod (hk : pkW (lnB l 0) = 426953764708) (hN : ((lnW l).length : Int) = N) : cCmd P p l = (if N = 3 then cChm P p (lnB l 1) (lnB l 2) else (18, P, [])) := by
  unfold cCmd
  rw [hk, hN]
  by_cases hn : N = 3
  · rw [show (if N = 3 then cChm P p (lnB l 1) (lnB l 2) else (18, P, [])) = cChm P p (lnB l 1) (lnB l 2) from if_pos hn]
    rw [if_neg (by decide), if_neg (fun c => absurd c.1 (by decide)), if_neg (fun c => absurd c.1 (by decide)), if_neg (fun c => absurd c.1 (by decide)), if_neg (fun c => absurd c.1 (by decide)), if_neg (fun c => absurd c.2 (by decide)), if_neg (by omega), if_pos hn]
    unfold cTwo
    rw [if_neg (by decide), if_neg (by decide), if_pos rfl]
  · rw [show (if N = 3 then cChm P p (lnB l 1) (lnB l 2) else (18, P, [])) = (18, P, []) from if_neg hn, if_neg (by decide), if_neg (fun c => absurd c.1 (by decide)), if_neg (fun c => absurd c.1 (by decide)), if_neg (fun c => absurd c.1 (by decide)), if_neg (fun c => absurd c.1 (by decide)), if_neg (fun c => absurd c.2 (by decide))]
    by_cases a2 : N = 2
    · rw [if_pos a2, one_no (by decide)]
    rw [if_neg a2]
    rw [if_neg hn]
    rw [if_neg (fun c => absurd c.2 (by decide))]
theorem cm_stat (hk : pkW (lnB l 0) = 1937006964) (hN : ((lnW l).length : Int) = N) : cCmd P p l = (if N = 2 then cStat P p (lnB l 1) else (18, P, [])) := by
  unfold cCmd
  rw [hk, hN]
  by_cases hn : N = 2
  · rw [show (if N = 2 then cStat P p (lnB l 1) else (18, P, [])) = cStat P p (lnB l 1) from if_pos hn]
    rw [if_neg (by decide), if_neg (fun c => absurd c.1 (by decide)), if_neg (fun c => absurd c.1 (by decide)), if_neg (fun c => absurd c.1 (by decide)), if_neg (fun c => absurd c.1 (by decide)), if_neg (fun c => absurd c.2 (by decide)), if_pos hn]
    unfold cOne
    rw [if_neg (by decide), if_neg (by decide), if_neg (by decide), if_neg (by decide), if_neg (by decide), if_pos rfl]
  · rw [show (if N = 2 then cStat P p (lnB l 1) else (18, P, [])) = (18, P, []) from if_neg hn, if_neg (by decide), if_neg (fun c => absurd c.1 (by decide)), if_neg (fun c => absurd c.1 (by decide)), if_neg (fun c => absurd c.1 (by decide)), if_neg (fun c => absurd c.1 (by decide)), if_neg (fun c => absurd c.2 (by decide))]
    rw [if_neg hn]
    by_cases a3 : N = 3
    · rw [if_pos a3, two_no (by decide)]
    rw [if_neg a3]
    rw [if_neg (fun c => absurd c.2 (by decide))]
theorem cm_open (hk : pkW (lnB l 0) = 1869636974) (hN : ((lnW l).length : Int) = N) : cCmd P p l = (if N = 3 then cOpen P p (dgV (lnB l 2) 2) (lnB l 1) else (18, P, [])) := by
  unfold cCmd
  rw [hk, hN]
  by_cases hn : N = 3
  · rw [show (if N = 3 then cOpen P p (dgV (lnB l 2) 2) (lnB l 1) else (18, P, [])) = cOpen P p (dgV (lnB l 2) 2) (lnB l 1) from if_pos hn]
    rw [if_neg (by decide), if_neg (fun c => absurd c.1 (by decide)), if_neg (fun c => absurd c.1 (by decide)), if_neg (fun c => absurd c.1 (by decide)), if_neg (fun c => absurd c.1 (by decide)), if_neg (fun c => absurd c.2 (by decide)), if_neg (by omega), if_pos hn]
    unfold cTwo
    rw [if_neg (by decide), if_neg (by decide), if_neg (by decide), if_pos rfl]
  · rw [show (if N = 3 then cOpen P p (dgV (lnB l 2) 2) (lnB l 1) else (18, P, [])) = (18, P, []) from if_neg hn, if_neg (by decide), if_neg (fun c => absurd c.1 (by decide)), if_neg (fun c => absurd c.1 (by decide)), if_neg (fun c => absurd c.1 (by decide)), if_neg (fun c => absurd c.1 (by decide)), if_neg (fun c => absurd c.2 (by decide))]
    by_cases a2 : N = 2
    · rw [if_pos a2, one_no (by decide)]
    rw [if_neg a2]
    rw [if_neg hn]
    rw [if_neg (fun c => absurd c.2 (by decide))]
theorem cm_read (hk : pkW (lnB l 0) = 1919246692) (hN : ((lnW l).length : Int) = N) : cCmd P p l = (if N = 3 then ((cRead P p (dgV (lnB l 1) 7) (nmN (lnB l 2) 10 4)).1, (cRead P p (dgV (lnB l 1) 7) (nmN (lnB l 2) 10 4)).2, []) else (18, P, [])) := by
  unfold cCmd
  rw [hk, hN]
  by_cases hn : N = 3
  · rw [show (if N = 3 then ((cRead P p (dgV (lnB l 1) 7) (nmN (lnB l 2) 10 4)).1, (cRead P p (dgV (lnB l 1) 7) (nmN (lnB l 2) 10 4)).2, []) else (18, P, [])) = ((cRead P p (dgV (lnB l 1) 7) (nmN (lnB l 2) 10 4)).1, (cRead P p (dgV (lnB l 1) 7) (nmN (lnB l 2) 10 4)).2, []) from if_pos hn]
    rw [if_neg (by decide), if_neg (fun c => absurd c.1 (by decide)), if_neg (fun c => absurd c.1 (by decide)), if_neg (fun c => absurd c.1 (by decide)), if_neg (fun c => absurd c.1 (by decide)), if_neg (fun c => absurd c.2 (by decide)), if_neg (by omega), if_pos hn]
    unfold cTwo
    rw [if_neg (by decide), if_neg (by decide), if_neg (by decide), if_neg (by decide), if_pos rfl]
  · rw [show (if N = 3 then ((cRead P p (dgV (lnB l 1) 7) (nmN (lnB l 2) 10 4)).1, (cRead P p (dgV (lnB l 1) 7) (nmN (lnB l 2) 10 4)).2, []) else (18, P, [])) = (18, P, []) from if_neg hn, if_neg (by decide), if_neg (fun c => absurd c.1 (by decide)), if_neg (fun c => absurd c.1 (by decide)), if_neg (fun c => absurd c.1 (by decide)), if_neg (fun c => absurd c.1 (by decide)), if_neg (fun c => absurd c.2 (by decide))]
    by_cases a2 : N = 2
    · rw [if_pos a2, one_no (by decide)]
    rw [if_neg a2]
    rw [if_neg hn]
    rw [if_neg (fun c => absurd c.2 (by decide))]
theorem cm_write (hk : pkW (lnB l 0) = 513020621925) (hN : ((lnW l).length : Int) = N) : cCmd P p l = (if N = 3 then ((cWrt P p (dgV (lnB l 1) 7) (lnB l 2)).1, (cWrt P p (dgV (lnB l 1) 7) (lnB l 2)).2, []) else (18, P, [])) := by
  unfold cCmd
  rw [hk, hN]
  by_cases hn : N = 3
  · rw [show (if N = 3 then ((cWrt P p (dgV (lnB l 1) 7) (lnB l 2)).1, (cWrt P p (dgV (lnB l 1) 7) (lnB l 2)).2, []) else (18, P, [])) = ((cWrt P p (dgV (lnB l 1) 7) (lnB l 2)).1, (cWrt P p (dgV (lnB l 1) 7) (lnB l 2)).2, []) from if_pos hn]
    rw [if_neg (by decide), if_neg (fun c => absurd c.1 (by decide)), if_neg (fun c => absurd c.1 (by decide)), if_neg (fun c => absurd c.1 (by decide)), if_neg (fun c => absurd c.1 (by decide)), if_neg (fun c => absurd c.2 (by decide)), if_neg (by omega), if_pos hn]
    unfold cTwo
    rw [if_neg (by decide), if_neg (by decide), if_neg (by decide), if_neg (by decide), if_neg (by decide), if_pos rfl]
  · rw [show (if N = 3 then ((cWrt P p (dgV (lnB l 1) 7) (lnB l 2)).1, (cWrt P p (dgV (lnB l 1) 7) (lnB l 2)).2, []) else (18, P, [])) = (18, P, []) from if_neg hn, if_neg (by decide), if_neg (fun c => absurd c.1 (by decide)), if_neg (fun c => absurd c.1 (by decide)), if_neg (fun c => absurd c.1 (by decide)), if_neg (fun c => absurd c.1 (by decide)), if_neg (fun c => absurd c.2 (by decide))]
    by_cases a2 : N = 2
    · rw [if_pos a2, one_no (by decide)]
    rw [if_neg a2]
    rw [if_neg hn]
    rw [if_neg (fun c => absurd c.2 (by decide))]
theorem cm_seek (hk : pkW (lnB l 0) = 1936024939) (hN : ((lnW l).length : Int) = N) : cCmd P p l = (if N = 3 then cSek P p (dgV (lnB l 1) 7) (nmN (lnB l 2) 10 4) else (18, P, [])) := by
  unfold cCmd
  rw [hk, hN]
  by_cases hn : N = 3
  · rw [show (if N = 3 then cSek P p (dgV (lnB l 1) 7) (nmN (lnB l 2) 10 4) else (18, P, [])) = cSek P p (dgV (lnB l 1) 7) (nmN (lnB l 2) 10 4) from if_pos hn]
    rw [if_neg (by decide), if_neg (fun c => absurd c.1 (by decide)), if_neg (fun c => absurd c.1 (by decide)), if_neg (fun c => absurd c.1 (by decide)), if_neg (fun c => absurd c.1 (by decide)), if_neg (fun c => absurd c.2 (by decide)), if_neg (by omega), if_pos hn]
    unfold cTwo
    rw [if_neg (by decide), if_neg (by decide), if_neg (by decide), if_neg (by decide), if_neg (by decide), if_neg (by decide), if_pos rfl]
  · rw [show (if N = 3 then cSek P p (dgV (lnB l 1) 7) (nmN (lnB l 2) 10 4) else (18, P, [])) = (18, P, []) from if_neg hn, if_neg (by decide), if_neg (fun c => absurd c.1 (by decide)), if_neg (fun c => absurd c.1 (by decide)), if_neg (fun c => absurd c.1 (by decide)), if_neg (fun c => absurd c.1 (by decide)), if_neg (fun c => absurd c.2 (by decide))]
    by_cases a2 : N = 2
    · rw [if_pos a2, one_no (by decide)]
    rw [if_neg a2]
    rw [if_neg hn]
    rw [if_neg (fun c => absurd c.2 (by decide))]
theorem cm_close (hk : pkW (lnB l 0) = 427021005669) (hN : ((lnW l).length : Int) = N) : cCmd P p l = (if N = 2 then cClo P p (dgV (lnB l 1) 7) else (18, P, [])) := by
  unfold cCmd
  rw [hk, hN]
  by_cases hn : N = 2
  · rw [show (if N = 2 then cClo P p (dgV (lnB l 1) 7) else (18, P, [])) = cClo P p (dgV (lnB l 1) 7) from if_pos hn]
    rw [if_neg (by decide), if_neg (fun c => absurd c.1 (by decide)), if_neg (fun c => absurd c.1 (by decide)), if_neg (fun c => absurd c.1 (by decide)), if_neg (fun c => absurd c.1 (by decide)), if_neg (fun c => absurd c.2 (by decide)), if_pos hn]
    unfold cOne
    rw [if_neg (by decide), if_neg (by decide), if_neg (by decide), if_neg (by decide), if_neg (by decide), if_neg (by decide), if_pos rfl]
  · rw [show (if N = 2 then cClo P p (dgV (lnB l 1) 7) else (18, P, [])) = (18, P, []) from if_neg hn, if_neg (by decide), if_neg (fun c => absurd c.1 (by decide)), if_neg (fun c => absurd c.1 (by decide)), if_neg (fun c => absurd c.1 (by decide)), if_neg (fun c => absurd c.1 (by decide)), if_neg (fun c => absurd c.2 (by decide))]
    rw [if_neg hn]
    by_cases a3 : N = 3
    · rw [if_pos a3, two_no (by decide)]
    rw [if_neg a3]
    rw [if_neg (fun c => absurd c.2 (by decide))]
theorem cm_bind (hk : pkW (lnB l 0) = 1651076708) (hN : ((lnW l).length : Int) = N) : cCmd P p l = (if (3 ≤ N ∧ N ≤ 4) then cBnd P p 0 l else (18, P, [])) := by
  unfold cCmd
  rw [hk, hN]
  by_cases hn : (3 ≤ N ∧ N ≤ 4)
  · rw [show (if (3 ≤ N ∧ N ≤ 4) then cBnd P p 0 l else (18, P, [])) = cBnd P p 0 l from if_pos hn]
    rw [if_neg (by decide), if_pos ⟨rfl, hn⟩]
  · rw [show (if (3 ≤ N ∧ N ≤ 4) then cBnd P p 0 l else (18, P, [])) = (18, P, []) from if_neg hn, if_neg (by decide), if_neg (fun c => hn c.2), if_neg (fun c => absurd c.1 (by decide)), if_neg (fun c => absurd c.1 (by decide)), if_neg (fun c => absurd c.1 (by decide)), if_neg (fun c => absurd c.2 (by decide))]
    by_cases a2 : N = 2
    · rw [if_pos a2, one_no (by decide)]
    rw [if_neg a2]
    by_cases a3 : N = 3
    · rw [if_pos a3, two_no (by decide)]
    rw [if_neg a3]
    rw [if_neg (fun c => absurd c.2 (by decide))]
theorem cm_mount (hk : pkW (lnB l 0) = 470021402228) (hN : ((lnW l).length : Int) = N) : cCmd P p l = (if (3 ≤ N ∧ N ≤ 4) then cBnd P p 1 l else (18, P, [])) := by
  unfold cCmd
  rw [hk, hN]
  by_cases hn : (3 ≤ N ∧ N ≤ 4)
  · rw [show (if (3 ≤ N ∧ N ≤ 4) then cBnd P p 1 l else (18, P, [])) = cBnd P p 1 l from if_pos hn]
    rw [if_neg (by decide), if_neg (fun c => absurd c.1 (by decide)), if_pos ⟨rfl, hn⟩]
  · rw [show (if (3 ≤ N ∧ N ≤ 4) then cBnd P p 1 l else (18, P, [])) = (18, P, []) from if_neg hn, if_neg (by decide), if_neg (fun c => absurd c.1 (by decide)), if_neg (fun c => hn c.2), if_neg (fun c => absurd c.1 (by decide)), if_neg (fun c => absurd c.1 (by decide)), if_neg (fun c => absurd c.2 (by decide))]
    by_cases a2 : N = 2
    · rw [if_pos a2, one_no (by decide)]
    rw [if_neg a2]
    by_cases a3 : N = 3
    · rw [if_pos a3, two_no (by decide)]
    rw [if_neg a3]
    rw [if_neg (fun c => absurd c.2 (by decide))]
theorem cm_unmount (hk : pkW (lnB l 0) = 33053988575604340) (hN : ((lnW l).length : Int) = N) : cCmd P p l = (if (2 ≤ N ∧ N ≤ 3) then cUnm P p l else (18, P, [])) := by
  unfold cCmd
  rw [hk, hN]
  by_cases hn : (2 ≤ N ∧ N ≤ 3)
  · rw [show (if (2 ≤ N ∧ N ≤ 3) then cUnm P p l else (18, P, [])) = cUnm P p l from if_pos hn]
    rw [if_neg (by decide), if_neg (fun c => absurd c.1 (by decide)), if_neg (fun c => absurd c.1 (by decide)), if_pos ⟨rfl, hn⟩]
  · rw [show (if (2 ≤ N ∧ N ≤ 3) then cUnm P p l else (18, P, [])) = (18, P, []) from if_neg hn, if_neg (by decide), if_neg (fun c => absurd c.1 (by decide)), if_neg (fun c => absurd c.1 (by decide)), if_neg (fun c => hn c.2), if_neg (fun c => absurd c.1 (by decide)), if_neg (fun c => absurd c.2 (by decide))]
    by_cases a2 : N = 2
    · rw [if_pos a2, one_no (by decide)]
    rw [if_neg a2]
    by_cases a3 : N = 3
    · rw [if_pos a3, two_no (by decide)]
    rw [if_neg a3]
    rw [if_neg (fun c => absurd c.2 (by decide))]
theorem cm_fork (hk : pkW (lnB l 0) = 1718579819) (hN : ((lnW l).length : Int) = N) : cCmd P p l = (if N = 2 then cFork P p (lnB l 1) else (18, P, [])) := by
  unfold cCmd
  rw [hk, hN]
  by_cases hn : N = 2
  · rw [show (if N = 2 then cFork P p (lnB l 1) else (18, P, [])) = cFork P p (lnB l 1) from if_pos hn]
    rw [if_neg (by decide), if_neg (fun c => absurd c.1 (by decide)), if_neg (fun c => absurd c.1 (by decide)), if_neg (fun c => absurd c.1 (by decide)), if_neg (fun c => absurd c.1 (by decide)), if_neg (fun c => absurd c.2 (by decide)), if_pos hn]
    unfold cOne
    rw [if_neg (by decide), if_neg (by decide), if_neg (by decide), if_neg (by decide), if_neg (by decide), if_neg (by decide), if_neg (by decide), if_pos rfl]
  · rw [show (if N = 2 then cFork P p (lnB l 1) else (18, P, [])) = (18, P, []) from if_neg hn, if_neg (by decide), if_neg (fun c => absurd c.1 (by decide)), if_neg (fun c => absurd c.1 (by decide)), if_neg (fun c => absurd c.1 (by decide)), if_neg (fun c => absurd c.1 (by decide)), if_neg (fun c => absurd c.2 (by decide))]
    rw [if_neg hn]
    by_cases a3 : N = 3
    · rw [if_pos a3, two_no (by decide)]
    rw [if_neg a3]
    rw [if_neg (fun c => absurd c.2 (by decide))]
theorem cm_exit (hk : pkW (lnB l 0) = 1702390132) (hN : ((lnW l).length : Int) = N) : cCmd P p l = (if N = 1 then ((0 : Int), rU P 2321 p 1, ([] : List Ch)) else (18, P, [])) := by
  unfold cCmd
  rw [hk, hN]
  by_cases hn : N = 1
  · rw [show (if N = 1 then ((0 : Int), rU P 2321 p 1, ([] : List Ch)) else (18, P, [])) = ((0 : Int), rU P 2321 p 1, ([] : List Ch)) from if_pos hn]
    rw [if_neg (by decide), if_neg (fun c => absurd c.1 (by decide)), if_neg (fun c => absurd c.1 (by decide)), if_neg (fun c => absurd c.1 (by decide)), if_neg (fun c => absurd c.1 (by decide)), if_pos ⟨hn, rfl⟩]
  · rw [show (if N = 1 then ((0 : Int), rU P 2321 p 1, ([] : List Ch)) else (18, P, [])) = (18, P, []) from if_neg hn, if_neg (by decide), if_neg (fun c => absurd c.1 (by decide)), if_neg (fun c => absurd c.1 (by decide)), if_neg (fun c => absurd c.1 (by decide)), if_neg (fun c => absurd c.1 (by decide)), if_neg (fun c => hn c.1)]
    by_cases a2 : N = 2
    · rw [if_pos a2, one_no (by decide)]
    rw [if_neg a2]
    by_cases a3 : N = 3
    · rw [if_pos a3, two_no (by decide)]
    rw [if_neg a3]
    rw [if_neg (fun c => absurd c.2 (by decide))]
theorem cm_set (hk : pkW (lnB l 0) = 7562612) (hN : ((lnW l).length : Int) = N) : cCmd P p l = (if (2 ≤ N ∧ N ≤ 3) then ((cSet P p l).1, (cSet P p l).2, []) else (18, P, [])) := by
  unfold cCmd
  rw [hk, hN]
  by_cases hn : (2 ≤ N ∧ N ≤ 3)
  · rw [show (if (2 ≤ N ∧ N ≤ 3) then ((cSet P p l).1, (cSet P p l).2, []) else (18, P, [])) = ((cSet P p l).1, (cSet P p l).2, []) from if_pos hn]
    rw [if_neg (by decide), if_neg (fun c => absurd c.1 (by decide)), if_neg (fun c => absurd c.1 (by decide)), if_neg (fun c => absurd c.1 (by decide)), if_pos ⟨rfl, hn⟩]
  · rw [show (if (2 ≤ N ∧ N ≤ 3) then ((cSet P p l).1, (cSet P p l).2, []) else (18, P, [])) = (18, P, []) from if_neg hn, if_neg (by decide), if_neg (fun c => absurd c.1 (by decide)), if_neg (fun c => absurd c.1 (by decide)), if_neg (fun c => absurd c.1 (by decide)), if_neg (fun c => hn c.2), if_neg (fun c => absurd c.2 (by decide))]
    by_cases a2 : N = 2
    · rw [if_pos a2, one_no (by decide)]
    rw [if_neg a2]
    by_cases a3 : N = 3
    · rw [if_pos a3, two_no (by decide)]
    rw [if_neg a3]
    rw [if_neg (fun c => absurd c.2 (by decide))]
theorem cm_no (h : ¬ (pkW (lnB l 0) = 25444 ∨ pkW (lnB l 0) = 6513012 ∨ pkW (lnB l 0) = 27763 ∨ pkW (lnB l 0) = 1701013615 ∨ pkW (lnB l 0) = 469953177970 ∨ pkW (lnB l 0) = 109342978307173 ∨ pkW (lnB l 0) = 29293 ∨ pkW (lnB l 0) = 28022 ∨ pkW (lnB l 0) = 1936292453 ∨ pkW (lnB l 0) = 426953764708 ∨ pkW (lnB l 0) = 1937006964 ∨ pkW (lnB l 0) = 1869636974 ∨ pkW (lnB l 0) = 1919246692 ∨ pkW (lnB l 0) = 513020621925 ∨ pkW (lnB l 0) = 1936024939 ∨ pkW (lnB l 0) = 427021005669 ∨ pkW (lnB l 0) = 1651076708 ∨ pkW (lnB l 0) = 470021402228 ∨ pkW (lnB l 0) = 33053988575604340 ∨ pkW (lnB l 0) = 1718579819 ∨ pkW (lnB l 0) = 1702390132 ∨ pkW (lnB l 0) = 7562612)) : cCmd P p l = (18, P, []) := by
  unfold cCmd
  obtain ⟨v, hv⟩ : ∃ v, pkW (lnB l 0) = v := ⟨_, rfl⟩
  simp only [hv] at h ⊢
  rw [if_neg (by omega), if_neg (by omega), if_neg (by omega), if_neg (by omega), if_neg (by omega), if_neg (by omega)]
  by_cases a2 : ((lnW l).length : Int) = 2
  · rw [if_pos a2, one_no (by omega)]
  by_cases a3 : ((lnW l).length : Int) = 3
  · rw [if_neg a2, if_pos a3, two_no (by omega)]
  rw [if_neg a2, if_neg a3, if_neg (by omega)]
end XCMM
