/-! No command answers below 0. -/
section MRNG
variable {fb : Bool} {d : Nat} {σ0 σ : hM} {P Q R S S0 S1 S2 : qR} {T U s w g u p k e t z o n N v b c i : Int} {l L tx tt wd w1 w2 : List Int} {h : List Ch} {x c1 c2 : Ch}
theorem cCd_rng : 0 ≤ (cCd P p wd).1 := by
  unfold cCd
  (repeat' split) <;> (try dsimp only) <;> omega
theorem cRm_rng : 0 ≤ (cRm P p wd).1 := by
  unfold cRm
  (repeat' split) <;> (try dsimp only) <;> first | omega | exact tE_rng.1
theorem cCat_rng : 0 ≤ (cCat P n p wd).1 := by
  unfold cCat
  (repeat' split) <;> (try dsimp only) <;> first | omega | exact kRdl_rng _ _ _
theorem lsM_rng {pt : Int} : ∀ (m : Nat) (j : Int) (P : qR), 0 ≤ (lsM p pt m j P).1
  | 0, _, _ => Int.le_refl 0
  | m + 1, j, P => by
    unfold lsM
    split
    · dsimp only
      omega
    · split
      · dsimp only
        omega
      · exact lsM_rng m _ _
theorem cLs_rng : 0 ≤ (cLs P p wd).1 := by
  unfold cLs lsW
  (repeat' split) <;> (try dsimp only) <;> first | omega | exact cList_rng | exact lsM_rng _ _ _
theorem cStat_rng : 0 ≤ (cStat P p wd).1 := by
  unfold cStat
  (repeat' split) <;> (try dsimp only) <;> first | omega | exact tE_rng.1
theorem cClE_rng : 0 ≤ cClE P p k := by
  unfold cClE
  split
  · exact tE_rng.1
  · decide
theorem cClo_rng : 0 ≤ (cClo P p k).1 := by
  unfold cClo
  (repeat' split) <;> (try dsimp only) <;> first | omega | exact cClE_rng
theorem cFork_rng : 0 ≤ (cFork P p wd).1 := by
  unfold cFork
  (repeat' split) <;> (try dsimp only) <;> omega
theorem cMv_rng : 0 ≤ (cMv P p w1 w2).1 := by
  unfold cMv
  (repeat' split) <;> (try dsimp only) <;> first | omega | exact tE_rng.1
theorem cSize_rng : 0 ≤ (cSize P p w1 w2).1 := by
  unfold cSize
  (repeat' split) <;> (try dsimp only) <;> first | omega | exact tE_rng.1
theorem cChm_rng : 0 ≤ (cChm P p w1 w2).1 := by
  unfold cChm cChm2
  (repeat' split) <;> (try dsimp only) <;> first | omega | exact tE_rng.1
theorem cOpen_rng : 0 ≤ (cOpen P p k wd).1 := by
  unfold cOpen
  (repeat' split) <;> (try dsimp only) <;> first | omega | exact tE_rng.1
theorem cRead_rng : 0 ≤ (cRead P p k n).1 := by
  unfold cRead
  (repeat' split) <;> (try dsimp only) <;> first | omega | exact tE_rng.1
theorem cWrt_rng : 0 ≤ (cWrt P p k wd).1 := by
  unfold cWrt
  (repeat' split) <;> (try dsimp only) <;> first | omega | exact tE_rng.1
theorem cSek_rng : 0 ≤ (cSek P p k n).1 := by
  unfold cSek
  (repeat' split) <;> (try dsimp only) <;> omega
theorem cCrt_rng {nine md : Int} (hI : IV false T U P) (hPT : PTS P) (hp : 0 ≤ p ∧ p < 8) : 0 ≤ (cCrt P p nine md wd).1 := by
  have := (kCreate_ok (wd := wd) (perm := nine) (mode := md) hI hPT hp).2.1
  unfold cCrt cMk2
  (repeat' split) <;> (try dsimp only) <;> omega
theorem cSet_rng : 0 ≤ (cSet P p l).1 := by
  unfold cSet
  split <;> (try dsimp only) <;> omega
theorem unM_rng {sv pa pt : Int} : 0 ≤ (unM P g pt sv pa).1 := by
  unfold unM
  split <;> (try dsimp only) <;> omega
theorem cUnm2_rng : 0 ≤ (cUnm2 P p c1 c2 h N).1 := by
  unfold cUnm2
  (repeat' split) <;> (try dsimp only) <;> first | omega | exact unM_rng
theorem cUnm_rng : 0 ≤ (cUnm P p l).1 := by
  unfold cUnm
  (repeat' split) <;> (try dsimp only) <;> first | omega | exact cUnm2_rng
theorem cBn3_rng {bf bh mk old : Int} : 0 ≤ (cBn3 P p bf bh mk old c1 c2).1 := by
  unfold cBn3
  (repeat' split) <;> (try dsimp only) <;> omega
theorem cBnd_rng {mo : Int} : 0 ≤ (cBnd P p mo l).1 := by
  unfold cBnd cBnW cBn2
  (repeat' split) <;> (try dsimp only) <;> first | omega | exact cBn3_rng
theorem ecW_rng {off : Int} : 0 ≤ (ecW P x off l z).1 := tE_rng.1
theorem ecO_rng {two : Int} : 0 ≤ (ecO P x two l z).1 := by
  unfold ecO ecS
  (repeat' split) <;> (try dsimp only) <;> first | omega | exact ecW_rng
theorem cEcho_rng : 0 ≤ (cEcho P p l).1 := by
  unfold cEcho cEcho1 ecC
  (repeat' split) <;> (try dsimp only) <;> first | omega | exact ecW_rng | exact ecO_rng
theorem cOne_rng (hI : IV false T U P) (hPT : PTS P) (hp : 0 ≤ p ∧ p < 8) : 0 ≤ (cOne P p l v).1 := by
  unfold cOne
  repeat' split
  · exact cCd_rng
  · exact cCat_rng
  · exact cLs_rng
  · exact (kCreate_ok hI hPT hp).2.1
  · exact cRm_rng
  · exact cStat_rng
  · exact cClo_rng
  · exact cFork_rng
  · show (0 : Int) ≤ 18
    decide
theorem cTwo_rng : 0 ≤ (cTwo P p l v).1 := by
  unfold cTwo
  repeat' split
  · exact cMv_rng
  · exact cSize_rng
  · exact cChm_rng
  · exact cOpen_rng
  · exact cRead_rng
  · exact cWrt_rng
  · exact cSek_rng
  · show (0 : Int) ≤ 18
    decide
theorem cCmd_rng (hI : IV false T U P) (hPT : PTS P) (hp : 0 ≤ p ∧ p < 8) : 0 ≤ (cCmd P p l).1 := by
  unfold cCmd
  repeat' split
  · exact cEcho_rng
  · exact cBnd_rng
  · exact cBnd_rng
  · exact cUnm_rng
  · exact cSet_rng
  · exact Int.le_refl 0
  · exact cOne_rng hI hPT hp
  · exact cTwo_rng
  · exact cCrt_rng hI hPT hp
  · show (0 : Int) ≤ 18
    decide
end MRNG
