/-! What a served message leaves as it is: all rows that aren't a server's. -/
def srvRow (f : Nat) : Bool := [2289, 2290, 2291, 2292, 2293, 2294, 2295, 2296, 2297, 2298, 2299, 2300, 2301, 2302, 2303, 2304, 2305, 2306, 2307, 2308, 2309, 2310, 2311, 2312, 2313, 2314, 2315, 2321].elem f
def SF (Q P : qR) : Prop := ∀ (f : Nat) (k : Int), srvRow f = false → ¬ (f = 2281 ∧ (k = 39 ∨ k = 41)) → Q f k = P f k
section MSFRAME
variable {P Q : qR} {s n u c t z : Int}
theorem SF_rfl : SF P P := fun _ _ _ _ => rfl
theorem SF_up {g : Nat} {j v : Int} (h : SF Q P) (hg : srvRow g = true) : SF (rU Q g j v) P := fun f k h1 h2 => (rU_f (fun e => by rw [e, hg] at h1; exact absurd h1 (by decide))).trans (h f k h1 h2)
theorem SF_un {j v : Int} (h : SF Q P) (hj : j = 39 ∨ j = 41) : SF (rU Q 2281 j v) P := fun f k h1 h2 => (if_neg (fun e => h2 ⟨e.1, by rw [e.2]; exact hj⟩)).trans (h f k h1 h2)
theorem SF_wr {g : Nat} {o : Int} {l : List Int} (h : SF Q P) (hg : srvRow g = true) : SF (rW Q g o l) P := fun f k h1 h2 => (rW_f (fun e => by rw [e, hg] at h1; exact absurd h1 (by decide))).trans (h f k h1 h2)
theorem SF_if {p : Prop} [Decidable p] {Q1 Q2 : qR} (h1 : SF Q1 P) (h2 : SF Q2 P) : SF (if p then Q1 else Q2) P := by
  split
  · exact h1
  · exact h2
theorem SF_tr {R : qR} (h1 : SF R Q) (h2 : SF Q P) : SF R P := fun f k q1 q2 => (h1 f k q1 q2).trans (h2 f k q1 q2)
theorem SF_gGrow : SF (gGrow P s n u) P := SF_up (SF_up SF_rfl rfl) rfl
theorem SF_gGone {lo hi : Int} : SF (gGone P lo hi n) P := fun f k h1 _ => gGone_f (fun e => by rw [e] at h1; exact absurd h1 (by decide))
theorem SF_gRem : SF (gRem P s n u) P := SF_tr SF_gGone (SF_tr SF_gGrow (SF_up (SF_up (SF_up (SF_up SF_rfl rfl) rfl) rfl) rfl))
theorem SF_gZer {g : Nat} {lo hi : Int} (hg : srvRow g = true) : SF (gZer P g lo hi) P := fun f k h1 _ => gZer_f (fun e => by rw [e, hg] at h1; exact absurd h1 (by decide))
theorem SF_gSize : SF (gSize P s n z) P := SF_up (SF_up (SF_gZer rfl) rfl) rfl
theorem SF_gName {l : List Int} : SF (gName P s n l) P := SF_up (SF_wr SF_rfl rfl) rfl
theorem SF_gMake {k v : Int} : SF (gMake P k v n u) P := SF_up (SF_up (SF_up (SF_up (SF_up (SF_up (SF_up (SF_up (SF_up SF_rfl rfl) rfl) rfl) rfl) rfl) rfl) rfl) rfl) rfl
theorem SF_gClunk {k : Int} : SF (gClunk P s k) P := SF_up (SF_if SF_gRem SF_rfl) rfl
theorem SF_gOpen {k m : Int} : SF (gOpen P k m) P := SF_up (SF_up (SF_up SF_rfl rfl) rfl) rfl
theorem SF_opG {k m : Int} : SF (opG P s k m) P := SF_tr SF_gOpen (SF_if (SF_tr SF_gGrow SF_gSize) SF_rfl)
theorem SF_clA : ∀ (m : Nat) (P : qR), SF (clA P s c m) P
  | 0, _ => SF_rfl
  | m + 1, P => by
    show SF (if _ then _ else _) P
    exact SF_if SF_rfl (SF_tr (SF_clA m _) SF_gClunk)
theorem SF_gSh {j : Int} : SF (gSh P n j) P := fun f k h1 _ => gSh_f (fun e => by rw [e] at h1; exact absurd h1 (by decide))
theorem SF_gIn : SF (gIn P n) P := SF_tr SF_gSh (SF_un SF_rfl (Or.inl rfl))
theorem SF_gEnt {k off cnt : Int} {r : Int × Int × List Int} : SF (gEnt P k off cnt r) P := SF_up (SF_up SF_rfl rfl) rfl
theorem SF_gWr {b : Int} {l : List Int} : SF (gWr P s n u b l) P := SF_if (SF_tr SF_gGrow (SF_wr (SF_if SF_gSize SF_rfl) rfl)) SF_rfl
theorem SF_gCon {f : Int → Int} {o : Int} : ∀ m : Nat, SF (gCon P f o m) P
  | 0 => SF_rfl
  | m + 1 => by
    show SF (if _ then _ else _) P
    exact SF_if (SF_un (SF_up (SF_gCon m) rfl) (Or.inr rfl)) (SF_gCon m)
theorem SF_gChg {md ln y : Int} {nm : List Int} : SF (gChg P s n u md ln y nm) P := SF_up (SF_tr (SF_if (SF_up SF_rfl rfl) SF_rfl) (SF_tr (SF_if (SF_up SF_gSize rfl) SF_rfl) (SF_if SF_gName SF_rfl))) rfl
theorem SF_gCre {k p m into nn : Int} {nm : List Int} : SF (gCre P s k p m into nn u nm) P := by
  unfold gCre
  refine SF_tr SF_gOpen ?_
  repeat' first | exact SF_rfl | refine SF_up ?_ rfl | refine SF_wr ?_ rfl | refine SF_tr SF_gGrow ?_ | refine SF_tr SF_gName ?_ | refine SF_if ?_ ?_
theorem SF_srP {a : Int → Int} : SF (srP P s c t a z) P := by
  have e1 : SF (if vsE a z = 0 then vsP P s c a else P) P := SF_if (SF_up (SF_clA 48 P) rfl) SF_rfl
  have e2 : SF (if atE P s c a z = 0 then atP P s c a else P) P := SF_if SF_gMake SF_rfl
  have e3 : SF (if wlE P s c a z = 0 then wlP P s c a z else P) P := SF_if (SF_if SF_gMake SF_rfl) SF_rfl
  have e4 : SF (if opE P s c a z = 0 then opP P s c a else P) P := SF_if SF_opG SF_rfl
  have e5 : SF (if crE P s c a z = 0 then crP P s c a z else P) P := SF_if SF_gCre SF_rfl
  have e6 : SF (if rdErr P s c a z = 0 then rdP P s (qFid P s c (nu a 7 4)) (w64 (nu a 11 8)) (nu a 19 4) else P) P := SF_if (SF_if SF_gEnt (SF_if SF_rfl (SF_if SF_gIn SF_rfl))) SF_rfl
  have e7 : SF (if wrErr P s c a z = 0 then wrP P s (qFid P s c (nu a 7 4)) (w64 (nu a 11 8)) (z - 23) a else P) P := SF_if (SF_if SF_gWr (SF_if (SF_gCon _) (SF_up SF_rfl rfl))) SF_rfl
  have e8 : SF (if z = 11 then onP P s (qFid P s c (nu a 7 4)) t else P) P := SF_if (SF_if SF_rfl (SF_if SF_gClunk (SF_if (SF_if (SF_tr SF_gRem (SF_up SF_rfl rfl)) (SF_up SF_rfl rfl)) SF_rfl))) SF_rfl
  have e9 : SF (if wsE P s c a z = 0 then wsQ P s c a z else P) P := SF_if (SF_if SF_gChg SF_rfl) SF_rfl
  unfold srP
  exact SF_if e1 (SF_if e2 (SF_if SF_rfl (SF_if e3 (SF_if e4 (SF_if e5 (SF_if e6 (SF_if e7 (SF_if e8 (SF_if e9 SF_rfl)))))))))
theorem SF_srvP {a : Int → Int} : SF (srvP P s c a z) P := SF_if SF_rfl (SF_if SF_rfl SF_srP)
end MSFRAME
