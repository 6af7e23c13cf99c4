/-! The class's servers: texts of errors; what leaves the keys, the screen and who is to end. -/
theorem T_91_0 : hTab 91 0 = some ((3, 0, 0, []), 1) := rfl
theorem T_91_1 : hTab 91 1 = some ((23, 136, 1, [76, 80, 84, 88, 92, 96, 100, 104, 108, 112, 116, 120, 124, 128, 132]), 76) := rfl
theorem T_91_76 : hTab 91 76 = some ((34, 10, 0, []), 79) := rfl
theorem T_91_79 : hTab 91 79 = some ((33, 4, 0, []), 80) := rfl
theorem T_91_80 : hTab 91 80 = some ((34, 11, 0, []), 83) := rfl
theorem T_91_83 : hTab 91 83 = some ((33, 4, 0, []), 84) := rfl
theorem T_91_84 : hTab 91 84 = some ((34, 12, 0, []), 87) := rfl
theorem T_91_87 : hTab 91 87 = some ((33, 4, 0, []), 88) := rfl
theorem T_91_88 : hTab 91 88 = some ((34, 13, 0, []), 91) := rfl
theorem T_91_91 : hTab 91 91 = some ((33, 4, 0, []), 92) := rfl
theorem T_91_92 : hTab 91 92 = some ((34, 14, 0, []), 95) := rfl
theorem T_91_95 : hTab 91 95 = some ((33, 4, 0, []), 96) := rfl
theorem T_91_96 : hTab 91 96 = some ((34, 15, 0, []), 99) := rfl
theorem T_91_99 : hTab 91 99 = some ((33, 4, 0, []), 100) := rfl
theorem T_91_100 : hTab 91 100 = some ((34, 16, 0, []), 103) := rfl
theorem T_91_103 : hTab 91 103 = some ((33, 4, 0, []), 104) := rfl
theorem T_91_104 : hTab 91 104 = some ((34, 17, 0, []), 107) := rfl
theorem T_91_107 : hTab 91 107 = some ((33, 4, 0, []), 108) := rfl
theorem T_91_108 : hTab 91 108 = some ((34, 18, 0, []), 111) := rfl
theorem T_91_111 : hTab 91 111 = some ((33, 4, 0, []), 112) := rfl
theorem T_91_112 : hTab 91 112 = some ((34, 19, 0, []), 115) := rfl
theorem T_91_115 : hTab 91 115 = some ((33, 4, 0, []), 116) := rfl
theorem T_91_116 : hTab 91 116 = some ((34, 20, 0, []), 119) := rfl
theorem T_91_119 : hTab 91 119 = some ((33, 4, 0, []), 120) := rfl
theorem T_91_120 : hTab 91 120 = some ((34, 21, 0, []), 123) := rfl
theorem T_91_123 : hTab 91 123 = some ((33, 4, 0, []), 124) := rfl
theorem T_91_124 : hTab 91 124 = some ((34, 22, 0, []), 127) := rfl
theorem T_91_127 : hTab 91 127 = some ((33, 4, 0, []), 128) := rfl
theorem T_91_128 : hTab 91 128 = some ((34, 23, 0, []), 131) := rfl
theorem T_91_131 : hTab 91 131 = some ((33, 4, 0, []), 132) := rfl
theorem T_91_132 : hTab 91 132 = some ((34, 24, 0, []), 135) := rfl
theorem T_91_135 : hTab 91 135 = some ((33, 4, 0, []), 136) := rfl
theorem T_91_136 : hTab 91 136 = some ((34, 25, 0, []), 139) := rfl
theorem T_91_139 : hTab 91 139 = some ((33, 4, 0, []), 140) := rfl
theorem mN_91 : hmN 91 = 1 := by decide +kernel
theorem mL_91 : hmL 91 = 1 := by decide +kernel
theorem mK_91 : hmK 91 = 0 := by decide +kernel
theorem mO_91 : hmO 91 = 0 := by decide +kernel
def ioRow (f : Nat) : Bool := [2314, 2315, 2321, 2281].elem f
def IOF (Q P : qR) : Prop := ∀ (f : Nat) (k : Int), ioRow f = true → Q f k = P f k
section XSRV
variable {fb : Bool} {d S b rp mb m0 N M : Nat} {σ0 σ σ' : hM} {W W1 W2 P Q : qR} {R R1 R2 : rR} {i j k x z v s e w f u n p g K T U c : Int} {ord l l2 nm : List Int} {t : Nat → Nat} {a : Int → Int}
theorem IOF_rfl : IOF P P := fun _ _ _ => rfl
theorem IOF_tr {R : qR} (h1 : IOF R Q) (h2 : IOF Q P) : IOF R P := fun f k q => (h1 f k q).trans (h2 f k q)
theorem IOF_up {g : Nat} {j v : Int} (h : IOF Q P) (hg : ioRow g = false) : IOF (rU Q g j v) P := fun f k h1 => (rU_f (fun e => by rw [e, hg] at h1; exact absurd h1 (by decide))).trans (h f k h1)
theorem IOF_wr {g : Nat} {o : Int} {l : List Int} (h : IOF Q P) (hg : ioRow g = false) : IOF (rW Q g o l) P := fun f k h1 => (rW_f (fun e => by rw [e, hg] at h1; exact absurd h1 (by decide))).trans (h f k h1)
theorem IOF_if {p : Prop} [Decidable p] {Q1 Q2 : qR} (h1 : IOF Q1 P) (h2 : IOF Q2 P) : IOF (if p then Q1 else Q2) P := by
  split
  · exact h1
  · exact h2
theorem IOF_gGrow : IOF (gGrow P s n u) P := IOF_up (IOF_up IOF_rfl rfl) rfl
theorem IOF_gGone {lo hi : Int} : IOF (gGone P lo hi n) P := fun f k h1 => gGone_f (fun e => by rw [e] at h1; exact absurd h1 (by decide))
theorem IOF_gRem : IOF (gRem P s n u) P := IOF_tr IOF_gGone (IOF_tr IOF_gGrow (IOF_up (IOF_up (IOF_up (IOF_up IOF_rfl rfl) rfl) rfl) rfl))
theorem IOF_gSize : IOF (gSize P s n z) P := IOF_up (IOF_up (fun f k h1 => gZer_f (fun e => by rw [e] at h1; exact absurd h1 (by decide))) rfl) rfl
theorem IOF_gName {l : List Int} : IOF (gName P s n l) P := IOF_up (IOF_wr IOF_rfl rfl) rfl
theorem IOF_gMake {k v : Int} : IOF (gMake P k v n u) P := IOF_up (IOF_up (IOF_up (IOF_up (IOF_up (IOF_up (IOF_up (IOF_up (IOF_up IOF_rfl rfl) rfl) rfl) rfl) rfl) rfl) rfl) rfl) rfl
theorem IOF_gClunk {k : Int} : IOF (gClunk P s k) P := IOF_up (IOF_if IOF_gRem IOF_rfl) rfl
theorem IOF_gOpen {k m : Int} : IOF (gOpen P k m) P := IOF_up (IOF_up (IOF_up IOF_rfl rfl) rfl) rfl
theorem IOF_opG {k m : Int} : IOF (opG P s k m) P := IOF_tr IOF_gOpen (IOF_if (IOF_tr IOF_gGrow IOF_gSize) IOF_rfl)
theorem IOF_clA : ∀ (m : Nat) (P : qR), IOF (clA P s c m) P
  | 0, _ => IOF_rfl
  | m + 1, P => by
    show IOF (if _ then _ else _) P
    exact IOF_if IOF_rfl (IOF_tr (IOF_clA m _) IOF_gClunk)
theorem IOF_gChg {md ln y : Int} {nm : List Int} : IOF (gChg P s n u md ln y nm) P := IOF_up (IOF_tr (IOF_if (IOF_up IOF_rfl rfl) IOF_rfl) (IOF_tr (IOF_if (IOF_up IOF_gSize rfl) IOF_rfl) (IOF_if IOF_gName IOF_rfl))) rfl
theorem IOF_gCre {k p m into nn : Int} {nm : List Int} : IOF (gCre P s k p m into nn u nm) P := by
  unfold gCre
  refine IOF_tr IOF_gOpen ?_
  repeat' first | exact IOF_rfl | refine IOF_up ?_ rfl | refine IOF_wr ?_ rfl | refine IOF_tr IOF_gGrow ?_ | refine IOF_tr IOF_gName ?_ | refine IOF_if ?_ ?_
theorem IOF_srP {ty : Int} (h1 : ty ≠ 116) (h2 : ty ≠ 118) : IOF (srP P s c ty a z) P := by
  unfold srP
  rw [if_neg h1, if_neg h2]
  exact IOF_if (IOF_if (IOF_up (IOF_clA 48 P) rfl) IOF_rfl) (IOF_if (IOF_if IOF_gMake IOF_rfl) (IOF_if IOF_rfl (IOF_if (IOF_if (IOF_if IOF_gMake IOF_rfl) IOF_rfl) (IOF_if (IOF_if IOF_opG IOF_rfl) (IOF_if (IOF_if IOF_gCre IOF_rfl) (IOF_if (IOF_if (IOF_if IOF_rfl (IOF_if IOF_gClunk (IOF_if (IOF_if (IOF_tr IOF_gRem (IOF_up IOF_rfl rfl)) (IOF_up IOF_rfl rfl)) IOF_rfl))) IOF_rfl) (IOF_if (IOF_if (IOF_if IOF_gChg IOF_rfl) IOF_rfl) IOF_rfl)))))))
theorem SCR.iof (h : SCR W P) (hq : IOF Q P) : SCR W Q := h.rows (fun _ => hq _ _ rfl) (fun _ => hq _ _ rfl) (fun _ => hq _ _ rfl) (hq _ _ rfl) (hq _ _ rfl)
theorem XT_xo {r0 : Option AV} (h : XO σ0 K W R S s e Q r0 σ') (hS : VS S s) (hB : BY W rp 300 l2) (hro : rp + 1 < S ∨ S + 294 ≤ rp) (hIO : SCR W Q) : XT σ0 K W R S rp s e Q l2 r0 σ' := by
  obtain ⟨g0, W3, R3, o3, t3, g1, g2, g3, g4⟩ := h
  have h0 := (tX_o hB.1).1
  exact ⟨g0, W3, R3, o3, t3, l2, g1, FV_by g4 hB hro (by omega), fun _ => rfl, g2, g3, FVX_of (FV_w g4), hIO.fv hS g4 (by decide) (by decide)⟩
theorem errL_txt (he : 1 ≤ e ∧ e ≤ 16) : errL e = leb 2 ((txt (5 + e.toNat)).length : Int) ++ txt (5 + e.toNat) ∧ (txt (5 + e.toNat)).length ≤ 20 := by
  have h : e = 1 ∨ e = 2 ∨ e = 3 ∨ e = 4 ∨ e = 5 ∨ e = 6 ∨ e = 7 ∨ e = 8 ∨ e = 9 ∨ e = 10 ∨ e = 11 ∨ e = 12 ∨ e = 13 ∨ e = 14 ∨ e = 15 ∨ e = 16 := by omega
  rcases h with rfl | rfl | rfl | rfl | rfl | rfl | rfl | rfl | rfl | rfl | rfl | rfl | rfl | rfl | rfl | rfl <;> exact ⟨by decide +kernel, by decide +kernel⟩
theorem x_errorText (he : 1 ≤ e ∧ e ≤ 16) : CL fb d 91 [vI e] σ (rPR (some (4 + 2 * (5 + e.toNat))) σ) := by
  have h : e = 1 ∨ e = 2 ∨ e = 3 ∨ e = 4 ∨ e = 5 ∨ e = 6 ∨ e = 7 ∨ e = 8 ∨ e = 9 ∨ e = 10 ∨ e = 11 ∨ e = 12 ∨ e = 13 ∨ e = 14 ∨ e = 15 ∨ e = 16 := by omega
  rcases h with rfl | rfl | rfl | rfl | rfl | rfl | rfl | rfl | rfl | rfl | rfl | rfl | rfl | rfl | rfl | rfl
  · skip
    refine CL_in mL_91 rfl ?_
    show WP fb _ 91 0 [some (vI 1)] [] σ _
    refine x_li (z := 1) T_91_0 rfl ?_
    refine x_swIn T_91_1 (by decide) (by decide) rfl ?_
    refine x_sta T_91_76 rfl ?_
    refine x_rr T_91_79 ?_
    exact ⟨rfl, rfl⟩
  · skip
    refine CL_in mL_91 rfl ?_
    show WP fb _ 91 0 [some (vI 2)] [] σ _
    refine x_li (z := 2) T_91_0 rfl ?_
    refine x_swIn T_91_1 (by decide) (by decide) rfl ?_
    refine x_sta T_91_80 rfl ?_
    refine x_rr T_91_83 ?_
    exact ⟨rfl, rfl⟩
  · skip
    refine CL_in mL_91 rfl ?_
    show WP fb _ 91 0 [some (vI 3)] [] σ _
    refine x_li (z := 3) T_91_0 rfl ?_
    refine x_swIn T_91_1 (by decide) (by decide) rfl ?_
    refine x_sta T_91_84 rfl ?_
    refine x_rr T_91_87 ?_
    exact ⟨rfl, rfl⟩
  · skip
    refine CL_in mL_91 rfl ?_
    show WP fb _ 91 0 [some (vI 4)] [] σ _
    refine x_li (z := 4) T_91_0 rfl ?_
    refine x_swIn T_91_1 (by decide) (by decide) rfl ?_
    refine x_sta T_91_88 rfl ?_
    refine x_rr T_91_91 ?_
    exact ⟨rfl, rfl⟩
  · skip
    refine CL_in mL_91 rfl ?_
    show WP fb _ 91 0 [some (vI 5)] [] σ _
    refine x_li (z := 5) T_91_0 rfl ?_
    refine x_swIn T_91_1 (by decide) (by decide) rfl ?_
    refine x_sta T_91_92 rfl ?_
    refine x_rr T_91_95 ?_
    exact ⟨rfl, rfl⟩
  · skip
    refine CL_in mL_91 rfl ?_
    show WP fb _ 91 0 [some (vI 6)] [] σ _
    refine x_li (z := 6) T_91_0 rfl ?_
    refine x_swIn T_91_1 (by decide) (by decide) rfl ?_
    refine x_sta T_91_96 rfl ?_
    refine x_rr T_91_99 ?_
    exact ⟨rfl, rfl⟩
  · skip
    refine CL_in mL_91 rfl ?_
    show WP fb _ 91 0 [some (vI 7)] [] σ _
    refine x_li (z := 7) T_91_0 rfl ?_
    refine x_swIn T_91_1 (by decide) (by decide) rfl ?_
    refine x_sta T_91_100 rfl ?_
    refine x_rr T_91_103 ?_
    exact ⟨rfl, rfl⟩
  · skip
    refine CL_in mL_91 rfl ?_
    show WP fb _ 91 0 [some (vI 8)] [] σ _
    refine x_li (z := 8) T_91_0 rfl ?_
    refine x_swIn T_91_1 (by decide) (by decide) rfl ?_
    refine x_sta T_91_104 rfl ?_
    refine x_rr T_91_107 ?_
    exact ⟨rfl, rfl⟩
  · skip
    refine CL_in mL_91 rfl ?_
    show WP fb _ 91 0 [some (vI 9)] [] σ _
    refine x_li (z := 9) T_91_0 rfl ?_
    refine x_swIn T_91_1 (by decide) (by decide) rfl ?_
    refine x_sta T_91_108 rfl ?_
    refine x_rr T_91_111 ?_
    exact ⟨rfl, rfl⟩
  · skip
    refine CL_in mL_91 rfl ?_
    show WP fb _ 91 0 [some (vI 10)] [] σ _
    refine x_li (z := 10) T_91_0 rfl ?_
    refine x_swIn T_91_1 (by decide) (by decide) rfl ?_
    refine x_sta T_91_112 rfl ?_
    refine x_rr T_91_115 ?_
    exact ⟨rfl, rfl⟩
  · skip
    refine CL_in mL_91 rfl ?_
    show WP fb _ 91 0 [some (vI 11)] [] σ _
    refine x_li (z := 11) T_91_0 rfl ?_
    refine x_swIn T_91_1 (by decide) (by decide) rfl ?_
    refine x_sta T_91_116 rfl ?_
    refine x_rr T_91_119 ?_
    exact ⟨rfl, rfl⟩
  · skip
    refine CL_in mL_91 rfl ?_
    show WP fb _ 91 0 [some (vI 12)] [] σ _
    refine x_li (z := 12) T_91_0 rfl ?_
    refine x_swIn T_91_1 (by decide) (by decide) rfl ?_
    refine x_sta T_91_120 rfl ?_
    refine x_rr T_91_123 ?_
    exact ⟨rfl, rfl⟩
  · skip
    refine CL_in mL_91 rfl ?_
    show WP fb _ 91 0 [some (vI 13)] [] σ _
    refine x_li (z := 13) T_91_0 rfl ?_
    refine x_swIn T_91_1 (by decide) (by decide) rfl ?_
    refine x_sta T_91_124 rfl ?_
    refine x_rr T_91_127 ?_
    exact ⟨rfl, rfl⟩
  · skip
    refine CL_in mL_91 rfl ?_
    show WP fb _ 91 0 [some (vI 14)] [] σ _
    refine x_li (z := 14) T_91_0 rfl ?_
    refine x_swIn T_91_1 (by decide) (by decide) rfl ?_
    refine x_sta T_91_128 rfl ?_
    refine x_rr T_91_131 ?_
    exact ⟨rfl, rfl⟩
  · skip
    refine CL_in mL_91 rfl ?_
    show WP fb _ 91 0 [some (vI 15)] [] σ _
    refine x_li (z := 15) T_91_0 rfl ?_
    refine x_swIn T_91_1 (by decide) (by decide) rfl ?_
    refine x_sta T_91_132 rfl ?_
    refine x_rr T_91_135 ?_
    exact ⟨rfl, rfl⟩
  · skip
    refine CL_in mL_91 rfl ?_
    show WP fb _ 91 0 [some (vI 16)] [] σ _
    refine x_li (z := 16) T_91_0 rfl ?_
    refine x_swOut T_91_1 (by decide) ?_
    refine x_sta T_91_136 rfl ?_
    refine x_rr T_91_139 ?_
    exact ⟨rfl, rfl⟩
end XSRV
