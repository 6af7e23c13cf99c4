/-! Runs by the kernel. -/
def en (l : List Int) : List (Nat × Int) := (List.range l.length).map (fun k => (k, l.getD k 0))
def cell0 (a : Nat) : tC :=
  if a = 2 then (some (Sum.inr (0, 4)), en hUN, []) else if a = 3 then (some (Sum.inr (0, 4)), en hND, [])
  else if 4 ≤ a ∧ a < 4 + 2 * hNS then (if a % 2 = 0 then (some (Sum.inl 10), [], [(0, some (a + 1))]) else (some (Sum.inr (1, hTl ((a - 4) / 2))), en (hTb.getD ((a - 4) / 2) []), [])) else dC
def hτ0 : tM := (hK, 0, [(List.range 8).map (fun p => (List.range 16).map (fun q => cell0 (16 * p + q)))])
set_option maxRecDepth 100000 in
theorem zz : (lx hK (hE false) hTab 100000 15 1 0 (hpad (hent [vR (some 129)]) 2) [] (tN (tN hτ0 (Sum.inl 0) 6) (Sum.inl 1) 19)).isSome = true := by decide +kernel
