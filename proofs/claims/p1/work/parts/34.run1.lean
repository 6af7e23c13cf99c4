/-! A constructor, run by the kernel. Printed by wip/gen/pairs.py. -/
set_option maxRecDepth 100000 in
theorem run1_f : isV (lx hK (hE false) hTab 100000 21 0 0 (hpad (hent [vR (some 128)]) 2) [] (tN hτ0 (Sum.inl 0) 6)) hτ1 = true := sorry
set_option maxRecDepth 100000 in
theorem run1_t : isV (lx hK (hE true) hTab 100000 21 0 0 (hpad (hent [vR (some 128)]) 2) [] (tN hτ0 (Sum.inl 0) 6)) hτ1 = true := sorry
theorem run1_0 (fb : Bool) : isV (lx hK (hE fb) hTab 100000 21 0 0 (hpad (hent [vR (some 128)]) 2) [] (tN hτ0 (Sum.inl 0) 6)) hτ1 = true := by
  cases fb
  · exact run1_f
  · exact run1_t
