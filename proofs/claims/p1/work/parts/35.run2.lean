/-! A constructor, run by the kernel. Printed by wip/gen/pairs.py. -/
set_option maxRecDepth 100000 in
theorem run2_f : isV (lx hK (hE false) hTab 100000 21 227 0 (hpad (hent [vR (some 2281)]) 3) [] (tN hτ1 (Sum.inl 17) 115)) hτ2 = true := by decide +kernel
set_option maxRecDepth 100000 in
theorem run2_t : isV (lx hK (hE true) hTab 100000 21 227 0 (hpad (hent [vR (some 2281)]) 3) [] (tN hτ1 (Sum.inl 17) 115)) hτ2 = true := by decide +kernel
theorem run2_0 (fb : Bool) : isV (lx hK (hE fb) hTab 100000 21 227 0 (hpad (hent [vR (some 2281)]) 3) [] (tN hτ1 (Sum.inl 17) 115)) hτ2 = true := by
  cases fb
  · exact run2_f
  · exact run2_t
