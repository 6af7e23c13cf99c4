/-! A constructor, run by the kernel. Printed by wip/gen/pairs.py. -/
set_option maxRecDepth 100000 in
theorem run1_0 : isV (lx hK (hE false) hTab1 100000 21 0 0 (hpad (hent [vR (some 128)]) 2) [] (tN hτ0 (Sum.inl 0) 6)) hτ1 = true := by decide +kernel
