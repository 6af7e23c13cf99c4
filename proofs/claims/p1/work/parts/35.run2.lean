/-! A constructor, run by the kernel. Printed by wip/gen/pairs.py. -/
set_option maxRecDepth 100000 in
theorem run2_0 : isV (lx hK (hE false) hTab1 100000 21 227 0 (hpad (hent [vR (some 2281)]) 3) [] (tN hτ1 (Sum.inl 17) 115)) hτ2 = true := by decide +kernel
