/-! The class's constructor, run by the kernel in four stretches. Printed by wip/gen/chunk.py. -/
set_option maxRecDepth 100000 in
theorem run1_0f : isP (lxp hK (hE false) hTab 13 100000 21 0 0 (hpad (hent [vR (some 128)]) 2) [] (tN hτ0 (Sum.inl 0) 6)) [some (vR (some 128)), some (vR (some 129))] [vR (some 129)] hτa = true := by decide +kernel
set_option maxRecDepth 100000 in
theorem run1_0t : isP (lxp hK (hE true) hTab 13 100000 21 0 0 (hpad (hent [vR (some 128)]) 2) [] (tN hτ0 (Sum.inl 0) 6)) [some (vR (some 128)), some (vR (some 129))] [vR (some 129)] hτa = true := by decide +kernel
theorem run1_0 (fb : Bool) : isP (lxp hK (hE fb) hTab 13 100000 21 0 0 (hpad (hent [vR (some 128)]) 2) [] (tN hτ0 (Sum.inl 0) 6)) [some (vR (some 128)), some (vR (some 129))] [vR (some 129)] hτa = true := by
  cases fb
  · exact run1_0f
  · exact run1_0t
set_option maxRecDepth 100000 in
theorem run1_1f : isP (lxp hK (hE false) hTab 40 100000 21 0 13 [some (vR (some 128)), some (vR (some 129))] [vR (some 129)] hτa) [some (vR (some 128)), some (vR (some 129))] [vR (some 1881), vR (some 1587), vR (some 1293), vR (some 129)] hτb = true := by decide +kernel
set_option maxRecDepth 100000 in
theorem run1_1t : isP (lxp hK (hE true) hTab 40 100000 21 0 13 [some (vR (some 128)), some (vR (some 129))] [vR (some 129)] hτa) [some (vR (some 128)), some (vR (some 129))] [vR (some 1881), vR (some 1587), vR (some 1293), vR (some 129)] hτb = true := by decide +kernel
theorem run1_1 (fb : Bool) : isP (lxp hK (hE fb) hTab 40 100000 21 0 13 [some (vR (some 128)), some (vR (some 129))] [vR (some 129)] hτa) [some (vR (some 128)), some (vR (some 129))] [vR (some 1881), vR (some 1587), vR (some 1293), vR (some 129)] hτb = true := by
  cases fb
  · exact run1_1f
  · exact run1_1t
set_option maxRecDepth 100000 in
theorem run1_2f : isP (lxp hK (hE false) hTab 45 100000 21 0 40 [some (vR (some 128)), some (vR (some 129))] [vR (some 1881), vR (some 1587), vR (some 1293), vR (some 129)] hτb) [some (vR (some 128)), some (vR (some 129))] [vR (some 129), vR (some 128)] hτc = true := by decide +kernel
set_option maxRecDepth 100000 in
theorem run1_2t : isP (lxp hK (hE true) hTab 45 100000 21 0 40 [some (vR (some 128)), some (vR (some 129))] [vR (some 1881), vR (some 1587), vR (some 1293), vR (some 129)] hτb) [some (vR (some 128)), some (vR (some 129))] [vR (some 129), vR (some 128)] hτc = true := by decide +kernel
theorem run1_2 (fb : Bool) : isP (lxp hK (hE fb) hTab 45 100000 21 0 40 [some (vR (some 128)), some (vR (some 129))] [vR (some 1881), vR (some 1587), vR (some 1293), vR (some 129)] hτb) [some (vR (some 128)), some (vR (some 129))] [vR (some 129), vR (some 128)] hτc = true := by
  cases fb
  · exact run1_2f
  · exact run1_2t
set_option maxRecDepth 100000 in
theorem run1_3f : isV (lx hK (hE false) hTab 100000 21 0 45 [some (vR (some 128)), some (vR (some 129))] [vR (some 129), vR (some 128)] hτc) hτ1 = true := by decide +kernel
set_option maxRecDepth 100000 in
theorem run1_3t : isV (lx hK (hE true) hTab 100000 21 0 45 [some (vR (some 128)), some (vR (some 129))] [vR (some 129), vR (some 128)] hτc) hτ1 = true := by decide +kernel
theorem run1_3 (fb : Bool) : isV (lx hK (hE fb) hTab 100000 21 0 45 [some (vR (some 128)), some (vR (some 129))] [vR (some 129), vR (some 128)] hτc) hτ1 = true := by
  cases fb
  · exact run1_3f
  · exact run1_3t
theorem run1_0a (fb : Bool) : lx hK (hE fb) hTab (100000 + (100000 + (100000 + 100000))) 21 0 0 (hpad (hent [vR (some 128)]) 2) [] (tN hτ0 (Sum.inl 0) 6) = some (none, hτ1) :=
  lxp_lx _ _ _ _ _ _ _ _ _ _ _ _ (isP_eq (run1_0 fb)) (lxp_lx _ _ _ _ _ _ _ _ _ _ _ _ (isP_eq (run1_1 fb)) (lxp_lx _ _ _ _ _ _ _ _ _ _ _ _ (isP_eq (run1_2 fb)) (isV_eq (run1_3 fb))))
