/-! Logins, run by the kernel. Printed by wip/gen/pairs.py. -/
theorem j_login0_f : pairJ false 204 403 2 4 [vI 0] hτ2 = true := by decide +kernel
theorem j_login0_t : pairJ true 204 403 2 4 [vI 0] hτ2 = true := by decide +kernel
theorem j_login0 (fb : Bool) : pairJ fb 204 403 2 4 [vI 0] hτ2 = true := by
  cases fb
  · exact j_login0_f
  · exact j_login0_t
theorem j_login1_f : pairJ false 204 403 2 4 [vI 1] hτ2 = true := by decide +kernel
theorem j_login1_t : pairJ true 204 403 2 4 [vI 1] hτ2 = true := by decide +kernel
theorem j_login1 (fb : Bool) : pairJ fb 204 403 2 4 [vI 1] hτ2 = true := by
  cases fb
  · exact j_login1_f
  · exact j_login1_t
theorem j_login2_f : pairJ false 204 403 2 4 [vI 2] hτ2 = true := by decide +kernel
theorem j_login2_t : pairJ true 204 403 2 4 [vI 2] hτ2 = true := by decide +kernel
theorem j_login2 (fb : Bool) : pairJ fb 204 403 2 4 [vI 2] hτ2 = true := by
  cases fb
  · exact j_login2_f
  · exact j_login2_t
theorem j_login3_f : pairJ false 204 403 2 4 [vI 3] hτ2 = true := by decide +kernel
theorem j_login3_t : pairJ true 204 403 2 4 [vI 3] hτ2 = true := by decide +kernel
theorem j_login3 (fb : Bool) : pairJ fb 204 403 2 4 [vI 3] hτ2 = true := by
  cases fb
  · exact j_login3_f
  · exact j_login3_t
