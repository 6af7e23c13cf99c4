/-! Logins, run by the kernel. Printed by wip/gen/pairs.py. -/
theorem j_login0 : pairJ 204 403 2 4 [vI 0] hτ2 = true := by decide +kernel
theorem j_login1 : pairJ 204 403 2 4 [vI 1] hτ2 = true := by decide +kernel
theorem j_login2 : pairJ 204 403 2 4 [vI 2] hτ2 = true := by decide +kernel
theorem j_login3 : pairJ 204 403 2 4 [vI 3] hτ2 = true := by decide +kernel
