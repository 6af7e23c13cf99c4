/-! Small methods, run by the kernel. Printed by wip/gen/pairs.py. -/
theorem j_messages : pairJ 211 408 1 1 [] hτ2 = true := by decide +kernel
theorem j_message : (List.range 6).all (fun i => (List.range 19).all (fun j => pairJ 212 409 4 4 [vI (i : Int), vI (j : Int)] hτ2)) = true := by decide +kernel
theorem j_ask0 : pairJ 216 412 2 3 [vI 0] hτ2 = true := by decide +kernel
theorem j_ask1 : pairJ 216 412 2 3 [vI 1] hτ2 = true := by decide +kernel
theorem j_ask2 : pairJ 216 412 2 3 [vI 2] hτ2 = true := by decide +kernel
theorem j_server : (List.range 3).all (fun i => (List.range 6).all (fun j => pairJ 224 420 4 5 [vI (i : Int), vI (j : Int)] hτ2)) = true := by decide +kernel
