/-! Small methods, run by the kernel. Printed by wip/gen/pairs.py. -/
theorem j_messages_f : pairJ false 211 408 1 1 [] hτ2 = true := by decide +kernel
theorem j_messages_t : pairJ true 211 408 1 1 [] hτ2 = true := by decide +kernel
theorem j_messages (fb : Bool) : pairJ fb 211 408 1 1 [] hτ2 = true := by
  cases fb
  · exact j_messages_f
  · exact j_messages_t
theorem j_message_f : (List.range 6).all (fun i => (List.range 19).all (fun j => pairJ false 212 409 4 4 [vI (i : Int), vI (j : Int)] hτ2)) = true := by decide +kernel
theorem j_message_t : (List.range 6).all (fun i => (List.range 19).all (fun j => pairJ true 212 409 4 4 [vI (i : Int), vI (j : Int)] hτ2)) = true := by decide +kernel
theorem j_message (fb : Bool) : (List.range 6).all (fun i => (List.range 19).all (fun j => pairJ fb 212 409 4 4 [vI (i : Int), vI (j : Int)] hτ2)) = true := by
  cases fb
  · exact j_message_f
  · exact j_message_t
theorem j_ask0_f : pairJ false 216 412 2 3 [vI 0] hτ2 = true := by decide +kernel
theorem j_ask0_t : pairJ true 216 412 2 3 [vI 0] hτ2 = true := by decide +kernel
theorem j_ask0 (fb : Bool) : pairJ fb 216 412 2 3 [vI 0] hτ2 = true := by
  cases fb
  · exact j_ask0_f
  · exact j_ask0_t
theorem j_ask1_f : pairJ false 216 412 2 3 [vI 1] hτ2 = true := by decide +kernel
theorem j_ask1_t : pairJ true 216 412 2 3 [vI 1] hτ2 = true := by decide +kernel
theorem j_ask1 (fb : Bool) : pairJ fb 216 412 2 3 [vI 1] hτ2 = true := by
  cases fb
  · exact j_ask1_f
  · exact j_ask1_t
theorem j_ask2_f : pairJ false 216 412 2 3 [vI 2] hτ2 = true := by decide +kernel
theorem j_ask2_t : pairJ true 216 412 2 3 [vI 2] hτ2 = true := by decide +kernel
theorem j_ask2 (fb : Bool) : pairJ fb 216 412 2 3 [vI 2] hτ2 = true := by
  cases fb
  · exact j_ask2_f
  · exact j_ask2_t
theorem j_server_f : (List.range 3).all (fun i => (List.range 6).all (fun j => pairJ false 224 420 4 5 [vI (i : Int), vI (j : Int)] hτ2)) = true := by decide +kernel
theorem j_server_t : (List.range 3).all (fun i => (List.range 6).all (fun j => pairJ true 224 420 4 5 [vI (i : Int), vI (j : Int)] hτ2)) = true := by decide +kernel
theorem j_server (fb : Bool) : (List.range 3).all (fun i => (List.range 6).all (fun j => pairJ fb 224 420 4 5 [vI (i : Int), vI (j : Int)] hτ2)) = true := by
  cases fb
  · exact j_server_f
  · exact j_server_t
