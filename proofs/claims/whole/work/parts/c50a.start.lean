/-! the constructors: what is made -/
set_option maxRecDepth 1000000 in
set_option maxHeartbeats 40000000 in
theorem kC_o : kC kRo = true := by decide +kernel
set_option maxRecDepth 1000000 in
set_option maxHeartbeats 40000000 in
theorem kC_i3 : kC kI3 = true := by decide +kernel
