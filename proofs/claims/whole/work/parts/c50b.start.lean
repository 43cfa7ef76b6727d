/-! the constructors: numbers -/
set_option maxRecDepth 1000000 in
set_option maxHeartbeats 40000000 in
theorem kC_i1 : kC kI1 = true := by decide +kernel
