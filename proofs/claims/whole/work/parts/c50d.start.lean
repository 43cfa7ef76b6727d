/-! the constructors: what lies where -/
set_option maxRecDepth 1000000 in
set_option maxHeartbeats 40000000 in
theorem kC_s0 : kC (kSh 0) = true := by decide +kernel
set_option maxRecDepth 1000000 in
set_option maxHeartbeats 40000000 in
theorem kC_s1 : kC (kSh 1) = true := by decide +kernel
set_option maxRecDepth 1000000 in
set_option maxHeartbeats 40000000 in
theorem kC_s2 : kC (kSh 2) = true := by decide +kernel
set_option maxRecDepth 1000000 in
set_option maxHeartbeats 40000000 in
theorem kC_s3 : kC (kSh 3) = true := by decide +kernel
set_option maxRecDepth 1000000 in
set_option maxHeartbeats 40000000 in
theorem kC_s4 : kC (kSh 4) = true := by decide +kernel
set_option maxRecDepth 1000000 in
set_option maxHeartbeats 40000000 in
theorem kC_s5 : kC (kSh 5) = true := by decide +kernel
set_option maxRecDepth 1000000 in
set_option maxHeartbeats 40000000 in
theorem kC_s6 : kC (kSh 6) = true := by decide +kernel
