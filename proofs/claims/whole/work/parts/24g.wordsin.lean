set_option maxRecDepth 100000 in
set_option maxHeartbeats 4000000 in
theorem gv_T2_good : gv_T2.all goodWord = true := by decide +kernel
set_option maxRecDepth 100000 in
set_option maxHeartbeats 4000000 in
theorem gv_T3_good : gv_T3.all goodWord = true := by decide +kernel
set_option maxRecDepth 100000 in
set_option maxHeartbeats 4000000 in
theorem gv_T4_good : gv_T4.all goodWord = true := by decide +kernel
set_option maxRecDepth 100000 in
set_option maxHeartbeats 4000000 in
theorem gv_T5_good : gv_T5.all goodWord = true := by decide +kernel
set_option maxRecDepth 100000 in
set_option maxHeartbeats 4000000 in
theorem gv_T6_good : gv_T6.all goodWord = true := by decide +kernel
set_option maxRecDepth 100000 in
set_option maxHeartbeats 4000000 in
theorem gv_T7_good : gv_T7.all goodWord = true := by decide +kernel
set_option maxRecDepth 100000 in
set_option maxHeartbeats 4000000 in
theorem gv_T8_good : gv_T8.all goodWord = true := by decide +kernel
set_option maxRecDepth 100000 in
set_option maxHeartbeats 4000000 in
theorem gv_T9_good : gv_T9.all goodWord = true := by decide +kernel
set_option maxRecDepth 100000 in
set_option maxHeartbeats 4000000 in
theorem gv_T10_good : gv_T10.all goodWord = true := by decide +kernel
