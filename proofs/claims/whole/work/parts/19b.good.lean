/-! the words stay -/
set_option maxRecDepth 100000 in
set_option maxHeartbeats 4000000 in
theorem gv_T1_good : gv_T1.all goodWord = true := by decide +kernel
set_option maxRecDepth 100000 in
set_option maxHeartbeats 4000000 in
theorem gv_T2_good : gv_T2.all goodWord = true := by decide +kernel
set_option maxRecDepth 100000 in
set_option maxHeartbeats 4000000 in
theorem gv_T3_good : gv_T3.all goodWord = true := by decide +kernel
set_option maxRecDepth 100000 in
set_option maxHeartbeats 4000000 in
theorem gv_T4_good : gv_T4.all goodWord = true := by decide +kernel
set_option maxRecDepth 100000 in
set_option maxHeartbeats 4000000 in
theorem gv_T5_good : gv_T5.all goodWord = true := by decide +kernel
set_option maxRecDepth 100000 in
set_option maxHeartbeats 4000000 in
theorem gv_T6_good : gv_T6.all goodWord = true := by decide +kernel
set_option maxRecDepth 100000 in
set_option maxHeartbeats 4000000 in
theorem gv_T7_good : gv_T7.all goodWord = true := by decide +kernel
set_option maxRecDepth 100000 in
set_option maxHeartbeats 4000000 in
theorem gv_T8_good : gv_T8.all goodWord = true := by decide +kernel
set_option maxRecDepth 100000 in
set_option maxHeartbeats 4000000 in
theorem gv_T9_good : gv_T9.all goodWord = true := by decide +kernel
set_option maxRecDepth 100000 in
set_option maxHeartbeats 4000000 in
theorem gv_T10_good : gv_T10.all goodWord = true := by decide +kernel
set_option maxRecDepth 100000 in
set_option maxHeartbeats 4000000 in
theorem gv_T11_good : gv_T11.all goodWord = true := by decide +kernel
set_option maxRecDepth 100000 in
set_option maxHeartbeats 4000000 in
theorem gv_T12_good : gv_T12.all goodWord = true := by decide +kernel
set_option maxRecDepth 100000 in
set_option maxHeartbeats 4000000 in
theorem gv_T13_good : gv_T13.all goodWord = true := by decide +kernel
set_option maxRecDepth 100000 in
set_option maxHeartbeats 4000000 in
theorem gv_T14_good : gv_T14.all goodWord = true := by decide +kernel
set_option maxRecDepth 100000 in
set_option maxHeartbeats 4000000 in
theorem gv_T15_good : gv_T15.all goodWord = true := by decide +kernel
set_option maxRecDepth 100000 in
set_option maxHeartbeats 4000000 in
theorem gv_T16_good : gv_T16.all goodWord = true := by decide +kernel
theorem gv_Ts_good : ∀ w ∈ gv_Ts, (w.onTables && w.keeps) = true ∨ ∃ ty, w = .arrayClass ty := fun w h => good_of_word ((List.mem_append.mp h).elim (fun h => List.all_eq_true.mp gv_T1_good w h) (fun h => (List.mem_append.mp h).elim (fun h => List.all_eq_true.mp gv_T2_good w h) (fun h => (List.mem_append.mp h).elim (fun h => List.all_eq_true.mp gv_T3_good w h) (fun h => (List.mem_append.mp h).elim (fun h => List.all_eq_true.mp gv_T4_good w h) (fun h => (List.mem_append.mp h).elim (fun h => List.all_eq_true.mp gv_T5_good w h) (fun h => (List.mem_append.mp h).elim (fun h => List.all_eq_true.mp gv_T6_good w h) (fun h => (List.mem_append.mp h).elim (fun h => List.all_eq_true.mp gv_T7_good w h) (fun h => (List.mem_append.mp h).elim (fun h => List.all_eq_true.mp gv_T8_good w h) (fun h => (List.mem_append.mp h).elim (fun h => List.all_eq_true.mp gv_T9_good w h) (fun h => (List.mem_append.mp h).elim (fun h => List.all_eq_true.mp gv_T10_good w h) (fun h => (List.mem_append.mp h).elim (fun h => List.all_eq_true.mp gv_T11_good w h) (fun h => (List.mem_append.mp h).elim (fun h => List.all_eq_true.mp gv_T12_good w h) (fun h => (List.mem_append.mp h).elim (fun h => List.all_eq_true.mp gv_T13_good w h) (fun h => (List.mem_append.mp h).elim (fun h => List.all_eq_true.mp gv_T14_good w h) (fun h => (List.mem_append.mp h).elim (fun h => List.all_eq_true.mp gv_T15_good w h) (fun h => List.all_eq_true.mp gv_T16_good w h))))))))))))))))
