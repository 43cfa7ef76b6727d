theorem gv_T12_in : ∀ w ∈ gv_T12, w ∈ lw_tbl := fun w h => (fun w h => gv_scan_in _ _ gv_T12_s0 w (by rw [List.take_of_length_le (by decide +kernel)]; exact h)) w (by rw [List.drop_zero]; exact h)
set_option maxRecDepth 100000 in
set_option maxHeartbeats 4000000 in
theorem gv_T13_s0 : gv_scan lw_tbl ((gv_T13.drop 0).take 7) = true := by decide +kernel
theorem gv_T13_in : ∀ w ∈ gv_T13, w ∈ lw_tbl := fun w h => (fun w h => gv_scan_in _ _ gv_T13_s0 w (by rw [List.take_of_length_le (by decide +kernel)]; exact h)) w (by rw [List.drop_zero]; exact h)
set_option maxRecDepth 100000 in
set_option maxHeartbeats 4000000 in
theorem gv_T14_s0 : gv_scan lw_tbl ((gv_T14.drop 0).take 13) = true := by decide +kernel
theorem gv_T14_in : ∀ w ∈ gv_T14, w ∈ lw_tbl := fun w h => (fun w h => gv_scan_in _ _ gv_T14_s0 w (by rw [List.take_of_length_le (by decide +kernel)]; exact h)) w (by rw [List.drop_zero]; exact h)
set_option maxRecDepth 100000 in
set_option maxHeartbeats 4000000 in
theorem gv_T15_s0 : gv_scan lw_tbl ((gv_T15.drop 0).take 6) = true := by decide +kernel
theorem gv_T15_in : ∀ w ∈ gv_T15, w ∈ lw_tbl := fun w h => (fun w h => gv_scan_in _ _ gv_T15_s0 w (by rw [List.take_of_length_le (by decide +kernel)]; exact h)) w (by rw [List.drop_zero]; exact h)
set_option maxRecDepth 100000 in
set_option maxHeartbeats 4000000 in
theorem gv_T16_in : ∀ w ∈ gv_T16, w ∈ lw_tbl := fun w h => List.mem_of_elem_eq_true ((List.all_eq_true.mp (by decide +kernel : gv_T16.all (fun w => lw_tbl.elem w) = true)) w h)
theorem gv_Ts_in : ∀ w ∈ gv_Ts, w ∈ lw_tbl := fun w h => (List.mem_append.mp h).elim (fun h => gv_T1_in w h) (fun h => (List.mem_append.mp h).elim (fun h => gv_T2_in w h) (fun h => (List.mem_append.mp h).elim (fun h => gv_T3_in w h) (fun h => (List.mem_append.mp h).elim (fun h => gv_T4_in w h) (fun h => (List.mem_append.mp h).elim (fun h => gv_T5_in w h) (fun h => (List.mem_append.mp h).elim (fun h => gv_T6_in w h) (fun h => (List.mem_append.mp h).elim (fun h => gv_T7_in w h) (fun h => (List.mem_append.mp h).elim (fun h => gv_T8_in w h) (fun h => (List.mem_append.mp h).elim (fun h => gv_T9_in w h) (fun h => (List.mem_append.mp h).elim (fun h => gv_T10_in w h) (fun h => (List.mem_append.mp h).elim (fun h => gv_T11_in w h) (fun h => (List.mem_append.mp h).elim (fun h => gv_T12_in w h) (fun h => (List.mem_append.mp h).elim (fun h => gv_T13_in w h) (fun h => (List.mem_append.mp h).elim (fun h => gv_T14_in w h) (fun h => (List.mem_append.mp h).elim (fun h => gv_T15_in w h) (fun h => gv_T16_in w h)))))))))))))))
