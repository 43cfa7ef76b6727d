set_option maxRecDepth 100000 in
set_option maxHeartbeats 4000000 in
theorem gv_T9_s0 : gv_scan lw_tbl ((gv_T9.drop 0).take 18) = true := by decide +kernel
theorem gv_T9_in : ∀ w ∈ gv_T9, w ∈ lw_tbl := fun w h => (fun w h => gv_scan_in _ _ gv_T9_s0 w (by rw [List.take_of_length_le (by decide +kernel)]; exact h)) w (by rw [List.drop_zero]; exact h)
set_option maxRecDepth 100000 in
set_option maxHeartbeats 4000000 in
theorem gv_T10_in : ∀ w ∈ gv_T10, w ∈ lw_tbl := fun w h => List.mem_of_elem_eq_true ((List.all_eq_true.mp (by decide +kernel : gv_T10.all (fun w => lw_tbl.elem w) = true)) w h)
set_option maxRecDepth 100000 in
set_option maxHeartbeats 4000000 in
theorem gv_T11_s0 : gv_scan lw_tbl ((gv_T11.drop 0).take 1) = true := by decide +kernel
theorem gv_T11_in : ∀ w ∈ gv_T11, w ∈ lw_tbl := fun w h => (fun w h => gv_scan_in _ _ gv_T11_s0 w (by rw [List.take_of_length_le (by decide +kernel)]; exact h)) w (by rw [List.drop_zero]; exact h)
set_option maxRecDepth 100000 in
set_option maxHeartbeats 4000000 in
theorem gv_T12_s0 : gv_scan lw_tbl ((gv_T12.drop 0).take 7) = true := by decide +kernel
