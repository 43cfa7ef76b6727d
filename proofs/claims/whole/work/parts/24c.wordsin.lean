set_option maxRecDepth 100000 in
set_option maxHeartbeats 4000000 in
theorem gv_T4_s240 : gv_scan lw_tbl ((gv_T4.drop 240).take 60) = true := by decide +kernel
set_option maxRecDepth 100000 in
set_option maxHeartbeats 4000000 in
theorem gv_T4_s300 : gv_scan lw_tbl ((gv_T4.drop 300).take 30) = true := by decide +kernel
theorem gv_T4_in : ∀ w ∈ gv_T4, w ∈ lw_tbl := fun w h => (gv_cut2 60 (gv_scan_in _ _ gv_T4_s0) (gv_cut2 60 (gv_scan_in _ _ gv_T4_s60) (gv_cut2 60 (gv_scan_in _ _ gv_T4_s120) (gv_cut2 60 (gv_scan_in _ _ gv_T4_s180) (gv_cut2 60 (gv_scan_in _ _ gv_T4_s240) (fun w h => gv_scan_in _ _ gv_T4_s300 w (by rw [List.take_of_length_le (by decide +kernel)]; exact h))))))) w (by rw [List.drop_zero]; exact h)
set_option maxRecDepth 100000 in
set_option maxHeartbeats 4000000 in
theorem gv_T5_s0 : gv_scan lw_tbl ((gv_T5.drop 0).take 60) = true := by decide +kernel
set_option maxRecDepth 100000 in
set_option maxHeartbeats 4000000 in
theorem gv_T5_s60 : gv_scan lw_tbl ((gv_T5.drop 60).take 60) = true := by decide +kernel
set_option maxRecDepth 100000 in
set_option maxHeartbeats 4000000 in
theorem gv_T5_s120 : gv_scan lw_tbl ((gv_T5.drop 120).take 60) = true := by decide +kernel
set_option maxRecDepth 100000 in
set_option maxHeartbeats 4000000 in
theorem gv_T5_s180 : gv_scan lw_tbl ((gv_T5.drop 180).take 60) = true := by decide +kernel
set_option maxRecDepth 100000 in
set_option maxHeartbeats 4000000 in
theorem gv_T5_s240 : gv_scan lw_tbl ((gv_T5.drop 240).take 60) = true := by decide +kernel
set_option maxRecDepth 100000 in
set_option maxHeartbeats 4000000 in
theorem gv_T5_s300 : gv_scan lw_tbl ((gv_T5.drop 300).take 43) = true := by decide +kernel
