set_option maxRecDepth 100000 in
set_option maxHeartbeats 4000000 in
theorem gv_T3_s240 : gv_scan lw_tbl ((gv_T3.drop 240).take 60) = true := by decide +kernel
set_option maxRecDepth 100000 in
set_option maxHeartbeats 4000000 in
theorem gv_T3_s300 : gv_scan lw_tbl ((gv_T3.drop 300).take 60) = true := by decide +kernel
set_option maxRecDepth 100000 in
set_option maxHeartbeats 4000000 in
theorem gv_T3_s360 : gv_scan lw_tbl ((gv_T3.drop 360).take 60) = true := by decide +kernel
set_option maxRecDepth 100000 in
set_option maxHeartbeats 4000000 in
theorem gv_T3_s420 : gv_scan lw_tbl ((gv_T3.drop 420).take 22) = true := by decide +kernel
theorem gv_T3_in : ∀ w ∈ gv_T3, w ∈ lw_tbl := fun w h => (gv_cut2 60 (gv_scan_in _ _ gv_T3_s0) (gv_cut2 60 (gv_scan_in _ _ gv_T3_s60) (gv_cut2 60 (gv_scan_in _ _ gv_T3_s120) (gv_cut2 60 (gv_scan_in _ _ gv_T3_s180) (gv_cut2 60 (gv_scan_in _ _ gv_T3_s240) (gv_cut2 60 (gv_scan_in _ _ gv_T3_s300) (gv_cut2 60 (gv_scan_in _ _ gv_T3_s360) (fun w h => gv_scan_in _ _ gv_T3_s420 w (by rw [List.take_of_length_le (by decide +kernel)]; exact h))))))))) w (by rw [List.drop_zero]; exact h)
set_option maxRecDepth 100000 in
set_option maxHeartbeats 4000000 in
theorem gv_T4_s0 : gv_scan lw_tbl ((gv_T4.drop 0).take 60) = true := by decide +kernel
set_option maxRecDepth 100000 in
set_option maxHeartbeats 4000000 in
theorem gv_T4_s60 : gv_scan lw_tbl ((gv_T4.drop 60).take 60) = true := by decide +kernel
set_option maxRecDepth 100000 in
set_option maxHeartbeats 4000000 in
theorem gv_T4_s120 : gv_scan lw_tbl ((gv_T4.drop 120).take 60) = true := by decide +kernel
set_option maxRecDepth 100000 in
set_option maxHeartbeats 4000000 in
theorem gv_T4_s180 : gv_scan lw_tbl ((gv_T4.drop 180).take 60) = true := by decide +kernel
