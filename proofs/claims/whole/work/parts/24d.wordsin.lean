theorem gv_T5_in : ∀ w ∈ gv_T5, w ∈ lw_tbl := fun w h => (gv_cut2 60 (gv_scan_in _ _ gv_T5_s0) (gv_cut2 60 (gv_scan_in _ _ gv_T5_s60) (gv_cut2 60 (gv_scan_in _ _ gv_T5_s120) (gv_cut2 60 (gv_scan_in _ _ gv_T5_s180) (gv_cut2 60 (gv_scan_in _ _ gv_T5_s240) (fun w h => gv_scan_in _ _ gv_T5_s300 w (by rw [List.take_of_length_le (by decide +kernel)]; exact h))))))) w (by rw [List.drop_zero]; exact h)
set_option maxRecDepth 100000 in
set_option maxHeartbeats 4000000 in
theorem gv_T6_s0 : gv_scan lw_tbl ((gv_T6.drop 0).take 48) = true := by decide +kernel
theorem gv_T6_in : ∀ w ∈ gv_T6, w ∈ lw_tbl := fun w h => (fun w h => gv_scan_in _ _ gv_T6_s0 w (by rw [List.take_of_length_le (by decide +kernel)]; exact h)) w (by rw [List.drop_zero]; exact h)
