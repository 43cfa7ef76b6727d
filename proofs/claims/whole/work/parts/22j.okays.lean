set_option maxRecDepth 100000 in
set_option maxHeartbeats 4000000 in
theorem gvo_law : gv_okL gv_cl gv_fkT gv_tfT gv_meth gv_Ts gv_nests gv_strs gv_thrs gv_hnds gv_law := gv_chkM_ok (o := 13) (n := 2745) rfl (by decide +kernel)
