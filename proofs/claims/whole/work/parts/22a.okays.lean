set_option maxRecDepth 100000 in
set_option maxHeartbeats 4000000 in
theorem gvo_0 : gv_okM gv_cl gv_fkT gv_tfT gv_meth gv_Ts gv_nests gv_strs gv_thrs gv_hnds gvm_0 := ⟨gv_chkM_ok (o := 0) (n := 15) rfl (by decide +kernel), fun _ => gv_inT7 _ (List.mem_map.mpr ⟨0, by decide +kernel, rfl⟩), fun h => absurd rfl h⟩
set_option maxRecDepth 100000 in
set_option maxHeartbeats 4000000 in
theorem gvo_1 : gv_okM gv_cl gv_fkT gv_tfT gv_meth gv_Ts gv_nests gv_strs gv_thrs gv_hnds gvm_1 := ⟨gv_chkM_ok (o := 0) (n := 76) rfl (by decide +kernel), fun _ => gv_inT7 _ (List.mem_map.mpr ⟨1, by decide +kernel, rfl⟩), fun h => absurd rfl h⟩
set_option maxRecDepth 100000 in
set_option maxHeartbeats 4000000 in
theorem gvo_2 : gv_okM gv_cl gv_fkT gv_tfT gv_meth gv_Ts gv_nests gv_strs gv_thrs gv_hnds gvm_2 := ⟨gv_chkM_ok (o := 0) (n := 97) rfl (by decide +kernel), fun _ => gv_inT7 _ (List.mem_map.mpr ⟨2, by decide +kernel, rfl⟩), fun h => absurd rfl h⟩
set_option maxRecDepth 100000 in
set_option maxHeartbeats 4000000 in
theorem gvo_3 : gv_okM gv_cl gv_fkT gv_tfT gv_meth gv_Ts gv_nests gv_strs gv_thrs gv_hnds gvm_3 := ⟨gv_chkM_ok (o := 0) (n := 71) rfl (by decide +kernel), fun _ => gv_inT7 _ (List.mem_map.mpr ⟨3, by decide +kernel, rfl⟩), fun h => absurd rfl h⟩
set_option maxRecDepth 100000 in
set_option maxHeartbeats 4000000 in
theorem gvo_4 : gv_okM gv_cl gv_fkT gv_tfT gv_meth gv_Ts gv_nests gv_strs gv_thrs gv_hnds gvm_4 := ⟨gv_chkM_ok (o := 0) (n := 101) rfl (by decide +kernel), fun _ => gv_inT7 _ (List.mem_map.mpr ⟨4, by decide +kernel, rfl⟩), fun h => absurd rfl h⟩
set_option maxRecDepth 100000 in
set_option maxHeartbeats 4000000 in
theorem gvo_5 : gv_okM gv_cl gv_fkT gv_tfT gv_meth gv_Ts gv_nests gv_strs gv_thrs gv_hnds gvm_5 := ⟨gv_chkM_ok (o := 0) (n := 108) rfl (by decide +kernel), fun _ => gv_inT7 _ (List.mem_map.mpr ⟨5, by decide +kernel, rfl⟩), fun h => absurd rfl h⟩
set_option maxRecDepth 100000 in
set_option maxHeartbeats 4000000 in
theorem gvo_6 : gv_okM gv_cl gv_fkT gv_tfT gv_meth gv_Ts gv_nests gv_strs gv_thrs gv_hnds gvm_6 := ⟨gv_chkM_ok (o := 0) (n := 73) rfl (by decide +kernel), fun _ => gv_inT7 _ (List.mem_map.mpr ⟨6, by decide +kernel, rfl⟩), fun h => absurd rfl h⟩
set_option maxRecDepth 100000 in
set_option maxHeartbeats 4000000 in
theorem gvo_7 : gv_okM gv_cl gv_fkT gv_tfT gv_meth gv_Ts gv_nests gv_strs gv_thrs gv_hnds gvm_7 := ⟨gv_chkM_ok (o := 0) (n := 127) rfl (by decide +kernel), fun _ => gv_inT7 _ (List.mem_map.mpr ⟨7, by decide +kernel, rfl⟩), fun h => absurd rfl h⟩
set_option maxRecDepth 100000 in
set_option maxHeartbeats 4000000 in
theorem gvo_8 : gv_okM gv_cl gv_fkT gv_tfT gv_meth gv_Ts gv_nests gv_strs gv_thrs gv_hnds gvm_8 := ⟨gv_chkM_ok (o := 0) (n := 47) rfl (by decide +kernel), fun _ => gv_inT7 _ (List.mem_map.mpr ⟨8, by decide +kernel, rfl⟩), fun h => absurd rfl h⟩
set_option maxRecDepth 100000 in
set_option maxHeartbeats 4000000 in
theorem gvo_9 : gv_okM gv_cl gv_fkT gv_tfT gv_meth gv_Ts gv_nests gv_strs gv_thrs gv_hnds gvm_9 := ⟨gv_chkM_ok (o := 1) (n := 18) rfl (by decide +kernel), fun _ => gv_inT7 _ (List.mem_map.mpr ⟨9, by decide +kernel, rfl⟩), fun h => absurd rfl h⟩
set_option maxRecDepth 100000 in
set_option maxHeartbeats 4000000 in
theorem gvo_10 : gv_okM gv_cl gv_fkT gv_tfT gv_meth gv_Ts gv_nests gv_strs gv_thrs gv_hnds gvm_10 := ⟨gv_chkM_ok (o := 1) (n := 64) rfl (by decide +kernel), fun _ => gv_inT7 _ (List.mem_map.mpr ⟨10, by decide +kernel, rfl⟩), fun h => absurd rfl h⟩
set_option maxRecDepth 100000 in
set_option maxHeartbeats 4000000 in
theorem gvo_11 : gv_okM gv_cl gv_fkT gv_tfT gv_meth gv_Ts gv_nests gv_strs gv_thrs gv_hnds gvm_11 := ⟨gv_chkM_ok (o := 1) (n := 60) rfl (by decide +kernel), fun _ => gv_inT7 _ (List.mem_map.mpr ⟨11, by decide +kernel, rfl⟩), fun h => absurd rfl h⟩
set_option maxRecDepth 100000 in
set_option maxHeartbeats 4000000 in
theorem gvo_12 : gv_okM gv_cl gv_fkT gv_tfT gv_meth gv_Ts gv_nests gv_strs gv_thrs gv_hnds gvm_12 := ⟨gv_chkM_ok (o := 1) (n := 82) rfl (by decide +kernel), fun _ => gv_inT7 _ (List.mem_map.mpr ⟨12, by decide +kernel, rfl⟩), fun h => absurd rfl h⟩
set_option maxRecDepth 100000 in
set_option maxHeartbeats 4000000 in
theorem gvo_13 : gv_okM gv_cl gv_fkT gv_tfT gv_meth gv_Ts gv_nests gv_strs gv_thrs gv_hnds gvm_13 := ⟨gv_chkM_ok (o := 1) (n := 63) rfl (by decide +kernel), fun _ => gv_inT7 _ (List.mem_map.mpr ⟨13, by decide +kernel, rfl⟩), fun h => absurd rfl h⟩
set_option maxRecDepth 100000 in
set_option maxHeartbeats 4000000 in
theorem gvo_14 : gv_okM gv_cl gv_fkT gv_tfT gv_meth gv_Ts gv_nests gv_strs gv_thrs gv_hnds gvm_14 := ⟨gv_chkM_ok (o := 1) (n := 271) rfl (by decide +kernel), fun _ => gv_inT7 _ (List.mem_map.mpr ⟨14, by decide +kernel, rfl⟩), fun h => absurd rfl h⟩
set_option maxRecDepth 100000 in
set_option maxHeartbeats 4000000 in
theorem gvo_15 : gv_okM gv_cl gv_fkT gv_tfT gv_meth gv_Ts gv_nests gv_strs gv_thrs gv_hnds gvm_15 := ⟨gv_chkM_ok (o := 1) (n := 27) rfl (by decide +kernel), fun _ => gv_inT7 _ (List.mem_map.mpr ⟨15, by decide +kernel, rfl⟩), fun h => absurd rfl h⟩
set_option maxRecDepth 100000 in
set_option maxHeartbeats 4000000 in
theorem gvo_16 : gv_okM gv_cl gv_fkT gv_tfT gv_meth gv_Ts gv_nests gv_strs gv_thrs gv_hnds gvm_16 := ⟨gv_chkM_ok (o := 1) (n := 11) rfl (by decide +kernel), fun _ => gv_inT7 _ (List.mem_map.mpr ⟨16, by decide +kernel, rfl⟩), fun h => absurd rfl h⟩
set_option maxRecDepth 100000 in
set_option maxHeartbeats 4000000 in
theorem gvo_17 : gv_okM gv_cl gv_fkT gv_tfT gv_meth gv_Ts gv_nests gv_strs gv_thrs gv_hnds gvm_17 := ⟨gv_chkM_ok (o := 1) (n := 14) rfl (by decide +kernel), fun _ => gv_inT7 _ (List.mem_map.mpr ⟨17, by decide +kernel, rfl⟩), fun h => absurd rfl h⟩
set_option maxRecDepth 100000 in
set_option maxHeartbeats 4000000 in
theorem gvo_18 : gv_okM gv_cl gv_fkT gv_tfT gv_meth gv_Ts gv_nests gv_strs gv_thrs gv_hnds gvm_18 := ⟨gv_chkM_ok (o := 1) (n := 59) rfl (by decide +kernel), fun _ => gv_inT7 _ (List.mem_map.mpr ⟨18, by decide +kernel, rfl⟩), fun h => absurd rfl h⟩
set_option maxRecDepth 100000 in
set_option maxHeartbeats 4000000 in
theorem gvo_19 : gv_okM gv_cl gv_fkT gv_tfT gv_meth gv_Ts gv_nests gv_strs gv_thrs gv_hnds gvm_19 := ⟨gv_chkM_ok (o := 1) (n := 38) rfl (by decide +kernel), fun _ => gv_inT7 _ (List.mem_map.mpr ⟨19, by decide +kernel, rfl⟩), fun h => absurd rfl h⟩
set_option maxRecDepth 100000 in
set_option maxHeartbeats 4000000 in
theorem gvo_20 : gv_okM gv_cl gv_fkT gv_tfT gv_meth gv_Ts gv_nests gv_strs gv_thrs gv_hnds gvm_20 := ⟨gv_chkM_ok (o := 1) (n := 37) rfl (by decide +kernel), fun _ => gv_inT7 _ (List.mem_map.mpr ⟨20, by decide +kernel, rfl⟩), fun h => absurd rfl h⟩
set_option maxRecDepth 100000 in
set_option maxHeartbeats 4000000 in
theorem gvo_21 : gv_okM gv_cl gv_fkT gv_tfT gv_meth gv_Ts gv_nests gv_strs gv_thrs gv_hnds gvm_21 := ⟨gv_chkM_ok (o := 2) (n := 41) rfl (by decide +kernel), fun _ => gv_inT7 _ (List.mem_map.mpr ⟨21, by decide +kernel, rfl⟩), fun h => absurd rfl h⟩
set_option maxRecDepth 100000 in
set_option maxHeartbeats 4000000 in
theorem gvo_22 : gv_okM gv_cl gv_fkT gv_tfT gv_meth gv_Ts gv_nests gv_strs gv_thrs gv_hnds gvm_22 := ⟨gv_chkM_ok (o := 2) (n := 59) rfl (by decide +kernel), fun _ => gv_inT7 _ (List.mem_map.mpr ⟨22, by decide +kernel, rfl⟩), fun h => absurd rfl h⟩
set_option maxRecDepth 100000 in
set_option maxHeartbeats 4000000 in
theorem gvo_23 : gv_okM gv_cl gv_fkT gv_tfT gv_meth gv_Ts gv_nests gv_strs gv_thrs gv_hnds gvm_23 := ⟨gv_chkM_ok (o := 2) (n := 49) rfl (by decide +kernel), fun _ => gv_inT7 _ (List.mem_map.mpr ⟨23, by decide +kernel, rfl⟩), fun h => absurd rfl h⟩
set_option maxRecDepth 100000 in
set_option maxHeartbeats 4000000 in
theorem gvo_24 : gv_okM gv_cl gv_fkT gv_tfT gv_meth gv_Ts gv_nests gv_strs gv_thrs gv_hnds gvm_24 := ⟨gv_chkM_ok (o := 3) (n := 15) rfl (by decide +kernel), fun _ => gv_inT7 _ (List.mem_map.mpr ⟨24, by decide +kernel, rfl⟩), fun h => absurd rfl h⟩
set_option maxRecDepth 100000 in
set_option maxHeartbeats 4000000 in
theorem gvo_25 : gv_okM gv_cl gv_fkT gv_tfT gv_meth gv_Ts gv_nests gv_strs gv_thrs gv_hnds gvm_25 := ⟨gv_chkM_ok (o := 3) (n := 83) rfl (by decide +kernel), fun _ => gv_inT7 _ (List.mem_map.mpr ⟨25, by decide +kernel, rfl⟩), fun h => absurd rfl h⟩
set_option maxRecDepth 100000 in
set_option maxHeartbeats 4000000 in
theorem gvo_26 : gv_okM gv_cl gv_fkT gv_tfT gv_meth gv_Ts gv_nests gv_strs gv_thrs gv_hnds gvm_26 := ⟨gv_chkM_ok (o := 3) (n := 99) rfl (by decide +kernel), fun _ => gv_inT7 _ (List.mem_map.mpr ⟨26, by decide +kernel, rfl⟩), fun h => absurd rfl h⟩
set_option maxRecDepth 100000 in
set_option maxHeartbeats 4000000 in
theorem gvo_27 : gv_okM gv_cl gv_fkT gv_tfT gv_meth gv_Ts gv_nests gv_strs gv_thrs gv_hnds gvm_27 := ⟨gv_chkM_ok (o := 3) (n := 65) rfl (by decide +kernel), fun _ => gv_inT7 _ (List.mem_map.mpr ⟨27, by decide +kernel, rfl⟩), fun h => absurd rfl h⟩
set_option maxRecDepth 100000 in
set_option maxHeartbeats 4000000 in
theorem gvo_28 : gv_okM gv_cl gv_fkT gv_tfT gv_meth gv_Ts gv_nests gv_strs gv_thrs gv_hnds gvm_28 := ⟨gv_chkM_ok (o := 3) (n := 65) rfl (by decide +kernel), fun _ => gv_inT7 _ (List.mem_map.mpr ⟨28, by decide +kernel, rfl⟩), fun h => absurd rfl h⟩
set_option maxRecDepth 100000 in
set_option maxHeartbeats 4000000 in
theorem gvo_29 : gv_okM gv_cl gv_fkT gv_tfT gv_meth gv_Ts gv_nests gv_strs gv_thrs gv_hnds gvm_29 := ⟨gv_chkM_ok (o := 3) (n := 76) rfl (by decide +kernel), fun _ => gv_inT7 _ (List.mem_map.mpr ⟨29, by decide +kernel, rfl⟩), fun h => absurd rfl h⟩
set_option maxRecDepth 100000 in
set_option maxHeartbeats 4000000 in
theorem gvo_30 : gv_okM gv_cl gv_fkT gv_tfT gv_meth gv_Ts gv_nests gv_strs gv_thrs gv_hnds gvm_30 := ⟨gv_chkM_ok (o := 3) (n := 44) rfl (by decide +kernel), fun _ => gv_inT7 _ (List.mem_map.mpr ⟨30, by decide +kernel, rfl⟩), fun h => absurd rfl h⟩
set_option maxRecDepth 100000 in
set_option maxHeartbeats 4000000 in
theorem gvo_31 : gv_okM gv_cl gv_fkT gv_tfT gv_meth gv_Ts gv_nests gv_strs gv_thrs gv_hnds gvm_31 := ⟨gv_chkM_ok (o := 3) (n := 62) rfl (by decide +kernel), fun _ => gv_inT7 _ (List.mem_map.mpr ⟨31, by decide +kernel, rfl⟩), fun h => absurd rfl h⟩
set_option maxRecDepth 100000 in
set_option maxHeartbeats 4000000 in
theorem gvo_32 : gv_okM gv_cl gv_fkT gv_tfT gv_meth gv_Ts gv_nests gv_strs gv_thrs gv_hnds gvm_32 := ⟨gv_chkM_ok (o := 3) (n := 172) rfl (by decide +kernel), fun _ => gv_inT7 _ (List.mem_map.mpr ⟨32, by decide +kernel, rfl⟩), fun h => absurd rfl h⟩
set_option maxRecDepth 100000 in
set_option maxHeartbeats 4000000 in
theorem gvo_33 : gv_okM gv_cl gv_fkT gv_tfT gv_meth gv_Ts gv_nests gv_strs gv_thrs gv_hnds gvm_33 := ⟨gv_chkM_ok (o := 3) (n := 34) rfl (by decide +kernel), fun _ => gv_inT7 _ (List.mem_map.mpr ⟨33, by decide +kernel, rfl⟩), fun h => absurd rfl h⟩
set_option maxRecDepth 100000 in
set_option maxHeartbeats 4000000 in
theorem gvo_34 : gv_okM gv_cl gv_fkT gv_tfT gv_meth gv_Ts gv_nests gv_strs gv_thrs gv_hnds gvm_34 := ⟨gv_chkM_ok (o := 4) (n := 61) rfl (by decide +kernel), fun _ => gv_inT7 _ (List.mem_map.mpr ⟨34, by decide +kernel, rfl⟩), fun h => absurd rfl h⟩
set_option maxRecDepth 100000 in
set_option maxHeartbeats 4000000 in
theorem gvo_35 : gv_okM gv_cl gv_fkT gv_tfT gv_meth gv_Ts gv_nests gv_strs gv_thrs gv_hnds gvm_35 := ⟨gv_chkM_ok (o := 4) (n := 10) rfl (by decide +kernel), fun _ => gv_inT7 _ (List.mem_map.mpr ⟨35, by decide +kernel, rfl⟩), fun h => absurd rfl h⟩
set_option maxRecDepth 100000 in
set_option maxHeartbeats 4000000 in
theorem gvo_36 : gv_okM gv_cl gv_fkT gv_tfT gv_meth gv_Ts gv_nests gv_strs gv_thrs gv_hnds gvm_36 := ⟨gv_chkM_ok (o := 4) (n := 109) rfl (by decide +kernel), fun _ => gv_inT7 _ (List.mem_map.mpr ⟨36, by decide +kernel, rfl⟩), fun h => absurd rfl h⟩
set_option maxRecDepth 100000 in
set_option maxHeartbeats 4000000 in
theorem gvo_37 : gv_okM gv_cl gv_fkT gv_tfT gv_meth gv_Ts gv_nests gv_strs gv_thrs gv_hnds gvm_37 := ⟨gv_chkM_ok (o := 4) (n := 186) rfl (by decide +kernel), fun _ => gv_inT7 _ (List.mem_map.mpr ⟨37, by decide +kernel, rfl⟩), fun h => absurd rfl h⟩
set_option maxRecDepth 100000 in
set_option maxHeartbeats 4000000 in
theorem gvo_38 : gv_okM gv_cl gv_fkT gv_tfT gv_meth gv_Ts gv_nests gv_strs gv_thrs gv_hnds gvm_38 := ⟨gv_chkM_ok (o := 5) (n := 14) rfl (by decide +kernel), fun _ => gv_inT7 _ (List.mem_map.mpr ⟨38, by decide +kernel, rfl⟩), fun h => absurd rfl h⟩
set_option maxRecDepth 100000 in
set_option maxHeartbeats 4000000 in
theorem gvo_39 : gv_okM gv_cl gv_fkT gv_tfT gv_meth gv_Ts gv_nests gv_strs gv_thrs gv_hnds gvm_39 := ⟨gv_chkM_ok (o := 5) (n := 33) rfl (by decide +kernel), fun _ => gv_inT7 _ (List.mem_map.mpr ⟨39, by decide +kernel, rfl⟩), fun h => absurd rfl h⟩
set_option maxRecDepth 100000 in
set_option maxHeartbeats 4000000 in
theorem gvo_40 : gv_okM gv_cl gv_fkT gv_tfT gv_meth gv_Ts gv_nests gv_strs gv_thrs gv_hnds gvm_40 := ⟨gv_chkM_ok (o := 5) (n := 93) rfl (by decide +kernel), fun _ => gv_inT7 _ (List.mem_map.mpr ⟨40, by decide +kernel, rfl⟩), fun h => absurd rfl h⟩
set_option maxRecDepth 100000 in
set_option maxHeartbeats 4000000 in
theorem gvo_41 : gv_okM gv_cl gv_fkT gv_tfT gv_meth gv_Ts gv_nests gv_strs gv_thrs gv_hnds gvm_41 := ⟨gv_chkM_ok (o := 5) (n := 53) rfl (by decide +kernel), fun _ => gv_inT7 _ (List.mem_map.mpr ⟨41, by decide +kernel, rfl⟩), fun h => absurd rfl h⟩
set_option maxRecDepth 100000 in
set_option maxHeartbeats 4000000 in
theorem gvo_42 : gv_okM gv_cl gv_fkT gv_tfT gv_meth gv_Ts gv_nests gv_strs gv_thrs gv_hnds gvm_42 := ⟨gv_chkM_ok (o := 6) (n := 45) rfl (by decide +kernel), fun _ => gv_inT7 _ (List.mem_map.mpr ⟨42, by decide +kernel, rfl⟩), fun h => absurd rfl h⟩
