set_option maxRecDepth 100000 in
set_option maxHeartbeats 4000000 in
theorem gvo_371 : gv_okM gv_cl gv_fkT gv_tfT gv_meth gv_Ts gv_nests gv_strs gv_thrs gv_hnds gvm_371 := ⟨gv_chkM_ok (o := 13) (n := 19) rfl (by decide +kernel), (fun h => absurd h (List.cons_ne_nil _ _)), fun _ => gv_inT8 _ (List.mem_map.mpr ⟨371, by decide +kernel, rfl⟩)⟩
set_option maxRecDepth 100000 in
set_option maxHeartbeats 4000000 in
theorem gvo_372 : gv_okM gv_cl gv_fkT gv_tfT gv_meth gv_Ts gv_nests gv_strs gv_thrs gv_hnds gvm_372 := ⟨gv_chkM_ok (o := 13) (n := 30) rfl (by decide +kernel), (fun h => absurd h (List.cons_ne_nil _ _)), fun _ => gv_inT8 _ (List.mem_map.mpr ⟨372, by decide +kernel, rfl⟩)⟩
set_option maxRecDepth 100000 in
set_option maxHeartbeats 4000000 in
theorem gvo_373 : gv_okM gv_cl gv_fkT gv_tfT gv_meth gv_Ts gv_nests gv_strs gv_thrs gv_hnds gvm_373 := ⟨gv_chkM_ok (o := 13) (n := 16) rfl (by decide +kernel), (fun h => absurd h (List.cons_ne_nil _ _)), fun _ => gv_inT8 _ (List.mem_map.mpr ⟨373, by decide +kernel, rfl⟩)⟩
set_option maxRecDepth 100000 in
set_option maxHeartbeats 4000000 in
theorem gvo_374 : gv_okM gv_cl gv_fkT gv_tfT gv_meth gv_Ts gv_nests gv_strs gv_thrs gv_hnds gvm_374 := ⟨gv_chkM_ok (o := 13) (n := 16) rfl (by decide +kernel), (fun h => absurd h (List.cons_ne_nil _ _)), fun _ => gv_inT8 _ (List.mem_map.mpr ⟨374, by decide +kernel, rfl⟩)⟩
set_option maxRecDepth 100000 in
set_option maxHeartbeats 4000000 in
theorem gvo_375 : gv_okM gv_cl gv_fkT gv_tfT gv_meth gv_Ts gv_nests gv_strs gv_thrs gv_hnds gvm_375 := ⟨gv_chkM_ok (o := 13) (n := 16) rfl (by decide +kernel), (fun h => absurd h (List.cons_ne_nil _ _)), fun _ => gv_inT8 _ (List.mem_map.mpr ⟨375, by decide +kernel, rfl⟩)⟩
set_option maxRecDepth 100000 in
set_option maxHeartbeats 4000000 in
theorem gvo_376 : gv_okM gv_cl gv_fkT gv_tfT gv_meth gv_Ts gv_nests gv_strs gv_thrs gv_hnds gvm_376 := ⟨gv_chkM_ok (o := 13) (n := 17) rfl (by decide +kernel), (fun h => absurd h (List.cons_ne_nil _ _)), fun _ => gv_inT8 _ (List.mem_map.mpr ⟨376, by decide +kernel, rfl⟩)⟩
set_option maxRecDepth 100000 in
set_option maxHeartbeats 4000000 in
theorem gvo_377 : gv_okM gv_cl gv_fkT gv_tfT gv_meth gv_Ts gv_nests gv_strs gv_thrs gv_hnds gvm_377 := ⟨gv_chkM_ok (o := 13) (n := 17) rfl (by decide +kernel), (fun h => absurd h (List.cons_ne_nil _ _)), fun _ => gv_inT8 _ (List.mem_map.mpr ⟨377, by decide +kernel, rfl⟩)⟩
set_option maxRecDepth 100000 in
set_option maxHeartbeats 4000000 in
theorem gvo_378 : gv_okM gv_cl gv_fkT gv_tfT gv_meth gv_Ts gv_nests gv_strs gv_thrs gv_hnds gvm_378 := ⟨gv_chkM_ok (o := 13) (n := 19) rfl (by decide +kernel), (fun h => absurd h (List.cons_ne_nil _ _)), fun _ => gv_inT8 _ (List.mem_map.mpr ⟨378, by decide +kernel, rfl⟩)⟩
set_option maxRecDepth 100000 in
set_option maxHeartbeats 4000000 in
theorem gvo_379 : gv_okM gv_cl gv_fkT gv_tfT gv_meth gv_Ts gv_nests gv_strs gv_thrs gv_hnds gvm_379 := ⟨gv_chkM_ok (o := 13) (n := 17) rfl (by decide +kernel), (fun h => absurd h (List.cons_ne_nil _ _)), fun _ => gv_inT8 _ (List.mem_map.mpr ⟨379, by decide +kernel, rfl⟩)⟩
set_option maxRecDepth 100000 in
set_option maxHeartbeats 4000000 in
theorem gvo_380 : gv_okM gv_cl gv_fkT gv_tfT gv_meth gv_Ts gv_nests gv_strs gv_thrs gv_hnds gvm_380 := ⟨gv_chkM_ok (o := 13) (n := 19) rfl (by decide +kernel), (fun h => absurd h (List.cons_ne_nil _ _)), fun _ => gv_inT8 _ (List.mem_map.mpr ⟨380, by decide +kernel, rfl⟩)⟩
set_option maxRecDepth 100000 in
set_option maxHeartbeats 4000000 in
theorem gvo_381 : gv_okM gv_cl gv_fkT gv_tfT gv_meth gv_Ts gv_nests gv_strs gv_thrs gv_hnds gvm_381 := ⟨gv_chkM_ok (o := 13) (n := 19) rfl (by decide +kernel), (fun h => absurd h (List.cons_ne_nil _ _)), fun _ => gv_inT8 _ (List.mem_map.mpr ⟨381, by decide +kernel, rfl⟩)⟩
set_option maxRecDepth 100000 in
set_option maxHeartbeats 4000000 in
theorem gvo_382 : gv_okM gv_cl gv_fkT gv_tfT gv_meth gv_Ts gv_nests gv_strs gv_thrs gv_hnds gvm_382 := ⟨gv_chkM_ok (o := 13) (n := 19) rfl (by decide +kernel), (fun h => absurd h (List.cons_ne_nil _ _)), fun _ => gv_inT8 _ (List.mem_map.mpr ⟨382, by decide +kernel, rfl⟩)⟩
set_option maxRecDepth 100000 in
set_option maxHeartbeats 4000000 in
theorem gvo_383 : gv_okM gv_cl gv_fkT gv_tfT gv_meth gv_Ts gv_nests gv_strs gv_thrs gv_hnds gvm_383 := ⟨gv_chkM_ok (o := 13) (n := 19) rfl (by decide +kernel), (fun h => absurd h (List.cons_ne_nil _ _)), fun _ => gv_inT8 _ (List.mem_map.mpr ⟨383, by decide +kernel, rfl⟩)⟩
set_option maxRecDepth 100000 in
set_option maxHeartbeats 4000000 in
theorem gvo_384 : gv_okM gv_cl gv_fkT gv_tfT gv_meth gv_Ts gv_nests gv_strs gv_thrs gv_hnds gvm_384 := ⟨gv_chkM_ok (o := 13) (n := 19) rfl (by decide +kernel), (fun h => absurd h (List.cons_ne_nil _ _)), fun _ => gv_inT8 _ (List.mem_map.mpr ⟨384, by decide +kernel, rfl⟩)⟩
set_option maxRecDepth 100000 in
set_option maxHeartbeats 4000000 in
theorem gvo_386 : gv_okM gv_cl gv_fkT gv_tfT gv_meth gv_Ts gv_nests gv_strs gv_thrs gv_hnds gvm_386 := ⟨gv_chkM_ok (o := 14) (n := 80) rfl (by decide +kernel), fun _ => gv_inT7 _ (List.mem_map.mpr ⟨386, by decide +kernel, rfl⟩), fun h => absurd rfl h⟩
set_option maxRecDepth 100000 in
set_option maxHeartbeats 4000000 in
theorem gvo_387 : gv_okM gv_cl gv_fkT gv_tfT gv_meth gv_Ts gv_nests gv_strs gv_thrs gv_hnds gvm_387 := ⟨gv_chkM_ok (o := 14) (n := 53) rfl (by decide +kernel), fun _ => gv_inT7 _ (List.mem_map.mpr ⟨387, by decide +kernel, rfl⟩), fun h => absurd rfl h⟩
set_option maxRecDepth 100000 in
set_option maxHeartbeats 4000000 in
theorem gvo_388 : gv_okM gv_cl gv_fkT gv_tfT gv_meth gv_Ts gv_nests gv_strs gv_thrs gv_hnds gvm_388 := ⟨gv_chkM_ok (o := 15) (n := 20) rfl (by decide +kernel), fun _ => gv_inT7 _ (List.mem_map.mpr ⟨388, by decide +kernel, rfl⟩), fun h => absurd rfl h⟩
set_option maxRecDepth 100000 in
set_option maxHeartbeats 4000000 in
theorem gvo_389 : gv_okM gv_cl gv_fkT gv_tfT gv_meth gv_Ts gv_nests gv_strs gv_thrs gv_hnds gvm_389 := ⟨gv_chkM_ok (o := 15) (n := 11) rfl (by decide +kernel), fun _ => gv_inT7 _ (List.mem_map.mpr ⟨389, by decide +kernel, rfl⟩), fun h => absurd rfl h⟩
set_option maxRecDepth 100000 in
set_option maxHeartbeats 4000000 in
theorem gvo_390 : gv_okM gv_cl gv_fkT gv_tfT gv_meth gv_Ts gv_nests gv_strs gv_thrs gv_hnds gvm_390 := ⟨gv_chkM_ok (o := 15) (n := 11) rfl (by decide +kernel), fun _ => gv_inT7 _ (List.mem_map.mpr ⟨390, by decide +kernel, rfl⟩), fun h => absurd rfl h⟩
set_option maxRecDepth 100000 in
set_option maxHeartbeats 4000000 in
theorem gvo_391 : gv_okM gv_cl gv_fkT gv_tfT gv_meth gv_Ts gv_nests gv_strs gv_thrs gv_hnds gvm_391 := ⟨gv_chkM_ok (o := 16) (n := 21) rfl (by decide +kernel), fun _ => gv_inT7 _ (List.mem_map.mpr ⟨391, by decide +kernel, rfl⟩), fun h => absurd rfl h⟩
