set_option maxRecDepth 100000 in
set_option maxHeartbeats 4000000 in
theorem gvo_275 : gv_okM gv_cl gv_fkT gv_tfT gv_meth gv_Ts gv_nests gv_strs gv_thrs gv_hnds gvm_275 := ⟨gv_chkM_ok (o := 12) (n := 197) rfl (by decide +kernel), fun _ => gv_inT7 _ (List.mem_map.mpr ⟨275, by decide +kernel, rfl⟩), fun h => absurd rfl h⟩
set_option maxRecDepth 100000 in
set_option maxHeartbeats 4000000 in
theorem gvo_276 : gv_okM gv_cl gv_fkT gv_tfT gv_meth gv_Ts gv_nests gv_strs gv_thrs gv_hnds gvm_276 := ⟨gv_chkM_ok (o := 12) (n := 48) rfl (by decide +kernel), fun _ => gv_inT7 _ (List.mem_map.mpr ⟨276, by decide +kernel, rfl⟩), fun h => absurd rfl h⟩
set_option maxRecDepth 100000 in
set_option maxHeartbeats 4000000 in
theorem gvo_277 : gv_okM gv_cl gv_fkT gv_tfT gv_meth gv_Ts gv_nests gv_strs gv_thrs gv_hnds gvm_277 := ⟨gv_chkM_ok (o := 12) (n := 105) rfl (by decide +kernel), fun _ => gv_inT7 _ (List.mem_map.mpr ⟨277, by decide +kernel, rfl⟩), fun h => absurd rfl h⟩
set_option maxRecDepth 100000 in
set_option maxHeartbeats 4000000 in
theorem gvo_278 : gv_okM gv_cl gv_fkT gv_tfT gv_meth gv_Ts gv_nests gv_strs gv_thrs gv_hnds gvm_278 := ⟨gv_chkM_ok (o := 12) (n := 176) rfl (by decide +kernel), fun _ => gv_inT7 _ (List.mem_map.mpr ⟨278, by decide +kernel, rfl⟩), fun h => absurd rfl h⟩
set_option maxRecDepth 100000 in
set_option maxHeartbeats 4000000 in
theorem gvo_279 : gv_okM gv_cl gv_fkT gv_tfT gv_meth gv_Ts gv_nests gv_strs gv_thrs gv_hnds gvm_279 := ⟨gv_chkM_ok (o := 12) (n := 63) rfl (by decide +kernel), fun _ => gv_inT7 _ (List.mem_map.mpr ⟨279, by decide +kernel, rfl⟩), fun h => absurd rfl h⟩
set_option maxRecDepth 100000 in
set_option maxHeartbeats 4000000 in
theorem gvo_280 : gv_okM gv_cl gv_fkT gv_tfT gv_meth gv_Ts gv_nests gv_strs gv_thrs gv_hnds gvm_280 := ⟨gv_chkM_ok (o := 12) (n := 183) rfl (by decide +kernel), fun _ => gv_inT7 _ (List.mem_map.mpr ⟨280, by decide +kernel, rfl⟩), fun h => absurd rfl h⟩
set_option maxRecDepth 100000 in
set_option maxHeartbeats 4000000 in
theorem gvo_281 : gv_okM gv_cl gv_fkT gv_tfT gv_meth gv_Ts gv_nests gv_strs gv_thrs gv_hnds gvm_281 := ⟨gv_chkM_ok (o := 12) (n := 60) rfl (by decide +kernel), fun _ => gv_inT7 _ (List.mem_map.mpr ⟨281, by decide +kernel, rfl⟩), fun h => absurd rfl h⟩
set_option maxRecDepth 100000 in
set_option maxHeartbeats 4000000 in
theorem gvo_282 : gv_okM gv_cl gv_fkT gv_tfT gv_meth gv_Ts gv_nests gv_strs gv_thrs gv_hnds gvm_282 := ⟨gv_chkM_ok (o := 12) (n := 51) rfl (by decide +kernel), fun _ => gv_inT7 _ (List.mem_map.mpr ⟨282, by decide +kernel, rfl⟩), fun h => absurd rfl h⟩
set_option maxRecDepth 100000 in
set_option maxHeartbeats 4000000 in
theorem gvo_283 : gv_okM gv_cl gv_fkT gv_tfT gv_meth gv_Ts gv_nests gv_strs gv_thrs gv_hnds gvm_283 := ⟨gv_chkM_ok (o := 12) (n := 185) rfl (by decide +kernel), fun _ => gv_inT7 _ (List.mem_map.mpr ⟨283, by decide +kernel, rfl⟩), fun h => absurd rfl h⟩
set_option maxRecDepth 100000 in
set_option maxHeartbeats 4000000 in
theorem gvo_284 : gv_okM gv_cl gv_fkT gv_tfT gv_meth gv_Ts gv_nests gv_strs gv_thrs gv_hnds gvm_284 := ⟨gv_chkM_ok (o := 12) (n := 35) rfl (by decide +kernel), fun _ => gv_inT7 _ (List.mem_map.mpr ⟨284, by decide +kernel, rfl⟩), fun h => absurd rfl h⟩
set_option maxRecDepth 100000 in
set_option maxHeartbeats 4000000 in
theorem gvo_285 : gv_okM gv_cl gv_fkT gv_tfT gv_meth gv_Ts gv_nests gv_strs gv_thrs gv_hnds gvm_285 := ⟨gv_chkM_ok (o := 12) (n := 16) rfl (by decide +kernel), fun _ => gv_inT7 _ (List.mem_map.mpr ⟨285, by decide +kernel, rfl⟩), fun h => absurd rfl h⟩
set_option maxRecDepth 100000 in
set_option maxHeartbeats 4000000 in
theorem gvo_286 : gv_okM gv_cl gv_fkT gv_tfT gv_meth gv_Ts gv_nests gv_strs gv_thrs gv_hnds gvm_286 := ⟨gv_chkM_ok (o := 12) (n := 32) rfl (by decide +kernel), fun _ => gv_inT7 _ (List.mem_map.mpr ⟨286, by decide +kernel, rfl⟩), fun h => absurd rfl h⟩
set_option maxRecDepth 100000 in
set_option maxHeartbeats 4000000 in
theorem gvo_287 : gv_okM gv_cl gv_fkT gv_tfT gv_meth gv_Ts gv_nests gv_strs gv_thrs gv_hnds gvm_287 := ⟨gv_chkM_ok (o := 12) (n := 79) rfl (by decide +kernel), fun _ => gv_inT7 _ (List.mem_map.mpr ⟨287, by decide +kernel, rfl⟩), fun h => absurd rfl h⟩
set_option maxRecDepth 100000 in
set_option maxHeartbeats 4000000 in
theorem gvo_288 : gv_okM gv_cl gv_fkT gv_tfT gv_meth gv_Ts gv_nests gv_strs gv_thrs gv_hnds gvm_288 := ⟨gv_chkM_ok (o := 12) (n := 41) rfl (by decide +kernel), fun _ => gv_inT7 _ (List.mem_map.mpr ⟨288, by decide +kernel, rfl⟩), fun h => absurd rfl h⟩
set_option maxRecDepth 100000 in
set_option maxHeartbeats 4000000 in
theorem gvo_289 : gv_okM gv_cl gv_fkT gv_tfT gv_meth gv_Ts gv_nests gv_strs gv_thrs gv_hnds gvm_289 := ⟨gv_chkM_ok (o := 12) (n := 14) rfl (by decide +kernel), fun _ => gv_inT7 _ (List.mem_map.mpr ⟨289, by decide +kernel, rfl⟩), fun h => absurd rfl h⟩
set_option maxRecDepth 100000 in
set_option maxHeartbeats 4000000 in
theorem gvo_290 : gv_okM gv_cl gv_fkT gv_tfT gv_meth gv_Ts gv_nests gv_strs gv_thrs gv_hnds gvm_290 := ⟨gv_chkM_ok (o := 12) (n := 24) rfl (by decide +kernel), fun _ => gv_inT7 _ (List.mem_map.mpr ⟨290, by decide +kernel, rfl⟩), fun h => absurd rfl h⟩
set_option maxRecDepth 100000 in
set_option maxHeartbeats 4000000 in
theorem gvo_291 : gv_okM gv_cl gv_fkT gv_tfT gv_meth gv_Ts gv_nests gv_strs gv_thrs gv_hnds gvm_291 := ⟨gv_chkM_ok (o := 12) (n := 51) rfl (by decide +kernel), fun _ => gv_inT7 _ (List.mem_map.mpr ⟨291, by decide +kernel, rfl⟩), fun h => absurd rfl h⟩
set_option maxRecDepth 100000 in
set_option maxHeartbeats 4000000 in
theorem gvo_292 : gv_okM gv_cl gv_fkT gv_tfT gv_meth gv_Ts gv_nests gv_strs gv_thrs gv_hnds gvm_292 := ⟨gv_chkM_ok (o := 12) (n := 8) rfl (by decide +kernel), fun _ => gv_inT7 _ (List.mem_map.mpr ⟨292, by decide +kernel, rfl⟩), fun h => absurd rfl h⟩
set_option maxRecDepth 100000 in
set_option maxHeartbeats 4000000 in
theorem gvo_293 : gv_okM gv_cl gv_fkT gv_tfT gv_meth gv_Ts gv_nests gv_strs gv_thrs gv_hnds gvm_293 := ⟨gv_chkM_ok (o := 12) (n := 8) rfl (by decide +kernel), fun _ => gv_inT7 _ (List.mem_map.mpr ⟨293, by decide +kernel, rfl⟩), fun h => absurd rfl h⟩
set_option maxRecDepth 100000 in
set_option maxHeartbeats 4000000 in
theorem gvo_294 : gv_okM gv_cl gv_fkT gv_tfT gv_meth gv_Ts gv_nests gv_strs gv_thrs gv_hnds gvm_294 := ⟨gv_chkM_ok (o := 12) (n := 99) rfl (by decide +kernel), fun _ => gv_inT7 _ (List.mem_map.mpr ⟨294, by decide +kernel, rfl⟩), fun h => absurd rfl h⟩
set_option maxRecDepth 100000 in
set_option maxHeartbeats 4000000 in
theorem gvo_295 : gv_okM gv_cl gv_fkT gv_tfT gv_meth gv_Ts gv_nests gv_strs gv_thrs gv_hnds gvm_295 := ⟨gv_chkM_ok (o := 12) (n := 54) rfl (by decide +kernel), fun _ => gv_inT7 _ (List.mem_map.mpr ⟨295, by decide +kernel, rfl⟩), fun h => absurd rfl h⟩
set_option maxRecDepth 100000 in
set_option maxHeartbeats 4000000 in
theorem gvo_296 : gv_okM gv_cl gv_fkT gv_tfT gv_meth gv_Ts gv_nests gv_strs gv_thrs gv_hnds gvm_296 := ⟨gv_chkM_ok (o := 12) (n := 38) rfl (by decide +kernel), fun _ => gv_inT7 _ (List.mem_map.mpr ⟨296, by decide +kernel, rfl⟩), fun h => absurd rfl h⟩
set_option maxRecDepth 100000 in
set_option maxHeartbeats 4000000 in
theorem gvo_297 : gv_okM gv_cl gv_fkT gv_tfT gv_meth gv_Ts gv_nests gv_strs gv_thrs gv_hnds gvm_297 := ⟨gv_chkM_ok (o := 12) (n := 9) rfl (by decide +kernel), fun _ => gv_inT7 _ (List.mem_map.mpr ⟨297, by decide +kernel, rfl⟩), fun h => absurd rfl h⟩
set_option maxRecDepth 100000 in
set_option maxHeartbeats 4000000 in
theorem gvo_298 : gv_okM gv_cl gv_fkT gv_tfT gv_meth gv_Ts gv_nests gv_strs gv_thrs gv_hnds gvm_298 := ⟨gv_chkM_ok (o := 12) (n := 42) rfl (by decide +kernel), fun _ => gv_inT7 _ (List.mem_map.mpr ⟨298, by decide +kernel, rfl⟩), fun h => absurd rfl h⟩
set_option maxRecDepth 100000 in
set_option maxHeartbeats 4000000 in
theorem gvo_299 : gv_okM gv_cl gv_fkT gv_tfT gv_meth gv_Ts gv_nests gv_strs gv_thrs gv_hnds gvm_299 := ⟨gv_chkM_ok (o := 12) (n := 10) rfl (by decide +kernel), fun _ => gv_inT7 _ (List.mem_map.mpr ⟨299, by decide +kernel, rfl⟩), fun h => absurd rfl h⟩
set_option maxRecDepth 100000 in
set_option maxHeartbeats 4000000 in
theorem gvo_300 : gv_okM gv_cl gv_fkT gv_tfT gv_meth gv_Ts gv_nests gv_strs gv_thrs gv_hnds gvm_300 := ⟨gv_chkM_ok (o := 12) (n := 10) rfl (by decide +kernel), fun _ => gv_inT7 _ (List.mem_map.mpr ⟨300, by decide +kernel, rfl⟩), fun h => absurd rfl h⟩
set_option maxRecDepth 100000 in
set_option maxHeartbeats 4000000 in
theorem gvo_301 : gv_okM gv_cl gv_fkT gv_tfT gv_meth gv_Ts gv_nests gv_strs gv_thrs gv_hnds gvm_301 := ⟨gv_chkM_ok (o := 12) (n := 51) rfl (by decide +kernel), fun _ => gv_inT7 _ (List.mem_map.mpr ⟨301, by decide +kernel, rfl⟩), fun h => absurd rfl h⟩
set_option maxRecDepth 100000 in
set_option maxHeartbeats 4000000 in
theorem gvo_302 : gv_okM gv_cl gv_fkT gv_tfT gv_meth gv_Ts gv_nests gv_strs gv_thrs gv_hnds gvm_302 := ⟨gv_chkM_ok (o := 12) (n := 18) rfl (by decide +kernel), fun _ => gv_inT7 _ (List.mem_map.mpr ⟨302, by decide +kernel, rfl⟩), fun h => absurd rfl h⟩
set_option maxRecDepth 100000 in
set_option maxHeartbeats 4000000 in
theorem gvo_303 : gv_okM gv_cl gv_fkT gv_tfT gv_meth gv_Ts gv_nests gv_strs gv_thrs gv_hnds gvm_303 := ⟨gv_chkM_ok (o := 12) (n := 13) rfl (by decide +kernel), fun _ => gv_inT7 _ (List.mem_map.mpr ⟨303, by decide +kernel, rfl⟩), fun h => absurd rfl h⟩
set_option maxRecDepth 100000 in
set_option maxHeartbeats 4000000 in
theorem gvo_304 : gv_okM gv_cl gv_fkT gv_tfT gv_meth gv_Ts gv_nests gv_strs gv_thrs gv_hnds gvm_304 := ⟨gv_chkM_ok (o := 12) (n := 50) rfl (by decide +kernel), fun _ => gv_inT7 _ (List.mem_map.mpr ⟨304, by decide +kernel, rfl⟩), fun h => absurd rfl h⟩
set_option maxRecDepth 100000 in
set_option maxHeartbeats 4000000 in
theorem gvo_305 : gv_okM gv_cl gv_fkT gv_tfT gv_meth gv_Ts gv_nests gv_strs gv_thrs gv_hnds gvm_305 := ⟨gv_chkM_ok (o := 12) (n := 10) rfl (by decide +kernel), fun _ => gv_inT7 _ (List.mem_map.mpr ⟨305, by decide +kernel, rfl⟩), fun h => absurd rfl h⟩
set_option maxRecDepth 100000 in
set_option maxHeartbeats 4000000 in
theorem gvo_306 : gv_okM gv_cl gv_fkT gv_tfT gv_meth gv_Ts gv_nests gv_strs gv_thrs gv_hnds gvm_306 := ⟨gv_chkM_ok (o := 12) (n := 49) rfl (by decide +kernel), fun _ => gv_inT7 _ (List.mem_map.mpr ⟨306, by decide +kernel, rfl⟩), fun h => absurd rfl h⟩
set_option maxRecDepth 100000 in
set_option maxHeartbeats 4000000 in
theorem gvo_307 : gv_okM gv_cl gv_fkT gv_tfT gv_meth gv_Ts gv_nests gv_strs gv_thrs gv_hnds gvm_307 := ⟨gv_chkM_ok (o := 12) (n := 24) rfl (by decide +kernel), fun _ => gv_inT7 _ (List.mem_map.mpr ⟨307, by decide +kernel, rfl⟩), fun h => absurd rfl h⟩
set_option maxRecDepth 100000 in
set_option maxHeartbeats 4000000 in
theorem gvo_308 : gv_okM gv_cl gv_fkT gv_tfT gv_meth gv_Ts gv_nests gv_strs gv_thrs gv_hnds gvm_308 := ⟨gv_chkM_ok (o := 12) (n := 104) rfl (by decide +kernel), fun _ => gv_inT7 _ (List.mem_map.mpr ⟨308, by decide +kernel, rfl⟩), fun h => absurd rfl h⟩
set_option maxRecDepth 100000 in
set_option maxHeartbeats 4000000 in
theorem gvo_309 : gv_okM gv_cl gv_fkT gv_tfT gv_meth gv_Ts gv_nests gv_strs gv_thrs gv_hnds gvm_309 := ⟨gv_chkM_ok (o := 12) (n := 40) rfl (by decide +kernel), fun _ => gv_inT7 _ (List.mem_map.mpr ⟨309, by decide +kernel, rfl⟩), fun h => absurd rfl h⟩
set_option maxRecDepth 100000 in
set_option maxHeartbeats 4000000 in
theorem gvo_310 : gv_okM gv_cl gv_fkT gv_tfT gv_meth gv_Ts gv_nests gv_strs gv_thrs gv_hnds gvm_310 := ⟨gv_chkM_ok (o := 12) (n := 49) rfl (by decide +kernel), fun _ => gv_inT7 _ (List.mem_map.mpr ⟨310, by decide +kernel, rfl⟩), fun h => absurd rfl h⟩
set_option maxRecDepth 100000 in
set_option maxHeartbeats 4000000 in
theorem gvo_311 : gv_okM gv_cl gv_fkT gv_tfT gv_meth gv_Ts gv_nests gv_strs gv_thrs gv_hnds gvm_311 := ⟨gv_chkM_ok (o := 12) (n := 62) rfl (by decide +kernel), fun _ => gv_inT7 _ (List.mem_map.mpr ⟨311, by decide +kernel, rfl⟩), fun h => absurd rfl h⟩
set_option maxRecDepth 100000 in
set_option maxHeartbeats 4000000 in
theorem gvo_312 : gv_okM gv_cl gv_fkT gv_tfT gv_meth gv_Ts gv_nests gv_strs gv_thrs gv_hnds gvm_312 := ⟨gv_chkM_ok (o := 12) (n := 133) rfl (by decide +kernel), fun _ => gv_inT7 _ (List.mem_map.mpr ⟨312, by decide +kernel, rfl⟩), fun h => absurd rfl h⟩
set_option maxRecDepth 100000 in
set_option maxHeartbeats 4000000 in
theorem gvo_313 : gv_okM gv_cl gv_fkT gv_tfT gv_meth gv_Ts gv_nests gv_strs gv_thrs gv_hnds gvm_313 := ⟨gv_chkM_ok (o := 12) (n := 60) rfl (by decide +kernel), fun _ => gv_inT7 _ (List.mem_map.mpr ⟨313, by decide +kernel, rfl⟩), fun h => absurd rfl h⟩
set_option maxRecDepth 100000 in
set_option maxHeartbeats 4000000 in
theorem gvo_314 : gv_okM gv_cl gv_fkT gv_tfT gv_meth gv_Ts gv_nests gv_strs gv_thrs gv_hnds gvm_314 := ⟨gv_chkM_ok (o := 12) (n := 92) rfl (by decide +kernel), fun _ => gv_inT7 _ (List.mem_map.mpr ⟨314, by decide +kernel, rfl⟩), fun h => absurd rfl h⟩
set_option maxRecDepth 100000 in
set_option maxHeartbeats 4000000 in
theorem gvo_315 : gv_okM gv_cl gv_fkT gv_tfT gv_meth gv_Ts gv_nests gv_strs gv_thrs gv_hnds gvm_315 := ⟨gv_chkM_ok (o := 12) (n := 67) rfl (by decide +kernel), fun _ => gv_inT7 _ (List.mem_map.mpr ⟨315, by decide +kernel, rfl⟩), fun h => absurd rfl h⟩
set_option maxRecDepth 100000 in
set_option maxHeartbeats 4000000 in
theorem gvo_316 : gv_okM gv_cl gv_fkT gv_tfT gv_meth gv_Ts gv_nests gv_strs gv_thrs gv_hnds gvm_316 := ⟨gv_chkM_ok (o := 12) (n := 72) rfl (by decide +kernel), fun _ => gv_inT7 _ (List.mem_map.mpr ⟨316, by decide +kernel, rfl⟩), fun h => absurd rfl h⟩
set_option maxRecDepth 100000 in
set_option maxHeartbeats 4000000 in
theorem gvo_317 : gv_okM gv_cl gv_fkT gv_tfT gv_meth gv_Ts gv_nests gv_strs gv_thrs gv_hnds gvm_317 := ⟨gv_chkM_ok (o := 12) (n := 52) rfl (by decide +kernel), fun _ => gv_inT7 _ (List.mem_map.mpr ⟨317, by decide +kernel, rfl⟩), fun h => absurd rfl h⟩
