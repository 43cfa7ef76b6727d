set_option maxRecDepth 100000 in
set_option maxHeartbeats 4000000 in
theorem gvo_318 : gv_okM gv_cl gv_fkT gv_tfT gv_meth gv_Ts gv_nests gv_strs gv_thrs gv_hnds gvm_318 := ⟨gv_chkM_ok (o := 12) (n := 84) rfl (by decide +kernel), fun _ => gv_inT7 _ (List.mem_map.mpr ⟨318, by decide +kernel, rfl⟩), fun h => absurd rfl h⟩
set_option maxRecDepth 100000 in
set_option maxHeartbeats 4000000 in
theorem gvo_319 : gv_okM gv_cl gv_fkT gv_tfT gv_meth gv_Ts gv_nests gv_strs gv_thrs gv_hnds gvm_319 := ⟨gv_chkM_ok (o := 12) (n := 42) rfl (by decide +kernel), fun _ => gv_inT7 _ (List.mem_map.mpr ⟨319, by decide +kernel, rfl⟩), fun h => absurd rfl h⟩
set_option maxRecDepth 100000 in
set_option maxHeartbeats 4000000 in
theorem gvo_320 : gv_okM gv_cl gv_fkT gv_tfT gv_meth gv_Ts gv_nests gv_strs gv_thrs gv_hnds gvm_320 := ⟨gv_chkM_ok (o := 12) (n := 50) rfl (by decide +kernel), fun _ => gv_inT7 _ (List.mem_map.mpr ⟨320, by decide +kernel, rfl⟩), fun h => absurd rfl h⟩
set_option maxRecDepth 100000 in
set_option maxHeartbeats 4000000 in
theorem gvo_321 : gv_okM gv_cl gv_fkT gv_tfT gv_meth gv_Ts gv_nests gv_strs gv_thrs gv_hnds gvm_321 := ⟨gv_chkM_ok (o := 12) (n := 39) rfl (by decide +kernel), fun _ => gv_inT7 _ (List.mem_map.mpr ⟨321, by decide +kernel, rfl⟩), fun h => absurd rfl h⟩
set_option maxRecDepth 100000 in
set_option maxHeartbeats 4000000 in
theorem gvo_322 : gv_okM gv_cl gv_fkT gv_tfT gv_meth gv_Ts gv_nests gv_strs gv_thrs gv_hnds gvm_322 := ⟨gv_chkM_ok (o := 12) (n := 36) rfl (by decide +kernel), fun _ => gv_inT7 _ (List.mem_map.mpr ⟨322, by decide +kernel, rfl⟩), fun h => absurd rfl h⟩
set_option maxRecDepth 100000 in
set_option maxHeartbeats 4000000 in
theorem gvo_323 : gv_okM gv_cl gv_fkT gv_tfT gv_meth gv_Ts gv_nests gv_strs gv_thrs gv_hnds gvm_323 := ⟨gv_chkM_ok (o := 12) (n := 5) rfl (by decide +kernel), fun _ => gv_inT7 _ (List.mem_map.mpr ⟨323, by decide +kernel, rfl⟩), fun h => absurd rfl h⟩
set_option maxRecDepth 100000 in
set_option maxHeartbeats 4000000 in
theorem gvo_324 : gv_okM gv_cl gv_fkT gv_tfT gv_meth gv_Ts gv_nests gv_strs gv_thrs gv_hnds gvm_324 := ⟨gv_chkM_ok (o := 12) (n := 65) rfl (by decide +kernel), fun _ => gv_inT7 _ (List.mem_map.mpr ⟨324, by decide +kernel, rfl⟩), fun h => absurd rfl h⟩
set_option maxRecDepth 100000 in
set_option maxHeartbeats 4000000 in
theorem gvo_325 : gv_okM gv_cl gv_fkT gv_tfT gv_meth gv_Ts gv_nests gv_strs gv_thrs gv_hnds gvm_325 := ⟨gv_chkM_ok (o := 12) (n := 79) rfl (by decide +kernel), fun _ => gv_inT7 _ (List.mem_map.mpr ⟨325, by decide +kernel, rfl⟩), fun h => absurd rfl h⟩
set_option maxRecDepth 100000 in
set_option maxHeartbeats 4000000 in
theorem gvo_326 : gv_okM gv_cl gv_fkT gv_tfT gv_meth gv_Ts gv_nests gv_strs gv_thrs gv_hnds gvm_326 := ⟨gv_chkM_ok (o := 12) (n := 97) rfl (by decide +kernel), fun _ => gv_inT7 _ (List.mem_map.mpr ⟨326, by decide +kernel, rfl⟩), fun h => absurd rfl h⟩
set_option maxRecDepth 100000 in
set_option maxHeartbeats 4000000 in
theorem gvo_327 : gv_okM gv_cl gv_fkT gv_tfT gv_meth gv_Ts gv_nests gv_strs gv_thrs gv_hnds gvm_327 := ⟨gv_chkM_ok (o := 12) (n := 7) rfl (by decide +kernel), fun _ => gv_inT7 _ (List.mem_map.mpr ⟨327, by decide +kernel, rfl⟩), fun h => absurd rfl h⟩
set_option maxRecDepth 100000 in
set_option maxHeartbeats 4000000 in
theorem gvo_328 : gv_okM gv_cl gv_fkT gv_tfT gv_meth gv_Ts gv_nests gv_strs gv_thrs gv_hnds gvm_328 := ⟨gv_chkM_ok (o := 12) (n := 23) rfl (by decide +kernel), fun _ => gv_inT7 _ (List.mem_map.mpr ⟨328, by decide +kernel, rfl⟩), fun h => absurd rfl h⟩
set_option maxRecDepth 100000 in
set_option maxHeartbeats 4000000 in
theorem gvo_329 : gv_okM gv_cl gv_fkT gv_tfT gv_meth gv_Ts gv_nests gv_strs gv_thrs gv_hnds gvm_329 := ⟨gv_chkM_ok (o := 12) (n := 25) rfl (by decide +kernel), fun _ => gv_inT7 _ (List.mem_map.mpr ⟨329, by decide +kernel, rfl⟩), fun h => absurd rfl h⟩
set_option maxRecDepth 100000 in
set_option maxHeartbeats 4000000 in
theorem gvo_330 : gv_okM gv_cl gv_fkT gv_tfT gv_meth gv_Ts gv_nests gv_strs gv_thrs gv_hnds gvm_330 := ⟨gv_chkM_ok (o := 12) (n := 66) rfl (by decide +kernel), fun _ => gv_inT7 _ (List.mem_map.mpr ⟨330, by decide +kernel, rfl⟩), fun h => absurd rfl h⟩
set_option maxRecDepth 100000 in
set_option maxHeartbeats 4000000 in
theorem gvo_331 : gv_okM gv_cl gv_fkT gv_tfT gv_meth gv_Ts gv_nests gv_strs gv_thrs gv_hnds gvm_331 := ⟨gv_chkM_ok (o := 12) (n := 21) rfl (by decide +kernel), fun _ => gv_inT7 _ (List.mem_map.mpr ⟨331, by decide +kernel, rfl⟩), fun h => absurd rfl h⟩
set_option maxRecDepth 100000 in
set_option maxHeartbeats 4000000 in
theorem gvo_332 : gv_okM gv_cl gv_fkT gv_tfT gv_meth gv_Ts gv_nests gv_strs gv_thrs gv_hnds gvm_332 := ⟨gv_chkM_ok (o := 12) (n := 32) rfl (by decide +kernel), fun _ => gv_inT7 _ (List.mem_map.mpr ⟨332, by decide +kernel, rfl⟩), fun h => absurd rfl h⟩
set_option maxRecDepth 100000 in
set_option maxHeartbeats 4000000 in
theorem gvo_333 : gv_okM gv_cl gv_fkT gv_tfT gv_meth gv_Ts gv_nests gv_strs gv_thrs gv_hnds gvm_333 := ⟨gv_chkM_ok (o := 12) (n := 77) rfl (by decide +kernel), fun _ => gv_inT7 _ (List.mem_map.mpr ⟨333, by decide +kernel, rfl⟩), fun h => absurd rfl h⟩
set_option maxRecDepth 100000 in
set_option maxHeartbeats 4000000 in
theorem gvo_334 : gv_okM gv_cl gv_fkT gv_tfT gv_meth gv_Ts gv_nests gv_strs gv_thrs gv_hnds gvm_334 := ⟨gv_chkM_ok (o := 12) (n := 62) rfl (by decide +kernel), fun _ => gv_inT7 _ (List.mem_map.mpr ⟨334, by decide +kernel, rfl⟩), fun h => absurd rfl h⟩
set_option maxRecDepth 100000 in
set_option maxHeartbeats 4000000 in
theorem gvo_335 : gv_okM gv_cl gv_fkT gv_tfT gv_meth gv_Ts gv_nests gv_strs gv_thrs gv_hnds gvm_335 := ⟨gv_chkM_ok (o := 12) (n := 165) rfl (by decide +kernel), fun _ => gv_inT7 _ (List.mem_map.mpr ⟨335, by decide +kernel, rfl⟩), fun h => absurd rfl h⟩
set_option maxRecDepth 100000 in
set_option maxHeartbeats 4000000 in
theorem gvo_336 : gv_okM gv_cl gv_fkT gv_tfT gv_meth gv_Ts gv_nests gv_strs gv_thrs gv_hnds gvm_336 := ⟨gv_chkM_ok (o := 12) (n := 28) rfl (by decide +kernel), fun _ => gv_inT7 _ (List.mem_map.mpr ⟨336, by decide +kernel, rfl⟩), fun h => absurd rfl h⟩
set_option maxRecDepth 100000 in
set_option maxHeartbeats 4000000 in
theorem gvo_337 : gv_okM gv_cl gv_fkT gv_tfT gv_meth gv_Ts gv_nests gv_strs gv_thrs gv_hnds gvm_337 := ⟨gv_chkM_ok (o := 12) (n := 34) rfl (by decide +kernel), fun _ => gv_inT7 _ (List.mem_map.mpr ⟨337, by decide +kernel, rfl⟩), fun h => absurd rfl h⟩
set_option maxRecDepth 100000 in
set_option maxHeartbeats 4000000 in
theorem gvo_338 : gv_okM gv_cl gv_fkT gv_tfT gv_meth gv_Ts gv_nests gv_strs gv_thrs gv_hnds gvm_338 := ⟨gv_chkM_ok (o := 12) (n := 113) rfl (by decide +kernel), fun _ => gv_inT7 _ (List.mem_map.mpr ⟨338, by decide +kernel, rfl⟩), fun h => absurd rfl h⟩
set_option maxRecDepth 100000 in
set_option maxHeartbeats 4000000 in
theorem gvo_339 : gv_okM gv_cl gv_fkT gv_tfT gv_meth gv_Ts gv_nests gv_strs gv_thrs gv_hnds gvm_339 := ⟨gv_chkM_ok (o := 12) (n := 201) rfl (by decide +kernel), fun _ => gv_inT7 _ (List.mem_map.mpr ⟨339, by decide +kernel, rfl⟩), fun h => absurd rfl h⟩
set_option maxRecDepth 100000 in
set_option maxHeartbeats 4000000 in
theorem gvo_340 : gv_okM gv_cl gv_fkT gv_tfT gv_meth gv_Ts gv_nests gv_strs gv_thrs gv_hnds gvm_340 := ⟨gv_chkM_ok (o := 12) (n := 32) rfl (by decide +kernel), fun _ => gv_inT7 _ (List.mem_map.mpr ⟨340, by decide +kernel, rfl⟩), fun h => absurd rfl h⟩
set_option maxRecDepth 100000 in
set_option maxHeartbeats 4000000 in
theorem gvo_341 : gv_okM gv_cl gv_fkT gv_tfT gv_meth gv_Ts gv_nests gv_strs gv_thrs gv_hnds gvm_341 := ⟨gv_chkM_ok (o := 12) (n := 79) rfl (by decide +kernel), fun _ => gv_inT7 _ (List.mem_map.mpr ⟨341, by decide +kernel, rfl⟩), fun h => absurd rfl h⟩
set_option maxRecDepth 100000 in
set_option maxHeartbeats 4000000 in
theorem gvo_342 : gv_okM gv_cl gv_fkT gv_tfT gv_meth gv_Ts gv_nests gv_strs gv_thrs gv_hnds gvm_342 := ⟨gv_chkM_ok (o := 12) (n := 102) rfl (by decide +kernel), fun _ => gv_inT7 _ (List.mem_map.mpr ⟨342, by decide +kernel, rfl⟩), fun h => absurd rfl h⟩
set_option maxRecDepth 100000 in
set_option maxHeartbeats 4000000 in
theorem gvo_343 : gv_okM gv_cl gv_fkT gv_tfT gv_meth gv_Ts gv_nests gv_strs gv_thrs gv_hnds gvm_343 := ⟨gv_chkM_ok (o := 12) (n := 55) rfl (by decide +kernel), fun _ => gv_inT7 _ (List.mem_map.mpr ⟨343, by decide +kernel, rfl⟩), fun h => absurd rfl h⟩
set_option maxRecDepth 100000 in
set_option maxHeartbeats 4000000 in
theorem gvo_344 : gv_okM gv_cl gv_fkT gv_tfT gv_meth gv_Ts gv_nests gv_strs gv_thrs gv_hnds gvm_344 := ⟨gv_chkM_ok (o := 12) (n := 16) rfl (by decide +kernel), fun _ => gv_inT7 _ (List.mem_map.mpr ⟨344, by decide +kernel, rfl⟩), fun h => absurd rfl h⟩
set_option maxRecDepth 100000 in
set_option maxHeartbeats 4000000 in
theorem gvo_345 : gv_okM gv_cl gv_fkT gv_tfT gv_meth gv_Ts gv_nests gv_strs gv_thrs gv_hnds gvm_345 := ⟨gv_chkM_ok (o := 12) (n := 51) rfl (by decide +kernel), fun _ => gv_inT7 _ (List.mem_map.mpr ⟨345, by decide +kernel, rfl⟩), fun h => absurd rfl h⟩
set_option maxRecDepth 100000 in
set_option maxHeartbeats 4000000 in
theorem gvo_346 : gv_okM gv_cl gv_fkT gv_tfT gv_meth gv_Ts gv_nests gv_strs gv_thrs gv_hnds gvm_346 := ⟨gv_chkM_ok (o := 12) (n := 63) rfl (by decide +kernel), fun _ => gv_inT7 _ (List.mem_map.mpr ⟨346, by decide +kernel, rfl⟩), fun h => absurd rfl h⟩
set_option maxRecDepth 100000 in
set_option maxHeartbeats 4000000 in
theorem gvo_347 : gv_okM gv_cl gv_fkT gv_tfT gv_meth gv_Ts gv_nests gv_strs gv_thrs gv_hnds gvm_347 := ⟨gv_chkM_ok (o := 12) (n := 101) rfl (by decide +kernel), fun _ => gv_inT7 _ (List.mem_map.mpr ⟨347, by decide +kernel, rfl⟩), fun h => absurd rfl h⟩
set_option maxRecDepth 100000 in
set_option maxHeartbeats 4000000 in
theorem gvo_348 : gv_okM gv_cl gv_fkT gv_tfT gv_meth gv_Ts gv_nests gv_strs gv_thrs gv_hnds gvm_348 := ⟨gv_chkM_ok (o := 12) (n := 15) rfl (by decide +kernel), fun _ => gv_inT7 _ (List.mem_map.mpr ⟨348, by decide +kernel, rfl⟩), fun h => absurd rfl h⟩
set_option maxRecDepth 100000 in
set_option maxHeartbeats 4000000 in
theorem gvo_349 : gv_okM gv_cl gv_fkT gv_tfT gv_meth gv_Ts gv_nests gv_strs gv_thrs gv_hnds gvm_349 := ⟨gv_chkM_ok (o := 12) (n := 84) rfl (by decide +kernel), fun _ => gv_inT7 _ (List.mem_map.mpr ⟨349, by decide +kernel, rfl⟩), fun h => absurd rfl h⟩
set_option maxRecDepth 100000 in
set_option maxHeartbeats 4000000 in
theorem gvo_350 : gv_okM gv_cl gv_fkT gv_tfT gv_meth gv_Ts gv_nests gv_strs gv_thrs gv_hnds gvm_350 := ⟨gv_chkM_ok (o := 12) (n := 58) rfl (by decide +kernel), fun _ => gv_inT7 _ (List.mem_map.mpr ⟨350, by decide +kernel, rfl⟩), fun h => absurd rfl h⟩
set_option maxRecDepth 100000 in
set_option maxHeartbeats 4000000 in
theorem gvo_351 : gv_okM gv_cl gv_fkT gv_tfT gv_meth gv_Ts gv_nests gv_strs gv_thrs gv_hnds gvm_351 := ⟨gv_chkM_ok (o := 12) (n := 23) rfl (by decide +kernel), fun _ => gv_inT7 _ (List.mem_map.mpr ⟨351, by decide +kernel, rfl⟩), fun h => absurd rfl h⟩
set_option maxRecDepth 100000 in
set_option maxHeartbeats 4000000 in
theorem gvo_352 : gv_okM gv_cl gv_fkT gv_tfT gv_meth gv_Ts gv_nests gv_strs gv_thrs gv_hnds gvm_352 := ⟨gv_chkM_ok (o := 12) (n := 98) rfl (by decide +kernel), fun _ => gv_inT7 _ (List.mem_map.mpr ⟨352, by decide +kernel, rfl⟩), fun h => absurd rfl h⟩
set_option maxRecDepth 100000 in
set_option maxHeartbeats 4000000 in
theorem gvo_353 : gv_okM gv_cl gv_fkT gv_tfT gv_meth gv_Ts gv_nests gv_strs gv_thrs gv_hnds gvm_353 := ⟨gv_chkM_ok (o := 13) (n := 19) rfl (by decide +kernel), (fun h => absurd h (List.cons_ne_nil _ _)), fun _ => gv_inT8 _ (List.mem_map.mpr ⟨353, by decide +kernel, rfl⟩)⟩
set_option maxRecDepth 100000 in
set_option maxHeartbeats 4000000 in
theorem gvo_354 : gv_okM gv_cl gv_fkT gv_tfT gv_meth gv_Ts gv_nests gv_strs gv_thrs gv_hnds gvm_354 := ⟨gv_chkM_ok (o := 13) (n := 16) rfl (by decide +kernel), (fun h => absurd h (List.cons_ne_nil _ _)), fun _ => gv_inT8 _ (List.mem_map.mpr ⟨354, by decide +kernel, rfl⟩)⟩
set_option maxRecDepth 100000 in
set_option maxHeartbeats 4000000 in
theorem gvo_355 : gv_okM gv_cl gv_fkT gv_tfT gv_meth gv_Ts gv_nests gv_strs gv_thrs gv_hnds gvm_355 := ⟨gv_chkM_ok (o := 13) (n := 23) rfl (by decide +kernel), (fun h => absurd h (List.cons_ne_nil _ _)), fun _ => gv_inT8 _ (List.mem_map.mpr ⟨355, by decide +kernel, rfl⟩)⟩
set_option maxRecDepth 100000 in
set_option maxHeartbeats 4000000 in
theorem gvo_356 : gv_okM gv_cl gv_fkT gv_tfT gv_meth gv_Ts gv_nests gv_strs gv_thrs gv_hnds gvm_356 := ⟨gv_chkM_ok (o := 13) (n := 21) rfl (by decide +kernel), (fun h => absurd h (List.cons_ne_nil _ _)), fun _ => gv_inT8 _ (List.mem_map.mpr ⟨356, by decide +kernel, rfl⟩)⟩
set_option maxRecDepth 100000 in
set_option maxHeartbeats 4000000 in
theorem gvo_357 : gv_okM gv_cl gv_fkT gv_tfT gv_meth gv_Ts gv_nests gv_strs gv_thrs gv_hnds gvm_357 := ⟨gv_chkM_ok (o := 13) (n := 23) rfl (by decide +kernel), (fun h => absurd h (List.cons_ne_nil _ _)), fun _ => gv_inT8 _ (List.mem_map.mpr ⟨357, by decide +kernel, rfl⟩)⟩
set_option maxRecDepth 100000 in
set_option maxHeartbeats 4000000 in
theorem gvo_358 : gv_okM gv_cl gv_fkT gv_tfT gv_meth gv_Ts gv_nests gv_strs gv_thrs gv_hnds gvm_358 := ⟨gv_chkM_ok (o := 13) (n := 29) rfl (by decide +kernel), (fun h => absurd h (List.cons_ne_nil _ _)), fun _ => gv_inT8 _ (List.mem_map.mpr ⟨358, by decide +kernel, rfl⟩)⟩
set_option maxRecDepth 100000 in
set_option maxHeartbeats 4000000 in
theorem gvo_359 : gv_okM gv_cl gv_fkT gv_tfT gv_meth gv_Ts gv_nests gv_strs gv_thrs gv_hnds gvm_359 := ⟨gv_chkM_ok (o := 13) (n := 17) rfl (by decide +kernel), (fun h => absurd h (List.cons_ne_nil _ _)), fun _ => gv_inT8 _ (List.mem_map.mpr ⟨359, by decide +kernel, rfl⟩)⟩
set_option maxRecDepth 100000 in
set_option maxHeartbeats 4000000 in
theorem gvo_360 : gv_okM gv_cl gv_fkT gv_tfT gv_meth gv_Ts gv_nests gv_strs gv_thrs gv_hnds gvm_360 := ⟨gv_chkM_ok (o := 13) (n := 19) rfl (by decide +kernel), (fun h => absurd h (List.cons_ne_nil _ _)), fun _ => gv_inT8 _ (List.mem_map.mpr ⟨360, by decide +kernel, rfl⟩)⟩
set_option maxRecDepth 100000 in
set_option maxHeartbeats 4000000 in
theorem gvo_361 : gv_okM gv_cl gv_fkT gv_tfT gv_meth gv_Ts gv_nests gv_strs gv_thrs gv_hnds gvm_361 := ⟨gv_chkM_ok (o := 13) (n := 17) rfl (by decide +kernel), (fun h => absurd h (List.cons_ne_nil _ _)), fun _ => gv_inT8 _ (List.mem_map.mpr ⟨361, by decide +kernel, rfl⟩)⟩
set_option maxRecDepth 100000 in
set_option maxHeartbeats 4000000 in
theorem gvo_362 : gv_okM gv_cl gv_fkT gv_tfT gv_meth gv_Ts gv_nests gv_strs gv_thrs gv_hnds gvm_362 := ⟨gv_chkM_ok (o := 13) (n := 26) rfl (by decide +kernel), (fun h => absurd h (List.cons_ne_nil _ _)), fun _ => gv_inT8 _ (List.mem_map.mpr ⟨362, by decide +kernel, rfl⟩)⟩
set_option maxRecDepth 100000 in
set_option maxHeartbeats 4000000 in
theorem gvo_363 : gv_okM gv_cl gv_fkT gv_tfT gv_meth gv_Ts gv_nests gv_strs gv_thrs gv_hnds gvm_363 := ⟨gv_chkM_ok (o := 13) (n := 26) rfl (by decide +kernel), (fun h => absurd h (List.cons_ne_nil _ _)), fun _ => gv_inT8 _ (List.mem_map.mpr ⟨363, by decide +kernel, rfl⟩)⟩
set_option maxRecDepth 100000 in
set_option maxHeartbeats 4000000 in
theorem gvo_364 : gv_okM gv_cl gv_fkT gv_tfT gv_meth gv_Ts gv_nests gv_strs gv_thrs gv_hnds gvm_364 := ⟨gv_chkM_ok (o := 13) (n := 19) rfl (by decide +kernel), (fun h => absurd h (List.cons_ne_nil _ _)), fun _ => gv_inT8 _ (List.mem_map.mpr ⟨364, by decide +kernel, rfl⟩)⟩
set_option maxRecDepth 100000 in
set_option maxHeartbeats 4000000 in
theorem gvo_365 : gv_okM gv_cl gv_fkT gv_tfT gv_meth gv_Ts gv_nests gv_strs gv_thrs gv_hnds gvm_365 := ⟨gv_chkM_ok (o := 13) (n := 23) rfl (by decide +kernel), (fun h => absurd h (List.cons_ne_nil _ _)), fun _ => gv_inT8 _ (List.mem_map.mpr ⟨365, by decide +kernel, rfl⟩)⟩
set_option maxRecDepth 100000 in
set_option maxHeartbeats 4000000 in
theorem gvo_366 : gv_okM gv_cl gv_fkT gv_tfT gv_meth gv_Ts gv_nests gv_strs gv_thrs gv_hnds gvm_366 := ⟨gv_chkM_ok (o := 13) (n := 17) rfl (by decide +kernel), (fun h => absurd h (List.cons_ne_nil _ _)), fun _ => gv_inT8 _ (List.mem_map.mpr ⟨366, by decide +kernel, rfl⟩)⟩
set_option maxRecDepth 100000 in
set_option maxHeartbeats 4000000 in
theorem gvo_367 : gv_okM gv_cl gv_fkT gv_tfT gv_meth gv_Ts gv_nests gv_strs gv_thrs gv_hnds gvm_367 := ⟨gv_chkM_ok (o := 13) (n := 17) rfl (by decide +kernel), (fun h => absurd h (List.cons_ne_nil _ _)), fun _ => gv_inT8 _ (List.mem_map.mpr ⟨367, by decide +kernel, rfl⟩)⟩
set_option maxRecDepth 100000 in
set_option maxHeartbeats 4000000 in
theorem gvo_368 : gv_okM gv_cl gv_fkT gv_tfT gv_meth gv_Ts gv_nests gv_strs gv_thrs gv_hnds gvm_368 := ⟨gv_chkM_ok (o := 13) (n := 17) rfl (by decide +kernel), (fun h => absurd h (List.cons_ne_nil _ _)), fun _ => gv_inT8 _ (List.mem_map.mpr ⟨368, by decide +kernel, rfl⟩)⟩
set_option maxRecDepth 100000 in
set_option maxHeartbeats 4000000 in
theorem gvo_369 : gv_okM gv_cl gv_fkT gv_tfT gv_meth gv_Ts gv_nests gv_strs gv_thrs gv_hnds gvm_369 := ⟨gv_chkM_ok (o := 13) (n := 17) rfl (by decide +kernel), (fun h => absurd h (List.cons_ne_nil _ _)), fun _ => gv_inT8 _ (List.mem_map.mpr ⟨369, by decide +kernel, rfl⟩)⟩
set_option maxRecDepth 100000 in
set_option maxHeartbeats 4000000 in
theorem gvo_370 : gv_okM gv_cl gv_fkT gv_tfT gv_meth gv_Ts gv_nests gv_strs gv_thrs gv_hnds gvm_370 := ⟨gv_chkM_ok (o := 13) (n := 17) rfl (by decide +kernel), (fun h => absurd h (List.cons_ne_nil _ _)), fun _ => gv_inT8 _ (List.mem_map.mpr ⟨370, by decide +kernel, rfl⟩)⟩
