set_option maxRecDepth 100000 in
set_option maxHeartbeats 4000000 in
theorem gvo_241 : gv_okM gv_cl gv_fkT gv_tfT gv_meth gv_Ts gv_nests gv_strs gv_thrs gv_hnds gvm_241 := ⟨gv_chkM_ok (o := 12) (n := 145) rfl (by decide +kernel), fun _ => gv_inT7 _ (List.mem_map.mpr ⟨241, by decide +kernel, rfl⟩), fun h => absurd rfl h⟩
set_option maxRecDepth 100000 in
set_option maxHeartbeats 4000000 in
theorem gvo_242 : gv_okM gv_cl gv_fkT gv_tfT gv_meth gv_Ts gv_nests gv_strs gv_thrs gv_hnds gvm_242 := ⟨gv_chkM_ok (o := 12) (n := 47) rfl (by decide +kernel), fun _ => gv_inT7 _ (List.mem_map.mpr ⟨242, by decide +kernel, rfl⟩), fun h => absurd rfl h⟩
set_option maxRecDepth 100000 in
set_option maxHeartbeats 4000000 in
theorem gvo_243 : gv_okM gv_cl gv_fkT gv_tfT gv_meth gv_Ts gv_nests gv_strs gv_thrs gv_hnds gvm_243 := ⟨gv_chkM_ok (o := 12) (n := 85) rfl (by decide +kernel), fun _ => gv_inT7 _ (List.mem_map.mpr ⟨243, by decide +kernel, rfl⟩), fun h => absurd rfl h⟩
set_option maxRecDepth 100000 in
set_option maxHeartbeats 4000000 in
theorem gvo_244 : gv_okM gv_cl gv_fkT gv_tfT gv_meth gv_Ts gv_nests gv_strs gv_thrs gv_hnds gvm_244 := ⟨gv_chkM_ok (o := 12) (n := 145) rfl (by decide +kernel), fun _ => gv_inT7 _ (List.mem_map.mpr ⟨244, by decide +kernel, rfl⟩), fun h => absurd rfl h⟩
set_option maxRecDepth 100000 in
set_option maxHeartbeats 4000000 in
theorem gvo_245 : gv_okM gv_cl gv_fkT gv_tfT gv_meth gv_Ts gv_nests gv_strs gv_thrs gv_hnds gvm_245 := ⟨gv_chkM_ok (o := 12) (n := 99) rfl (by decide +kernel), fun _ => gv_inT7 _ (List.mem_map.mpr ⟨245, by decide +kernel, rfl⟩), fun h => absurd rfl h⟩
set_option maxRecDepth 100000 in
set_option maxHeartbeats 4000000 in
theorem gvo_246 : gv_okM gv_cl gv_fkT gv_tfT gv_meth gv_Ts gv_nests gv_strs gv_thrs gv_hnds gvm_246 := ⟨gv_chkM_ok (o := 12) (n := 201) rfl (by decide +kernel), fun _ => gv_inT7 _ (List.mem_map.mpr ⟨246, by decide +kernel, rfl⟩), fun h => absurd rfl h⟩
set_option maxRecDepth 100000 in
set_option maxHeartbeats 4000000 in
theorem gvo_247 : gv_okM gv_cl gv_fkT gv_tfT gv_meth gv_Ts gv_nests gv_strs gv_thrs gv_hnds gvm_247 := ⟨gv_chkM_ok (o := 12) (n := 71) rfl (by decide +kernel), fun _ => gv_inT7 _ (List.mem_map.mpr ⟨247, by decide +kernel, rfl⟩), fun h => absurd rfl h⟩
set_option maxRecDepth 100000 in
set_option maxHeartbeats 4000000 in
theorem gvo_248 : gv_okM gv_cl gv_fkT gv_tfT gv_meth gv_Ts gv_nests gv_strs gv_thrs gv_hnds gvm_248 := ⟨gv_chkM_ok (o := 12) (n := 91) rfl (by decide +kernel), fun _ => gv_inT7 _ (List.mem_map.mpr ⟨248, by decide +kernel, rfl⟩), fun h => absurd rfl h⟩
set_option maxRecDepth 100000 in
set_option maxHeartbeats 4000000 in
theorem gvo_249 : gv_okM gv_cl gv_fkT gv_tfT gv_meth gv_Ts gv_nests gv_strs gv_thrs gv_hnds gvm_249 := ⟨gv_chkM_ok (o := 12) (n := 6) rfl (by decide +kernel), fun _ => gv_inT7 _ (List.mem_map.mpr ⟨249, by decide +kernel, rfl⟩), fun h => absurd rfl h⟩
set_option maxRecDepth 100000 in
set_option maxHeartbeats 4000000 in
theorem gvo_250 : gv_okM gv_cl gv_fkT gv_tfT gv_meth gv_Ts gv_nests gv_strs gv_thrs gv_hnds gvm_250 := ⟨gv_chkM_ok (o := 12) (n := 9) rfl (by decide +kernel), fun _ => gv_inT7 _ (List.mem_map.mpr ⟨250, by decide +kernel, rfl⟩), fun h => absurd rfl h⟩
set_option maxRecDepth 100000 in
set_option maxHeartbeats 4000000 in
theorem gvo_251 : gv_okM gv_cl gv_fkT gv_tfT gv_meth gv_Ts gv_nests gv_strs gv_thrs gv_hnds gvm_251 := ⟨gv_chkM_ok (o := 12) (n := 16) rfl (by decide +kernel), fun _ => gv_inT7 _ (List.mem_map.mpr ⟨251, by decide +kernel, rfl⟩), fun h => absurd rfl h⟩
set_option maxRecDepth 100000 in
set_option maxHeartbeats 4000000 in
theorem gvo_252 : gv_okM gv_cl gv_fkT gv_tfT gv_meth gv_Ts gv_nests gv_strs gv_thrs gv_hnds gvm_252 := ⟨gv_chkM_ok (o := 12) (n := 20) rfl (by decide +kernel), fun _ => gv_inT7 _ (List.mem_map.mpr ⟨252, by decide +kernel, rfl⟩), fun h => absurd rfl h⟩
set_option maxRecDepth 100000 in
set_option maxHeartbeats 4000000 in
theorem gvo_253 : gv_okM gv_cl gv_fkT gv_tfT gv_meth gv_Ts gv_nests gv_strs gv_thrs gv_hnds gvm_253 := ⟨gv_chkM_ok (o := 12) (n := 52) rfl (by decide +kernel), fun _ => gv_inT7 _ (List.mem_map.mpr ⟨253, by decide +kernel, rfl⟩), fun h => absurd rfl h⟩
set_option maxRecDepth 100000 in
set_option maxHeartbeats 4000000 in
theorem gvo_254 : gv_okM gv_cl gv_fkT gv_tfT gv_meth gv_Ts gv_nests gv_strs gv_thrs gv_hnds gvm_254 := ⟨gv_chkM_ok (o := 12) (n := 43) rfl (by decide +kernel), fun _ => gv_inT7 _ (List.mem_map.mpr ⟨254, by decide +kernel, rfl⟩), fun h => absurd rfl h⟩
set_option maxRecDepth 100000 in
set_option maxHeartbeats 4000000 in
theorem gvo_255 : gv_okM gv_cl gv_fkT gv_tfT gv_meth gv_Ts gv_nests gv_strs gv_thrs gv_hnds gvm_255 := ⟨gv_chkM_ok (o := 12) (n := 74) rfl (by decide +kernel), fun _ => gv_inT7 _ (List.mem_map.mpr ⟨255, by decide +kernel, rfl⟩), fun h => absurd rfl h⟩
set_option maxRecDepth 100000 in
set_option maxHeartbeats 4000000 in
theorem gvo_256 : gv_okM gv_cl gv_fkT gv_tfT gv_meth gv_Ts gv_nests gv_strs gv_thrs gv_hnds gvm_256 := ⟨gv_chkM_ok (o := 12) (n := 56) rfl (by decide +kernel), fun _ => gv_inT7 _ (List.mem_map.mpr ⟨256, by decide +kernel, rfl⟩), fun h => absurd rfl h⟩
set_option maxRecDepth 100000 in
set_option maxHeartbeats 4000000 in
theorem gvo_257 : gv_okM gv_cl gv_fkT gv_tfT gv_meth gv_Ts gv_nests gv_strs gv_thrs gv_hnds gvm_257 := ⟨gv_chkM_ok (o := 12) (n := 54) rfl (by decide +kernel), fun _ => gv_inT7 _ (List.mem_map.mpr ⟨257, by decide +kernel, rfl⟩), fun h => absurd rfl h⟩
set_option maxRecDepth 100000 in
set_option maxHeartbeats 4000000 in
theorem gvo_258 : gv_okM gv_cl gv_fkT gv_tfT gv_meth gv_Ts gv_nests gv_strs gv_thrs gv_hnds gvm_258 := ⟨gv_chkM_ok (o := 12) (n := 79) rfl (by decide +kernel), fun _ => gv_inT7 _ (List.mem_map.mpr ⟨258, by decide +kernel, rfl⟩), fun h => absurd rfl h⟩
set_option maxRecDepth 100000 in
set_option maxHeartbeats 4000000 in
theorem gvo_259 : gv_okM gv_cl gv_fkT gv_tfT gv_meth gv_Ts gv_nests gv_strs gv_thrs gv_hnds gvm_259 := ⟨gv_chkM_ok (o := 12) (n := 48) rfl (by decide +kernel), fun _ => gv_inT7 _ (List.mem_map.mpr ⟨259, by decide +kernel, rfl⟩), fun h => absurd rfl h⟩
set_option maxRecDepth 100000 in
set_option maxHeartbeats 4000000 in
theorem gvo_260 : gv_okM gv_cl gv_fkT gv_tfT gv_meth gv_Ts gv_nests gv_strs gv_thrs gv_hnds gvm_260 := ⟨gv_chkM_ok (o := 12) (n := 38) rfl (by decide +kernel), fun _ => gv_inT7 _ (List.mem_map.mpr ⟨260, by decide +kernel, rfl⟩), fun h => absurd rfl h⟩
set_option maxRecDepth 100000 in
set_option maxHeartbeats 4000000 in
theorem gvo_261 : gv_okM gv_cl gv_fkT gv_tfT gv_meth gv_Ts gv_nests gv_strs gv_thrs gv_hnds gvm_261 := ⟨gv_chkM_ok (o := 12) (n := 72) rfl (by decide +kernel), fun _ => gv_inT7 _ (List.mem_map.mpr ⟨261, by decide +kernel, rfl⟩), fun h => absurd rfl h⟩
set_option maxRecDepth 100000 in
set_option maxHeartbeats 4000000 in
theorem gvo_262 : gv_okM gv_cl gv_fkT gv_tfT gv_meth gv_Ts gv_nests gv_strs gv_thrs gv_hnds gvm_262 := ⟨gv_chkM_ok (o := 12) (n := 94) rfl (by decide +kernel), fun _ => gv_inT7 _ (List.mem_map.mpr ⟨262, by decide +kernel, rfl⟩), fun h => absurd rfl h⟩
set_option maxRecDepth 100000 in
set_option maxHeartbeats 4000000 in
theorem gvo_263 : gv_okM gv_cl gv_fkT gv_tfT gv_meth gv_Ts gv_nests gv_strs gv_thrs gv_hnds gvm_263 := ⟨gv_chkM_ok (o := 12) (n := 18) rfl (by decide +kernel), fun _ => gv_inT7 _ (List.mem_map.mpr ⟨263, by decide +kernel, rfl⟩), fun h => absurd rfl h⟩
set_option maxRecDepth 100000 in
set_option maxHeartbeats 4000000 in
theorem gvo_264 : gv_okM gv_cl gv_fkT gv_tfT gv_meth gv_Ts gv_nests gv_strs gv_thrs gv_hnds gvm_264 := ⟨gv_chkM_ok (o := 12) (n := 43) rfl (by decide +kernel), fun _ => gv_inT7 _ (List.mem_map.mpr ⟨264, by decide +kernel, rfl⟩), fun h => absurd rfl h⟩
set_option maxRecDepth 100000 in
set_option maxHeartbeats 4000000 in
theorem gvo_265 : gv_okM gv_cl gv_fkT gv_tfT gv_meth gv_Ts gv_nests gv_strs gv_thrs gv_hnds gvm_265 := ⟨gv_chkM_ok (o := 12) (n := 143) rfl (by decide +kernel), fun _ => gv_inT7 _ (List.mem_map.mpr ⟨265, by decide +kernel, rfl⟩), fun h => absurd rfl h⟩
set_option maxRecDepth 100000 in
set_option maxHeartbeats 4000000 in
theorem gvo_266 : gv_okM gv_cl gv_fkT gv_tfT gv_meth gv_Ts gv_nests gv_strs gv_thrs gv_hnds gvm_266 := ⟨gv_chkM_ok (o := 12) (n := 283) rfl (by decide +kernel), fun _ => gv_inT7 _ (List.mem_map.mpr ⟨266, by decide +kernel, rfl⟩), fun h => absurd rfl h⟩
set_option maxRecDepth 100000 in
set_option maxHeartbeats 4000000 in
theorem gvo_267 : gv_okM gv_cl gv_fkT gv_tfT gv_meth gv_Ts gv_nests gv_strs gv_thrs gv_hnds gvm_267 := ⟨gv_chkM_ok (o := 12) (n := 81) rfl (by decide +kernel), fun _ => gv_inT7 _ (List.mem_map.mpr ⟨267, by decide +kernel, rfl⟩), fun h => absurd rfl h⟩
set_option maxRecDepth 100000 in
set_option maxHeartbeats 4000000 in
theorem gvo_268 : gv_okM gv_cl gv_fkT gv_tfT gv_meth gv_Ts gv_nests gv_strs gv_thrs gv_hnds gvm_268 := ⟨gv_chkM_ok (o := 12) (n := 15) rfl (by decide +kernel), fun _ => gv_inT7 _ (List.mem_map.mpr ⟨268, by decide +kernel, rfl⟩), fun h => absurd rfl h⟩
set_option maxRecDepth 100000 in
set_option maxHeartbeats 4000000 in
theorem gvo_269 : gv_okM gv_cl gv_fkT gv_tfT gv_meth gv_Ts gv_nests gv_strs gv_thrs gv_hnds gvm_269 := ⟨gv_chkM_ok (o := 12) (n := 9) rfl (by decide +kernel), fun _ => gv_inT7 _ (List.mem_map.mpr ⟨269, by decide +kernel, rfl⟩), fun h => absurd rfl h⟩
set_option maxRecDepth 100000 in
set_option maxHeartbeats 4000000 in
theorem gvo_270 : gv_okM gv_cl gv_fkT gv_tfT gv_meth gv_Ts gv_nests gv_strs gv_thrs gv_hnds gvm_270 := ⟨gv_chkM_ok (o := 12) (n := 21) rfl (by decide +kernel), fun _ => gv_inT7 _ (List.mem_map.mpr ⟨270, by decide +kernel, rfl⟩), fun h => absurd rfl h⟩
set_option maxRecDepth 100000 in
set_option maxHeartbeats 4000000 in
theorem gvo_271 : gv_okM gv_cl gv_fkT gv_tfT gv_meth gv_Ts gv_nests gv_strs gv_thrs gv_hnds gvm_271 := ⟨gv_chkM_ok (o := 12) (n := 78) rfl (by decide +kernel), fun _ => gv_inT7 _ (List.mem_map.mpr ⟨271, by decide +kernel, rfl⟩), fun h => absurd rfl h⟩
set_option maxRecDepth 100000 in
set_option maxHeartbeats 4000000 in
theorem gvo_272 : gv_okM gv_cl gv_fkT gv_tfT gv_meth gv_Ts gv_nests gv_strs gv_thrs gv_hnds gvm_272 := ⟨gv_chkM_ok (o := 12) (n := 108) rfl (by decide +kernel), fun _ => gv_inT7 _ (List.mem_map.mpr ⟨272, by decide +kernel, rfl⟩), fun h => absurd rfl h⟩
set_option maxRecDepth 100000 in
set_option maxHeartbeats 4000000 in
theorem gvo_273 : gv_okM gv_cl gv_fkT gv_tfT gv_meth gv_Ts gv_nests gv_strs gv_thrs gv_hnds gvm_273 := ⟨gv_chkM_ok (o := 12) (n := 28) rfl (by decide +kernel), fun _ => gv_inT7 _ (List.mem_map.mpr ⟨273, by decide +kernel, rfl⟩), fun h => absurd rfl h⟩
set_option maxRecDepth 100000 in
set_option maxHeartbeats 4000000 in
theorem gvo_274 : gv_okM gv_cl gv_fkT gv_tfT gv_meth gv_Ts gv_nests gv_strs gv_thrs gv_hnds gvm_274 := ⟨gv_chkM_ok (o := 12) (n := 105) rfl (by decide +kernel), fun _ => gv_inT7 _ (List.mem_map.mpr ⟨274, by decide +kernel, rfl⟩), fun h => absurd rfl h⟩
