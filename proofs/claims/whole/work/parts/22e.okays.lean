set_option maxRecDepth 100000 in
set_option maxHeartbeats 4000000 in
theorem gvo_192 : gv_okM gv_cl gv_fkT gv_tfT gv_meth gv_Ts gv_nests gv_strs gv_thrs gv_hnds gvm_192 := ⟨gv_chkM_ok (o := 12) (n := 11) rfl (by decide +kernel), fun _ => gv_inT7 _ (List.mem_map.mpr ⟨192, by decide +kernel, rfl⟩), fun h => absurd rfl h⟩
set_option maxRecDepth 100000 in
set_option maxHeartbeats 4000000 in
theorem gvo_193 : gv_okM gv_cl gv_fkT gv_tfT gv_meth gv_Ts gv_nests gv_strs gv_thrs gv_hnds gvm_193 := ⟨gv_chkM_ok (o := 12) (n := 16) rfl (by decide +kernel), fun _ => gv_inT7 _ (List.mem_map.mpr ⟨193, by decide +kernel, rfl⟩), fun h => absurd rfl h⟩
set_option maxRecDepth 100000 in
set_option maxHeartbeats 4000000 in
theorem gvo_194 : gv_okM gv_cl gv_fkT gv_tfT gv_meth gv_Ts gv_nests gv_strs gv_thrs gv_hnds gvm_194 := ⟨gv_chkM_ok (o := 12) (n := 15) rfl (by decide +kernel), fun _ => gv_inT7 _ (List.mem_map.mpr ⟨194, by decide +kernel, rfl⟩), fun h => absurd rfl h⟩
set_option maxRecDepth 100000 in
set_option maxHeartbeats 4000000 in
theorem gvo_195 : gv_okM gv_cl gv_fkT gv_tfT gv_meth gv_Ts gv_nests gv_strs gv_thrs gv_hnds gvm_195 := ⟨gv_chkM_ok (o := 12) (n := 164) rfl (by decide +kernel), fun _ => gv_inT7 _ (List.mem_map.mpr ⟨195, by decide +kernel, rfl⟩), fun h => absurd rfl h⟩
set_option maxRecDepth 100000 in
set_option maxHeartbeats 4000000 in
theorem gvo_196 : gv_okM gv_cl gv_fkT gv_tfT gv_meth gv_Ts gv_nests gv_strs gv_thrs gv_hnds gvm_196 := ⟨gv_chkM_ok (o := 12) (n := 38) rfl (by decide +kernel), fun _ => gv_inT7 _ (List.mem_map.mpr ⟨196, by decide +kernel, rfl⟩), fun h => absurd rfl h⟩
set_option maxRecDepth 100000 in
set_option maxHeartbeats 4000000 in
theorem gvo_197 : gv_okM gv_cl gv_fkT gv_tfT gv_meth gv_Ts gv_nests gv_strs gv_thrs gv_hnds gvm_197 := ⟨gv_chkM_ok (o := 12) (n := 48) rfl (by decide +kernel), fun _ => gv_inT7 _ (List.mem_map.mpr ⟨197, by decide +kernel, rfl⟩), fun h => absurd rfl h⟩
set_option maxRecDepth 100000 in
set_option maxHeartbeats 4000000 in
theorem gvo_198 : gv_okM gv_cl gv_fkT gv_tfT gv_meth gv_Ts gv_nests gv_strs gv_thrs gv_hnds gvm_198 := ⟨gv_chkM_ok (o := 12) (n := 92) rfl (by decide +kernel), fun _ => gv_inT7 _ (List.mem_map.mpr ⟨198, by decide +kernel, rfl⟩), fun h => absurd rfl h⟩
set_option maxRecDepth 100000 in
set_option maxHeartbeats 4000000 in
theorem gvo_199 : gv_okM gv_cl gv_fkT gv_tfT gv_meth gv_Ts gv_nests gv_strs gv_thrs gv_hnds gvm_199 := ⟨gv_chkM_ok (o := 12) (n := 62) rfl (by decide +kernel), fun _ => gv_inT7 _ (List.mem_map.mpr ⟨199, by decide +kernel, rfl⟩), fun h => absurd rfl h⟩
set_option maxRecDepth 100000 in
set_option maxHeartbeats 4000000 in
theorem gvo_200 : gv_okM gv_cl gv_fkT gv_tfT gv_meth gv_Ts gv_nests gv_strs gv_thrs gv_hnds gvm_200 := ⟨gv_chkM_ok (o := 12) (n := 28) rfl (by decide +kernel), fun _ => gv_inT7 _ (List.mem_map.mpr ⟨200, by decide +kernel, rfl⟩), fun h => absurd rfl h⟩
set_option maxRecDepth 100000 in
set_option maxHeartbeats 4000000 in
theorem gvo_201 : gv_okM gv_cl gv_fkT gv_tfT gv_meth gv_Ts gv_nests gv_strs gv_thrs gv_hnds gvm_201 := ⟨gv_chkM_ok (o := 12) (n := 28) rfl (by decide +kernel), fun _ => gv_inT7 _ (List.mem_map.mpr ⟨201, by decide +kernel, rfl⟩), fun h => absurd rfl h⟩
set_option maxRecDepth 100000 in
set_option maxHeartbeats 4000000 in
theorem gvo_202 : gv_okM gv_cl gv_fkT gv_tfT gv_meth gv_Ts gv_nests gv_strs gv_thrs gv_hnds gvm_202 := ⟨gv_chkM_ok (o := 12) (n := 7) rfl (by decide +kernel), fun _ => gv_inT7 _ (List.mem_map.mpr ⟨202, by decide +kernel, rfl⟩), fun h => absurd rfl h⟩
set_option maxRecDepth 100000 in
set_option maxHeartbeats 4000000 in
theorem gvo_203 : gv_okM gv_cl gv_fkT gv_tfT gv_meth gv_Ts gv_nests gv_strs gv_thrs gv_hnds gvm_203 := ⟨gv_chkM_ok (o := 12) (n := 10) rfl (by decide +kernel), fun _ => gv_inT7 _ (List.mem_map.mpr ⟨203, by decide +kernel, rfl⟩), fun h => absurd rfl h⟩
set_option maxRecDepth 100000 in
set_option maxHeartbeats 4000000 in
theorem gvo_204 : gv_okM gv_cl gv_fkT gv_tfT gv_meth gv_Ts gv_nests gv_strs gv_thrs gv_hnds gvm_204 := ⟨gv_chkM_ok (o := 12) (n := 11) rfl (by decide +kernel), fun _ => gv_inT7 _ (List.mem_map.mpr ⟨204, by decide +kernel, rfl⟩), fun h => absurd rfl h⟩
set_option maxRecDepth 100000 in
set_option maxHeartbeats 4000000 in
theorem gvo_205 : gv_okM gv_cl gv_fkT gv_tfT gv_meth gv_Ts gv_nests gv_strs gv_thrs gv_hnds gvm_205 := ⟨gv_chkM_ok (o := 12) (n := 11) rfl (by decide +kernel), fun _ => gv_inT7 _ (List.mem_map.mpr ⟨205, by decide +kernel, rfl⟩), fun h => absurd rfl h⟩
set_option maxRecDepth 100000 in
set_option maxHeartbeats 4000000 in
theorem gvo_206 : gv_okM gv_cl gv_fkT gv_tfT gv_meth gv_Ts gv_nests gv_strs gv_thrs gv_hnds gvm_206 := ⟨gv_chkM_ok (o := 12) (n := 13) rfl (by decide +kernel), fun _ => gv_inT7 _ (List.mem_map.mpr ⟨206, by decide +kernel, rfl⟩), fun h => absurd rfl h⟩
set_option maxRecDepth 100000 in
set_option maxHeartbeats 4000000 in
theorem gvo_207 : gv_okM gv_cl gv_fkT gv_tfT gv_meth gv_Ts gv_nests gv_strs gv_thrs gv_hnds gvm_207 := ⟨gv_chkM_ok (o := 12) (n := 10) rfl (by decide +kernel), fun _ => gv_inT7 _ (List.mem_map.mpr ⟨207, by decide +kernel, rfl⟩), fun h => absurd rfl h⟩
set_option maxRecDepth 100000 in
set_option maxHeartbeats 4000000 in
theorem gvo_208 : gv_okM gv_cl gv_fkT gv_tfT gv_meth gv_Ts gv_nests gv_strs gv_thrs gv_hnds gvm_208 := ⟨gv_chkM_ok (o := 12) (n := 11) rfl (by decide +kernel), fun _ => gv_inT7 _ (List.mem_map.mpr ⟨208, by decide +kernel, rfl⟩), fun h => absurd rfl h⟩
set_option maxRecDepth 100000 in
set_option maxHeartbeats 4000000 in
theorem gvo_209 : gv_okM gv_cl gv_fkT gv_tfT gv_meth gv_Ts gv_nests gv_strs gv_thrs gv_hnds gvm_209 := ⟨gv_chkM_ok (o := 12) (n := 20) rfl (by decide +kernel), fun _ => gv_inT7 _ (List.mem_map.mpr ⟨209, by decide +kernel, rfl⟩), fun h => absurd rfl h⟩
set_option maxRecDepth 100000 in
set_option maxHeartbeats 4000000 in
theorem gvo_210 : gv_okM gv_cl gv_fkT gv_tfT gv_meth gv_Ts gv_nests gv_strs gv_thrs gv_hnds gvm_210 := ⟨gv_chkM_ok (o := 12) (n := 38) rfl (by decide +kernel), fun _ => gv_inT7 _ (List.mem_map.mpr ⟨210, by decide +kernel, rfl⟩), fun h => absurd rfl h⟩
set_option maxRecDepth 100000 in
set_option maxHeartbeats 4000000 in
theorem gvo_211 : gv_okM gv_cl gv_fkT gv_tfT gv_meth gv_Ts gv_nests gv_strs gv_thrs gv_hnds gvm_211 := ⟨gv_chkM_ok (o := 12) (n := 82) rfl (by decide +kernel), fun _ => gv_inT7 _ (List.mem_map.mpr ⟨211, by decide +kernel, rfl⟩), fun h => absurd rfl h⟩
set_option maxRecDepth 100000 in
set_option maxHeartbeats 4000000 in
theorem gvo_212 : gv_okM gv_cl gv_fkT gv_tfT gv_meth gv_Ts gv_nests gv_strs gv_thrs gv_hnds gvm_212 := ⟨gv_chkM_ok (o := 12) (n := 122) rfl (by decide +kernel), fun _ => gv_inT7 _ (List.mem_map.mpr ⟨212, by decide +kernel, rfl⟩), fun h => absurd rfl h⟩
set_option maxRecDepth 100000 in
set_option maxHeartbeats 4000000 in
theorem gvo_213 : gv_okM gv_cl gv_fkT gv_tfT gv_meth gv_Ts gv_nests gv_strs gv_thrs gv_hnds gvm_213 := ⟨gv_chkM_ok (o := 12) (n := 26) rfl (by decide +kernel), fun _ => gv_inT7 _ (List.mem_map.mpr ⟨213, by decide +kernel, rfl⟩), fun h => absurd rfl h⟩
set_option maxRecDepth 100000 in
set_option maxHeartbeats 4000000 in
theorem gvo_214 : gv_okM gv_cl gv_fkT gv_tfT gv_meth gv_Ts gv_nests gv_strs gv_thrs gv_hnds gvm_214 := ⟨gv_chkM_ok (o := 12) (n := 43) rfl (by decide +kernel), fun _ => gv_inT7 _ (List.mem_map.mpr ⟨214, by decide +kernel, rfl⟩), fun h => absurd rfl h⟩
set_option maxRecDepth 100000 in
set_option maxHeartbeats 4000000 in
theorem gvo_215 : gv_okM gv_cl gv_fkT gv_tfT gv_meth gv_Ts gv_nests gv_strs gv_thrs gv_hnds gvm_215 := ⟨gv_chkM_ok (o := 12) (n := 33) rfl (by decide +kernel), fun _ => gv_inT7 _ (List.mem_map.mpr ⟨215, by decide +kernel, rfl⟩), fun h => absurd rfl h⟩
set_option maxRecDepth 100000 in
set_option maxHeartbeats 4000000 in
theorem gvo_216 : gv_okM gv_cl gv_fkT gv_tfT gv_meth gv_Ts gv_nests gv_strs gv_thrs gv_hnds gvm_216 := ⟨gv_chkM_ok (o := 12) (n := 29) rfl (by decide +kernel), fun _ => gv_inT7 _ (List.mem_map.mpr ⟨216, by decide +kernel, rfl⟩), fun h => absurd rfl h⟩
set_option maxRecDepth 100000 in
set_option maxHeartbeats 4000000 in
theorem gvo_217 : gv_okM gv_cl gv_fkT gv_tfT gv_meth gv_Ts gv_nests gv_strs gv_thrs gv_hnds gvm_217 := ⟨gv_chkM_ok (o := 12) (n := 69) rfl (by decide +kernel), fun _ => gv_inT7 _ (List.mem_map.mpr ⟨217, by decide +kernel, rfl⟩), fun h => absurd rfl h⟩
set_option maxRecDepth 100000 in
set_option maxHeartbeats 4000000 in
theorem gvo_218 : gv_okM gv_cl gv_fkT gv_tfT gv_meth gv_Ts gv_nests gv_strs gv_thrs gv_hnds gvm_218 := ⟨gv_chkM_ok (o := 12) (n := 24) rfl (by decide +kernel), fun _ => gv_inT7 _ (List.mem_map.mpr ⟨218, by decide +kernel, rfl⟩), fun h => absurd rfl h⟩
set_option maxRecDepth 100000 in
set_option maxHeartbeats 4000000 in
theorem gvo_219 : gv_okM gv_cl gv_fkT gv_tfT gv_meth gv_Ts gv_nests gv_strs gv_thrs gv_hnds gvm_219 := ⟨gv_chkM_ok (o := 12) (n := 27) rfl (by decide +kernel), fun _ => gv_inT7 _ (List.mem_map.mpr ⟨219, by decide +kernel, rfl⟩), fun h => absurd rfl h⟩
set_option maxRecDepth 100000 in
set_option maxHeartbeats 4000000 in
theorem gvo_220 : gv_okM gv_cl gv_fkT gv_tfT gv_meth gv_Ts gv_nests gv_strs gv_thrs gv_hnds gvm_220 := ⟨gv_chkM_ok (o := 12) (n := 105) rfl (by decide +kernel), fun _ => gv_inT7 _ (List.mem_map.mpr ⟨220, by decide +kernel, rfl⟩), fun h => absurd rfl h⟩
set_option maxRecDepth 100000 in
set_option maxHeartbeats 4000000 in
theorem gvo_221 : gv_okM gv_cl gv_fkT gv_tfT gv_meth gv_Ts gv_nests gv_strs gv_thrs gv_hnds gvm_221 := ⟨gv_chkM_ok (o := 12) (n := 13) rfl (by decide +kernel), fun _ => gv_inT7 _ (List.mem_map.mpr ⟨221, by decide +kernel, rfl⟩), fun h => absurd rfl h⟩
set_option maxRecDepth 100000 in
set_option maxHeartbeats 4000000 in
theorem gvo_222 : gv_okM gv_cl gv_fkT gv_tfT gv_meth gv_Ts gv_nests gv_strs gv_thrs gv_hnds gvm_222 := ⟨gv_chkM_ok (o := 12) (n := 10) rfl (by decide +kernel), fun _ => gv_inT7 _ (List.mem_map.mpr ⟨222, by decide +kernel, rfl⟩), fun h => absurd rfl h⟩
set_option maxRecDepth 100000 in
set_option maxHeartbeats 4000000 in
theorem gvo_223 : gv_okM gv_cl gv_fkT gv_tfT gv_meth gv_Ts gv_nests gv_strs gv_thrs gv_hnds gvm_223 := ⟨gv_chkM_ok (o := 12) (n := 24) rfl (by decide +kernel), fun _ => gv_inT7 _ (List.mem_map.mpr ⟨223, by decide +kernel, rfl⟩), fun h => absurd rfl h⟩
set_option maxRecDepth 100000 in
set_option maxHeartbeats 4000000 in
theorem gvo_224 : gv_okM gv_cl gv_fkT gv_tfT gv_meth gv_Ts gv_nests gv_strs gv_thrs gv_hnds gvm_224 := ⟨gv_chkM_ok (o := 12) (n := 37) rfl (by decide +kernel), fun _ => gv_inT7 _ (List.mem_map.mpr ⟨224, by decide +kernel, rfl⟩), fun h => absurd rfl h⟩
set_option maxRecDepth 100000 in
set_option maxHeartbeats 4000000 in
theorem gvo_225 : gv_okM gv_cl gv_fkT gv_tfT gv_meth gv_Ts gv_nests gv_strs gv_thrs gv_hnds gvm_225 := ⟨gv_chkM_ok (o := 12) (n := 130) rfl (by decide +kernel), fun _ => gv_inT7 _ (List.mem_map.mpr ⟨225, by decide +kernel, rfl⟩), fun h => absurd rfl h⟩
set_option maxRecDepth 100000 in
set_option maxHeartbeats 4000000 in
theorem gvo_226 : gv_okM gv_cl gv_fkT gv_tfT gv_meth gv_Ts gv_nests gv_strs gv_thrs gv_hnds gvm_226 := ⟨gv_chkM_ok (o := 12) (n := 17) rfl (by decide +kernel), fun _ => gv_inT7 _ (List.mem_map.mpr ⟨226, by decide +kernel, rfl⟩), fun h => absurd rfl h⟩
set_option maxRecDepth 100000 in
set_option maxHeartbeats 4000000 in
theorem gvo_227 : gv_okM gv_cl gv_fkT gv_tfT gv_meth gv_Ts gv_nests gv_strs gv_thrs gv_hnds gvm_227 := ⟨gv_chkM_ok (o := 12) (n := 129) rfl (by decide +kernel), fun _ => gv_inT7 _ (List.mem_map.mpr ⟨227, by decide +kernel, rfl⟩), fun h => absurd rfl h⟩
set_option maxRecDepth 100000 in
set_option maxHeartbeats 4000000 in
theorem gvo_228 : gv_okM gv_cl gv_fkT gv_tfT gv_meth gv_Ts gv_nests gv_strs gv_thrs gv_hnds gvm_228 := ⟨gv_chkM_ok (o := 12) (n := 84) rfl (by decide +kernel), fun _ => gv_inT7 _ (List.mem_map.mpr ⟨228, by decide +kernel, rfl⟩), fun h => absurd rfl h⟩
set_option maxRecDepth 100000 in
set_option maxHeartbeats 4000000 in
theorem gvo_229 : gv_okM gv_cl gv_fkT gv_tfT gv_meth gv_Ts gv_nests gv_strs gv_thrs gv_hnds gvm_229 := ⟨gv_chkM_ok (o := 12) (n := 72) rfl (by decide +kernel), fun _ => gv_inT7 _ (List.mem_map.mpr ⟨229, by decide +kernel, rfl⟩), fun h => absurd rfl h⟩
set_option maxRecDepth 100000 in
set_option maxHeartbeats 4000000 in
theorem gvo_230 : gv_okM gv_cl gv_fkT gv_tfT gv_meth gv_Ts gv_nests gv_strs gv_thrs gv_hnds gvm_230 := ⟨gv_chkM_ok (o := 12) (n := 75) rfl (by decide +kernel), fun _ => gv_inT7 _ (List.mem_map.mpr ⟨230, by decide +kernel, rfl⟩), fun h => absurd rfl h⟩
set_option maxRecDepth 100000 in
set_option maxHeartbeats 4000000 in
theorem gvo_231 : gv_okM gv_cl gv_fkT gv_tfT gv_meth gv_Ts gv_nests gv_strs gv_thrs gv_hnds gvm_231 := ⟨gv_chkM_ok (o := 12) (n := 27) rfl (by decide +kernel), fun _ => gv_inT7 _ (List.mem_map.mpr ⟨231, by decide +kernel, rfl⟩), fun h => absurd rfl h⟩
set_option maxRecDepth 100000 in
set_option maxHeartbeats 4000000 in
theorem gvo_232 : gv_okM gv_cl gv_fkT gv_tfT gv_meth gv_Ts gv_nests gv_strs gv_thrs gv_hnds gvm_232 := ⟨gv_chkM_ok (o := 12) (n := 136) rfl (by decide +kernel), fun _ => gv_inT7 _ (List.mem_map.mpr ⟨232, by decide +kernel, rfl⟩), fun h => absurd rfl h⟩
set_option maxRecDepth 100000 in
set_option maxHeartbeats 4000000 in
theorem gvo_233 : gv_okM gv_cl gv_fkT gv_tfT gv_meth gv_Ts gv_nests gv_strs gv_thrs gv_hnds gvm_233 := ⟨gv_chkM_ok (o := 12) (n := 45) rfl (by decide +kernel), fun _ => gv_inT7 _ (List.mem_map.mpr ⟨233, by decide +kernel, rfl⟩), fun h => absurd rfl h⟩
set_option maxRecDepth 100000 in
set_option maxHeartbeats 4000000 in
theorem gvo_234 : gv_okM gv_cl gv_fkT gv_tfT gv_meth gv_Ts gv_nests gv_strs gv_thrs gv_hnds gvm_234 := ⟨gv_chkM_ok (o := 12) (n := 82) rfl (by decide +kernel), fun _ => gv_inT7 _ (List.mem_map.mpr ⟨234, by decide +kernel, rfl⟩), fun h => absurd rfl h⟩
set_option maxRecDepth 100000 in
set_option maxHeartbeats 4000000 in
theorem gvo_235 : gv_okM gv_cl gv_fkT gv_tfT gv_meth gv_Ts gv_nests gv_strs gv_thrs gv_hnds gvm_235 := ⟨gv_chkM_ok (o := 12) (n := 74) rfl (by decide +kernel), fun _ => gv_inT7 _ (List.mem_map.mpr ⟨235, by decide +kernel, rfl⟩), fun h => absurd rfl h⟩
set_option maxRecDepth 100000 in
set_option maxHeartbeats 4000000 in
theorem gvo_236 : gv_okM gv_cl gv_fkT gv_tfT gv_meth gv_Ts gv_nests gv_strs gv_thrs gv_hnds gvm_236 := ⟨gv_chkM_ok (o := 12) (n := 39) rfl (by decide +kernel), fun _ => gv_inT7 _ (List.mem_map.mpr ⟨236, by decide +kernel, rfl⟩), fun h => absurd rfl h⟩
set_option maxRecDepth 100000 in
set_option maxHeartbeats 4000000 in
theorem gvo_237 : gv_okM gv_cl gv_fkT gv_tfT gv_meth gv_Ts gv_nests gv_strs gv_thrs gv_hnds gvm_237 := ⟨gv_chkM_ok (o := 12) (n := 79) rfl (by decide +kernel), fun _ => gv_inT7 _ (List.mem_map.mpr ⟨237, by decide +kernel, rfl⟩), fun h => absurd rfl h⟩
set_option maxRecDepth 100000 in
set_option maxHeartbeats 4000000 in
theorem gvo_238 : gv_okM gv_cl gv_fkT gv_tfT gv_meth gv_Ts gv_nests gv_strs gv_thrs gv_hnds gvm_238 := ⟨gv_chkM_ok (o := 12) (n := 179) rfl (by decide +kernel), fun _ => gv_inT7 _ (List.mem_map.mpr ⟨238, by decide +kernel, rfl⟩), fun h => absurd rfl h⟩
set_option maxRecDepth 100000 in
set_option maxHeartbeats 4000000 in
theorem gvo_239 : gv_okM gv_cl gv_fkT gv_tfT gv_meth gv_Ts gv_nests gv_strs gv_thrs gv_hnds gvm_239 := ⟨gv_chkM_ok (o := 12) (n := 39) rfl (by decide +kernel), fun _ => gv_inT7 _ (List.mem_map.mpr ⟨239, by decide +kernel, rfl⟩), fun h => absurd rfl h⟩
set_option maxRecDepth 100000 in
set_option maxHeartbeats 4000000 in
theorem gvo_240 : gv_okM gv_cl gv_fkT gv_tfT gv_meth gv_Ts gv_nests gv_strs gv_thrs gv_hnds gvm_240 := ⟨gv_chkM_ok (o := 12) (n := 40) rfl (by decide +kernel), fun _ => gv_inT7 _ (List.mem_map.mpr ⟨240, by decide +kernel, rfl⟩), fun h => absurd rfl h⟩
