set_option maxRecDepth 100000 in
set_option maxHeartbeats 4000000 in
theorem gvo_146 : gv_okM gv_cl gv_fkT gv_tfT gv_meth gv_Ts gv_nests gv_strs gv_thrs gv_hnds gvm_146 := ⟨gv_chkM_ok (o := 11) (n := 112) rfl (by decide +kernel), fun _ => gv_inT7 _ (List.mem_map.mpr ⟨146, by decide +kernel, rfl⟩), fun h => absurd rfl h⟩
set_option maxRecDepth 100000 in
set_option maxHeartbeats 4000000 in
theorem gvo_147 : gv_okM gv_cl gv_fkT gv_tfT gv_meth gv_Ts gv_nests gv_strs gv_thrs gv_hnds gvm_147 := ⟨gv_chkM_ok (o := 11) (n := 85) rfl (by decide +kernel), fun _ => gv_inT7 _ (List.mem_map.mpr ⟨147, by decide +kernel, rfl⟩), fun h => absurd rfl h⟩
set_option maxRecDepth 100000 in
set_option maxHeartbeats 4000000 in
theorem gvo_148 : gv_okM gv_cl gv_fkT gv_tfT gv_meth gv_Ts gv_nests gv_strs gv_thrs gv_hnds gvm_148 := ⟨gv_chkM_ok (o := 11) (n := 85) rfl (by decide +kernel), fun _ => gv_inT7 _ (List.mem_map.mpr ⟨148, by decide +kernel, rfl⟩), fun h => absurd rfl h⟩
set_option maxRecDepth 100000 in
set_option maxHeartbeats 4000000 in
theorem gvo_149 : gv_okM gv_cl gv_fkT gv_tfT gv_meth gv_Ts gv_nests gv_strs gv_thrs gv_hnds gvm_149 := ⟨gv_chkM_ok (o := 11) (n := 90) rfl (by decide +kernel), fun _ => gv_inT7 _ (List.mem_map.mpr ⟨149, by decide +kernel, rfl⟩), fun h => absurd rfl h⟩
set_option maxRecDepth 100000 in
set_option maxHeartbeats 4000000 in
theorem gvo_150 : gv_okM gv_cl gv_fkT gv_tfT gv_meth gv_Ts gv_nests gv_strs gv_thrs gv_hnds gvm_150 := ⟨gv_chkM_ok (o := 11) (n := 39) rfl (by decide +kernel), fun _ => gv_inT7 _ (List.mem_map.mpr ⟨150, by decide +kernel, rfl⟩), fun h => absurd rfl h⟩
set_option maxRecDepth 100000 in
set_option maxHeartbeats 4000000 in
theorem gvo_151 : gv_okM gv_cl gv_fkT gv_tfT gv_meth gv_Ts gv_nests gv_strs gv_thrs gv_hnds gvm_151 := ⟨gv_chkM_ok (o := 11) (n := 49) rfl (by decide +kernel), fun _ => gv_inT7 _ (List.mem_map.mpr ⟨151, by decide +kernel, rfl⟩), fun h => absurd rfl h⟩
set_option maxRecDepth 100000 in
set_option maxHeartbeats 4000000 in
theorem gvo_152 : gv_okM gv_cl gv_fkT gv_tfT gv_meth gv_Ts gv_nests gv_strs gv_thrs gv_hnds gvm_152 := ⟨gv_chkM_ok (o := 11) (n := 72) rfl (by decide +kernel), fun _ => gv_inT7 _ (List.mem_map.mpr ⟨152, by decide +kernel, rfl⟩), fun h => absurd rfl h⟩
set_option maxRecDepth 100000 in
set_option maxHeartbeats 4000000 in
theorem gvo_153 : gv_okM gv_cl gv_fkT gv_tfT gv_meth gv_Ts gv_nests gv_strs gv_thrs gv_hnds gvm_153 := ⟨gv_chkM_ok (o := 11) (n := 68) rfl (by decide +kernel), fun _ => gv_inT7 _ (List.mem_map.mpr ⟨153, by decide +kernel, rfl⟩), fun h => absurd rfl h⟩
set_option maxRecDepth 100000 in
set_option maxHeartbeats 4000000 in
theorem gvo_154 : gv_okM gv_cl gv_fkT gv_tfT gv_meth gv_Ts gv_nests gv_strs gv_thrs gv_hnds gvm_154 := ⟨gv_chkM_ok (o := 11) (n := 115) rfl (by decide +kernel), fun _ => gv_inT7 _ (List.mem_map.mpr ⟨154, by decide +kernel, rfl⟩), fun h => absurd rfl h⟩
set_option maxRecDepth 100000 in
set_option maxHeartbeats 4000000 in
theorem gvo_155 : gv_okM gv_cl gv_fkT gv_tfT gv_meth gv_Ts gv_nests gv_strs gv_thrs gv_hnds gvm_155 := ⟨gv_chkM_ok (o := 11) (n := 98) rfl (by decide +kernel), fun _ => gv_inT7 _ (List.mem_map.mpr ⟨155, by decide +kernel, rfl⟩), fun h => absurd rfl h⟩
set_option maxRecDepth 100000 in
set_option maxHeartbeats 4000000 in
theorem gvo_156 : gv_okM gv_cl gv_fkT gv_tfT gv_meth gv_Ts gv_nests gv_strs gv_thrs gv_hnds gvm_156 := ⟨gv_chkM_ok (o := 11) (n := 52) rfl (by decide +kernel), fun _ => gv_inT7 _ (List.mem_map.mpr ⟨156, by decide +kernel, rfl⟩), fun h => absurd rfl h⟩
set_option maxRecDepth 100000 in
set_option maxHeartbeats 4000000 in
theorem gvo_157 : gv_okM gv_cl gv_fkT gv_tfT gv_meth gv_Ts gv_nests gv_strs gv_thrs gv_hnds gvm_157 := ⟨gv_chkM_ok (o := 11) (n := 41) rfl (by decide +kernel), fun _ => gv_inT7 _ (List.mem_map.mpr ⟨157, by decide +kernel, rfl⟩), fun h => absurd rfl h⟩
set_option maxRecDepth 100000 in
set_option maxHeartbeats 4000000 in
theorem gvo_158 : gv_okM gv_cl gv_fkT gv_tfT gv_meth gv_Ts gv_nests gv_strs gv_thrs gv_hnds gvm_158 := ⟨gv_chkM_ok (o := 11) (n := 9) rfl (by decide +kernel), fun _ => gv_inT7 _ (List.mem_map.mpr ⟨158, by decide +kernel, rfl⟩), fun h => absurd rfl h⟩
set_option maxRecDepth 100000 in
set_option maxHeartbeats 4000000 in
theorem gvo_159 : gv_okM gv_cl gv_fkT gv_tfT gv_meth gv_Ts gv_nests gv_strs gv_thrs gv_hnds gvm_159 := ⟨gv_chkM_ok (o := 11) (n := 50) rfl (by decide +kernel), fun _ => gv_inT7 _ (List.mem_map.mpr ⟨159, by decide +kernel, rfl⟩), fun h => absurd rfl h⟩
set_option maxRecDepth 100000 in
set_option maxHeartbeats 4000000 in
theorem gvo_160 : gv_okM gv_cl gv_fkT gv_tfT gv_meth gv_Ts gv_nests gv_strs gv_thrs gv_hnds gvm_160 := ⟨gv_chkM_ok (o := 11) (n := 63) rfl (by decide +kernel), fun _ => gv_inT7 _ (List.mem_map.mpr ⟨160, by decide +kernel, rfl⟩), fun h => absurd rfl h⟩
set_option maxRecDepth 100000 in
set_option maxHeartbeats 4000000 in
theorem gvo_161 : gv_okM gv_cl gv_fkT gv_tfT gv_meth gv_Ts gv_nests gv_strs gv_thrs gv_hnds gvm_161 := ⟨gv_chkM_ok (o := 11) (n := 79) rfl (by decide +kernel), fun _ => gv_inT7 _ (List.mem_map.mpr ⟨161, by decide +kernel, rfl⟩), fun h => absurd rfl h⟩
set_option maxRecDepth 100000 in
set_option maxHeartbeats 4000000 in
theorem gvo_162 : gv_okM gv_cl gv_fkT gv_tfT gv_meth gv_Ts gv_nests gv_strs gv_thrs gv_hnds gvm_162 := ⟨gv_chkM_ok (o := 11) (n := 76) rfl (by decide +kernel), fun _ => gv_inT7 _ (List.mem_map.mpr ⟨162, by decide +kernel, rfl⟩), fun h => absurd rfl h⟩
set_option maxRecDepth 100000 in
set_option maxHeartbeats 4000000 in
theorem gvo_163 : gv_okM gv_cl gv_fkT gv_tfT gv_meth gv_Ts gv_nests gv_strs gv_thrs gv_hnds gvm_163 := ⟨gv_chkM_ok (o := 11) (n := 33) rfl (by decide +kernel), fun _ => gv_inT7 _ (List.mem_map.mpr ⟨163, by decide +kernel, rfl⟩), fun h => absurd rfl h⟩
set_option maxRecDepth 100000 in
set_option maxHeartbeats 4000000 in
theorem gvo_164 : gv_okM gv_cl gv_fkT gv_tfT gv_meth gv_Ts gv_nests gv_strs gv_thrs gv_hnds gvm_164 := ⟨gv_chkM_ok (o := 11) (n := 33) rfl (by decide +kernel), fun _ => gv_inT7 _ (List.mem_map.mpr ⟨164, by decide +kernel, rfl⟩), fun h => absurd rfl h⟩
set_option maxRecDepth 100000 in
set_option maxHeartbeats 4000000 in
theorem gvo_165 : gv_okM gv_cl gv_fkT gv_tfT gv_meth gv_Ts gv_nests gv_strs gv_thrs gv_hnds gvm_165 := ⟨gv_chkM_ok (o := 11) (n := 12) rfl (by decide +kernel), fun _ => gv_inT7 _ (List.mem_map.mpr ⟨165, by decide +kernel, rfl⟩), fun h => absurd rfl h⟩
set_option maxRecDepth 100000 in
set_option maxHeartbeats 4000000 in
theorem gvo_166 : gv_okM gv_cl gv_fkT gv_tfT gv_meth gv_Ts gv_nests gv_strs gv_thrs gv_hnds gvm_166 := ⟨gv_chkM_ok (o := 11) (n := 27) rfl (by decide +kernel), fun _ => gv_inT7 _ (List.mem_map.mpr ⟨166, by decide +kernel, rfl⟩), fun h => absurd rfl h⟩
set_option maxRecDepth 100000 in
set_option maxHeartbeats 4000000 in
theorem gvo_167 : gv_okM gv_cl gv_fkT gv_tfT gv_meth gv_Ts gv_nests gv_strs gv_thrs gv_hnds gvm_167 := ⟨gv_chkM_ok (o := 11) (n := 110) rfl (by decide +kernel), fun _ => gv_inT7 _ (List.mem_map.mpr ⟨167, by decide +kernel, rfl⟩), fun h => absurd rfl h⟩
set_option maxRecDepth 100000 in
set_option maxHeartbeats 4000000 in
theorem gvo_168 : gv_okM gv_cl gv_fkT gv_tfT gv_meth gv_Ts gv_nests gv_strs gv_thrs gv_hnds gvm_168 := ⟨gv_chkM_ok (o := 11) (n := 83) rfl (by decide +kernel), fun _ => gv_inT7 _ (List.mem_map.mpr ⟨168, by decide +kernel, rfl⟩), fun h => absurd rfl h⟩
set_option maxRecDepth 100000 in
set_option maxHeartbeats 4000000 in
theorem gvo_169 : gv_okM gv_cl gv_fkT gv_tfT gv_meth gv_Ts gv_nests gv_strs gv_thrs gv_hnds gvm_169 := ⟨gv_chkM_ok (o := 11) (n := 65) rfl (by decide +kernel), fun _ => gv_inT7 _ (List.mem_map.mpr ⟨169, by decide +kernel, rfl⟩), fun h => absurd rfl h⟩
set_option maxRecDepth 100000 in
set_option maxHeartbeats 4000000 in
theorem gvo_170 : gv_okM gv_cl gv_fkT gv_tfT gv_meth gv_Ts gv_nests gv_strs gv_thrs gv_hnds gvm_170 := ⟨gv_chkM_ok (o := 11) (n := 28) rfl (by decide +kernel), fun _ => gv_inT7 _ (List.mem_map.mpr ⟨170, by decide +kernel, rfl⟩), fun h => absurd rfl h⟩
set_option maxRecDepth 100000 in
set_option maxHeartbeats 4000000 in
theorem gvo_171 : gv_okM gv_cl gv_fkT gv_tfT gv_meth gv_Ts gv_nests gv_strs gv_thrs gv_hnds gvm_171 := ⟨gv_chkM_ok (o := 11) (n := 121) rfl (by decide +kernel), fun _ => gv_inT7 _ (List.mem_map.mpr ⟨171, by decide +kernel, rfl⟩), fun h => absurd rfl h⟩
set_option maxRecDepth 100000 in
set_option maxHeartbeats 4000000 in
theorem gvo_172 : gv_okM gv_cl gv_fkT gv_tfT gv_meth gv_Ts gv_nests gv_strs gv_thrs gv_hnds gvm_172 := ⟨gv_chkM_ok (o := 11) (n := 43) rfl (by decide +kernel), fun _ => gv_inT7 _ (List.mem_map.mpr ⟨172, by decide +kernel, rfl⟩), fun h => absurd rfl h⟩
set_option maxRecDepth 100000 in
set_option maxHeartbeats 4000000 in
theorem gvo_173 : gv_okM gv_cl gv_fkT gv_tfT gv_meth gv_Ts gv_nests gv_strs gv_thrs gv_hnds gvm_173 := ⟨gv_chkM_ok (o := 11) (n := 103) rfl (by decide +kernel), fun _ => gv_inT7 _ (List.mem_map.mpr ⟨173, by decide +kernel, rfl⟩), fun h => absurd rfl h⟩
set_option maxRecDepth 100000 in
set_option maxHeartbeats 4000000 in
theorem gvo_174 : gv_okM gv_cl gv_fkT gv_tfT gv_meth gv_Ts gv_nests gv_strs gv_thrs gv_hnds gvm_174 := ⟨gv_chkM_ok (o := 11) (n := 49) rfl (by decide +kernel), fun _ => gv_inT7 _ (List.mem_map.mpr ⟨174, by decide +kernel, rfl⟩), fun h => absurd rfl h⟩
set_option maxRecDepth 100000 in
set_option maxHeartbeats 4000000 in
theorem gvo_175 : gv_okM gv_cl gv_fkT gv_tfT gv_meth gv_Ts gv_nests gv_strs gv_thrs gv_hnds gvm_175 := ⟨gv_chkM_ok (o := 11) (n := 45) rfl (by decide +kernel), fun _ => gv_inT7 _ (List.mem_map.mpr ⟨175, by decide +kernel, rfl⟩), fun h => absurd rfl h⟩
set_option maxRecDepth 100000 in
set_option maxHeartbeats 4000000 in
theorem gvo_176 : gv_okM gv_cl gv_fkT gv_tfT gv_meth gv_Ts gv_nests gv_strs gv_thrs gv_hnds gvm_176 := ⟨gv_chkM_ok (o := 11) (n := 127) rfl (by decide +kernel), fun _ => gv_inT7 _ (List.mem_map.mpr ⟨176, by decide +kernel, rfl⟩), fun h => absurd rfl h⟩
set_option maxRecDepth 100000 in
set_option maxHeartbeats 4000000 in
theorem gvo_177 : gv_okM gv_cl gv_fkT gv_tfT gv_meth gv_Ts gv_nests gv_strs gv_thrs gv_hnds gvm_177 := ⟨gv_chkM_ok (o := 11) (n := 33) rfl (by decide +kernel), fun _ => gv_inT7 _ (List.mem_map.mpr ⟨177, by decide +kernel, rfl⟩), fun h => absurd rfl h⟩
set_option maxRecDepth 100000 in
set_option maxHeartbeats 4000000 in
theorem gvo_178 : gv_okM gv_cl gv_fkT gv_tfT gv_meth gv_Ts gv_nests gv_strs gv_thrs gv_hnds gvm_178 := ⟨gv_chkM_ok (o := 11) (n := 74) rfl (by decide +kernel), fun _ => gv_inT7 _ (List.mem_map.mpr ⟨178, by decide +kernel, rfl⟩), fun h => absurd rfl h⟩
set_option maxRecDepth 100000 in
set_option maxHeartbeats 4000000 in
theorem gvo_179 : gv_okM gv_cl gv_fkT gv_tfT gv_meth gv_Ts gv_nests gv_strs gv_thrs gv_hnds gvm_179 := ⟨gv_chkM_ok (o := 11) (n := 55) rfl (by decide +kernel), fun _ => gv_inT7 _ (List.mem_map.mpr ⟨179, by decide +kernel, rfl⟩), fun h => absurd rfl h⟩
set_option maxRecDepth 100000 in
set_option maxHeartbeats 4000000 in
theorem gvo_180 : gv_okM gv_cl gv_fkT gv_tfT gv_meth gv_Ts gv_nests gv_strs gv_thrs gv_hnds gvm_180 := ⟨gv_chkM_ok (o := 11) (n := 57) rfl (by decide +kernel), fun _ => gv_inT7 _ (List.mem_map.mpr ⟨180, by decide +kernel, rfl⟩), fun h => absurd rfl h⟩
set_option maxRecDepth 100000 in
set_option maxHeartbeats 4000000 in
theorem gvo_181 : gv_okM gv_cl gv_fkT gv_tfT gv_meth gv_Ts gv_nests gv_strs gv_thrs gv_hnds gvm_181 := ⟨gv_chkM_ok (o := 11) (n := 72) rfl (by decide +kernel), fun _ => gv_inT7 _ (List.mem_map.mpr ⟨181, by decide +kernel, rfl⟩), fun h => absurd rfl h⟩
set_option maxRecDepth 100000 in
set_option maxHeartbeats 4000000 in
theorem gvo_182 : gv_okM gv_cl gv_fkT gv_tfT gv_meth gv_Ts gv_nests gv_strs gv_thrs gv_hnds gvm_182 := ⟨gv_chkM_ok (o := 11) (n := 53) rfl (by decide +kernel), fun _ => gv_inT7 _ (List.mem_map.mpr ⟨182, by decide +kernel, rfl⟩), fun h => absurd rfl h⟩
set_option maxRecDepth 100000 in
set_option maxHeartbeats 4000000 in
theorem gvo_183 : gv_okM gv_cl gv_fkT gv_tfT gv_meth gv_Ts gv_nests gv_strs gv_thrs gv_hnds gvm_183 := ⟨gv_chkM_ok (o := 11) (n := 94) rfl (by decide +kernel), fun _ => gv_inT7 _ (List.mem_map.mpr ⟨183, by decide +kernel, rfl⟩), fun h => absurd rfl h⟩
set_option maxRecDepth 100000 in
set_option maxHeartbeats 4000000 in
theorem gvo_184 : gv_okM gv_cl gv_fkT gv_tfT gv_meth gv_Ts gv_nests gv_strs gv_thrs gv_hnds gvm_184 := ⟨gv_chkM_ok (o := 11) (n := 79) rfl (by decide +kernel), fun _ => gv_inT7 _ (List.mem_map.mpr ⟨184, by decide +kernel, rfl⟩), fun h => absurd rfl h⟩
set_option maxRecDepth 100000 in
set_option maxHeartbeats 4000000 in
theorem gvo_185 : gv_okM gv_cl gv_fkT gv_tfT gv_meth gv_Ts gv_nests gv_strs gv_thrs gv_hnds gvm_185 := ⟨gv_chkM_ok (o := 11) (n := 19) rfl (by decide +kernel), fun _ => gv_inT7 _ (List.mem_map.mpr ⟨185, by decide +kernel, rfl⟩), fun h => absurd rfl h⟩
set_option maxRecDepth 100000 in
set_option maxHeartbeats 4000000 in
theorem gvo_186 : gv_okM gv_cl gv_fkT gv_tfT gv_meth gv_Ts gv_nests gv_strs gv_thrs gv_hnds gvm_186 := ⟨gv_chkM_ok (o := 11) (n := 18) rfl (by decide +kernel), fun _ => gv_inT7 _ (List.mem_map.mpr ⟨186, by decide +kernel, rfl⟩), fun h => absurd rfl h⟩
set_option maxRecDepth 100000 in
set_option maxHeartbeats 4000000 in
theorem gvo_187 : gv_okM gv_cl gv_fkT gv_tfT gv_meth gv_Ts gv_nests gv_strs gv_thrs gv_hnds gvm_187 := ⟨gv_chkM_ok (o := 11) (n := 19) rfl (by decide +kernel), fun _ => gv_inT7 _ (List.mem_map.mpr ⟨187, by decide +kernel, rfl⟩), fun h => absurd rfl h⟩
set_option maxRecDepth 100000 in
set_option maxHeartbeats 4000000 in
theorem gvo_188 : gv_okM gv_cl gv_fkT gv_tfT gv_meth gv_Ts gv_nests gv_strs gv_thrs gv_hnds gvm_188 := ⟨gv_chkM_ok (o := 11) (n := 31) rfl (by decide +kernel), fun _ => gv_inT7 _ (List.mem_map.mpr ⟨188, by decide +kernel, rfl⟩), fun h => absurd rfl h⟩
set_option maxRecDepth 100000 in
set_option maxHeartbeats 4000000 in
theorem gvo_189 : gv_okM gv_cl gv_fkT gv_tfT gv_meth gv_Ts gv_nests gv_strs gv_thrs gv_hnds gvm_189 := ⟨gv_chkM_ok (o := 11) (n := 50) rfl (by decide +kernel), fun _ => gv_inT7 _ (List.mem_map.mpr ⟨189, by decide +kernel, rfl⟩), fun h => absurd rfl h⟩
set_option maxRecDepth 100000 in
set_option maxHeartbeats 4000000 in
theorem gvo_190 : gv_okM gv_cl gv_fkT gv_tfT gv_meth gv_Ts gv_nests gv_strs gv_thrs gv_hnds gvm_190 := ⟨gv_chkM_ok (o := 11) (n := 190) rfl (by decide +kernel), fun _ => gv_inT7 _ (List.mem_map.mpr ⟨190, by decide +kernel, rfl⟩), fun h => absurd rfl h⟩
set_option maxRecDepth 100000 in
set_option maxHeartbeats 4000000 in
theorem gvo_191 : gv_okM gv_cl gv_fkT gv_tfT gv_meth gv_Ts gv_nests gv_strs gv_thrs gv_hnds gvm_191 := ⟨gv_chkM_ok (o := 12) (n := 5) rfl (by decide +kernel), fun _ => gv_inT7 _ (List.mem_map.mpr ⟨191, by decide +kernel, rfl⟩), fun h => absurd rfl h⟩
