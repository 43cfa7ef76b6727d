set_option maxRecDepth 100000 in
set_option maxHeartbeats 4000000 in
theorem gvo_90 : gv_okM gv_cl gv_fkT gv_tfT gv_meth gv_Ts gv_nests gv_strs gv_thrs gv_hnds gvm_90 := ⟨gv_chkM_ok (o := 10) (n := 147) rfl (by decide +kernel), fun _ => gv_inT7 _ (List.mem_map.mpr ⟨90, by decide +kernel, rfl⟩), fun h => absurd rfl h⟩
set_option maxRecDepth 100000 in
set_option maxHeartbeats 4000000 in
theorem gvo_91 : gv_okM gv_cl gv_fkT gv_tfT gv_meth gv_Ts gv_nests gv_strs gv_thrs gv_hnds gvm_91 := ⟨gv_chkM_ok (o := 10) (n := 23) rfl (by decide +kernel), fun _ => gv_inT7 _ (List.mem_map.mpr ⟨91, by decide +kernel, rfl⟩), fun h => absurd rfl h⟩
set_option maxRecDepth 100000 in
set_option maxHeartbeats 4000000 in
theorem gvo_92 : gv_okM gv_cl gv_fkT gv_tfT gv_meth gv_Ts gv_nests gv_strs gv_thrs gv_hnds gvm_92 := ⟨gv_chkM_ok (o := 10) (n := 29) rfl (by decide +kernel), fun _ => gv_inT7 _ (List.mem_map.mpr ⟨92, by decide +kernel, rfl⟩), fun h => absurd rfl h⟩
set_option maxRecDepth 100000 in
set_option maxHeartbeats 4000000 in
theorem gvo_93 : gv_okM gv_cl gv_fkT gv_tfT gv_meth gv_Ts gv_nests gv_strs gv_thrs gv_hnds gvm_93 := ⟨gv_chkM_ok (o := 10) (n := 39) rfl (by decide +kernel), fun _ => gv_inT7 _ (List.mem_map.mpr ⟨93, by decide +kernel, rfl⟩), fun h => absurd rfl h⟩
set_option maxRecDepth 100000 in
set_option maxHeartbeats 4000000 in
theorem gvo_94 : gv_okM gv_cl gv_fkT gv_tfT gv_meth gv_Ts gv_nests gv_strs gv_thrs gv_hnds gvm_94 := ⟨gv_chkM_ok (o := 10) (n := 12) rfl (by decide +kernel), fun _ => gv_inT7 _ (List.mem_map.mpr ⟨94, by decide +kernel, rfl⟩), fun h => absurd rfl h⟩
set_option maxRecDepth 100000 in
set_option maxHeartbeats 4000000 in
theorem gvo_95 : gv_okM gv_cl gv_fkT gv_tfT gv_meth gv_Ts gv_nests gv_strs gv_thrs gv_hnds gvm_95 := ⟨gv_chkM_ok (o := 10) (n := 36) rfl (by decide +kernel), fun _ => gv_inT7 _ (List.mem_map.mpr ⟨95, by decide +kernel, rfl⟩), fun h => absurd rfl h⟩
set_option maxRecDepth 100000 in
set_option maxHeartbeats 4000000 in
theorem gvo_96 : gv_okM gv_cl gv_fkT gv_tfT gv_meth gv_Ts gv_nests gv_strs gv_thrs gv_hnds gvm_96 := ⟨gv_chkM_ok (o := 10) (n := 79) rfl (by decide +kernel), fun _ => gv_inT7 _ (List.mem_map.mpr ⟨96, by decide +kernel, rfl⟩), fun h => absurd rfl h⟩
set_option maxRecDepth 100000 in
set_option maxHeartbeats 4000000 in
theorem gvo_97 : gv_okM gv_cl gv_fkT gv_tfT gv_meth gv_Ts gv_nests gv_strs gv_thrs gv_hnds gvm_97 := ⟨gv_chkM_ok (o := 10) (n := 141) rfl (by decide +kernel), fun _ => gv_inT7 _ (List.mem_map.mpr ⟨97, by decide +kernel, rfl⟩), fun h => absurd rfl h⟩
set_option maxRecDepth 100000 in
set_option maxHeartbeats 4000000 in
theorem gvo_98 : gv_okM gv_cl gv_fkT gv_tfT gv_meth gv_Ts gv_nests gv_strs gv_thrs gv_hnds gvm_98 := ⟨gv_chkM_ok (o := 10) (n := 119) rfl (by decide +kernel), fun _ => gv_inT7 _ (List.mem_map.mpr ⟨98, by decide +kernel, rfl⟩), fun h => absurd rfl h⟩
set_option maxRecDepth 100000 in
set_option maxHeartbeats 4000000 in
theorem gvo_99 : gv_okM gv_cl gv_fkT gv_tfT gv_meth gv_Ts gv_nests gv_strs gv_thrs gv_hnds gvm_99 := ⟨gv_chkM_ok (o := 10) (n := 15) rfl (by decide +kernel), fun _ => gv_inT7 _ (List.mem_map.mpr ⟨99, by decide +kernel, rfl⟩), fun h => absurd rfl h⟩
set_option maxRecDepth 100000 in
set_option maxHeartbeats 4000000 in
theorem gvo_100 : gv_okM gv_cl gv_fkT gv_tfT gv_meth gv_Ts gv_nests gv_strs gv_thrs gv_hnds gvm_100 := ⟨gv_chkM_ok (o := 10) (n := 27) rfl (by decide +kernel), fun _ => gv_inT7 _ (List.mem_map.mpr ⟨100, by decide +kernel, rfl⟩), fun h => absurd rfl h⟩
set_option maxRecDepth 100000 in
set_option maxHeartbeats 4000000 in
theorem gvo_101 : gv_okM gv_cl gv_fkT gv_tfT gv_meth gv_Ts gv_nests gv_strs gv_thrs gv_hnds gvm_101 := ⟨gv_chkM_ok (o := 10) (n := 203) rfl (by decide +kernel), fun _ => gv_inT7 _ (List.mem_map.mpr ⟨101, by decide +kernel, rfl⟩), fun h => absurd rfl h⟩
set_option maxRecDepth 100000 in
set_option maxHeartbeats 4000000 in
theorem gvo_102 : gv_okM gv_cl gv_fkT gv_tfT gv_meth gv_Ts gv_nests gv_strs gv_thrs gv_hnds gvm_102 := ⟨gv_chkM_ok (o := 10) (n := 34) rfl (by decide +kernel), fun _ => gv_inT7 _ (List.mem_map.mpr ⟨102, by decide +kernel, rfl⟩), fun h => absurd rfl h⟩
set_option maxRecDepth 100000 in
set_option maxHeartbeats 4000000 in
theorem gvo_103 : gv_okM gv_cl gv_fkT gv_tfT gv_meth gv_Ts gv_nests gv_strs gv_thrs gv_hnds gvm_103 := ⟨gv_chkM_ok (o := 10) (n := 46) rfl (by decide +kernel), fun _ => gv_inT7 _ (List.mem_map.mpr ⟨103, by decide +kernel, rfl⟩), fun h => absurd rfl h⟩
set_option maxRecDepth 100000 in
set_option maxHeartbeats 4000000 in
theorem gvo_104 : gv_okM gv_cl gv_fkT gv_tfT gv_meth gv_Ts gv_nests gv_strs gv_thrs gv_hnds gvm_104 := ⟨gv_chkM_ok (o := 11) (n := 154) rfl (by decide +kernel), fun _ => gv_inT7 _ (List.mem_map.mpr ⟨104, by decide +kernel, rfl⟩), fun h => absurd rfl h⟩
set_option maxRecDepth 100000 in
set_option maxHeartbeats 4000000 in
theorem gvo_105 : gv_okM gv_cl gv_fkT gv_tfT gv_meth gv_Ts gv_nests gv_strs gv_thrs gv_hnds gvm_105 := ⟨gv_chkM_ok (o := 11) (n := 47) rfl (by decide +kernel), fun _ => gv_inT7 _ (List.mem_map.mpr ⟨105, by decide +kernel, rfl⟩), fun h => absurd rfl h⟩
set_option maxRecDepth 100000 in
set_option maxHeartbeats 4000000 in
theorem gvo_106 : gv_okM gv_cl gv_fkT gv_tfT gv_meth gv_Ts gv_nests gv_strs gv_thrs gv_hnds gvm_106 := ⟨gv_chkM_ok (o := 11) (n := 57) rfl (by decide +kernel), fun _ => gv_inT7 _ (List.mem_map.mpr ⟨106, by decide +kernel, rfl⟩), fun h => absurd rfl h⟩
set_option maxRecDepth 100000 in
set_option maxHeartbeats 4000000 in
theorem gvo_107 : gv_okM gv_cl gv_fkT gv_tfT gv_meth gv_Ts gv_nests gv_strs gv_thrs gv_hnds gvm_107 := ⟨gv_chkM_ok (o := 11) (n := 21) rfl (by decide +kernel), fun _ => gv_inT7 _ (List.mem_map.mpr ⟨107, by decide +kernel, rfl⟩), fun h => absurd rfl h⟩
set_option maxRecDepth 100000 in
set_option maxHeartbeats 4000000 in
theorem gvo_108 : gv_okM gv_cl gv_fkT gv_tfT gv_meth gv_Ts gv_nests gv_strs gv_thrs gv_hnds gvm_108 := ⟨gv_chkM_ok (o := 11) (n := 21) rfl (by decide +kernel), fun _ => gv_inT7 _ (List.mem_map.mpr ⟨108, by decide +kernel, rfl⟩), fun h => absurd rfl h⟩
set_option maxRecDepth 100000 in
set_option maxHeartbeats 4000000 in
theorem gvo_109 : gv_okM gv_cl gv_fkT gv_tfT gv_meth gv_Ts gv_nests gv_strs gv_thrs gv_hnds gvm_109 := ⟨gv_chkM_ok (o := 11) (n := 113) rfl (by decide +kernel), fun _ => gv_inT7 _ (List.mem_map.mpr ⟨109, by decide +kernel, rfl⟩), fun h => absurd rfl h⟩
set_option maxRecDepth 100000 in
set_option maxHeartbeats 4000000 in
theorem gvo_110 : gv_okM gv_cl gv_fkT gv_tfT gv_meth gv_Ts gv_nests gv_strs gv_thrs gv_hnds gvm_110 := ⟨gv_chkM_ok (o := 11) (n := 66) rfl (by decide +kernel), fun _ => gv_inT7 _ (List.mem_map.mpr ⟨110, by decide +kernel, rfl⟩), fun h => absurd rfl h⟩
set_option maxRecDepth 100000 in
set_option maxHeartbeats 4000000 in
theorem gvo_111 : gv_okM gv_cl gv_fkT gv_tfT gv_meth gv_Ts gv_nests gv_strs gv_thrs gv_hnds gvm_111 := ⟨gv_chkM_ok (o := 11) (n := 16) rfl (by decide +kernel), fun _ => gv_inT7 _ (List.mem_map.mpr ⟨111, by decide +kernel, rfl⟩), fun h => absurd rfl h⟩
set_option maxRecDepth 100000 in
set_option maxHeartbeats 4000000 in
theorem gvo_112 : gv_okM gv_cl gv_fkT gv_tfT gv_meth gv_Ts gv_nests gv_strs gv_thrs gv_hnds gvm_112 := ⟨gv_chkM_ok (o := 11) (n := 5) rfl (by decide +kernel), fun _ => gv_inT7 _ (List.mem_map.mpr ⟨112, by decide +kernel, rfl⟩), fun h => absurd rfl h⟩
set_option maxRecDepth 100000 in
set_option maxHeartbeats 4000000 in
theorem gvo_113 : gv_okM gv_cl gv_fkT gv_tfT gv_meth gv_Ts gv_nests gv_strs gv_thrs gv_hnds gvm_113 := ⟨gv_chkM_ok (o := 11) (n := 25) rfl (by decide +kernel), fun _ => gv_inT7 _ (List.mem_map.mpr ⟨113, by decide +kernel, rfl⟩), fun h => absurd rfl h⟩
set_option maxRecDepth 100000 in
set_option maxHeartbeats 4000000 in
theorem gvo_114 : gv_okM gv_cl gv_fkT gv_tfT gv_meth gv_Ts gv_nests gv_strs gv_thrs gv_hnds gvm_114 := ⟨gv_chkM_ok (o := 11) (n := 21) rfl (by decide +kernel), fun _ => gv_inT7 _ (List.mem_map.mpr ⟨114, by decide +kernel, rfl⟩), fun h => absurd rfl h⟩
set_option maxRecDepth 100000 in
set_option maxHeartbeats 4000000 in
theorem gvo_115 : gv_okM gv_cl gv_fkT gv_tfT gv_meth gv_Ts gv_nests gv_strs gv_thrs gv_hnds gvm_115 := ⟨gv_chkM_ok (o := 11) (n := 20) rfl (by decide +kernel), fun _ => gv_inT7 _ (List.mem_map.mpr ⟨115, by decide +kernel, rfl⟩), fun h => absurd rfl h⟩
set_option maxRecDepth 100000 in
set_option maxHeartbeats 4000000 in
theorem gvo_116 : gv_okM gv_cl gv_fkT gv_tfT gv_meth gv_Ts gv_nests gv_strs gv_thrs gv_hnds gvm_116 := ⟨gv_chkM_ok (o := 11) (n := 13) rfl (by decide +kernel), fun _ => gv_inT7 _ (List.mem_map.mpr ⟨116, by decide +kernel, rfl⟩), fun h => absurd rfl h⟩
set_option maxRecDepth 100000 in
set_option maxHeartbeats 4000000 in
theorem gvo_117 : gv_okM gv_cl gv_fkT gv_tfT gv_meth gv_Ts gv_nests gv_strs gv_thrs gv_hnds gvm_117 := ⟨gv_chkM_ok (o := 11) (n := 12) rfl (by decide +kernel), fun _ => gv_inT7 _ (List.mem_map.mpr ⟨117, by decide +kernel, rfl⟩), fun h => absurd rfl h⟩
set_option maxRecDepth 100000 in
set_option maxHeartbeats 4000000 in
theorem gvo_118 : gv_okM gv_cl gv_fkT gv_tfT gv_meth gv_Ts gv_nests gv_strs gv_thrs gv_hnds gvm_118 := ⟨gv_chkM_ok (o := 11) (n := 22) rfl (by decide +kernel), fun _ => gv_inT7 _ (List.mem_map.mpr ⟨118, by decide +kernel, rfl⟩), fun h => absurd rfl h⟩
set_option maxRecDepth 100000 in
set_option maxHeartbeats 4000000 in
theorem gvo_119 : gv_okM gv_cl gv_fkT gv_tfT gv_meth gv_Ts gv_nests gv_strs gv_thrs gv_hnds gvm_119 := ⟨gv_chkM_ok (o := 11) (n := 14) rfl (by decide +kernel), fun _ => gv_inT7 _ (List.mem_map.mpr ⟨119, by decide +kernel, rfl⟩), fun h => absurd rfl h⟩
set_option maxRecDepth 100000 in
set_option maxHeartbeats 4000000 in
theorem gvo_120 : gv_okM gv_cl gv_fkT gv_tfT gv_meth gv_Ts gv_nests gv_strs gv_thrs gv_hnds gvm_120 := ⟨gv_chkM_ok (o := 11) (n := 16) rfl (by decide +kernel), fun _ => gv_inT7 _ (List.mem_map.mpr ⟨120, by decide +kernel, rfl⟩), fun h => absurd rfl h⟩
set_option maxRecDepth 100000 in
set_option maxHeartbeats 4000000 in
theorem gvo_121 : gv_okM gv_cl gv_fkT gv_tfT gv_meth gv_Ts gv_nests gv_strs gv_thrs gv_hnds gvm_121 := ⟨gv_chkM_ok (o := 11) (n := 34) rfl (by decide +kernel), fun _ => gv_inT7 _ (List.mem_map.mpr ⟨121, by decide +kernel, rfl⟩), fun h => absurd rfl h⟩
set_option maxRecDepth 100000 in
set_option maxHeartbeats 4000000 in
theorem gvo_122 : gv_okM gv_cl gv_fkT gv_tfT gv_meth gv_Ts gv_nests gv_strs gv_thrs gv_hnds gvm_122 := ⟨gv_chkM_ok (o := 11) (n := 251) rfl (by decide +kernel), fun _ => gv_inT7 _ (List.mem_map.mpr ⟨122, by decide +kernel, rfl⟩), fun h => absurd rfl h⟩
set_option maxRecDepth 100000 in
set_option maxHeartbeats 4000000 in
theorem gvo_123 : gv_okM gv_cl gv_fkT gv_tfT gv_meth gv_Ts gv_nests gv_strs gv_thrs gv_hnds gvm_123 := ⟨gv_chkM_ok (o := 11) (n := 37) rfl (by decide +kernel), fun _ => gv_inT7 _ (List.mem_map.mpr ⟨123, by decide +kernel, rfl⟩), fun h => absurd rfl h⟩
set_option maxRecDepth 100000 in
set_option maxHeartbeats 4000000 in
theorem gvo_124 : gv_okM gv_cl gv_fkT gv_tfT gv_meth gv_Ts gv_nests gv_strs gv_thrs gv_hnds gvm_124 := ⟨gv_chkM_ok (o := 11) (n := 41) rfl (by decide +kernel), fun _ => gv_inT7 _ (List.mem_map.mpr ⟨124, by decide +kernel, rfl⟩), fun h => absurd rfl h⟩
set_option maxRecDepth 100000 in
set_option maxHeartbeats 4000000 in
theorem gvo_125 : gv_okM gv_cl gv_fkT gv_tfT gv_meth gv_Ts gv_nests gv_strs gv_thrs gv_hnds gvm_125 := ⟨gv_chkM_ok (o := 11) (n := 165) rfl (by decide +kernel), fun _ => gv_inT7 _ (List.mem_map.mpr ⟨125, by decide +kernel, rfl⟩), fun h => absurd rfl h⟩
set_option maxRecDepth 100000 in
set_option maxHeartbeats 4000000 in
theorem gvo_126 : gv_okM gv_cl gv_fkT gv_tfT gv_meth gv_Ts gv_nests gv_strs gv_thrs gv_hnds gvm_126 := ⟨gv_chkM_ok (o := 11) (n := 9) rfl (by decide +kernel), fun _ => gv_inT7 _ (List.mem_map.mpr ⟨126, by decide +kernel, rfl⟩), fun h => absurd rfl h⟩
set_option maxRecDepth 100000 in
set_option maxHeartbeats 4000000 in
theorem gvo_127 : gv_okM gv_cl gv_fkT gv_tfT gv_meth gv_Ts gv_nests gv_strs gv_thrs gv_hnds gvm_127 := ⟨gv_chkM_ok (o := 11) (n := 18) rfl (by decide +kernel), fun _ => gv_inT7 _ (List.mem_map.mpr ⟨127, by decide +kernel, rfl⟩), fun h => absurd rfl h⟩
set_option maxRecDepth 100000 in
set_option maxHeartbeats 4000000 in
theorem gvo_128 : gv_okM gv_cl gv_fkT gv_tfT gv_meth gv_Ts gv_nests gv_strs gv_thrs gv_hnds gvm_128 := ⟨gv_chkM_ok (o := 11) (n := 22) rfl (by decide +kernel), fun _ => gv_inT7 _ (List.mem_map.mpr ⟨128, by decide +kernel, rfl⟩), fun h => absurd rfl h⟩
set_option maxRecDepth 100000 in
set_option maxHeartbeats 4000000 in
theorem gvo_129 : gv_okM gv_cl gv_fkT gv_tfT gv_meth gv_Ts gv_nests gv_strs gv_thrs gv_hnds gvm_129 := ⟨gv_chkM_ok (o := 11) (n := 127) rfl (by decide +kernel), fun _ => gv_inT7 _ (List.mem_map.mpr ⟨129, by decide +kernel, rfl⟩), fun h => absurd rfl h⟩
set_option maxRecDepth 100000 in
set_option maxHeartbeats 4000000 in
theorem gvo_130 : gv_okM gv_cl gv_fkT gv_tfT gv_meth gv_Ts gv_nests gv_strs gv_thrs gv_hnds gvm_130 := ⟨gv_chkM_ok (o := 11) (n := 49) rfl (by decide +kernel), fun _ => gv_inT7 _ (List.mem_map.mpr ⟨130, by decide +kernel, rfl⟩), fun h => absurd rfl h⟩
set_option maxRecDepth 100000 in
set_option maxHeartbeats 4000000 in
theorem gvo_131 : gv_okM gv_cl gv_fkT gv_tfT gv_meth gv_Ts gv_nests gv_strs gv_thrs gv_hnds gvm_131 := ⟨gv_chkM_ok (o := 11) (n := 19) rfl (by decide +kernel), fun _ => gv_inT7 _ (List.mem_map.mpr ⟨131, by decide +kernel, rfl⟩), fun h => absurd rfl h⟩
set_option maxRecDepth 100000 in
set_option maxHeartbeats 4000000 in
theorem gvo_132 : gv_okM gv_cl gv_fkT gv_tfT gv_meth gv_Ts gv_nests gv_strs gv_thrs gv_hnds gvm_132 := ⟨gv_chkM_ok (o := 11) (n := 33) rfl (by decide +kernel), fun _ => gv_inT7 _ (List.mem_map.mpr ⟨132, by decide +kernel, rfl⟩), fun h => absurd rfl h⟩
set_option maxRecDepth 100000 in
set_option maxHeartbeats 4000000 in
theorem gvo_133 : gv_okM gv_cl gv_fkT gv_tfT gv_meth gv_Ts gv_nests gv_strs gv_thrs gv_hnds gvm_133 := ⟨gv_chkM_ok (o := 11) (n := 33) rfl (by decide +kernel), fun _ => gv_inT7 _ (List.mem_map.mpr ⟨133, by decide +kernel, rfl⟩), fun h => absurd rfl h⟩
set_option maxRecDepth 100000 in
set_option maxHeartbeats 4000000 in
theorem gvo_134 : gv_okM gv_cl gv_fkT gv_tfT gv_meth gv_Ts gv_nests gv_strs gv_thrs gv_hnds gvm_134 := ⟨gv_chkM_ok (o := 11) (n := 65) rfl (by decide +kernel), fun _ => gv_inT7 _ (List.mem_map.mpr ⟨134, by decide +kernel, rfl⟩), fun h => absurd rfl h⟩
set_option maxRecDepth 100000 in
set_option maxHeartbeats 4000000 in
theorem gvo_135 : gv_okM gv_cl gv_fkT gv_tfT gv_meth gv_Ts gv_nests gv_strs gv_thrs gv_hnds gvm_135 := ⟨gv_chkM_ok (o := 11) (n := 96) rfl (by decide +kernel), fun _ => gv_inT7 _ (List.mem_map.mpr ⟨135, by decide +kernel, rfl⟩), fun h => absurd rfl h⟩
set_option maxRecDepth 100000 in
set_option maxHeartbeats 4000000 in
theorem gvo_136 : gv_okM gv_cl gv_fkT gv_tfT gv_meth gv_Ts gv_nests gv_strs gv_thrs gv_hnds gvm_136 := ⟨gv_chkM_ok (o := 11) (n := 58) rfl (by decide +kernel), fun _ => gv_inT7 _ (List.mem_map.mpr ⟨136, by decide +kernel, rfl⟩), fun h => absurd rfl h⟩
set_option maxRecDepth 100000 in
set_option maxHeartbeats 4000000 in
theorem gvo_137 : gv_okM gv_cl gv_fkT gv_tfT gv_meth gv_Ts gv_nests gv_strs gv_thrs gv_hnds gvm_137 := ⟨gv_chkM_ok (o := 11) (n := 44) rfl (by decide +kernel), fun _ => gv_inT7 _ (List.mem_map.mpr ⟨137, by decide +kernel, rfl⟩), fun h => absurd rfl h⟩
set_option maxRecDepth 100000 in
set_option maxHeartbeats 4000000 in
theorem gvo_138 : gv_okM gv_cl gv_fkT gv_tfT gv_meth gv_Ts gv_nests gv_strs gv_thrs gv_hnds gvm_138 := ⟨gv_chkM_ok (o := 11) (n := 47) rfl (by decide +kernel), fun _ => gv_inT7 _ (List.mem_map.mpr ⟨138, by decide +kernel, rfl⟩), fun h => absurd rfl h⟩
set_option maxRecDepth 100000 in
set_option maxHeartbeats 4000000 in
theorem gvo_139 : gv_okM gv_cl gv_fkT gv_tfT gv_meth gv_Ts gv_nests gv_strs gv_thrs gv_hnds gvm_139 := ⟨gv_chkM_ok (o := 11) (n := 44) rfl (by decide +kernel), fun _ => gv_inT7 _ (List.mem_map.mpr ⟨139, by decide +kernel, rfl⟩), fun h => absurd rfl h⟩
set_option maxRecDepth 100000 in
set_option maxHeartbeats 4000000 in
theorem gvo_140 : gv_okM gv_cl gv_fkT gv_tfT gv_meth gv_Ts gv_nests gv_strs gv_thrs gv_hnds gvm_140 := ⟨gv_chkM_ok (o := 11) (n := 44) rfl (by decide +kernel), fun _ => gv_inT7 _ (List.mem_map.mpr ⟨140, by decide +kernel, rfl⟩), fun h => absurd rfl h⟩
set_option maxRecDepth 100000 in
set_option maxHeartbeats 4000000 in
theorem gvo_141 : gv_okM gv_cl gv_fkT gv_tfT gv_meth gv_Ts gv_nests gv_strs gv_thrs gv_hnds gvm_141 := ⟨gv_chkM_ok (o := 11) (n := 13) rfl (by decide +kernel), fun _ => gv_inT7 _ (List.mem_map.mpr ⟨141, by decide +kernel, rfl⟩), fun h => absurd rfl h⟩
set_option maxRecDepth 100000 in
set_option maxHeartbeats 4000000 in
theorem gvo_142 : gv_okM gv_cl gv_fkT gv_tfT gv_meth gv_Ts gv_nests gv_strs gv_thrs gv_hnds gvm_142 := ⟨gv_chkM_ok (o := 11) (n := 8) rfl (by decide +kernel), fun _ => gv_inT7 _ (List.mem_map.mpr ⟨142, by decide +kernel, rfl⟩), fun h => absurd rfl h⟩
set_option maxRecDepth 100000 in
set_option maxHeartbeats 4000000 in
theorem gvo_143 : gv_okM gv_cl gv_fkT gv_tfT gv_meth gv_Ts gv_nests gv_strs gv_thrs gv_hnds gvm_143 := ⟨gv_chkM_ok (o := 11) (n := 29) rfl (by decide +kernel), fun _ => gv_inT7 _ (List.mem_map.mpr ⟨143, by decide +kernel, rfl⟩), fun h => absurd rfl h⟩
set_option maxRecDepth 100000 in
set_option maxHeartbeats 4000000 in
theorem gvo_144 : gv_okM gv_cl gv_fkT gv_tfT gv_meth gv_Ts gv_nests gv_strs gv_thrs gv_hnds gvm_144 := ⟨gv_chkM_ok (o := 11) (n := 16) rfl (by decide +kernel), fun _ => gv_inT7 _ (List.mem_map.mpr ⟨144, by decide +kernel, rfl⟩), fun h => absurd rfl h⟩
set_option maxRecDepth 100000 in
set_option maxHeartbeats 4000000 in
theorem gvo_145 : gv_okM gv_cl gv_fkT gv_tfT gv_meth gv_Ts gv_nests gv_strs gv_thrs gv_hnds gvm_145 := ⟨gv_chkM_ok (o := 11) (n := 60) rfl (by decide +kernel), fun _ => gv_inT7 _ (List.mem_map.mpr ⟨145, by decide +kernel, rfl⟩), fun h => absurd rfl h⟩
