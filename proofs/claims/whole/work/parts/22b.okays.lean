set_option maxRecDepth 100000 in
set_option maxHeartbeats 4000000 in
theorem gvo_43 : gv_okM gv_cl gv_fkT gv_tfT gv_meth gv_Ts gv_nests gv_strs gv_thrs gv_hnds gvm_43 := ⟨gv_chkM_ok (o := 6) (n := 84) rfl (by decide +kernel), fun _ => gv_inT7 _ (List.mem_map.mpr ⟨43, by decide +kernel, rfl⟩), fun h => absurd rfl h⟩
set_option maxRecDepth 100000 in
set_option maxHeartbeats 4000000 in
theorem gvo_44 : gv_okM gv_cl gv_fkT gv_tfT gv_meth gv_Ts gv_nests gv_strs gv_thrs gv_hnds gvm_44 := ⟨gv_chkM_ok (o := 6) (n := 24) rfl (by decide +kernel), fun _ => gv_inT7 _ (List.mem_map.mpr ⟨44, by decide +kernel, rfl⟩), fun h => absurd rfl h⟩
set_option maxRecDepth 100000 in
set_option maxHeartbeats 4000000 in
theorem gvo_45 : gv_okM gv_cl gv_fkT gv_tfT gv_meth gv_Ts gv_nests gv_strs gv_thrs gv_hnds gvm_45 := ⟨gv_chkM_ok (o := 6) (n := 19) rfl (by decide +kernel), fun _ => gv_inT7 _ (List.mem_map.mpr ⟨45, by decide +kernel, rfl⟩), fun h => absurd rfl h⟩
set_option maxRecDepth 100000 in
set_option maxHeartbeats 4000000 in
theorem gvo_46 : gv_okM gv_cl gv_fkT gv_tfT gv_meth gv_Ts gv_nests gv_strs gv_thrs gv_hnds gvm_46 := ⟨gv_chkM_ok (o := 6) (n := 42) rfl (by decide +kernel), fun _ => gv_inT7 _ (List.mem_map.mpr ⟨46, by decide +kernel, rfl⟩), fun h => absurd rfl h⟩
set_option maxRecDepth 100000 in
set_option maxHeartbeats 4000000 in
theorem gvo_47 : gv_okM gv_cl gv_fkT gv_tfT gv_meth gv_Ts gv_nests gv_strs gv_thrs gv_hnds gvm_47 := ⟨gv_chkM_ok (o := 6) (n := 42) rfl (by decide +kernel), fun _ => gv_inT7 _ (List.mem_map.mpr ⟨47, by decide +kernel, rfl⟩), fun h => absurd rfl h⟩
set_option maxRecDepth 100000 in
set_option maxHeartbeats 4000000 in
theorem gvo_48 : gv_okM gv_cl gv_fkT gv_tfT gv_meth gv_Ts gv_nests gv_strs gv_thrs gv_hnds gvm_48 := ⟨gv_chkM_ok (o := 6) (n := 24) rfl (by decide +kernel), fun _ => gv_inT7 _ (List.mem_map.mpr ⟨48, by decide +kernel, rfl⟩), fun h => absurd rfl h⟩
set_option maxRecDepth 100000 in
set_option maxHeartbeats 4000000 in
theorem gvo_49 : gv_okM gv_cl gv_fkT gv_tfT gv_meth gv_Ts gv_nests gv_strs gv_thrs gv_hnds gvm_49 := ⟨gv_chkM_ok (o := 6) (n := 24) rfl (by decide +kernel), fun _ => gv_inT7 _ (List.mem_map.mpr ⟨49, by decide +kernel, rfl⟩), fun h => absurd rfl h⟩
set_option maxRecDepth 100000 in
set_option maxHeartbeats 4000000 in
theorem gvo_50 : gv_okM gv_cl gv_fkT gv_tfT gv_meth gv_Ts gv_nests gv_strs gv_thrs gv_hnds gvm_50 := ⟨gv_chkM_ok (o := 6) (n := 18) rfl (by decide +kernel), fun _ => gv_inT7 _ (List.mem_map.mpr ⟨50, by decide +kernel, rfl⟩), fun h => absurd rfl h⟩
set_option maxRecDepth 100000 in
set_option maxHeartbeats 4000000 in
theorem gvo_51 : gv_okM gv_cl gv_fkT gv_tfT gv_meth gv_Ts gv_nests gv_strs gv_thrs gv_hnds gvm_51 := ⟨gv_chkM_ok (o := 6) (n := 65) rfl (by decide +kernel), fun _ => gv_inT7 _ (List.mem_map.mpr ⟨51, by decide +kernel, rfl⟩), fun h => absurd rfl h⟩
set_option maxRecDepth 100000 in
set_option maxHeartbeats 4000000 in
theorem gvo_52 : gv_okM gv_cl gv_fkT gv_tfT gv_meth gv_Ts gv_nests gv_strs gv_thrs gv_hnds gvm_52 := ⟨gv_chkM_ok (o := 6) (n := 77) rfl (by decide +kernel), fun _ => gv_inT7 _ (List.mem_map.mpr ⟨52, by decide +kernel, rfl⟩), fun h => absurd rfl h⟩
set_option maxRecDepth 100000 in
set_option maxHeartbeats 4000000 in
theorem gvo_53 : gv_okM gv_cl gv_fkT gv_tfT gv_meth gv_Ts gv_nests gv_strs gv_thrs gv_hnds gvm_53 := ⟨gv_chkM_ok (o := 6) (n := 36) rfl (by decide +kernel), fun _ => gv_inT7 _ (List.mem_map.mpr ⟨53, by decide +kernel, rfl⟩), fun h => absurd rfl h⟩
set_option maxRecDepth 100000 in
set_option maxHeartbeats 4000000 in
theorem gvo_54 : gv_okM gv_cl gv_fkT gv_tfT gv_meth gv_Ts gv_nests gv_strs gv_thrs gv_hnds gvm_54 := ⟨gv_chkM_ok (o := 6) (n := 50) rfl (by decide +kernel), fun _ => gv_inT7 _ (List.mem_map.mpr ⟨54, by decide +kernel, rfl⟩), fun h => absurd rfl h⟩
set_option maxRecDepth 100000 in
set_option maxHeartbeats 4000000 in
theorem gvo_55 : gv_okM gv_cl gv_fkT gv_tfT gv_meth gv_Ts gv_nests gv_strs gv_thrs gv_hnds gvm_55 := ⟨gv_chkM_ok (o := 6) (n := 47) rfl (by decide +kernel), fun _ => gv_inT7 _ (List.mem_map.mpr ⟨55, by decide +kernel, rfl⟩), fun h => absurd rfl h⟩
set_option maxRecDepth 100000 in
set_option maxHeartbeats 4000000 in
theorem gvo_56 : gv_okM gv_cl gv_fkT gv_tfT gv_meth gv_Ts gv_nests gv_strs gv_thrs gv_hnds gvm_56 := ⟨gv_chkM_ok (o := 6) (n := 83) rfl (by decide +kernel), fun _ => gv_inT7 _ (List.mem_map.mpr ⟨56, by decide +kernel, rfl⟩), fun h => absurd rfl h⟩
set_option maxRecDepth 100000 in
set_option maxHeartbeats 4000000 in
theorem gvo_57 : gv_okM gv_cl gv_fkT gv_tfT gv_meth gv_Ts gv_nests gv_strs gv_thrs gv_hnds gvm_57 := ⟨gv_chkM_ok (o := 7) (n := 19) rfl (by decide +kernel), fun _ => gv_inT7 _ (List.mem_map.mpr ⟨57, by decide +kernel, rfl⟩), fun h => absurd rfl h⟩
set_option maxRecDepth 100000 in
set_option maxHeartbeats 4000000 in
theorem gvo_58 : gv_okM gv_cl gv_fkT gv_tfT gv_meth gv_Ts gv_nests gv_strs gv_thrs gv_hnds gvm_58 := ⟨gv_chkM_ok (o := 7) (n := 45) rfl (by decide +kernel), fun _ => gv_inT7 _ (List.mem_map.mpr ⟨58, by decide +kernel, rfl⟩), fun h => absurd rfl h⟩
set_option maxRecDepth 100000 in
set_option maxHeartbeats 4000000 in
theorem gvo_59 : gv_okM gv_cl gv_fkT gv_tfT gv_meth gv_Ts gv_nests gv_strs gv_thrs gv_hnds gvm_59 := ⟨gv_chkM_ok (o := 7) (n := 30) rfl (by decide +kernel), fun _ => gv_inT7 _ (List.mem_map.mpr ⟨59, by decide +kernel, rfl⟩), fun h => absurd rfl h⟩
set_option maxRecDepth 100000 in
set_option maxHeartbeats 4000000 in
theorem gvo_60 : gv_okM gv_cl gv_fkT gv_tfT gv_meth gv_Ts gv_nests gv_strs gv_thrs gv_hnds gvm_60 := ⟨gv_chkM_ok (o := 7) (n := 155) rfl (by decide +kernel), fun _ => gv_inT7 _ (List.mem_map.mpr ⟨60, by decide +kernel, rfl⟩), fun h => absurd rfl h⟩
set_option maxRecDepth 100000 in
set_option maxHeartbeats 4000000 in
theorem gvo_61 : gv_okM gv_cl gv_fkT gv_tfT gv_meth gv_Ts gv_nests gv_strs gv_thrs gv_hnds gvm_61 := ⟨gv_chkM_ok (o := 7) (n := 90) rfl (by decide +kernel), fun _ => gv_inT7 _ (List.mem_map.mpr ⟨61, by decide +kernel, rfl⟩), fun h => absurd rfl h⟩
set_option maxRecDepth 100000 in
set_option maxHeartbeats 4000000 in
theorem gvo_62 : gv_okM gv_cl gv_fkT gv_tfT gv_meth gv_Ts gv_nests gv_strs gv_thrs gv_hnds gvm_62 := ⟨gv_chkM_ok (o := 7) (n := 18) rfl (by decide +kernel), fun _ => gv_inT7 _ (List.mem_map.mpr ⟨62, by decide +kernel, rfl⟩), fun h => absurd rfl h⟩
set_option maxRecDepth 100000 in
set_option maxHeartbeats 4000000 in
theorem gvo_63 : gv_okM gv_cl gv_fkT gv_tfT gv_meth gv_Ts gv_nests gv_strs gv_thrs gv_hnds gvm_63 := ⟨gv_chkM_ok (o := 7) (n := 18) rfl (by decide +kernel), fun _ => gv_inT7 _ (List.mem_map.mpr ⟨63, by decide +kernel, rfl⟩), fun h => absurd rfl h⟩
set_option maxRecDepth 100000 in
set_option maxHeartbeats 4000000 in
theorem gvo_64 : gv_okM gv_cl gv_fkT gv_tfT gv_meth gv_Ts gv_nests gv_strs gv_thrs gv_hnds gvm_64 := ⟨gv_chkM_ok (o := 7) (n := 22) rfl (by decide +kernel), fun _ => gv_inT7 _ (List.mem_map.mpr ⟨64, by decide +kernel, rfl⟩), fun h => absurd rfl h⟩
set_option maxRecDepth 100000 in
set_option maxHeartbeats 4000000 in
theorem gvo_65 : gv_okM gv_cl gv_fkT gv_tfT gv_meth gv_Ts gv_nests gv_strs gv_thrs gv_hnds gvm_65 := ⟨gv_chkM_ok (o := 7) (n := 29) rfl (by decide +kernel), fun _ => gv_inT7 _ (List.mem_map.mpr ⟨65, by decide +kernel, rfl⟩), fun h => absurd rfl h⟩
set_option maxRecDepth 100000 in
set_option maxHeartbeats 4000000 in
theorem gvo_66 : gv_okM gv_cl gv_fkT gv_tfT gv_meth gv_Ts gv_nests gv_strs gv_thrs gv_hnds gvm_66 := ⟨gv_chkM_ok (o := 7) (n := 14) rfl (by decide +kernel), fun _ => gv_inT7 _ (List.mem_map.mpr ⟨66, by decide +kernel, rfl⟩), fun h => absurd rfl h⟩
set_option maxRecDepth 100000 in
set_option maxHeartbeats 4000000 in
theorem gvo_67 : gv_okM gv_cl gv_fkT gv_tfT gv_meth gv_Ts gv_nests gv_strs gv_thrs gv_hnds gvm_67 := ⟨gv_chkM_ok (o := 7) (n := 75) rfl (by decide +kernel), fun _ => gv_inT7 _ (List.mem_map.mpr ⟨67, by decide +kernel, rfl⟩), fun h => absurd rfl h⟩
set_option maxRecDepth 100000 in
set_option maxHeartbeats 4000000 in
theorem gvo_68 : gv_okM gv_cl gv_fkT gv_tfT gv_meth gv_Ts gv_nests gv_strs gv_thrs gv_hnds gvm_68 := ⟨gv_chkM_ok (o := 7) (n := 71) rfl (by decide +kernel), fun _ => gv_inT7 _ (List.mem_map.mpr ⟨68, by decide +kernel, rfl⟩), fun h => absurd rfl h⟩
set_option maxRecDepth 100000 in
set_option maxHeartbeats 4000000 in
theorem gvo_69 : gv_okM gv_cl gv_fkT gv_tfT gv_meth gv_Ts gv_nests gv_strs gv_thrs gv_hnds gvm_69 := ⟨gv_chkM_ok (o := 7) (n := 10) rfl (by decide +kernel), fun _ => gv_inT7 _ (List.mem_map.mpr ⟨69, by decide +kernel, rfl⟩), fun h => absurd rfl h⟩
set_option maxRecDepth 100000 in
set_option maxHeartbeats 4000000 in
theorem gvo_70 : gv_okM gv_cl gv_fkT gv_tfT gv_meth gv_Ts gv_nests gv_strs gv_thrs gv_hnds gvm_70 := ⟨gv_chkM_ok (o := 7) (n := 43) rfl (by decide +kernel), fun _ => gv_inT7 _ (List.mem_map.mpr ⟨70, by decide +kernel, rfl⟩), fun h => absurd rfl h⟩
set_option maxRecDepth 100000 in
set_option maxHeartbeats 4000000 in
theorem gvo_71 : gv_okM gv_cl gv_fkT gv_tfT gv_meth gv_Ts gv_nests gv_strs gv_thrs gv_hnds gvm_71 := ⟨gv_chkM_ok (o := 8) (n := 46) rfl (by decide +kernel), fun _ => gv_inT7 _ (List.mem_map.mpr ⟨71, by decide +kernel, rfl⟩), fun h => absurd rfl h⟩
set_option maxRecDepth 100000 in
set_option maxHeartbeats 4000000 in
theorem gvo_72 : gv_okM gv_cl gv_fkT gv_tfT gv_meth gv_Ts gv_nests gv_strs gv_thrs gv_hnds gvm_72 := ⟨gv_chkM_ok (o := 8) (n := 101) rfl (by decide +kernel), fun _ => gv_inT7 _ (List.mem_map.mpr ⟨72, by decide +kernel, rfl⟩), fun h => absurd rfl h⟩
set_option maxRecDepth 100000 in
set_option maxHeartbeats 4000000 in
theorem gvo_73 : gv_okM gv_cl gv_fkT gv_tfT gv_meth gv_Ts gv_nests gv_strs gv_thrs gv_hnds gvm_73 := ⟨gv_chkM_ok (o := 8) (n := 16) rfl (by decide +kernel), fun _ => gv_inT7 _ (List.mem_map.mpr ⟨73, by decide +kernel, rfl⟩), fun h => absurd rfl h⟩
set_option maxRecDepth 100000 in
set_option maxHeartbeats 4000000 in
theorem gvo_74 : gv_okM gv_cl gv_fkT gv_tfT gv_meth gv_Ts gv_nests gv_strs gv_thrs gv_hnds gvm_74 := ⟨gv_chkM_ok (o := 8) (n := 73) rfl (by decide +kernel), fun _ => gv_inT7 _ (List.mem_map.mpr ⟨74, by decide +kernel, rfl⟩), fun h => absurd rfl h⟩
set_option maxRecDepth 100000 in
set_option maxHeartbeats 4000000 in
theorem gvo_75 : gv_okM gv_cl gv_fkT gv_tfT gv_meth gv_Ts gv_nests gv_strs gv_thrs gv_hnds gvm_75 := ⟨gv_chkM_ok (o := 8) (n := 65) rfl (by decide +kernel), fun _ => gv_inT7 _ (List.mem_map.mpr ⟨75, by decide +kernel, rfl⟩), fun h => absurd rfl h⟩
set_option maxRecDepth 100000 in
set_option maxHeartbeats 4000000 in
theorem gvo_76 : gv_okM gv_cl gv_fkT gv_tfT gv_meth gv_Ts gv_nests gv_strs gv_thrs gv_hnds gvm_76 := ⟨gv_chkM_ok (o := 8) (n := 65) rfl (by decide +kernel), fun _ => gv_inT7 _ (List.mem_map.mpr ⟨76, by decide +kernel, rfl⟩), fun h => absurd rfl h⟩
set_option maxRecDepth 100000 in
set_option maxHeartbeats 4000000 in
theorem gvo_77 : gv_okM gv_cl gv_fkT gv_tfT gv_meth gv_Ts gv_nests gv_strs gv_thrs gv_hnds gvm_77 := ⟨gv_chkM_ok (o := 8) (n := 185) rfl (by decide +kernel), fun _ => gv_inT7 _ (List.mem_map.mpr ⟨77, by decide +kernel, rfl⟩), fun h => absurd rfl h⟩
set_option maxRecDepth 100000 in
set_option maxHeartbeats 4000000 in
theorem gvo_78 : gv_okM gv_cl gv_fkT gv_tfT gv_meth gv_Ts gv_nests gv_strs gv_thrs gv_hnds gvm_78 := ⟨gv_chkM_ok (o := 8) (n := 66) rfl (by decide +kernel), fun _ => gv_inT7 _ (List.mem_map.mpr ⟨78, by decide +kernel, rfl⟩), fun h => absurd rfl h⟩
set_option maxRecDepth 100000 in
set_option maxHeartbeats 4000000 in
theorem gvo_79 : gv_okM gv_cl gv_fkT gv_tfT gv_meth gv_Ts gv_nests gv_strs gv_thrs gv_hnds gvm_79 := ⟨gv_chkM_ok (o := 9) (n := 60) rfl (by decide +kernel), fun _ => gv_inT7 _ (List.mem_map.mpr ⟨79, by decide +kernel, rfl⟩), fun h => absurd rfl h⟩
set_option maxRecDepth 100000 in
set_option maxHeartbeats 4000000 in
theorem gvo_80 : gv_okM gv_cl gv_fkT gv_tfT gv_meth gv_Ts gv_nests gv_strs gv_thrs gv_hnds gvm_80 := ⟨gv_chkM_ok (o := 9) (n := 10) rfl (by decide +kernel), fun _ => gv_inT7 _ (List.mem_map.mpr ⟨80, by decide +kernel, rfl⟩), fun h => absurd rfl h⟩
set_option maxRecDepth 100000 in
set_option maxHeartbeats 4000000 in
theorem gvo_81 : gv_okM gv_cl gv_fkT gv_tfT gv_meth gv_Ts gv_nests gv_strs gv_thrs gv_hnds gvm_81 := ⟨gv_chkM_ok (o := 9) (n := 108) rfl (by decide +kernel), fun _ => gv_inT7 _ (List.mem_map.mpr ⟨81, by decide +kernel, rfl⟩), fun h => absurd rfl h⟩
set_option maxRecDepth 100000 in
set_option maxHeartbeats 4000000 in
theorem gvo_82 : gv_okM gv_cl gv_fkT gv_tfT gv_meth gv_Ts gv_nests gv_strs gv_thrs gv_hnds gvm_82 := ⟨gv_chkM_ok (o := 9) (n := 44) rfl (by decide +kernel), fun _ => gv_inT7 _ (List.mem_map.mpr ⟨82, by decide +kernel, rfl⟩), fun h => absurd rfl h⟩
set_option maxRecDepth 100000 in
set_option maxHeartbeats 4000000 in
theorem gvo_83 : gv_okM gv_cl gv_fkT gv_tfT gv_meth gv_Ts gv_nests gv_strs gv_thrs gv_hnds gvm_83 := ⟨gv_chkM_ok (o := 9) (n := 16) rfl (by decide +kernel), fun _ => gv_inT7 _ (List.mem_map.mpr ⟨83, by decide +kernel, rfl⟩), fun h => absurd rfl h⟩
set_option maxRecDepth 100000 in
set_option maxHeartbeats 4000000 in
theorem gvo_84 : gv_okM gv_cl gv_fkT gv_tfT gv_meth gv_Ts gv_nests gv_strs gv_thrs gv_hnds gvm_84 := ⟨gv_chkM_ok (o := 9) (n := 33) rfl (by decide +kernel), fun _ => gv_inT7 _ (List.mem_map.mpr ⟨84, by decide +kernel, rfl⟩), fun h => absurd rfl h⟩
set_option maxRecDepth 100000 in
set_option maxHeartbeats 4000000 in
theorem gvo_85 : gv_okM gv_cl gv_fkT gv_tfT gv_meth gv_Ts gv_nests gv_strs gv_thrs gv_hnds gvm_85 := ⟨gv_chkM_ok (o := 9) (n := 46) rfl (by decide +kernel), fun _ => gv_inT7 _ (List.mem_map.mpr ⟨85, by decide +kernel, rfl⟩), fun h => absurd rfl h⟩
set_option maxRecDepth 100000 in
set_option maxHeartbeats 4000000 in
theorem gvo_86 : gv_okM gv_cl gv_fkT gv_tfT gv_meth gv_Ts gv_nests gv_strs gv_thrs gv_hnds gvm_86 := ⟨gv_chkM_ok (o := 9) (n := 120) rfl (by decide +kernel), fun _ => gv_inT7 _ (List.mem_map.mpr ⟨86, by decide +kernel, rfl⟩), fun h => absurd rfl h⟩
set_option maxRecDepth 100000 in
set_option maxHeartbeats 4000000 in
theorem gvo_87 : gv_okM gv_cl gv_fkT gv_tfT gv_meth gv_Ts gv_nests gv_strs gv_thrs gv_hnds gvm_87 := ⟨gv_chkM_ok (o := 9) (n := 173) rfl (by decide +kernel), fun _ => gv_inT7 _ (List.mem_map.mpr ⟨87, by decide +kernel, rfl⟩), fun h => absurd rfl h⟩
set_option maxRecDepth 100000 in
set_option maxHeartbeats 4000000 in
theorem gvo_88 : gv_okM gv_cl gv_fkT gv_tfT gv_meth gv_Ts gv_nests gv_strs gv_thrs gv_hnds gvm_88 := ⟨gv_chkM_ok (o := 9) (n := 47) rfl (by decide +kernel), fun _ => gv_inT7 _ (List.mem_map.mpr ⟨88, by decide +kernel, rfl⟩), fun h => absurd rfl h⟩
set_option maxRecDepth 100000 in
set_option maxHeartbeats 4000000 in
theorem gvo_89 : gv_okM gv_cl gv_fkT gv_tfT gv_meth gv_Ts gv_nests gv_strs gv_thrs gv_hnds gvm_89 := ⟨gv_chkM_ok (o := 10) (n := 80) rfl (by decide +kernel), fun _ => gv_inT7 _ (List.mem_map.mpr ⟨89, by decide +kernel, rfl⟩), fun h => absurd rfl h⟩
