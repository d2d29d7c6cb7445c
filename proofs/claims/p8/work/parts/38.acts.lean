theorem d_Model_act_0 : decode prog_13_method_81_code 0 = .ok (.iload_n 1, 1) := by decide +kernel
theorem d_Model_act_1 : decode prog_13_method_81_code 1 = .ok (.i2l, 1) := by decide +kernel
theorem d_Model_act_2 : decode prog_13_method_81_code 2 = .ok (.lconst 0, 1) := by decide +kernel
theorem d_Model_act_3 : decode prog_13_method_81_code 3 = .ok (.ldc2_w 476, 3) := by decide +kernel
theorem d_Model_act_6 : decode prog_13_method_81_code 6 = .ok (.invokestatic 240, 3) := by decide +kernel
theorem d_Model_act_9 : decode prog_13_method_81_code 9 = .ok (.ifCond .eq 24, 3) := by decide +kernel
theorem d_Model_act_33 : decode prog_13_method_81_code 33 = .ok (.iconst (-1), 1) := by decide +kernel
theorem d_Model_act_34 : decode prog_13_method_81_code 34 = .ok (.ireturn, 1) := by decide +kernel
theorem d_Model_act_12 : decode prog_13_method_81_code 12 = .ok (.aload_n 0, 1) := by decide +kernel
theorem d_Model_act_13 : decode prog_13_method_81_code 13 = .ok (.getfield 158, 3) := by decide +kernel
theorem d_Model_act_16 : decode prog_13_method_81_code 16 = .ok (.iconst 0, 1) := by decide +kernel
theorem d_Model_act_17 : decode prog_13_method_81_code 17 = .ok (.iaload, 1) := by decide +kernel
theorem d_Model_act_18 : decode prog_13_method_81_code 18 = .ok (.sipush 999, 3) := by decide +kernel
theorem d_Model_act_21 : decode prog_13_method_81_code 21 = .ok (.if_icmp .eq 12, 3) := by decide +kernel
theorem d_Model_act_24 : decode prog_13_method_81_code 24 = .ok (.aload_n 0, 1) := by decide +kernel
theorem d_Model_act_25 : decode prog_13_method_81_code 25 = .ok (.iconst 0, 1) := by decide +kernel
theorem d_Model_act_26 : decode prog_13_method_81_code 26 = .ok (.iload_n 1, 1) := by decide +kernel
theorem d_Model_act_27 : decode prog_13_method_81_code 27 = .ok (.invokevirtual 478, 3) := by decide +kernel
theorem kw_Model_478 : KW "NineBoardsModel" 478 ⟨"NineBoardsModel", "mayDo", "(II)Z"⟩ prog_13_method_68_code 3 (some .boolean) 2 := ⟨(mt_7 (List.mem_of_getElem? (i := 116) rfl) rfl), (mt_1 (List.mem_of_getElem? (i := 16) rfl) rfl), (mt_7 (List.mem_of_getElem? (i := 119) rfl) rfl), by decide +kernel⟩
theorem kv_Model_mayDo : Cond.instanceMethod ⟨"NineBoardsModel", "mayDo", "(II)Z"⟩ ∈ TB ∧ Cond.selects "NineBoardsModel" ⟨"NineBoardsModel", "mayDo", "(II)Z"⟩ ⟨"NineBoardsModel", "mayDo", "(II)Z"⟩ ∈ TB := ⟨(mt_7 (List.mem_of_getElem? (i := 118) rfl) rfl), (ms_0 (List.mem_map.mpr ⟨(⟨"NineBoardsModel", "mayDo", "(II)Z"⟩, 79), List.mem_of_getElem? (i := 100) (by decide +kernel), rfl⟩) rfl)⟩
theorem d_Model_act_30 : decode prog_13_method_81_code 30 = .ok (.ifCond .ne 5, 3) := by decide +kernel
theorem d_Model_act_35 : decode prog_13_method_81_code 35 = .ok (.aload_n 0, 1) := by decide +kernel
theorem d_Model_act_36 : decode prog_13_method_81_code 36 = .ok (.invokevirtual 482, 3) := by decide +kernel
theorem kw_Model_482 : KW "NineBoardsModel" 482 ⟨"NineBoardsModel", "keepsDay", "()V"⟩ prog_13_method_69_code 2 none 0 := ⟨(mt_7 (List.mem_of_getElem? (i := 120) rfl) rfl), (mt_1 (List.mem_of_getElem? (i := 16) rfl) rfl), (mt_7 (List.mem_of_getElem? (i := 123) rfl) rfl), by decide +kernel⟩
theorem kv_Model_keepsDay : Cond.instanceMethod ⟨"NineBoardsModel", "keepsDay", "()V"⟩ ∈ TB ∧ Cond.selects "NineBoardsModel" ⟨"NineBoardsModel", "keepsDay", "()V"⟩ ⟨"NineBoardsModel", "keepsDay", "()V"⟩ ∈ TB := ⟨(mt_7 (List.mem_of_getElem? (i := 122) rfl) rfl), (ms_0 (List.mem_map.mpr ⟨(⟨"NineBoardsModel", "keepsDay", "()V"⟩, 79), List.mem_of_getElem? (i := 101) (by decide +kernel), rfl⟩) rfl)⟩
theorem d_Model_act_39 : decode prog_13_method_81_code 39 = .ok (.aload_n 0, 1) := by decide +kernel
theorem d_Model_act_40 : decode prog_13_method_81_code 40 = .ok (.iload_n 1, 1) := by decide +kernel
theorem d_Model_act_41 : decode prog_13_method_81_code 41 = .ok (.invokevirtual 485, 3) := by decide +kernel
theorem kw_Model_485 : KW "NineBoardsModel" 485 ⟨"NineBoardsModel", "acts", "(I)V"⟩ prog_13_method_67_code 2 none 1 := ⟨(mt_7 (List.mem_of_getElem? (i := 124) rfl) rfl), (mt_1 (List.mem_of_getElem? (i := 16) rfl) rfl), (mt_7 (List.mem_of_getElem? (i := 127) rfl) rfl), by decide +kernel⟩
theorem kv_Model_acts : Cond.instanceMethod ⟨"NineBoardsModel", "acts", "(I)V"⟩ ∈ TB ∧ Cond.selects "NineBoardsModel" ⟨"NineBoardsModel", "acts", "(I)V"⟩ ⟨"NineBoardsModel", "acts", "(I)V"⟩ ∈ TB := ⟨(mt_7 (List.mem_of_getElem? (i := 126) rfl) rfl), (ms_0 (List.mem_map.mpr ⟨(⟨"NineBoardsModel", "acts", "(I)V"⟩, 79), List.mem_of_getElem? (i := 102) (by decide +kernel), rfl⟩) rfl)⟩
theorem d_Model_act_44 : decode prog_13_method_81_code 44 = .ok (.aload_n 0, 1) := by decide +kernel
theorem d_Model_act_45 : decode prog_13_method_81_code 45 = .ok (.iconst 0, 1) := by decide +kernel
theorem d_Model_act_46 : decode prog_13_method_81_code 46 = .ok (.invokevirtual 488, 3) := by decide +kernel
theorem kw_Model_488 : KW "NineBoardsModel" 488 ⟨"NineBoardsModel", "goesBy", "(I)V"⟩ prog_13_method_64_code 8 none 1 := ⟨(mt_7 (List.mem_of_getElem? (i := 132) rfl) rfl), (mt_1 (List.mem_of_getElem? (i := 16) rfl) rfl), (mt_7 (List.mem_of_getElem? (i := 135) rfl) rfl), by decide +kernel⟩
theorem kv_Model_goesBy : Cond.instanceMethod ⟨"NineBoardsModel", "goesBy", "(I)V"⟩ ∈ TB ∧ Cond.selects "NineBoardsModel" ⟨"NineBoardsModel", "goesBy", "(I)V"⟩ ⟨"NineBoardsModel", "goesBy", "(I)V"⟩ ∈ TB := ⟨(mt_7 (List.mem_of_getElem? (i := 134) rfl) rfl), (ms_0 (List.mem_map.mpr ⟨(⟨"NineBoardsModel", "goesBy", "(I)V"⟩, 79), List.mem_of_getElem? (i := 104) (by decide +kernel), rfl⟩) rfl)⟩
theorem d_Model_act_49 : decode prog_13_method_81_code 49 = .ok (.aload_n 0, 1) := by decide +kernel
theorem d_Model_act_50 : decode prog_13_method_81_code 50 = .ok (.invokevirtual 427, 3) := by decide +kernel
theorem d_Model_act_53 : decode prog_13_method_81_code 53 = .ok (.ireturn, 1) := by decide +kernel
