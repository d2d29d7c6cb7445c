theorem d_Reader_readWord_0 : decode prog_8_method_25_code 0 = .ok (.aload_n 0, 1) := by decide +kernel
theorem d_Reader_readWord_1 : decode prog_8_method_25_code 1 = .ok (.iload_n 1, 1) := by decide +kernel
theorem d_Reader_readWord_2 : decode prog_8_method_25_code 2 = .ok (.invokevirtual 69, 3) := by decide +kernel
theorem kw_Reader_69 : KW "NineBoards$Reader" 69 ⟨"NineBoards$Reader", "isWord", "(I)Z"⟩ prog_8_method_23_code 2 (some .boolean) 1 := ⟨(mt_3 (List.mem_of_getElem? (i := 77) rfl) rfl), (mt_1 (List.mem_of_getElem? (i := 10) rfl) rfl), (mt_3 (List.mem_of_getElem? (i := 80) rfl) rfl), by decide +kernel⟩
theorem kv_Reader_isWord : Cond.instanceMethod ⟨"NineBoards$Reader", "isWord", "(I)Z"⟩ ∈ TB ∧ Cond.selects "NineBoards$Reader" ⟨"NineBoards$Reader", "isWord", "(I)Z"⟩ ⟨"NineBoards$Reader", "isWord", "(I)Z"⟩ ∈ TB := ⟨(mt_3 (List.mem_of_getElem? (i := 79) rfl) rfl), (ms_0 (List.mem_map.mpr ⟨(⟨"NineBoards$Reader", "isWord", "(I)Z"⟩, 12), List.mem_of_getElem? (i := 5) (by decide +kernel), rfl⟩) rfl)⟩
theorem d_Reader_readWord_5 : decode prog_8_method_25_code 5 = .ok (.ifCond .eq 10, 3) := by decide +kernel
theorem d_Reader_readWord_15 : decode prog_8_method_25_code 15 = .ok (.aload_n 0, 1) := by decide +kernel
theorem d_Reader_readWord_16 : decode prog_8_method_25_code 16 = .ok (.iconst 1, 1) := by decide +kernel
theorem d_Reader_readWord_17 : decode prog_8_method_25_code 17 = .ok (.aload_n 0, 1) := by decide +kernel
theorem d_Reader_readWord_18 : decode prog_8_method_25_code 18 = .ok (.getfield 62, 3) := by decide +kernel
theorem d_Reader_readWord_21 : decode prog_8_method_25_code 21 = .ok (.invokevirtual 65, 3) := by decide +kernel
theorem kw_Reader_65 : KW "NineBoards$Reader" 65 ⟨"NineBoards$Reader", "fail", "(II)V"⟩ prog_8_method_31_code 3 none 2 := ⟨(mt_3 (List.mem_of_getElem? (i := 81) rfl) rfl), (mt_1 (List.mem_of_getElem? (i := 10) rfl) rfl), (mt_3 (List.mem_of_getElem? (i := 84) rfl) rfl), by decide +kernel⟩
theorem kv_Reader_fail : Cond.instanceMethod ⟨"NineBoards$Reader", "fail", "(II)V"⟩ ∈ TB ∧ Cond.selects "NineBoards$Reader" ⟨"NineBoards$Reader", "fail", "(II)V"⟩ ⟨"NineBoards$Reader", "fail", "(II)V"⟩ ∈ TB := ⟨(mt_3 (List.mem_of_getElem? (i := 83) rfl) rfl), (ms_0 (List.mem_map.mpr ⟨(⟨"NineBoards$Reader", "fail", "(II)V"⟩, 12), List.mem_of_getElem? (i := 6) (by decide +kernel), rfl⟩) rfl)⟩
theorem d_Reader_readWord_24 : decode prog_8_method_25_code 24 = .ok (.return_, 1) := by decide +kernel
theorem d_Reader_readWord_8 : decode prog_8_method_25_code 8 = .ok (.aload_n 0, 1) := by decide +kernel
theorem d_Reader_readWord_9 : decode prog_8_method_25_code 9 = .ok (.invokevirtual 53, 3) := by decide +kernel
theorem kw_Reader_53 : KW "NineBoards$Reader" 53 ⟨"NineBoards$Reader", "advance", "()V"⟩ prog_8_method_32_code 4 none 0 := ⟨(mt_3 (List.mem_of_getElem? (i := 51) rfl) rfl), (mt_1 (List.mem_of_getElem? (i := 10) rfl) rfl), (mt_3 (List.mem_of_getElem? (i := 54) rfl) rfl), by decide +kernel⟩
theorem kv_Reader_advance : Cond.instanceMethod ⟨"NineBoards$Reader", "advance", "()V"⟩ ∈ TB ∧ Cond.selects "NineBoards$Reader" ⟨"NineBoards$Reader", "advance", "()V"⟩ ⟨"NineBoards$Reader", "advance", "()V"⟩ ∈ TB := ⟨(mt_3 (List.mem_of_getElem? (i := 53) rfl) rfl), (ms_0 (List.mem_map.mpr ⟨(⟨"NineBoards$Reader", "advance", "()V"⟩, 12), List.mem_of_getElem? (i := 0) (by decide +kernel), rfl⟩) rfl)⟩
theorem d_Reader_readWord_12 : decode prog_8_method_25_code 12 = .ok (.goto 12, 3) := by decide +kernel
theorem d_Reader_readSign_0 : decode prog_8_method_26_code 0 = .ok (.aload_n 0, 1) := by decide +kernel
theorem d_Reader_readSign_1 : decode prog_8_method_26_code 1 = .ok (.iload_n 1, 1) := by decide +kernel
theorem d_Reader_readSign_2 : decode prog_8_method_26_code 2 = .ok (.invokevirtual 259, 3) := by decide +kernel
theorem kw_Reader_259 : KW "NineBoards$Reader" 259 ⟨"NineBoards$Reader", "isSign", "(C)Z"⟩ prog_8_method_24_code 2 (some .boolean) 1 := ⟨(mt_3 (List.mem_of_getElem? (i := 97) rfl) rfl), (mt_1 (List.mem_of_getElem? (i := 10) rfl) rfl), (mt_3 (List.mem_of_getElem? (i := 100) rfl) rfl), by decide +kernel⟩
theorem kv_Reader_isSign : Cond.instanceMethod ⟨"NineBoards$Reader", "isSign", "(C)Z"⟩ ∈ TB ∧ Cond.selects "NineBoards$Reader" ⟨"NineBoards$Reader", "isSign", "(C)Z"⟩ ⟨"NineBoards$Reader", "isSign", "(C)Z"⟩ ∈ TB := ⟨(mt_3 (List.mem_of_getElem? (i := 99) rfl) rfl), (ms_0 (List.mem_map.mpr ⟨(⟨"NineBoards$Reader", "isSign", "(C)Z"⟩, 12), List.mem_of_getElem? (i := 10) (by decide +kernel), rfl⟩) rfl)⟩
theorem d_Reader_readSign_5 : decode prog_8_method_26_code 5 = .ok (.ifCond .eq 10, 3) := by decide +kernel
theorem d_Reader_readSign_15 : decode prog_8_method_26_code 15 = .ok (.aload_n 0, 1) := by decide +kernel
theorem d_Reader_readSign_16 : decode prog_8_method_26_code 16 = .ok (.iconst 1, 1) := by decide +kernel
theorem d_Reader_readSign_17 : decode prog_8_method_26_code 17 = .ok (.aload_n 0, 1) := by decide +kernel
theorem d_Reader_readSign_18 : decode prog_8_method_26_code 18 = .ok (.getfield 62, 3) := by decide +kernel
theorem d_Reader_readSign_21 : decode prog_8_method_26_code 21 = .ok (.invokevirtual 65, 3) := by decide +kernel
theorem d_Reader_readSign_24 : decode prog_8_method_26_code 24 = .ok (.return_, 1) := by decide +kernel
theorem d_Reader_readSign_8 : decode prog_8_method_26_code 8 = .ok (.aload_n 0, 1) := by decide +kernel
theorem d_Reader_readSign_9 : decode prog_8_method_26_code 9 = .ok (.invokevirtual 53, 3) := by decide +kernel
theorem d_Reader_readSign_12 : decode prog_8_method_26_code 12 = .ok (.goto 12, 3) := by decide +kernel
