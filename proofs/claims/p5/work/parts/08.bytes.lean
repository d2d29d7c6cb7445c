theorem d_Bytes_at_12 : decode prog_2_method_5_code 12 = .ok (.iload_n 1, 1) := by decide +kernel
theorem d_Bytes_at_13 : decode prog_2_method_5_code 13 = .ok (.aload_n 0, 1) := by decide +kernel
theorem d_Bytes_at_14 : decode prog_2_method_5_code 14 = .ok (.getfield 15, 3) := by decide +kernel
theorem d_Bytes_at_17 : decode prog_2_method_5_code 17 = .ok (.arraylength, 1) := by decide +kernel
theorem d_Bytes_at_18 : decode prog_2_method_5_code 18 = .ok (.if_icmp .ge 12, 3) := by decide +kernel
theorem d_Bytes_at_21 : decode prog_2_method_5_code 21 = .ok (.aload_n 0, 1) := by decide +kernel
theorem d_Bytes_at_22 : decode prog_2_method_5_code 22 = .ok (.getfield 15, 3) := by decide +kernel
theorem d_Bytes_at_25 : decode prog_2_method_5_code 25 = .ok (.iload_n 1, 1) := by decide +kernel
theorem d_Bytes_at_26 : decode prog_2_method_5_code 26 = .ok (.iaload, 1) := by decide +kernel
theorem d_Bytes_at_27 : decode prog_2_method_5_code 27 = .ok (.goto 4, 3) := by decide +kernel
theorem d_Bytes_twoAt_0 : decode prog_2_method_6_code 0 = .ok (.aload_n 0, 1) := by decide +kernel
theorem d_Bytes_twoAt_1 : decode prog_2_method_6_code 1 = .ok (.iload_n 1, 1) := by decide +kernel
theorem d_Bytes_twoAt_2 : decode prog_2_method_6_code 2 = .ok (.invokevirtual 32, 3) := by decide +kernel
theorem kw_Bytes_32 : KW "NineBoards$Bytes" 32 ⟨"NineBoards$Bytes", "at", "(I)I"⟩ prog_2_method_5_code 2 (some .int) 1 := ⟨(mt_5 (List.mem_of_getElem? (i := 27) rfl) rfl), (mt_1 (List.mem_of_getElem? (i := 2) rfl) rfl), (mt_5 (List.mem_of_getElem? (i := 30) rfl) rfl), by decide +kernel⟩
theorem kv_Bytes_at : Cond.instanceMethod ⟨"NineBoards$Bytes", "at", "(I)I"⟩ ∈ TB ∧ Cond.selects "NineBoards$Bytes" ⟨"NineBoards$Bytes", "at", "(I)I"⟩ ⟨"NineBoards$Bytes", "at", "(I)I"⟩ ∈ TB := ⟨(mt_5 (List.mem_of_getElem? (i := 28) rfl) rfl), (mt_5 (List.mem_of_getElem? (i := 29) rfl) rfl)⟩
theorem d_Bytes_twoAt_5 : decode prog_2_method_6_code 5 = .ok (.sipush 256, 3) := by decide +kernel
theorem d_Bytes_twoAt_8 : decode prog_2_method_6_code 8 = .ok (.imul, 1) := by decide +kernel
theorem d_Bytes_twoAt_9 : decode prog_2_method_6_code 9 = .ok (.aload_n 0, 1) := by decide +kernel
theorem d_Bytes_twoAt_10 : decode prog_2_method_6_code 10 = .ok (.iload_n 1, 1) := by decide +kernel
theorem d_Bytes_twoAt_11 : decode prog_2_method_6_code 11 = .ok (.iconst 1, 1) := by decide +kernel
theorem d_Bytes_twoAt_12 : decode prog_2_method_6_code 12 = .ok (.iadd, 1) := by decide +kernel
theorem d_Bytes_twoAt_13 : decode prog_2_method_6_code 13 = .ok (.invokevirtual 32, 3) := by decide +kernel
theorem d_Bytes_twoAt_16 : decode prog_2_method_6_code 16 = .ok (.iadd, 1) := by decide +kernel
theorem d_Bytes_twoAt_17 : decode prog_2_method_6_code 17 = .ok (.ireturn, 1) := by decide +kernel
