theorem d_Days_setFlows_17 : decode prog_3_method_8_code 17 = .ok (.iload 4, 2) := by decide +kernel
theorem d_Days_setFlows_19 : decode prog_3_method_8_code 19 = .ok (.aload_n 0, 1) := by decide +kernel
theorem d_Days_setFlows_20 : decode prog_3_method_8_code 20 = .ok (.getfield 25, 3) := by decide +kernel
theorem d_Days_setFlows_23 : decode prog_3_method_8_code 23 = .ok (.getfield 112, 3) := by decide +kernel
theorem gf_Days_112 : GF "NineBoards$Days" 112 1 0 := ⟨_, _, _, rfl, ci_Gates, by decide, (mt_1 (List.mem_of_getElem? (i := 143) rfl) rfl)⟩
theorem d_Days_setFlows_26 : decode prog_3_method_8_code 26 = .ok (.if_icmp .ge 51, 3) := by decide +kernel
theorem d_Days_setFlows_29 : decode prog_3_method_8_code 29 = .ok (.aload_n 1, 1) := by decide +kernel
theorem d_Days_setFlows_30 : decode prog_3_method_8_code 30 = .ok (.getfield 115, 3) := by decide +kernel
theorem gf_Days_115 : GF "NineBoards$Days" 115 7 4 := ⟨_, _, _, rfl, ci_State, by decide, (mt_1 (List.mem_of_getElem? (i := 67) rfl) rfl)⟩
theorem d_Days_setFlows_33 : decode prog_3_method_8_code 33 = .ok (.iload 4, 2) := by decide +kernel
theorem d_Days_setFlows_35 : decode prog_3_method_8_code 35 = .ok (.iload_n 3, 1) := by decide +kernel
theorem d_Days_setFlows_36 : decode prog_3_method_8_code 36 = .ok (.aload_n 0, 1) := by decide +kernel
theorem d_Days_setFlows_37 : decode prog_3_method_8_code 37 = .ok (.getfield 25, 3) := by decide +kernel
theorem d_Days_setFlows_40 : decode prog_3_method_8_code 40 = .ok (.iload 4, 2) := by decide +kernel
theorem d_Days_setFlows_42 : decode prog_3_method_8_code 42 = .ok (.aload_n 1, 1) := by decide +kernel
theorem d_Days_setFlows_43 : decode prog_3_method_8_code 43 = .ok (.getfield 34, 3) := by decide +kernel
theorem d_Days_setFlows_46 : decode prog_3_method_8_code 46 = .ok (.iload 4, 2) := by decide +kernel
theorem d_Days_setFlows_48 : decode prog_3_method_8_code 48 = .ok (.iaload, 1) := by decide +kernel
theorem d_Days_setFlows_49 : decode prog_3_method_8_code 49 = .ok (.iload_n 2, 1) := by decide +kernel
theorem d_Days_setFlows_50 : decode prog_3_method_8_code 50 = .ok (.aload_n 1, 1) := by decide +kernel
theorem d_Days_setFlows_51 : decode prog_3_method_8_code 51 = .ok (.getfield 59, 3) := by decide +kernel
theorem d_Days_setFlows_54 : decode prog_3_method_8_code 54 = .ok (.invokevirtual 118, 3) := by decide +kernel
theorem kw_Days_118 : KW "NineBoards$Days" 118 ⟨"NineBoards$Gates", "fullFlow", "(IIII)I"⟩ prog_4_method_3_code 7 (some .int) 4 := ⟨(mt_4 (List.mem_of_getElem? (i := 7) rfl) rfl), (mt_1 (List.mem_of_getElem? (i := 7) rfl) rfl), (mt_4 (List.mem_of_getElem? (i := 10) rfl) rfl), by decide +kernel⟩
theorem kv_Gates_fullFlow : Cond.instanceMethod ⟨"NineBoards$Gates", "fullFlow", "(IIII)I"⟩ ∈ TB ∧ Cond.selects "NineBoards$Gates" ⟨"NineBoards$Gates", "fullFlow", "(IIII)I"⟩ ⟨"NineBoards$Gates", "fullFlow", "(IIII)I"⟩ ∈ TB := ⟨(mt_4 (List.mem_of_getElem? (i := 8) rfl) rfl), (mt_4 (List.mem_of_getElem? (i := 9) rfl) rfl)⟩
theorem d_Days_setFlows_57 : decode prog_3_method_8_code 57 = .ok (.invokestatic 84, 3) := by decide +kernel
theorem d_Days_setFlows_60 : decode prog_3_method_8_code 60 = .ok (.iastore, 1) := by decide +kernel
theorem d_Days_setFlows_61 : decode prog_3_method_8_code 61 = .ok (.iload_n 3, 1) := by decide +kernel
theorem d_Days_setFlows_62 : decode prog_3_method_8_code 62 = .ok (.aload_n 1, 1) := by decide +kernel
theorem d_Days_setFlows_63 : decode prog_3_method_8_code 63 = .ok (.getfield 115, 3) := by decide +kernel
theorem d_Days_setFlows_66 : decode prog_3_method_8_code 66 = .ok (.iload 4, 2) := by decide +kernel
theorem d_Days_setFlows_68 : decode prog_3_method_8_code 68 = .ok (.iaload, 1) := by decide +kernel
theorem d_Days_setFlows_69 : decode prog_3_method_8_code 69 = .ok (.isub, 1) := by decide +kernel
theorem d_Days_setFlows_70 : decode prog_3_method_8_code 70 = .ok (.istore_n 3, 1) := by decide +kernel
theorem d_Days_setFlows_71 : decode prog_3_method_8_code 71 = .ok (.iinc 4 1, 3) := by decide +kernel
theorem d_Days_setFlows_74 : decode prog_3_method_8_code 74 = .ok (.goto (-57), 3) := by decide +kernel
theorem d_Days_setFlows_0 : decode prog_3_method_8_code 0 = .ok (.aload_n 0, 1) := by decide +kernel
theorem d_Days_setFlows_1 : decode prog_3_method_8_code 1 = .ok (.aload_n 1, 1) := by decide +kernel
theorem d_Days_setFlows_2 : decode prog_3_method_8_code 2 = .ok (.getfield 62, 3) := by decide +kernel
theorem gf_Days_62 : GF "NineBoards$Days" 62 7 1 := ⟨_, _, _, rfl, ci_State, by decide, (mt_1 (List.mem_of_getElem? (i := 58) rfl) rfl)⟩
theorem d_Days_setFlows_5 : decode prog_3_method_8_code 5 = .ok (.invokevirtual 65, 3) := by decide +kernel
theorem kw_Days_65 : KW "NineBoards$Days" 65 ⟨"NineBoards$Lake", "levelAt", "(I)I"⟩ prog_5_method_7_code 2 (some .int) 1 := ⟨(mt_4 (List.mem_of_getElem? (i := 6) rfl) rfl), (mt_1 (List.mem_of_getElem? (i := 6) rfl) rfl), (mt_3 (List.mem_of_getElem? (i := 216) rfl) rfl), by decide +kernel⟩
theorem kv_Lake_levelAt : Cond.instanceMethod ⟨"NineBoards$Lake", "levelAt", "(I)I"⟩ ∈ TB ∧ Cond.selects "NineBoards$Lake" ⟨"NineBoards$Lake", "levelAt", "(I)I"⟩ ⟨"NineBoards$Lake", "levelAt", "(I)I"⟩ ∈ TB := ⟨(mt_3 (List.mem_of_getElem? (i := 214) rfl) rfl), (mt_3 (List.mem_of_getElem? (i := 215) rfl) rfl)⟩
theorem d_Days_setFlows_8 : decode prog_3_method_8_code 8 = .ok (.istore_n 2, 1) := by decide +kernel
theorem d_Days_setFlows_9 : decode prog_3_method_8_code 9 = .ok (.aload_n 1, 1) := by decide +kernel
theorem d_Days_setFlows_10 : decode prog_3_method_8_code 10 = .ok (.getfield 62, 3) := by decide +kernel
theorem d_Days_setFlows_13 : decode prog_3_method_8_code 13 = .ok (.istore_n 3, 1) := by decide +kernel
theorem d_Days_setFlows_14 : decode prog_3_method_8_code 14 = .ok (.iconst 0, 1) := by decide +kernel
theorem d_Days_setFlows_15 : decode prog_3_method_8_code 15 = .ok (.istore 4, 2) := by decide +kernel
theorem d_Days_setFlows_77 : decode prog_3_method_8_code 77 = .ok (.aload_n 1, 1) := by decide +kernel
theorem d_Days_setFlows_78 : decode prog_3_method_8_code 78 = .ok (.getfield 62, 3) := by decide +kernel
theorem d_Days_setFlows_81 : decode prog_3_method_8_code 81 = .ok (.iload_n 3, 1) := by decide +kernel
theorem d_Days_setFlows_82 : decode prog_3_method_8_code 82 = .ok (.isub, 1) := by decide +kernel
theorem d_Days_setFlows_83 : decode prog_3_method_8_code 83 = .ok (.ireturn, 1) := by decide +kernel
theorem d_Days_letFlow_29 : decode prog_3_method_9_code 29 = .ok (.iload_n 3, 1) := by decide +kernel
theorem d_Days_letFlow_30 : decode prog_3_method_9_code 30 = .ok (.aload_n 0, 1) := by decide +kernel
theorem d_Days_letFlow_31 : decode prog_3_method_9_code 31 = .ok (.getfield 25, 3) := by decide +kernel
theorem d_Days_letFlow_34 : decode prog_3_method_9_code 34 = .ok (.getfield 112, 3) := by decide +kernel
theorem d_Days_letFlow_37 : decode prog_3_method_9_code 37 = .ok (.if_icmp .ge 25, 3) := by decide +kernel
theorem d_Days_letFlow_40 : decode prog_3_method_9_code 40 = .ok (.aload_n 1, 1) := by decide +kernel
theorem d_Days_letFlow_41 : decode prog_3_method_9_code 41 = .ok (.getfield 125, 3) := by decide +kernel
theorem gf_Days_125 : GF "NineBoards$Days" 125 7 5 := ⟨_, _, _, rfl, ci_State, by decide, (mt_1 (List.mem_of_getElem? (i := 71) rfl) rfl)⟩
theorem d_Days_letFlow_44 : decode prog_3_method_9_code 44 = .ok (.iload_n 3, 1) := by decide +kernel
theorem d_Days_letFlow_45 : decode prog_3_method_9_code 45 = .ok (.dup2, 1) := by decide +kernel
theorem d_Days_letFlow_46 : decode prog_3_method_9_code 46 = .ok (.laload, 1) := by decide +kernel
theorem d_Days_letFlow_47 : decode prog_3_method_9_code 47 = .ok (.aload_n 1, 1) := by decide +kernel
theorem d_Days_letFlow_48 : decode prog_3_method_9_code 48 = .ok (.getfield 115, 3) := by decide +kernel
theorem d_Days_letFlow_51 : decode prog_3_method_9_code 51 = .ok (.iload_n 3, 1) := by decide +kernel
theorem d_Days_letFlow_52 : decode prog_3_method_9_code 52 = .ok (.iaload, 1) := by decide +kernel
theorem d_Days_letFlow_53 : decode prog_3_method_9_code 53 = .ok (.i2l, 1) := by decide +kernel
theorem d_Days_letFlow_54 : decode prog_3_method_9_code 54 = .ok (.ladd, 1) := by decide +kernel
theorem d_Days_letFlow_55 : decode prog_3_method_9_code 55 = .ok (.lastore, 1) := by decide +kernel
theorem d_Days_letFlow_56 : decode prog_3_method_9_code 56 = .ok (.iinc 3 1, 3) := by decide +kernel
theorem d_Days_letFlow_59 : decode prog_3_method_9_code 59 = .ok (.goto (-30), 3) := by decide +kernel
theorem d_Days_letFlow_0 : decode prog_3_method_9_code 0 = .ok (.aload_n 0, 1) := by decide +kernel
theorem d_Days_letFlow_1 : decode prog_3_method_9_code 1 = .ok (.aload_n 1, 1) := by decide +kernel
theorem d_Days_letFlow_2 : decode prog_3_method_9_code 2 = .ok (.invokestatic 121, 3) := by decide +kernel
theorem kw_Days_121 : KW "NineBoards$Days" 121 ⟨"NineBoards$Days", "setFlows", "(LNineBoards$Lake;LNineBoards$State;)I"⟩ prog_3_method_8_code 5 (some .int) 2 := ⟨(mt_4 (List.mem_of_getElem? (i := 80) rfl) rfl), (mt_1 (List.mem_of_getElem? (i := 18) rfl) rfl), (mt_4 (List.mem_of_getElem? (i := 5) rfl) rfl), by decide +kernel⟩
theorem ks_Days_setFlows : Cond.static ⟨"NineBoards$Days", "setFlows", "(LNineBoards$Lake;LNineBoards$State;)I"⟩ ∈ TB := (mt_4 (List.mem_of_getElem? (i := 4) rfl) rfl)
theorem d_Days_letFlow_5 : decode prog_3_method_9_code 5 = .ok (.istore_n 2, 1) := by decide +kernel
theorem d_Days_letFlow_6 : decode prog_3_method_9_code 6 = .ok (.aload_n 1, 1) := by decide +kernel
theorem d_Days_letFlow_7 : decode prog_3_method_9_code 7 = .ok (.dup, 1) := by decide +kernel
theorem d_Days_letFlow_8 : decode prog_3_method_9_code 8 = .ok (.getfield 62, 3) := by decide +kernel
theorem d_Days_letFlow_11 : decode prog_3_method_9_code 11 = .ok (.iload_n 2, 1) := by decide +kernel
theorem d_Days_letFlow_12 : decode prog_3_method_9_code 12 = .ok (.isub, 1) := by decide +kernel
theorem d_Days_letFlow_13 : decode prog_3_method_9_code 13 = .ok (.putfield 62, 3) := by decide +kernel
theorem pf_Days_62 : PF "NineBoards$Days" 62 7 1 (.int) false := ⟨_, _, _, ct_State, rfl, ci_State, by decide, (mt_1 (List.mem_of_getElem? (i := 58) rfl) rfl), cp_State, cn_State, rfl, by decide +kernel, (fun h => by cases h)⟩
theorem d_Days_letFlow_16 : decode prog_3_method_9_code 16 = .ok (.aload_n 1, 1) := by decide +kernel
theorem d_Days_letFlow_17 : decode prog_3_method_9_code 17 = .ok (.getfield 87, 3) := by decide +kernel
theorem gf_Days_87 : GF "NineBoards$Days" 87 7 9 := ⟨_, _, _, rfl, ci_State, by decide, (mt_1 (List.mem_of_getElem? (i := 83) rfl) rfl)⟩
theorem d_Days_letFlow_20 : decode prog_3_method_9_code 20 = .ok (.iconst 3, 1) := by decide +kernel
theorem d_Days_letFlow_21 : decode prog_3_method_9_code 21 = .ok (.dup2, 1) := by decide +kernel
theorem d_Days_letFlow_22 : decode prog_3_method_9_code 22 = .ok (.laload, 1) := by decide +kernel
theorem d_Days_letFlow_23 : decode prog_3_method_9_code 23 = .ok (.iload_n 2, 1) := by decide +kernel
theorem d_Days_letFlow_24 : decode prog_3_method_9_code 24 = .ok (.i2l, 1) := by decide +kernel
theorem d_Days_letFlow_25 : decode prog_3_method_9_code 25 = .ok (.ladd, 1) := by decide +kernel
theorem d_Days_letFlow_26 : decode prog_3_method_9_code 26 = .ok (.lastore, 1) := by decide +kernel
theorem d_Days_letFlow_27 : decode prog_3_method_9_code 27 = .ok (.iconst 0, 1) := by decide +kernel
theorem d_Days_letFlow_28 : decode prog_3_method_9_code 28 = .ok (.istore_n 3, 1) := by decide +kernel
theorem d_Days_letFlow_62 : decode prog_3_method_9_code 62 = .ok (.return_, 1) := by decide +kernel
theorem d_Days_waterAhead_0 : decode prog_3_method_11_code 0 = .ok (.aload_n 1, 1) := by decide +kernel
theorem d_Days_waterAhead_1 : decode prog_3_method_11_code 1 = .ok (.getfield 62, 3) := by decide +kernel
theorem d_Days_waterAhead_4 : decode prog_3_method_11_code 4 = .ok (.aload_n 0, 1) := by decide +kernel
theorem d_Days_waterAhead_5 : decode prog_3_method_11_code 5 = .ok (.aload_n 1, 1) := by decide +kernel
theorem d_Days_waterAhead_6 : decode prog_3_method_11_code 6 = .ok (.invokestatic 121, 3) := by decide +kernel
theorem d_Days_waterAhead_9 : decode prog_3_method_11_code 9 = .ok (.isub, 1) := by decide +kernel
theorem d_Days_waterAhead_10 : decode prog_3_method_11_code 10 = .ok (.istore_n 2, 1) := by decide +kernel
theorem d_Days_waterAhead_11 : decode prog_3_method_11_code 11 = .ok (.iload_n 2, 1) := by decide +kernel
theorem d_Days_waterAhead_12 : decode prog_3_method_11_code 12 = .ok (.aload_n 0, 1) := by decide +kernel
theorem d_Days_waterAhead_13 : decode prog_3_method_11_code 13 = .ok (.getfield 55, 3) := by decide +kernel
theorem gf_Days_55 : GF "NineBoards$Days" 55 2 9 := ⟨_, _, _, rfl, ci_Lake, by decide, (mt_2 (List.mem_of_getElem? (i := 63) rfl) rfl)⟩
theorem d_Days_waterAhead_16 : decode prog_3_method_11_code 16 = .ok (.iconst 0, 1) := by decide +kernel
theorem d_Days_waterAhead_17 : decode prog_3_method_11_code 17 = .ok (.aload_n 1, 1) := by decide +kernel
theorem d_Days_waterAhead_18 : decode prog_3_method_11_code 18 = .ok (.getfield 59, 3) := by decide +kernel
theorem d_Days_waterAhead_21 : decode prog_3_method_11_code 21 = .ok (.aload_n 0, 1) := by decide +kernel
theorem d_Days_waterAhead_22 : decode prog_3_method_11_code 22 = .ok (.iload_n 2, 1) := by decide +kernel
theorem d_Days_waterAhead_23 : decode prog_3_method_11_code 23 = .ok (.invokevirtual 65, 3) := by decide +kernel
theorem d_Days_waterAhead_26 : decode prog_3_method_11_code 26 = .ok (.iload_n 2, 1) := by decide +kernel
theorem d_Days_waterAhead_27 : decode prog_3_method_11_code 27 = .ok (.invokevirtual 69, 3) := by decide +kernel
theorem kw_Days_69 : KW "NineBoards$Days" 69 ⟨"NineBoards$Rules", "amount", "(IIII)I"⟩ prog_9_method_3_code 7 (some .int) 4 := ⟨(mt_4 (List.mem_of_getElem? (i := 81) rfl) rfl), (mt_1 (List.mem_of_getElem? (i := 9) rfl) rfl), (mt_4 (List.mem_of_getElem? (i := 84) rfl) rfl), by decide +kernel⟩
theorem kv_Rules_amount : Cond.instanceMethod ⟨"NineBoards$Rules", "amount", "(IIII)I"⟩ ∈ TB ∧ Cond.selects "NineBoards$Rules" ⟨"NineBoards$Rules", "amount", "(IIII)I"⟩ ⟨"NineBoards$Rules", "amount", "(IIII)I"⟩ ∈ TB := ⟨(mt_4 (List.mem_of_getElem? (i := 82) rfl) rfl), (mt_4 (List.mem_of_getElem? (i := 83) rfl) rfl)⟩
theorem d_Days_waterAhead_30 : decode prog_3_method_11_code 30 = .ok (.iadd, 1) := by decide +kernel
theorem d_Days_waterAhead_31 : decode prog_3_method_11_code 31 = .ok (.ireturn, 1) := by decide +kernel
theorem d_Days_giveWorth_2 : decode prog_3_method_10_code 2 = .ok (.iload_n 3, 1) := by decide +kernel
theorem d_Days_giveWorth_3 : decode prog_3_method_10_code 3 = .ok (.aload_n 0, 1) := by decide +kernel
theorem d_Days_giveWorth_4 : decode prog_3_method_10_code 4 = .ok (.getfield 128, 3) := by decide +kernel
theorem gf_Days_128 : GF "NineBoards$Days" 128 2 5 := ⟨_, _, _, rfl, ci_Lake, by decide, (mt_2 (List.mem_of_getElem? (i := 50) rfl) rfl)⟩
theorem d_Days_giveWorth_7 : decode prog_3_method_10_code 7 = .ok (.if_icmp .ge 17, 3) := by decide +kernel
theorem d_Days_giveWorth_10 : decode prog_3_method_10_code 10 = .ok (.aload_n 1, 1) := by decide +kernel
theorem d_Days_giveWorth_11 : decode prog_3_method_10_code 11 = .ok (.getfield 131, 3) := by decide +kernel
theorem gf_Days_131 : GF "NineBoards$Days" 131 7 7 := ⟨_, _, _, rfl, ci_State, by decide, (mt_1 (List.mem_of_getElem? (i := 77) rfl) rfl)⟩
theorem d_Days_giveWorth_14 : decode prog_3_method_10_code 14 = .ok (.iload_n 3, 1) := by decide +kernel
theorem d_Days_giveWorth_15 : decode prog_3_method_10_code 15 = .ok (.iload_n 2, 1) := by decide +kernel
theorem d_Days_giveWorth_16 : decode prog_3_method_10_code 16 = .ok (.ineg, 1) := by decide +kernel
theorem d_Days_giveWorth_17 : decode prog_3_method_10_code 17 = .ok (.iastore, 1) := by decide +kernel
theorem d_Days_giveWorth_18 : decode prog_3_method_10_code 18 = .ok (.iinc 3 1, 3) := by decide +kernel
theorem d_Days_giveWorth_21 : decode prog_3_method_10_code 21 = .ok (.goto (-19), 3) := by decide +kernel
theorem d_Days_giveWorth_32 : decode prog_3_method_10_code 32 = .ok (.iload 4, 2) := by decide +kernel
theorem d_Days_giveWorth_34 : decode prog_3_method_10_code 34 = .ok (.aload_n 3, 1) := by decide +kernel
theorem d_Days_giveWorth_35 : decode prog_3_method_10_code 35 = .ok (.getfield 138, 3) := by decide +kernel
theorem gf_Days_138 : GF "NineBoards$Days" 138 8 0 := ⟨_, _, _, rfl, ci_Things, by decide, (mt_1 (List.mem_of_getElem? (i := 190) rfl) rfl)⟩
theorem d_Days_giveWorth_38 : decode prog_3_method_10_code 38 = .ok (.if_icmp .ge 67, 3) := by decide +kernel
theorem d_Days_giveWorth_41 : decode prog_3_method_10_code 41 = .ok (.aload_n 3, 1) := by decide +kernel
theorem d_Days_giveWorth_42 : decode prog_3_method_10_code 42 = .ok (.iload 4, 2) := by decide +kernel
theorem d_Days_giveWorth_44 : decode prog_3_method_10_code 44 = .ok (.aload_n 1, 1) := by decide +kernel
theorem d_Days_giveWorth_45 : decode prog_3_method_10_code 45 = .ok (.getfield 59, 3) := by decide +kernel
theorem d_Days_giveWorth_48 : decode prog_3_method_10_code 48 = .ok (.aload_n 1, 1) := by decide +kernel
theorem d_Days_giveWorth_49 : decode prog_3_method_10_code 49 = .ok (.getfield 115, 3) := by decide +kernel
theorem d_Days_giveWorth_52 : decode prog_3_method_10_code 52 = .ok (.aload_n 3, 1) := by decide +kernel
theorem d_Days_giveWorth_53 : decode prog_3_method_10_code 53 = .ok (.getfield 141, 3) := by decide +kernel
theorem gf_Days_141 : GF "NineBoards$Days" 141 8 2 := ⟨_, _, _, rfl, ci_Things, by decide, (mt_1 (List.mem_of_getElem? (i := 195) rfl) rfl)⟩
theorem d_Days_giveWorth_56 : decode prog_3_method_10_code 56 = .ok (.iload 4, 2) := by decide +kernel
theorem d_Days_giveWorth_58 : decode prog_3_method_10_code 58 = .ok (.iaload, 1) := by decide +kernel
theorem d_Days_giveWorth_59 : decode prog_3_method_10_code 59 = .ok (.iaload, 1) := by decide +kernel
theorem d_Days_giveWorth_60 : decode prog_3_method_10_code 60 = .ok (.invokevirtual 144, 3) := by decide +kernel
theorem kw_Days_144 : KW "NineBoards$Days" 144 ⟨"NineBoards$Things", "isServed", "(III)Z"⟩ prog_11_method_2_code 5 (some .boolean) 3 := ⟨(mt_4 (List.mem_of_getElem? (i := 106) rfl) rfl), (mt_1 (List.mem_of_getElem? (i := 8) rfl) rfl), (mt_4 (List.mem_of_getElem? (i := 109) rfl) rfl), by decide +kernel⟩
theorem kv_Things_isServed : Cond.instanceMethod ⟨"NineBoards$Things", "isServed", "(III)Z"⟩ ∈ TB ∧ Cond.selects "NineBoards$Things" ⟨"NineBoards$Things", "isServed", "(III)Z"⟩ ⟨"NineBoards$Things", "isServed", "(III)Z"⟩ ∈ TB := ⟨(mt_4 (List.mem_of_getElem? (i := 107) rfl) rfl), (mt_4 (List.mem_of_getElem? (i := 108) rfl) rfl)⟩
theorem d_Days_giveWorth_63 : decode prog_3_method_10_code 63 = .ok (.ifCond .eq 36, 3) := by decide +kernel
theorem d_Days_giveWorth_99 : decode prog_3_method_10_code 99 = .ok (.iinc 4 1, 3) := by decide +kernel
theorem d_Days_giveWorth_102 : decode prog_3_method_10_code 102 = .ok (.goto (-70), 3) := by decide +kernel
theorem d_Days_giveWorth_66 : decode prog_3_method_10_code 66 = .ok (.aload_n 1, 1) := by decide +kernel
theorem d_Days_giveWorth_67 : decode prog_3_method_10_code 67 = .ok (.getfield 147, 3) := by decide +kernel
theorem gf_Days_147 : GF "NineBoards$Days" 147 7 8 := ⟨_, _, _, rfl, ci_State, by decide, (mt_1 (List.mem_of_getElem? (i := 80) rfl) rfl)⟩
theorem d_Days_giveWorth_70 : decode prog_3_method_10_code 70 = .ok (.iload 4, 2) := by decide +kernel
theorem d_Days_giveWorth_72 : decode prog_3_method_10_code 72 = .ok (.dup2, 1) := by decide +kernel
theorem d_Days_giveWorth_73 : decode prog_3_method_10_code 73 = .ok (.iaload, 1) := by decide +kernel
theorem d_Days_giveWorth_74 : decode prog_3_method_10_code 74 = .ok (.iconst 1, 1) := by decide +kernel
theorem d_Days_giveWorth_75 : decode prog_3_method_10_code 75 = .ok (.iadd, 1) := by decide +kernel
theorem d_Days_giveWorth_76 : decode prog_3_method_10_code 76 = .ok (.iastore, 1) := by decide +kernel
theorem d_Days_giveWorth_77 : decode prog_3_method_10_code 77 = .ok (.aload_n 1, 1) := by decide +kernel
theorem d_Days_giveWorth_78 : decode prog_3_method_10_code 78 = .ok (.getfield 131, 3) := by decide +kernel
theorem d_Days_giveWorth_81 : decode prog_3_method_10_code 81 = .ok (.aload_n 3, 1) := by decide +kernel
theorem d_Days_giveWorth_82 : decode prog_3_method_10_code 82 = .ok (.getfield 150, 3) := by decide +kernel
theorem gf_Days_150 : GF "NineBoards$Days" 150 8 1 := ⟨_, _, _, rfl, ci_Things, by decide, (mt_1 (List.mem_of_getElem? (i := 193) rfl) rfl)⟩
theorem d_Days_giveWorth_85 : decode prog_3_method_10_code 85 = .ok (.iload 4, 2) := by decide +kernel
theorem d_Days_giveWorth_87 : decode prog_3_method_10_code 87 = .ok (.iaload, 1) := by decide +kernel
theorem d_Days_giveWorth_88 : decode prog_3_method_10_code 88 = .ok (.dup2, 1) := by decide +kernel
theorem d_Days_giveWorth_89 : decode prog_3_method_10_code 89 = .ok (.iaload, 1) := by decide +kernel
theorem d_Days_giveWorth_90 : decode prog_3_method_10_code 90 = .ok (.aload_n 3, 1) := by decide +kernel
theorem d_Days_giveWorth_91 : decode prog_3_method_10_code 91 = .ok (.getfield 153, 3) := by decide +kernel
theorem gf_Days_153 : GF "NineBoards$Days" 153 8 7 := ⟨_, _, _, rfl, ci_Things, by decide, (mt_1 (List.mem_of_getElem? (i := 207) rfl) rfl)⟩
theorem d_Days_giveWorth_94 : decode prog_3_method_10_code 94 = .ok (.iload 4, 2) := by decide +kernel
theorem d_Days_giveWorth_96 : decode prog_3_method_10_code 96 = .ok (.iaload, 1) := by decide +kernel
theorem d_Days_giveWorth_97 : decode prog_3_method_10_code 97 = .ok (.iadd, 1) := by decide +kernel
theorem d_Days_giveWorth_98 : decode prog_3_method_10_code 98 = .ok (.iastore, 1) := by decide +kernel
theorem d_Days_giveWorth_108 : decode prog_3_method_10_code 108 = .ok (.iload 4, 2) := by decide +kernel
theorem d_Days_giveWorth_110 : decode prog_3_method_10_code 110 = .ok (.aload_n 0, 1) := by decide +kernel
theorem d_Days_giveWorth_111 : decode prog_3_method_10_code 111 = .ok (.getfield 128, 3) := by decide +kernel
theorem d_Days_giveWorth_114 : decode prog_3_method_10_code 114 = .ok (.if_icmp .ge 26, 3) := by decide +kernel
theorem d_Days_giveWorth_117 : decode prog_3_method_10_code 117 = .ok (.aload_n 1, 1) := by decide +kernel
theorem d_Days_giveWorth_118 : decode prog_3_method_10_code 118 = .ok (.getfield 156, 3) := by decide +kernel
theorem gf_Days_156 : GF "NineBoards$Days" 156 7 6 := ⟨_, _, _, rfl, ci_State, by decide, (mt_1 (List.mem_of_getElem? (i := 73) rfl) rfl)⟩
theorem d_Days_giveWorth_121 : decode prog_3_method_10_code 121 = .ok (.iload 4, 2) := by decide +kernel
theorem d_Days_giveWorth_123 : decode prog_3_method_10_code 123 = .ok (.dup2, 1) := by decide +kernel
theorem d_Days_giveWorth_124 : decode prog_3_method_10_code 124 = .ok (.iaload, 1) := by decide +kernel
theorem d_Days_giveWorth_125 : decode prog_3_method_10_code 125 = .ok (.aload_n 1, 1) := by decide +kernel
theorem d_Days_giveWorth_126 : decode prog_3_method_10_code 126 = .ok (.getfield 131, 3) := by decide +kernel
theorem d_Days_giveWorth_129 : decode prog_3_method_10_code 129 = .ok (.iload 4, 2) := by decide +kernel
theorem d_Days_giveWorth_131 : decode prog_3_method_10_code 131 = .ok (.iaload, 1) := by decide +kernel
theorem d_Days_giveWorth_132 : decode prog_3_method_10_code 132 = .ok (.iadd, 1) := by decide +kernel
theorem d_Days_giveWorth_133 : decode prog_3_method_10_code 133 = .ok (.iastore, 1) := by decide +kernel
theorem d_Days_giveWorth_134 : decode prog_3_method_10_code 134 = .ok (.iinc 4 1, 3) := by decide +kernel
theorem d_Days_giveWorth_137 : decode prog_3_method_10_code 137 = .ok (.goto (-29), 3) := by decide +kernel
theorem d_Days_giveWorth_0 : decode prog_3_method_10_code 0 = .ok (.iconst 0, 1) := by decide +kernel
theorem d_Days_giveWorth_1 : decode prog_3_method_10_code 1 = .ok (.istore_n 3, 1) := by decide +kernel
theorem d_Days_giveWorth_24 : decode prog_3_method_10_code 24 = .ok (.aload_n 0, 1) := by decide +kernel
theorem d_Days_giveWorth_25 : decode prog_3_method_10_code 25 = .ok (.getfield 134, 3) := by decide +kernel
theorem gf_Days_134 : GF "NineBoards$Days" 134 2 8 := ⟨_, _, _, rfl, ci_Lake, by decide, (mt_2 (List.mem_of_getElem? (i := 61) rfl) rfl)⟩
theorem d_Days_giveWorth_28 : decode prog_3_method_10_code 28 = .ok (.astore_n 3, 1) := by decide +kernel
theorem d_Days_giveWorth_29 : decode prog_3_method_10_code 29 = .ok (.iconst 0, 1) := by decide +kernel
theorem d_Days_giveWorth_30 : decode prog_3_method_10_code 30 = .ok (.istore 4, 2) := by decide +kernel
theorem d_Days_giveWorth_105 : decode prog_3_method_10_code 105 = .ok (.iconst 0, 1) := by decide +kernel
theorem d_Days_giveWorth_106 : decode prog_3_method_10_code 106 = .ok (.istore 4, 2) := by decide +kernel
theorem d_Days_giveWorth_140 : decode prog_3_method_10_code 140 = .ok (.return_, 1) := by decide +kernel
theorem d_Days_pass_0 : decode prog_3_method_5_code 0 = .ok (.aload_n 0, 1) := by decide +kernel
theorem d_Days_pass_1 : decode prog_3_method_5_code 1 = .ok (.aload_n 1, 1) := by decide +kernel
theorem d_Days_pass_2 : decode prog_3_method_5_code 2 = .ok (.iload_n 2, 1) := by decide +kernel
theorem d_Days_pass_3 : decode prog_3_method_5_code 3 = .ok (.invokestatic 47, 3) := by decide +kernel
theorem kw_Days_47 : KW "NineBoards$Days" 47 ⟨"NineBoards$Days", "doAct", "(LNineBoards$Lake;LNineBoards$State;I)V"⟩ prog_3_method_6_code 3 none 3 := ⟨(mt_4 (List.mem_of_getElem? (i := 70) rfl) rfl), (mt_1 (List.mem_of_getElem? (i := 18) rfl) rfl), (mt_4 (List.mem_of_getElem? (i := 72) rfl) rfl), by decide +kernel⟩
theorem ks_Days_doAct : Cond.static ⟨"NineBoards$Days", "doAct", "(LNineBoards$Lake;LNineBoards$State;I)V"⟩ ∈ TB := (mt_4 (List.mem_of_getElem? (i := 71) rfl) rfl)
theorem d_Days_pass_6 : decode prog_3_method_5_code 6 = .ok (.aload_n 0, 1) := by decide +kernel
theorem d_Days_pass_7 : decode prog_3_method_5_code 7 = .ok (.aload_n 1, 1) := by decide +kernel
theorem d_Days_pass_8 : decode prog_3_method_5_code 8 = .ok (.invokestatic 51, 3) := by decide +kernel
theorem kw_Days_51 : KW "NineBoards$Days" 51 ⟨"NineBoards$Days", "letFlow", "(LNineBoards$Lake;LNineBoards$State;)V"⟩ prog_3_method_9_code 4 none 2 := ⟨(mt_4 (List.mem_of_getElem? (i := 77) rfl) rfl), (mt_1 (List.mem_of_getElem? (i := 18) rfl) rfl), (mt_4 (List.mem_of_getElem? (i := 79) rfl) rfl), by decide +kernel⟩
theorem ks_Days_letFlow : Cond.static ⟨"NineBoards$Days", "letFlow", "(LNineBoards$Lake;LNineBoards$State;)V"⟩ ∈ TB := (mt_4 (List.mem_of_getElem? (i := 78) rfl) rfl)
theorem d_Days_pass_11 : decode prog_3_method_5_code 11 = .ok (.aload_n 0, 1) := by decide +kernel
theorem d_Days_pass_12 : decode prog_3_method_5_code 12 = .ok (.getfield 55, 3) := by decide +kernel
theorem d_Days_pass_15 : decode prog_3_method_5_code 15 = .ok (.iconst 0, 1) := by decide +kernel
theorem d_Days_pass_16 : decode prog_3_method_5_code 16 = .ok (.aload_n 1, 1) := by decide +kernel
theorem d_Days_pass_17 : decode prog_3_method_5_code 17 = .ok (.getfield 59, 3) := by decide +kernel
theorem d_Days_pass_20 : decode prog_3_method_5_code 20 = .ok (.aload_n 0, 1) := by decide +kernel
theorem d_Days_pass_21 : decode prog_3_method_5_code 21 = .ok (.aload_n 1, 1) := by decide +kernel
theorem d_Days_pass_22 : decode prog_3_method_5_code 22 = .ok (.getfield 62, 3) := by decide +kernel
theorem d_Days_pass_25 : decode prog_3_method_5_code 25 = .ok (.invokevirtual 65, 3) := by decide +kernel
theorem d_Days_pass_28 : decode prog_3_method_5_code 28 = .ok (.aload_n 1, 1) := by decide +kernel
theorem d_Days_pass_29 : decode prog_3_method_5_code 29 = .ok (.getfield 62, 3) := by decide +kernel
theorem d_Days_pass_32 : decode prog_3_method_5_code 32 = .ok (.invokevirtual 69, 3) := by decide +kernel
theorem d_Days_pass_35 : decode prog_3_method_5_code 35 = .ok (.istore_n 3, 1) := by decide +kernel
theorem d_Days_pass_36 : decode prog_3_method_5_code 36 = .ok (.aload_n 1, 1) := by decide +kernel
theorem d_Days_pass_37 : decode prog_3_method_5_code 37 = .ok (.getfield 62, 3) := by decide +kernel
theorem d_Days_pass_40 : decode prog_3_method_5_code 40 = .ok (.iload_n 3, 1) := by decide +kernel
theorem d_Days_pass_41 : decode prog_3_method_5_code 41 = .ok (.iadd, 1) := by decide +kernel
theorem d_Days_pass_42 : decode prog_3_method_5_code 42 = .ok (.istore 4, 2) := by decide +kernel
theorem d_Days_pass_44 : decode prog_3_method_5_code 44 = .ok (.iconst 0, 1) := by decide +kernel
theorem d_Days_pass_45 : decode prog_3_method_5_code 45 = .ok (.iload 4, 2) := by decide +kernel
theorem d_Days_pass_47 : decode prog_3_method_5_code 47 = .ok (.aload_n 0, 1) := by decide +kernel
theorem d_Days_pass_48 : decode prog_3_method_5_code 48 = .ok (.getfield 75, 3) := by decide +kernel
theorem gf_Days_75 : GF "NineBoards$Days" 75 2 2 := ⟨_, _, _, rfl, ci_Lake, by decide, (mt_2 (List.mem_of_getElem? (i := 37) rfl) rfl)⟩
theorem d_Days_pass_51 : decode prog_3_method_5_code 51 = .ok (.isub, 1) := by decide +kernel
theorem d_Days_pass_52 : decode prog_3_method_5_code 52 = .ok (.invokestatic 78, 3) := by decide +kernel
theorem d_Days_pass_55 : decode prog_3_method_5_code 55 = .ok (.istore 5, 2) := by decide +kernel
theorem d_Days_pass_57 : decode prog_3_method_5_code 57 = .ok (.aload_n 1, 1) := by decide +kernel
theorem d_Days_pass_58 : decode prog_3_method_5_code 58 = .ok (.iload 4, 2) := by decide +kernel
theorem d_Days_pass_60 : decode prog_3_method_5_code 60 = .ok (.iload 5, 2) := by decide +kernel
theorem d_Days_pass_62 : decode prog_3_method_5_code 62 = .ok (.isub, 1) := by decide +kernel
theorem d_Days_pass_63 : decode prog_3_method_5_code 63 = .ok (.putfield 62, 3) := by decide +kernel
theorem d_Days_pass_66 : decode prog_3_method_5_code 66 = .ok (.aload_n 1, 1) := by decide +kernel
theorem d_Days_pass_67 : decode prog_3_method_5_code 67 = .ok (.getfield 62, 3) := by decide +kernel
theorem d_Days_pass_70 : decode prog_3_method_5_code 70 = .ok (.aload_n 0, 1) := by decide +kernel
theorem d_Days_pass_71 : decode prog_3_method_5_code 71 = .ok (.getfield 55, 3) := by decide +kernel
theorem d_Days_pass_74 : decode prog_3_method_5_code 74 = .ok (.iconst 1, 1) := by decide +kernel
theorem d_Days_pass_75 : decode prog_3_method_5_code 75 = .ok (.aload_n 1, 1) := by decide +kernel
theorem d_Days_pass_76 : decode prog_3_method_5_code 76 = .ok (.getfield 59, 3) := by decide +kernel
theorem d_Days_pass_79 : decode prog_3_method_5_code 79 = .ok (.aload_n 0, 1) := by decide +kernel
theorem d_Days_pass_80 : decode prog_3_method_5_code 80 = .ok (.aload_n 1, 1) := by decide +kernel
theorem d_Days_pass_81 : decode prog_3_method_5_code 81 = .ok (.getfield 62, 3) := by decide +kernel
theorem d_Days_pass_84 : decode prog_3_method_5_code 84 = .ok (.invokevirtual 65, 3) := by decide +kernel
theorem d_Days_pass_87 : decode prog_3_method_5_code 87 = .ok (.aload_n 1, 1) := by decide +kernel
theorem d_Days_pass_88 : decode prog_3_method_5_code 88 = .ok (.getfield 62, 3) := by decide +kernel
theorem d_Days_pass_91 : decode prog_3_method_5_code 91 = .ok (.invokevirtual 69, 3) := by decide +kernel
theorem d_Days_pass_94 : decode prog_3_method_5_code 94 = .ok (.invokestatic 84, 3) := by decide +kernel
theorem d_Days_pass_97 : decode prog_3_method_5_code 97 = .ok (.istore 6, 2) := by decide +kernel
theorem d_Days_pass_99 : decode prog_3_method_5_code 99 = .ok (.aload_n 1, 1) := by decide +kernel
theorem d_Days_pass_100 : decode prog_3_method_5_code 100 = .ok (.dup, 1) := by decide +kernel
theorem d_Days_pass_101 : decode prog_3_method_5_code 101 = .ok (.getfield 62, 3) := by decide +kernel
theorem d_Days_pass_104 : decode prog_3_method_5_code 104 = .ok (.iload 6, 2) := by decide +kernel
theorem d_Days_pass_106 : decode prog_3_method_5_code 106 = .ok (.isub, 1) := by decide +kernel
theorem d_Days_pass_107 : decode prog_3_method_5_code 107 = .ok (.putfield 62, 3) := by decide +kernel
theorem d_Days_pass_110 : decode prog_3_method_5_code 110 = .ok (.aload_n 1, 1) := by decide +kernel
theorem d_Days_pass_111 : decode prog_3_method_5_code 111 = .ok (.getfield 87, 3) := by decide +kernel
theorem d_Days_pass_114 : decode prog_3_method_5_code 114 = .ok (.iconst 1, 1) := by decide +kernel
theorem d_Days_pass_115 : decode prog_3_method_5_code 115 = .ok (.dup2, 1) := by decide +kernel
theorem d_Days_pass_116 : decode prog_3_method_5_code 116 = .ok (.laload, 1) := by decide +kernel
theorem d_Days_pass_117 : decode prog_3_method_5_code 117 = .ok (.iload_n 3, 1) := by decide +kernel
theorem d_Days_pass_118 : decode prog_3_method_5_code 118 = .ok (.i2l, 1) := by decide +kernel
theorem d_Days_pass_119 : decode prog_3_method_5_code 119 = .ok (.ladd, 1) := by decide +kernel
theorem d_Days_pass_120 : decode prog_3_method_5_code 120 = .ok (.lastore, 1) := by decide +kernel
theorem d_Days_pass_121 : decode prog_3_method_5_code 121 = .ok (.aload_n 1, 1) := by decide +kernel
theorem d_Days_pass_122 : decode prog_3_method_5_code 122 = .ok (.getfield 87, 3) := by decide +kernel
theorem d_Days_pass_125 : decode prog_3_method_5_code 125 = .ok (.iconst 2, 1) := by decide +kernel
theorem d_Days_pass_126 : decode prog_3_method_5_code 126 = .ok (.dup2, 1) := by decide +kernel
theorem d_Days_pass_127 : decode prog_3_method_5_code 127 = .ok (.laload, 1) := by decide +kernel
theorem d_Days_pass_128 : decode prog_3_method_5_code 128 = .ok (.iload 5, 2) := by decide +kernel
theorem d_Days_pass_130 : decode prog_3_method_5_code 130 = .ok (.i2l, 1) := by decide +kernel
theorem d_Days_pass_131 : decode prog_3_method_5_code 131 = .ok (.ladd, 1) := by decide +kernel
theorem d_Days_pass_132 : decode prog_3_method_5_code 132 = .ok (.lastore, 1) := by decide +kernel
theorem d_Days_pass_133 : decode prog_3_method_5_code 133 = .ok (.aload_n 1, 1) := by decide +kernel
theorem d_Days_pass_134 : decode prog_3_method_5_code 134 = .ok (.getfield 87, 3) := by decide +kernel
theorem d_Days_pass_137 : decode prog_3_method_5_code 137 = .ok (.iconst 4, 1) := by decide +kernel
theorem d_Days_pass_138 : decode prog_3_method_5_code 138 = .ok (.dup2, 1) := by decide +kernel
theorem d_Days_pass_139 : decode prog_3_method_5_code 139 = .ok (.laload, 1) := by decide +kernel
theorem d_Days_pass_140 : decode prog_3_method_5_code 140 = .ok (.iload 6, 2) := by decide +kernel
theorem d_Days_pass_142 : decode prog_3_method_5_code 142 = .ok (.i2l, 1) := by decide +kernel
theorem d_Days_pass_143 : decode prog_3_method_5_code 143 = .ok (.ladd, 1) := by decide +kernel
theorem d_Days_pass_144 : decode prog_3_method_5_code 144 = .ok (.lastore, 1) := by decide +kernel
theorem d_Days_pass_145 : decode prog_3_method_5_code 145 = .ok (.aload_n 0, 1) := by decide +kernel
theorem d_Days_pass_146 : decode prog_3_method_5_code 146 = .ok (.aload_n 1, 1) := by decide +kernel
theorem d_Days_pass_147 : decode prog_3_method_5_code 147 = .ok (.getfield 62, 3) := by decide +kernel
theorem d_Days_pass_150 : decode prog_3_method_5_code 150 = .ok (.invokevirtual 65, 3) := by decide +kernel
theorem d_Days_pass_153 : decode prog_3_method_5_code 153 = .ok (.aload_n 0, 1) := by decide +kernel
theorem d_Days_pass_154 : decode prog_3_method_5_code 154 = .ok (.getfield 91, 3) := by decide +kernel
theorem gf_Days_91 : GF "NineBoards$Days" 91 2 10 := ⟨_, _, _, rfl, ci_Lake, by decide, (mt_2 (List.mem_of_getElem? (i := 67) rfl) rfl)⟩
theorem d_Days_pass_157 : decode prog_3_method_5_code 157 = .ok (.if_icmp .ge 10, 3) := by decide +kernel
theorem d_Days_pass_167 : decode prog_3_method_5_code 167 = .ok (.iconst 0, 1) := by decide +kernel
theorem d_Days_pass_168 : decode prog_3_method_5_code 168 = .ok (.istore 7, 2) := by decide +kernel
theorem d_Days_pass_170 : decode prog_3_method_5_code 170 = .ok (.iload 7, 2) := by decide +kernel
theorem d_Days_pass_172 : decode prog_3_method_5_code 172 = .ok (.aload_n 0, 1) := by decide +kernel
theorem d_Days_pass_173 : decode prog_3_method_5_code 173 = .ok (.iload 4, 2) := by decide +kernel
theorem d_Days_pass_175 : decode prog_3_method_5_code 175 = .ok (.invokevirtual 65, 3) := by decide +kernel
theorem d_Days_pass_178 : decode prog_3_method_5_code 178 = .ok (.aload_n 0, 1) := by decide +kernel
theorem d_Days_pass_179 : decode prog_3_method_5_code 179 = .ok (.getfield 97, 3) := by decide +kernel
theorem gf_Days_97 : GF "NineBoards$Days" 97 2 12 := ⟨_, _, _, rfl, ci_Lake, by decide, (mt_2 (List.mem_of_getElem? (i := 73) rfl) rfl)⟩
theorem d_Days_pass_182 : decode prog_3_method_5_code 182 = .ok (.if_icmp .le 10, 3) := by decide +kernel
theorem d_Days_pass_192 : decode prog_3_method_5_code 192 = .ok (.iconst 0, 1) := by decide +kernel
theorem d_Days_pass_193 : decode prog_3_method_5_code 193 = .ok (.iadd, 1) := by decide +kernel
theorem d_Days_pass_194 : decode prog_3_method_5_code 194 = .ok (.istore 7, 2) := by decide +kernel
theorem d_Days_pass_196 : decode prog_3_method_5_code 196 = .ok (.aload_n 0, 1) := by decide +kernel
theorem d_Days_pass_197 : decode prog_3_method_5_code 197 = .ok (.aload_n 1, 1) := by decide +kernel
theorem d_Days_pass_198 : decode prog_3_method_5_code 198 = .ok (.iload 7, 2) := by decide +kernel
theorem d_Days_pass_200 : decode prog_3_method_5_code 200 = .ok (.invokestatic 103, 3) := by decide +kernel
theorem kw_Days_103 : KW "NineBoards$Days" 103 ⟨"NineBoards$Days", "giveWorth", "(LNineBoards$Lake;LNineBoards$State;I)V"⟩ prog_3_method_10_code 5 none 3 := ⟨(mt_4 (List.mem_of_getElem? (i := 103) rfl) rfl), (mt_1 (List.mem_of_getElem? (i := 18) rfl) rfl), (mt_4 (List.mem_of_getElem? (i := 105) rfl) rfl), by decide +kernel⟩
theorem ks_Days_giveWorth : Cond.static ⟨"NineBoards$Days", "giveWorth", "(LNineBoards$Lake;LNineBoards$State;I)V"⟩ ∈ TB := (mt_4 (List.mem_of_getElem? (i := 104) rfl) rfl)
theorem d_Days_pass_203 : decode prog_3_method_5_code 203 = .ok (.aload_n 1, 1) := by decide +kernel
theorem d_Days_pass_204 : decode prog_3_method_5_code 204 = .ok (.dup, 1) := by decide +kernel
theorem d_Days_pass_205 : decode prog_3_method_5_code 205 = .ok (.getfield 59, 3) := by decide +kernel
theorem d_Days_pass_208 : decode prog_3_method_5_code 208 = .ok (.iconst 1, 1) := by decide +kernel
theorem d_Days_pass_209 : decode prog_3_method_5_code 209 = .ok (.iadd, 1) := by decide +kernel
theorem d_Days_pass_210 : decode prog_3_method_5_code 210 = .ok (.putfield 59, 3) := by decide +kernel
theorem pf_Days_59 : PF "NineBoards$Days" 59 7 0 (.int) false := ⟨_, _, _, ct_State, rfl, ci_State, by decide, (mt_1 (List.mem_of_getElem? (i := 54) rfl) rfl), cp_State, cn_State, rfl, by decide +kernel, (fun h => by cases h)⟩
theorem d_Days_pass_213 : decode prog_3_method_5_code 213 = .ok (.return_, 1) := by decide +kernel
theorem d_Days_pass_185 : decode prog_3_method_5_code 185 = .ok (.aload_n 0, 1) := by decide +kernel
theorem d_Days_pass_186 : decode prog_3_method_5_code 186 = .ok (.getfield 100, 3) := by decide +kernel
theorem gf_Days_100 : GF "NineBoards$Days" 100 2 13 := ⟨_, _, _, rfl, ci_Lake, by decide, (mt_2 (List.mem_of_getElem? (i := 76) rfl) rfl)⟩
theorem d_Days_pass_189 : decode prog_3_method_5_code 189 = .ok (.goto 4, 3) := by decide +kernel
theorem d_Days_pass_160 : decode prog_3_method_5_code 160 = .ok (.aload_n 0, 1) := by decide +kernel
theorem d_Days_pass_161 : decode prog_3_method_5_code 161 = .ok (.getfield 94, 3) := by decide +kernel
theorem gf_Days_94 : GF "NineBoards$Days" 94 2 11 := ⟨_, _, _, rfl, ci_Lake, by decide, (mt_2 (List.mem_of_getElem? (i := 70) rfl) rfl)⟩
theorem d_Days_pass_164 : decode prog_3_method_5_code 164 = .ok (.goto 4, 3) := by decide +kernel
