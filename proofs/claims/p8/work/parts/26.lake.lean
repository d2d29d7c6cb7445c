theorem d_Nine_lake_0 : decode prog_1_method_4_code 0 = .ok (.aload_n 0, 1) := by decide +kernel
theorem d_Nine_lake_1 : decode prog_1_method_4_code 1 = .ok (.getfield 53, 3) := by decide +kernel
theorem d_Nine_lake_4 : decode prog_1_method_4_code 4 = .ok (.aload_n 0, 1) := by decide +kernel
theorem d_Nine_lake_5 : decode prog_1_method_4_code 5 = .ok (.getfield 45, 3) := by decide +kernel
theorem gf_Nine_45 : GF "NineBoards" 45 9 6 := ⟨_, _, _, rfl, ci_Nine, by decide, (mt_2 (List.mem_of_getElem? (i := 237) rfl) rfl)⟩
theorem d_Nine_lake_8 : decode prog_1_method_4_code 8 = .ok (.invokevirtual 76, 3) := by decide +kernel
theorem kw_Nine_76 : KW "NineBoards" 76 ⟨"NineBoards$Reader", "read", "(LNineBoards$Lake;)V"⟩ prog_8_method_2_code 3 none 1 := ⟨(mt_3 (List.mem_of_getElem? (i := 46) rfl) rfl), (mt_1 (List.mem_of_getElem? (i := 10) rfl) rfl), (mt_3 (List.mem_of_getElem? (i := 49) rfl) rfl), by decide +kernel⟩
theorem kv_Reader_read : Cond.instanceMethod ⟨"NineBoards$Reader", "read", "(LNineBoards$Lake;)V"⟩ ∈ TB ∧ Cond.selects "NineBoards$Reader" ⟨"NineBoards$Reader", "read", "(LNineBoards$Lake;)V"⟩ ⟨"NineBoards$Reader", "read", "(LNineBoards$Lake;)V"⟩ ∈ TB := ⟨(mt_3 (List.mem_of_getElem? (i := 47) rfl) rfl), (mt_3 (List.mem_of_getElem? (i := 48) rfl) rfl)⟩
theorem d_Nine_lake_11 : decode prog_1_method_4_code 11 = .ok (.aload_n 0, 1) := by decide +kernel
theorem d_Nine_lake_12 : decode prog_1_method_4_code 12 = .ok (.getfield 14, 3) := by decide +kernel
theorem d_Nine_lake_15 : decode prog_1_method_4_code 15 = .ok (.iconst 0, 1) := by decide +kernel
theorem d_Nine_lake_16 : decode prog_1_method_4_code 16 = .ok (.putfield 70, 3) := by decide +kernel
theorem d_Nine_lake_19 : decode prog_1_method_4_code 19 = .ok (.aload_n 0, 1) := by decide +kernel
theorem d_Nine_lake_20 : decode prog_1_method_4_code 20 = .ok (.getfield 53, 3) := by decide +kernel
theorem d_Nine_lake_23 : decode prog_1_method_4_code 23 = .ok (.getfield 79, 3) := by decide +kernel
theorem d_Nine_lake_26 : decode prog_1_method_4_code 26 = .ok (.ifCond .eq 5, 3) := by decide +kernel
theorem d_Nine_lake_31 : decode prog_1_method_4_code 31 = .ok (.aload_n 0, 1) := by decide +kernel
theorem d_Nine_lake_32 : decode prog_1_method_4_code 32 = .ok (.getfield 41, 3) := by decide +kernel
theorem d_Nine_lake_35 : decode prog_1_method_4_code 35 = .ok (.astore_n 1, 1) := by decide +kernel
theorem d_Nine_lake_36 : decode prog_1_method_4_code 36 = .ok (.aload_n 0, 1) := by decide +kernel
theorem d_Nine_lake_37 : decode prog_1_method_4_code 37 = .ok (.aload_n 0, 1) := by decide +kernel
theorem d_Nine_lake_38 : decode prog_1_method_4_code 38 = .ok (.getfield 45, 3) := by decide +kernel
theorem d_Nine_lake_41 : decode prog_1_method_4_code 41 = .ok (.putfield 41, 3) := by decide +kernel
theorem pf_Nine_41 : PF "NineBoards" 41 9 5 (.object "NineBoards$Lake") false := ⟨_, _, _, ct_Nine, rfl, ci_Nine, by decide, (mt_2 (List.mem_of_getElem? (i := 236) rfl) rfl), cp_Nine, cn_Nine, rfl, by decide +kernel, (fun h => by cases h)⟩
theorem d_Nine_lake_44 : decode prog_1_method_4_code 44 = .ok (.aload_n 0, 1) := by decide +kernel
theorem d_Nine_lake_45 : decode prog_1_method_4_code 45 = .ok (.aload_n 1, 1) := by decide +kernel
theorem d_Nine_lake_46 : decode prog_1_method_4_code 46 = .ok (.putfield 45, 3) := by decide +kernel
theorem pf_Nine_45 : PF "NineBoards" 45 9 6 (.object "NineBoards$Lake") false := ⟨_, _, _, ct_Nine, rfl, ci_Nine, by decide, (mt_2 (List.mem_of_getElem? (i := 237) rfl) rfl), cp_Nine, cn_Nine, rfl, by decide +kernel, (fun h => by cases h)⟩
theorem d_Nine_lake_49 : decode prog_1_method_4_code 49 = .ok (.aload_n 0, 1) := by decide +kernel
theorem d_Nine_lake_50 : decode prog_1_method_4_code 50 = .ok (.iconst 0, 1) := by decide +kernel
theorem d_Nine_lake_51 : decode prog_1_method_4_code 51 = .ok (.aload_n 0, 1) := by decide +kernel
theorem d_Nine_lake_52 : decode prog_1_method_4_code 52 = .ok (.getfield 41, 3) := by decide +kernel
theorem d_Nine_lake_55 : decode prog_1_method_4_code 55 = .ok (.getfield 82, 3) := by decide +kernel
theorem gf_Nine_82 : GF "NineBoards" 82 2 3 := ⟨_, _, _, rfl, ci_Lake, by decide, (mt_2 (List.mem_of_getElem? (i := 40) rfl) rfl)⟩
theorem d_Nine_lake_58 : decode prog_1_method_4_code 58 = .ok (.iconst 0, 1) := by decide +kernel
theorem d_Nine_lake_59 : decode prog_1_method_4_code 59 = .ok (.invokevirtual 85, 3) := by decide +kernel
theorem kw_Nine_85 : KW "NineBoards" 85 ⟨"NineBoards", "beginAt", "(III)V"⟩ prog_1_method_35_code 4 none 3 := ⟨(mt_3 (List.mem_of_getElem? (i := 197) rfl) rfl), (mt_1 (List.mem_of_getElem? (i := 1) rfl) rfl), (mt_3 (List.mem_of_getElem? (i := 200) rfl) rfl), by decide +kernel⟩
theorem kv_Nine_beginAt : Cond.instanceMethod ⟨"NineBoards", "beginAt", "(III)V"⟩ ∈ TB ∧ Cond.selects "NineBoards" ⟨"NineBoards", "beginAt", "(III)V"⟩ ⟨"NineBoards", "beginAt", "(III)V"⟩ ∈ TB := ⟨(mt_3 (List.mem_of_getElem? (i := 199) rfl) rfl), (ms_0 (List.mem_map.mpr ⟨(⟨"NineBoards", "beginAt", "(III)V"⟩, 10), List.mem_of_getElem? (i := 32) (by decide +kernel), rfl⟩) rfl)⟩
theorem d_Nine_lake_62 : decode prog_1_method_4_code 62 = .ok (.iconst 0, 1) := by decide +kernel
theorem d_Nine_lake_63 : decode prog_1_method_4_code 63 = .ok (.istore_n 2, 1) := by decide +kernel
theorem d_Nine_lake_64 : decode prog_1_method_4_code 64 = .ok (.iload_n 2, 1) := by decide +kernel
theorem d_Nine_lake_65 : decode prog_1_method_4_code 65 = .ok (.aload_n 0, 1) := by decide +kernel
theorem d_Nine_lake_66 : decode prog_1_method_4_code 66 = .ok (.getfield 41, 3) := by decide +kernel
theorem d_Nine_lake_69 : decode prog_1_method_4_code 69 = .ok (.getfield 89, 3) := by decide +kernel
theorem d_Nine_lake_72 : decode prog_1_method_4_code 72 = .ok (.getfield 93, 3) := by decide +kernel
theorem d_Nine_lake_75 : decode prog_1_method_4_code 75 = .ok (.if_icmp .ge 30, 3) := by decide +kernel
theorem d_Nine_lake_105 : decode prog_1_method_4_code 105 = .ok (.aload_n 0, 1) := by decide +kernel
theorem d_Nine_lake_106 : decode prog_1_method_4_code 106 = .ok (.getfield 41, 3) := by decide +kernel
theorem d_Nine_lake_109 : decode prog_1_method_4_code 109 = .ok (.getfield 101, 3) := by decide +kernel
theorem gf_Nine_101 : GF "NineBoards" 101 2 0 := ⟨_, _, _, rfl, ci_Lake, by decide, (mt_2 (List.mem_of_getElem? (i := 32) rfl) rfl)⟩
theorem d_Nine_lake_112 : decode prog_1_method_4_code 112 = .ok (.ireturn, 1) := by decide +kernel
theorem d_Nine_lake_78 : decode prog_1_method_4_code 78 = .ok (.aload_n 0, 1) := by decide +kernel
theorem d_Nine_lake_79 : decode prog_1_method_4_code 79 = .ok (.getfield 24, 3) := by decide +kernel
theorem d_Nine_lake_82 : decode prog_1_method_4_code 82 = .ok (.getfield 96, 3) := by decide +kernel
theorem d_Nine_lake_85 : decode prog_1_method_4_code 85 = .ok (.iload_n 2, 1) := by decide +kernel
theorem d_Nine_lake_86 : decode prog_1_method_4_code 86 = .ok (.aload_n 0, 1) := by decide +kernel
theorem d_Nine_lake_87 : decode prog_1_method_4_code 87 = .ok (.getfield 41, 3) := by decide +kernel
theorem d_Nine_lake_90 : decode prog_1_method_4_code 90 = .ok (.getfield 89, 3) := by decide +kernel
theorem d_Nine_lake_93 : decode prog_1_method_4_code 93 = .ok (.getfield 100, 3) := by decide +kernel
theorem gf_Nine_100 : GF "NineBoards" 100 1 5 := ⟨_, _, _, rfl, ci_Gates, by decide, (mt_1 (List.mem_of_getElem? (i := 155) rfl) rfl)⟩
theorem d_Nine_lake_96 : decode prog_1_method_4_code 96 = .ok (.iload_n 2, 1) := by decide +kernel
theorem d_Nine_lake_97 : decode prog_1_method_4_code 97 = .ok (.iaload, 1) := by decide +kernel
theorem d_Nine_lake_98 : decode prog_1_method_4_code 98 = .ok (.iastore, 1) := by decide +kernel
theorem d_Nine_lake_99 : decode prog_1_method_4_code 99 = .ok (.iinc 2 1, 3) := by decide +kernel
theorem d_Nine_lake_102 : decode prog_1_method_4_code 102 = .ok (.goto (-38), 3) := by decide +kernel
theorem d_Nine_lake_29 : decode prog_1_method_4_code 29 = .ok (.iconst (-1), 1) := by decide +kernel
theorem d_Nine_lake_30 : decode prog_1_method_4_code 30 = .ok (.ireturn, 1) := by decide +kernel
