theorem d_Plans_plan_0 : decode prog_7_method_6_code 0 = .ok (.iload_n 1, 1) := by decide +kernel
theorem d_Plans_plan_1 : decode prog_7_method_6_code 1 = .ok (.aload_n 0, 1) := by decide +kernel
theorem d_Plans_plan_2 : decode prog_7_method_6_code 2 = .ok (.getfield 39, 3) := by decide +kernel
theorem d_Plans_plan_5 : decode prog_7_method_6_code 5 = .ok (.if_icmp .lt 27, 3) := by decide +kernel
theorem d_Plans_plan_8 : decode prog_7_method_6_code 8 = .ok (.iconst 0, 1) := by decide +kernel
theorem d_Plans_plan_9 : decode prog_7_method_6_code 9 = .ok (.istore_n 2, 1) := by decide +kernel
theorem d_Plans_plan_10 : decode prog_7_method_6_code 10 = .ok (.iload_n 2, 1) := by decide +kernel
theorem d_Plans_plan_11 : decode prog_7_method_6_code 11 = .ok (.bipush 6, 2) := by decide +kernel
theorem d_Plans_plan_13 : decode prog_7_method_6_code 13 = .ok (.if_icmp .ge 18, 3) := by decide +kernel
theorem d_Plans_plan_16 : decode prog_7_method_6_code 16 = .ok (.aload_n 0, 1) := by decide +kernel
theorem d_Plans_plan_17 : decode prog_7_method_6_code 17 = .ok (.getfield 19, 3) := by decide +kernel
theorem d_Plans_plan_20 : decode prog_7_method_6_code 20 = .ok (.iload_n 1, 1) := by decide +kernel
theorem d_Plans_plan_21 : decode prog_7_method_6_code 21 = .ok (.aaload, 1) := by decide +kernel
theorem d_Plans_plan_22 : decode prog_7_method_6_code 22 = .ok (.iload_n 2, 1) := by decide +kernel
theorem d_Plans_plan_23 : decode prog_7_method_6_code 23 = .ok (.iconst 0, 1) := by decide +kernel
theorem d_Plans_plan_24 : decode prog_7_method_6_code 24 = .ok (.iastore, 1) := by decide +kernel
theorem d_Plans_plan_25 : decode prog_7_method_6_code 25 = .ok (.iinc 2 1, 3) := by decide +kernel
theorem d_Plans_plan_28 : decode prog_7_method_6_code 28 = .ok (.goto (-18), 3) := by decide +kernel
theorem d_Plans_plan_31 : decode prog_7_method_6_code 31 = .ok (.return_, 1) := by decide +kernel
theorem d_Plans_plan_54 : decode prog_7_method_6_code 54 = .ok (.iload 4, 2) := by decide +kernel
theorem d_Plans_plan_56 : decode prog_7_method_6_code 56 = .ok (.iconst 3, 1) := by decide +kernel
theorem d_Plans_plan_57 : decode prog_7_method_6_code 57 = .ok (.if_icmp .ge 107, 3) := by decide +kernel
theorem d_Plans_plan_60 : decode prog_7_method_6_code 60 = .ok (.aload_n 0, 1) := by decide +kernel
theorem d_Plans_plan_61 : decode prog_7_method_6_code 61 = .ok (.getfield 25, 3) := by decide +kernel
theorem d_Plans_plan_64 : decode prog_7_method_6_code 64 = .ok (.aload_n 0, 1) := by decide +kernel
theorem d_Plans_plan_65 : decode prog_7_method_6_code 65 = .ok (.getfield 11, 3) := by decide +kernel
theorem d_Plans_plan_68 : decode prog_7_method_6_code 68 = .ok (.iload_n 1, 1) := by decide +kernel
theorem d_Plans_plan_69 : decode prog_7_method_6_code 69 = .ok (.aaload, 1) := by decide +kernel
theorem d_Plans_plan_70 : decode prog_7_method_6_code 70 = .ok (.iload_n 2, 1) := by decide +kernel
theorem d_Plans_plan_71 : decode prog_7_method_6_code 71 = .ok (.iload 4, 2) := by decide +kernel
theorem d_Plans_plan_73 : decode prog_7_method_6_code 73 = .ok (.iconst 0, 1) := by decide +kernel
theorem d_Plans_plan_74 : decode prog_7_method_6_code 74 = .ok (.invokestatic 69, 3) := by decide +kernel
theorem kw_Plans_69 : KW "NineBoards$Plans" 69 ⟨"NineBoards$Days", "allows", "(LNineBoards$Lake;LNineBoards$State;III)Z"⟩ prog_3_method_2_code 7 (some .boolean) 5 := ⟨(mt_4 (List.mem_of_getElem? (i := 189) rfl) rfl), (mt_1 (List.mem_of_getElem? (i := 18) rfl) rfl), (mt_4 (List.mem_of_getElem? (i := 39) rfl) rfl), by decide +kernel⟩
theorem d_Plans_plan_77 : decode prog_7_method_6_code 77 = .ok (.ifCond .eq 81, 3) := by decide +kernel
theorem d_Plans_plan_158 : decode prog_7_method_6_code 158 = .ok (.iinc 4 1, 3) := by decide +kernel
theorem d_Plans_plan_161 : decode prog_7_method_6_code 161 = .ok (.goto (-107), 3) := by decide +kernel
theorem d_Plans_plan_80 : decode prog_7_method_6_code 80 = .ok (.aload_n 0, 1) := by decide +kernel
theorem d_Plans_plan_81 : decode prog_7_method_6_code 81 = .ok (.getfield 11, 3) := by decide +kernel
theorem d_Plans_plan_84 : decode prog_7_method_6_code 84 = .ok (.iload_n 1, 1) := by decide +kernel
theorem d_Plans_plan_85 : decode prog_7_method_6_code 85 = .ok (.iconst 1, 1) := by decide +kernel
theorem d_Plans_plan_86 : decode prog_7_method_6_code 86 = .ok (.iadd, 1) := by decide +kernel
theorem d_Plans_plan_87 : decode prog_7_method_6_code 87 = .ok (.aaload, 1) := by decide +kernel
theorem d_Plans_plan_88 : decode prog_7_method_6_code 88 = .ok (.aload_n 0, 1) := by decide +kernel
theorem d_Plans_plan_89 : decode prog_7_method_6_code 89 = .ok (.getfield 11, 3) := by decide +kernel
theorem d_Plans_plan_92 : decode prog_7_method_6_code 92 = .ok (.iload_n 1, 1) := by decide +kernel
theorem d_Plans_plan_93 : decode prog_7_method_6_code 93 = .ok (.aaload, 1) := by decide +kernel
theorem d_Plans_plan_94 : decode prog_7_method_6_code 94 = .ok (.invokevirtual 47, 3) := by decide +kernel
theorem kw_Plans_47 : KW "NineBoards$Plans" 47 ⟨"NineBoards$State", "take", "(LNineBoards$State;)V"⟩ prog_10_method_3_code 2 none 1 := ⟨(mt_4 (List.mem_of_getElem? (i := 183) rfl) rfl), (mt_1 (List.mem_of_getElem? (i := 4) rfl) rfl), (mt_3 (List.mem_of_getElem? (i := 239) rfl) rfl), by decide +kernel⟩
theorem d_Plans_plan_97 : decode prog_7_method_6_code 97 = .ok (.aload_n 0, 1) := by decide +kernel
theorem d_Plans_plan_98 : decode prog_7_method_6_code 98 = .ok (.getfield 25, 3) := by decide +kernel
theorem d_Plans_plan_101 : decode prog_7_method_6_code 101 = .ok (.aload_n 0, 1) := by decide +kernel
theorem d_Plans_plan_102 : decode prog_7_method_6_code 102 = .ok (.getfield 11, 3) := by decide +kernel
theorem d_Plans_plan_105 : decode prog_7_method_6_code 105 = .ok (.iload_n 1, 1) := by decide +kernel
theorem d_Plans_plan_106 : decode prog_7_method_6_code 106 = .ok (.iconst 1, 1) := by decide +kernel
theorem d_Plans_plan_107 : decode prog_7_method_6_code 107 = .ok (.iadd, 1) := by decide +kernel
theorem d_Plans_plan_108 : decode prog_7_method_6_code 108 = .ok (.aaload, 1) := by decide +kernel
theorem d_Plans_plan_109 : decode prog_7_method_6_code 109 = .ok (.iload 4, 2) := by decide +kernel
theorem d_Plans_plan_111 : decode prog_7_method_6_code 111 = .ok (.invokestatic 75, 3) := by decide +kernel
theorem kw_Plans_75 : KW "NineBoards$Plans" 75 ⟨"NineBoards$Days", "pass", "(LNineBoards$Lake;LNineBoards$State;I)V"⟩ prog_3_method_5_code 8 none 3 := ⟨(mt_4 (List.mem_of_getElem? (i := 190) rfl) rfl), (mt_1 (List.mem_of_getElem? (i := 18) rfl) rfl), (mt_4 (List.mem_of_getElem? (i := 69) rfl) rfl), by decide +kernel⟩
theorem ks_Days_pass : Cond.static ⟨"NineBoards$Days", "pass", "(LNineBoards$Lake;LNineBoards$State;I)V"⟩ ∈ TB := (mt_4 (List.mem_of_getElem? (i := 68) rfl) rfl)
theorem d_Plans_plan_114 : decode prog_7_method_6_code 114 = .ok (.aload_n 0, 1) := by decide +kernel
theorem d_Plans_plan_115 : decode prog_7_method_6_code 115 = .ok (.iload_n 1, 1) := by decide +kernel
theorem d_Plans_plan_116 : decode prog_7_method_6_code 116 = .ok (.iconst 1, 1) := by decide +kernel
theorem d_Plans_plan_117 : decode prog_7_method_6_code 117 = .ok (.iadd, 1) := by decide +kernel
theorem d_Plans_plan_118 : decode prog_7_method_6_code 118 = .ok (.invokevirtual 51, 3) := by decide +kernel
theorem kw_Plans_51 : KW "NineBoards$Plans" 51 ⟨"NineBoards$Plans", "plan", "(I)V"⟩ prog_7_method_6_code 5 none 1 := ⟨(mt_4 (List.mem_of_getElem? (i := 184) rfl) rfl), (mt_1 (List.mem_of_getElem? (i := 15) rfl) rfl), (mt_4 (List.mem_of_getElem? (i := 187) rfl) rfl), by decide +kernel⟩
theorem kv_Plans_plan : Cond.instanceMethod ⟨"NineBoards$Plans", "plan", "(I)V"⟩ ∈ TB ∧ Cond.selects "NineBoards$Plans" ⟨"NineBoards$Plans", "plan", "(I)V"⟩ ⟨"NineBoards$Plans", "plan", "(I)V"⟩ ∈ TB := ⟨(mt_4 (List.mem_of_getElem? (i := 186) rfl) rfl), (ms_0 (List.mem_map.mpr ⟨(⟨"NineBoards$Plans", "plan", "(I)V"⟩, 6), List.mem_of_getElem? (i := 38) (by decide +kernel), rfl⟩) rfl)⟩
theorem d_Plans_plan_121 : decode prog_7_method_6_code 121 = .ok (.aload_n 0, 1) := by decide +kernel
theorem d_Plans_plan_122 : decode prog_7_method_6_code 122 = .ok (.iload_n 1, 1) := by decide +kernel
theorem d_Plans_plan_123 : decode prog_7_method_6_code 123 = .ok (.iconst 1, 1) := by decide +kernel
theorem d_Plans_plan_124 : decode prog_7_method_6_code 124 = .ok (.iadd, 1) := by decide +kernel
theorem d_Plans_plan_125 : decode prog_7_method_6_code 125 = .ok (.invokevirtual 79, 3) := by decide +kernel
theorem kw_Plans_79 : KW "NineBoards$Plans" 79 ⟨"NineBoards$Plans", "addDay", "(I)V"⟩ prog_7_method_8_code 3 none 1 := ⟨(mt_4 (List.mem_of_getElem? (i := 191) rfl) rfl), (mt_1 (List.mem_of_getElem? (i := 15) rfl) rfl), (mt_4 (List.mem_of_getElem? (i := 194) rfl) rfl), by decide +kernel⟩
theorem kv_Plans_addDay : Cond.instanceMethod ⟨"NineBoards$Plans", "addDay", "(I)V"⟩ ∈ TB ∧ Cond.selects "NineBoards$Plans" ⟨"NineBoards$Plans", "addDay", "(I)V"⟩ ⟨"NineBoards$Plans", "addDay", "(I)V"⟩ ∈ TB := ⟨(mt_4 (List.mem_of_getElem? (i := 193) rfl) rfl), (ms_0 (List.mem_map.mpr ⟨(⟨"NineBoards$Plans", "addDay", "(I)V"⟩, 6), List.mem_of_getElem? (i := 39) (by decide +kernel), rfl⟩) rfl)⟩
theorem d_Plans_plan_128 : decode prog_7_method_6_code 128 = .ok (.iload_n 3, 1) := by decide +kernel
theorem d_Plans_plan_129 : decode prog_7_method_6_code 129 = .ok (.ifCond .eq 20, 3) := by decide +kernel
theorem d_Plans_plan_149 : decode prog_7_method_6_code 149 = .ok (.aload_n 0, 1) := by decide +kernel
theorem d_Plans_plan_150 : decode prog_7_method_6_code 150 = .ok (.iload_n 1, 1) := by decide +kernel
theorem d_Plans_plan_151 : decode prog_7_method_6_code 151 = .ok (.iload 4, 2) := by decide +kernel
theorem d_Plans_plan_153 : decode prog_7_method_6_code 153 = .ok (.invokevirtual 85, 3) := by decide +kernel
theorem kw_Plans_85 : KW "NineBoards$Plans" 85 ⟨"NineBoards$Plans", "choose", "(II)V"⟩ prog_7_method_9_code 4 none 2 := ⟨(mt_4 (List.mem_of_getElem? (i := 202) rfl) rfl), (mt_1 (List.mem_of_getElem? (i := 15) rfl) rfl), (mt_4 (List.mem_of_getElem? (i := 205) rfl) rfl), by decide +kernel⟩
theorem kv_Plans_choose : Cond.instanceMethod ⟨"NineBoards$Plans", "choose", "(II)V"⟩ ∈ TB ∧ Cond.selects "NineBoards$Plans" ⟨"NineBoards$Plans", "choose", "(II)V"⟩ ⟨"NineBoards$Plans", "choose", "(II)V"⟩ ∈ TB := ⟨(mt_4 (List.mem_of_getElem? (i := 204) rfl) rfl), (ms_0 (List.mem_map.mpr ⟨(⟨"NineBoards$Plans", "choose", "(II)V"⟩, 6), List.mem_of_getElem? (i := 41) (by decide +kernel), rfl⟩) rfl)⟩
theorem d_Plans_plan_156 : decode prog_7_method_6_code 156 = .ok (.iconst 1, 1) := by decide +kernel
theorem d_Plans_plan_157 : decode prog_7_method_6_code 157 = .ok (.istore_n 3, 1) := by decide +kernel
theorem d_Plans_plan_132 : decode prog_7_method_6_code 132 = .ok (.aload_n 0, 1) := by decide +kernel
theorem d_Plans_plan_133 : decode prog_7_method_6_code 133 = .ok (.iload_n 2, 1) := by decide +kernel
theorem d_Plans_plan_134 : decode prog_7_method_6_code 134 = .ok (.iload_n 1, 1) := by decide +kernel
theorem d_Plans_plan_135 : decode prog_7_method_6_code 135 = .ok (.iconst 1, 1) := by decide +kernel
theorem d_Plans_plan_136 : decode prog_7_method_6_code 136 = .ok (.iadd, 1) := by decide +kernel
theorem d_Plans_plan_137 : decode prog_7_method_6_code 137 = .ok (.invokevirtual 82, 3) := by decide +kernel
theorem kw_Plans_82 : KW "NineBoards$Plans" 82 ⟨"NineBoards$Plans", "worthTo", "(II)I"⟩ prog_7_method_7_code 3 (some .int) 2 := ⟨(mt_4 (List.mem_of_getElem? (i := 195) rfl) rfl), (mt_1 (List.mem_of_getElem? (i := 15) rfl) rfl), (mt_4 (List.mem_of_getElem? (i := 198) rfl) rfl), by decide +kernel⟩
theorem kv_Plans_worthTo : Cond.instanceMethod ⟨"NineBoards$Plans", "worthTo", "(II)I"⟩ ∈ TB ∧ Cond.selects "NineBoards$Plans" ⟨"NineBoards$Plans", "worthTo", "(II)I"⟩ ⟨"NineBoards$Plans", "worthTo", "(II)I"⟩ ∈ TB := ⟨(mt_4 (List.mem_of_getElem? (i := 197) rfl) rfl), (ms_0 (List.mem_map.mpr ⟨(⟨"NineBoards$Plans", "worthTo", "(II)I"⟩, 6), List.mem_of_getElem? (i := 40) (by decide +kernel), rfl⟩) rfl)⟩
theorem d_Plans_plan_140 : decode prog_7_method_6_code 140 = .ok (.aload_n 0, 1) := by decide +kernel
theorem d_Plans_plan_141 : decode prog_7_method_6_code 141 = .ok (.iload_n 2, 1) := by decide +kernel
theorem d_Plans_plan_142 : decode prog_7_method_6_code 142 = .ok (.iload_n 1, 1) := by decide +kernel
theorem d_Plans_plan_143 : decode prog_7_method_6_code 143 = .ok (.invokevirtual 82, 3) := by decide +kernel
theorem d_Plans_plan_146 : decode prog_7_method_6_code 146 = .ok (.if_icmp .le 12, 3) := by decide +kernel
theorem d_Plans_plan_32 : decode prog_7_method_6_code 32 = .ok (.aload_n 0, 1) := by decide +kernel
theorem d_Plans_plan_33 : decode prog_7_method_6_code 33 = .ok (.getfield 25, 3) := by decide +kernel
theorem d_Plans_plan_36 : decode prog_7_method_6_code 36 = .ok (.aload_n 0, 1) := by decide +kernel
theorem d_Plans_plan_37 : decode prog_7_method_6_code 37 = .ok (.getfield 11, 3) := by decide +kernel
theorem d_Plans_plan_40 : decode prog_7_method_6_code 40 = .ok (.iload_n 1, 1) := by decide +kernel
theorem d_Plans_plan_41 : decode prog_7_method_6_code 41 = .ok (.aaload, 1) := by decide +kernel
theorem d_Plans_plan_42 : decode prog_7_method_6_code 42 = .ok (.getfield 60, 3) := by decide +kernel
theorem gf_Plans_60 : GF "NineBoards$Plans" 60 7 0 := ⟨_, _, _, rfl, ci_State, by decide, (mt_1 (List.mem_of_getElem? (i := 55) rfl) rfl)⟩
theorem d_Plans_plan_45 : decode prog_7_method_6_code 45 = .ok (.invokevirtual 63, 3) := by decide +kernel
theorem kw_Plans_63 : KW "NineBoards$Plans" 63 ⟨"NineBoards$Lake", "villageOn", "(I)I"⟩ prog_5_method_8_code 2 (some .int) 1 := ⟨(mt_4 (List.mem_of_getElem? (i := 188) rfl) rfl), (mt_1 (List.mem_of_getElem? (i := 6) rfl) rfl), (mt_4 (List.mem_of_getElem? (i := 59) rfl) rfl), by decide +kernel⟩
theorem d_Plans_plan_48 : decode prog_7_method_6_code 48 = .ok (.istore_n 2, 1) := by decide +kernel
theorem d_Plans_plan_49 : decode prog_7_method_6_code 49 = .ok (.iconst 0, 1) := by decide +kernel
theorem d_Plans_plan_50 : decode prog_7_method_6_code 50 = .ok (.istore_n 3, 1) := by decide +kernel
theorem d_Plans_plan_51 : decode prog_7_method_6_code 51 = .ok (.iconst 0, 1) := by decide +kernel
theorem d_Plans_plan_52 : decode prog_7_method_6_code 52 = .ok (.istore 4, 2) := by decide +kernel
theorem d_Plans_plan_164 : decode prog_7_method_6_code 164 = .ok (.return_, 1) := by decide +kernel
theorem d_Plans_make_0 : decode prog_7_method_2_code 0 = .ok (.aload_n 0, 1) := by decide +kernel
theorem d_Plans_make_1 : decode prog_7_method_2_code 1 = .ok (.aload_n 1, 1) := by decide +kernel
theorem d_Plans_make_2 : decode prog_7_method_2_code 2 = .ok (.putfield 25, 3) := by decide +kernel
theorem pf_Plans_25 : PF "NineBoards$Plans" 25 4 3 (.object "NineBoards$Lake") false := ⟨_, _, _, ct_Plans, rfl, ci_Plans, by decide, (mt_2 (List.mem_of_getElem? (i := 215) rfl) rfl), cp_Plans, cn_Plans, rfl, by decide +kernel, (fun h => by cases h)⟩
theorem d_Plans_make_5 : decode prog_7_method_2_code 5 = .ok (.aload_n 0, 1) := by decide +kernel
theorem d_Plans_make_6 : decode prog_7_method_2_code 6 = .ok (.iconst 0, 1) := by decide +kernel
theorem d_Plans_make_7 : decode prog_7_method_2_code 7 = .ok (.bipush 6, 2) := by decide +kernel
theorem d_Plans_make_9 : decode prog_7_method_2_code 9 = .ok (.iload_n 3, 1) := by decide +kernel
theorem d_Plans_make_10 : decode prog_7_method_2_code 10 = .ok (.invokestatic 30, 3) := by decide +kernel
theorem d_Plans_make_13 : decode prog_7_method_2_code 13 = .ok (.invokestatic 36, 3) := by decide +kernel
theorem d_Plans_make_16 : decode prog_7_method_2_code 16 = .ok (.putfield 39, 3) := by decide +kernel
theorem pf_Plans_39 : PF "NineBoards$Plans" 39 4 4 (.int) false := ⟨_, _, _, ct_Plans, rfl, ci_Plans, by decide, (mt_2 (List.mem_of_getElem? (i := 216) rfl) rfl), cp_Plans, cn_Plans, rfl, by decide +kernel, (fun h => by cases h)⟩
theorem d_Plans_make_19 : decode prog_7_method_2_code 19 = .ok (.aload_n 0, 1) := by decide +kernel
theorem d_Plans_make_20 : decode prog_7_method_2_code 20 = .ok (.iload 4, 2) := by decide +kernel
theorem d_Plans_make_22 : decode prog_7_method_2_code 22 = .ok (.putfield 43, 3) := by decide +kernel
theorem pf_Plans_43 : PF "NineBoards$Plans" 43 4 5 (.boolean) false := ⟨_, _, _, ct_Plans, rfl, ci_Plans, by decide, (mt_2 (List.mem_of_getElem? (i := 217) rfl) rfl), cp_Plans, cn_Plans, rfl, by decide +kernel, (fun h => by cases h)⟩
theorem d_Plans_make_25 : decode prog_7_method_2_code 25 = .ok (.aload_n 0, 1) := by decide +kernel
theorem d_Plans_make_26 : decode prog_7_method_2_code 26 = .ok (.getfield 11, 3) := by decide +kernel
theorem d_Plans_make_29 : decode prog_7_method_2_code 29 = .ok (.iconst 0, 1) := by decide +kernel
theorem d_Plans_make_30 : decode prog_7_method_2_code 30 = .ok (.aaload, 1) := by decide +kernel
theorem d_Plans_make_31 : decode prog_7_method_2_code 31 = .ok (.aload_n 2, 1) := by decide +kernel
theorem d_Plans_make_32 : decode prog_7_method_2_code 32 = .ok (.invokevirtual 47, 3) := by decide +kernel
theorem d_Plans_make_35 : decode prog_7_method_2_code 35 = .ok (.aload_n 0, 1) := by decide +kernel
theorem d_Plans_make_36 : decode prog_7_method_2_code 36 = .ok (.iconst 0, 1) := by decide +kernel
theorem d_Plans_make_37 : decode prog_7_method_2_code 37 = .ok (.invokevirtual 51, 3) := by decide +kernel
theorem d_Plans_make_40 : decode prog_7_method_2_code 40 = .ok (.return_, 1) := by decide +kernel
theorem d_Plans_actOn_0 : decode prog_7_method_3_code 0 = .ok (.iload_n 1, 1) := by decide +kernel
theorem d_Plans_actOn_1 : decode prog_7_method_3_code 1 = .ok (.ifCond .lt 22, 3) := by decide +kernel
theorem d_Plans_actOn_23 : decode prog_7_method_3_code 23 = .ok (.ldc 55, 2) := by decide +kernel
theorem d_Plans_actOn_25 : decode prog_7_method_3_code 25 = .ok (.ireturn, 1) := by decide +kernel
theorem d_Plans_actOn_4 : decode prog_7_method_3_code 4 = .ok (.iload_n 1, 1) := by decide +kernel
theorem d_Plans_actOn_5 : decode prog_7_method_3_code 5 = .ok (.aload_n 0, 1) := by decide +kernel
theorem d_Plans_actOn_6 : decode prog_7_method_3_code 6 = .ok (.getfield 39, 3) := by decide +kernel
theorem d_Plans_actOn_9 : decode prog_7_method_3_code 9 = .ok (.if_icmp .ge 14, 3) := by decide +kernel
theorem d_Plans_actOn_12 : decode prog_7_method_3_code 12 = .ok (.aload_n 0, 1) := by decide +kernel
theorem d_Plans_actOn_13 : decode prog_7_method_3_code 13 = .ok (.getfield 22, 3) := by decide +kernel
theorem d_Plans_actOn_16 : decode prog_7_method_3_code 16 = .ok (.iconst 0, 1) := by decide +kernel
theorem d_Plans_actOn_17 : decode prog_7_method_3_code 17 = .ok (.aaload, 1) := by decide +kernel
theorem d_Plans_actOn_18 : decode prog_7_method_3_code 18 = .ok (.iload_n 1, 1) := by decide +kernel
theorem d_Plans_actOn_19 : decode prog_7_method_3_code 19 = .ok (.iaload, 1) := by decide +kernel
theorem d_Plans_actOn_20 : decode prog_7_method_3_code 20 = .ok (.goto 5, 3) := by decide +kernel
theorem d_Plans_gotBy_0 : decode prog_7_method_4_code 0 = .ok (.iload_n 1, 1) := by decide +kernel
theorem d_Plans_gotBy_1 : decode prog_7_method_4_code 1 = .ok (.ifCond .lt 20, 3) := by decide +kernel
theorem d_Plans_gotBy_21 : decode prog_7_method_4_code 21 = .ok (.ldc 55, 2) := by decide +kernel
theorem d_Plans_gotBy_23 : decode prog_7_method_4_code 23 = .ok (.ireturn, 1) := by decide +kernel
theorem d_Plans_gotBy_4 : decode prog_7_method_4_code 4 = .ok (.iload_n 1, 1) := by decide +kernel
theorem d_Plans_gotBy_5 : decode prog_7_method_4_code 5 = .ok (.bipush 6, 2) := by decide +kernel
theorem d_Plans_gotBy_7 : decode prog_7_method_4_code 7 = .ok (.if_icmp .ge 14, 3) := by decide +kernel
theorem d_Plans_gotBy_10 : decode prog_7_method_4_code 10 = .ok (.aload_n 0, 1) := by decide +kernel
theorem d_Plans_gotBy_11 : decode prog_7_method_4_code 11 = .ok (.getfield 19, 3) := by decide +kernel
theorem d_Plans_gotBy_14 : decode prog_7_method_4_code 14 = .ok (.iconst 0, 1) := by decide +kernel
theorem d_Plans_gotBy_15 : decode prog_7_method_4_code 15 = .ok (.aaload, 1) := by decide +kernel
theorem d_Plans_gotBy_16 : decode prog_7_method_4_code 16 = .ok (.iload_n 1, 1) := by decide +kernel
theorem d_Plans_gotBy_17 : decode prog_7_method_4_code 17 = .ok (.iaload, 1) := by decide +kernel
theorem d_Plans_gotBy_18 : decode prog_7_method_4_code 18 = .ok (.goto 5, 3) := by decide +kernel
theorem d_Plans_gotTogether_0 : decode prog_7_method_5_code 0 = .ok (.aload_n 0, 1) := by decide +kernel
theorem d_Plans_gotTogether_1 : decode prog_7_method_5_code 1 = .ok (.getfield 19, 3) := by decide +kernel
theorem d_Plans_gotTogether_4 : decode prog_7_method_5_code 4 = .ok (.iconst 0, 1) := by decide +kernel
theorem d_Plans_gotTogether_5 : decode prog_7_method_5_code 5 = .ok (.aaload, 1) := by decide +kernel
theorem d_Plans_gotTogether_6 : decode prog_7_method_5_code 6 = .ok (.invokestatic 56, 3) := by decide +kernel
theorem d_Plans_gotTogether_9 : decode prog_7_method_5_code 9 = .ok (.ireturn, 1) := by decide +kernel
