theorem d_Reader_readPair_0 : decode prog_8_method_21_code 0 = .ok (.aload_n 0, 1) := by decide +kernel
theorem d_Reader_readPair_1 : decode prog_8_method_21_code 1 = .ok (.bipush 40, 2) := by decide +kernel
theorem d_Reader_readPair_3 : decode prog_8_method_21_code 3 = .ok (.invokevirtual 259, 3) := by decide +kernel
theorem d_Reader_readPair_6 : decode prog_8_method_21_code 6 = .ok (.ifCond .ne 15, 3) := by decide +kernel
theorem d_Reader_readPair_21 : decode prog_8_method_21_code 21 = .ok (.aload_n 0, 1) := by decide +kernel
theorem d_Reader_readPair_22 : decode prog_8_method_21_code 22 = .ok (.iload_n 1, 1) := by decide +kernel
theorem d_Reader_readPair_23 : decode prog_8_method_21_code 23 = .ok (.invokevirtual 256, 3) := by decide +kernel
theorem kw_Reader_256 : KW "NineBoards$Reader" 256 ⟨"NineBoards$Reader", "goesDeeper", "(I)Z"⟩ prog_8_method_22_code 2 (some .boolean) 1 := ⟨(mt_3 (List.mem_of_getElem? (i := 129) rfl) rfl), (mt_1 (List.mem_of_getElem? (i := 10) rfl) rfl), (mt_3 (List.mem_of_getElem? (i := 132) rfl) rfl), by decide +kernel⟩
theorem kv_Reader_goesDeeper : Cond.instanceMethod ⟨"NineBoards$Reader", "goesDeeper", "(I)Z"⟩ ∈ TB ∧ Cond.selects "NineBoards$Reader" ⟨"NineBoards$Reader", "goesDeeper", "(I)Z"⟩ ⟨"NineBoards$Reader", "goesDeeper", "(I)Z"⟩ ∈ TB := ⟨(mt_3 (List.mem_of_getElem? (i := 131) rfl) rfl), (ms_0 (List.mem_map.mpr ⟨(⟨"NineBoards$Reader", "goesDeeper", "(I)Z"⟩, 12), List.mem_of_getElem? (i := 17) (by decide +kernel), rfl⟩) rfl)⟩
theorem d_Reader_readPair_26 : decode prog_8_method_21_code 26 = .ok (.ifCond .eq 40, 3) := by decide +kernel
theorem d_Reader_readPair_66 : decode prog_8_method_21_code 66 = .ok (.return_, 1) := by decide +kernel
theorem d_Reader_readPair_9 : decode prog_8_method_21_code 9 = .ok (.aload_n 0, 1) := by decide +kernel
theorem d_Reader_readPair_10 : decode prog_8_method_21_code 10 = .ok (.iconst 1, 1) := by decide +kernel
theorem d_Reader_readPair_11 : decode prog_8_method_21_code 11 = .ok (.aload_n 0, 1) := by decide +kernel
theorem d_Reader_readPair_12 : decode prog_8_method_21_code 12 = .ok (.getfield 62, 3) := by decide +kernel
theorem d_Reader_readPair_15 : decode prog_8_method_21_code 15 = .ok (.invokevirtual 65, 3) := by decide +kernel
theorem d_Reader_readPair_18 : decode prog_8_method_21_code 18 = .ok (.goto 48, 3) := by decide +kernel
theorem d_Reader_readPart_0 : decode prog_8_method_20_code 0 = .ok (.aload_n 0, 1) := by decide +kernel
theorem d_Reader_readPart_1 : decode prog_8_method_20_code 1 = .ok (.getfield 50, 3) := by decide +kernel
theorem d_Reader_readPart_4 : decode prog_8_method_20_code 4 = .ok (.iconst 2, 1) := by decide +kernel
theorem d_Reader_readPart_5 : decode prog_8_method_20_code 5 = .ok (.if_icmp .ne 24, 3) := by decide +kernel
theorem d_Reader_readPart_29 : decode prog_8_method_20_code 29 = .ok (.aload_n 0, 1) := by decide +kernel
theorem d_Reader_readPart_30 : decode prog_8_method_20_code 30 = .ok (.bipush 28, 2) := by decide +kernel
theorem d_Reader_readPart_32 : decode prog_8_method_20_code 32 = .ok (.invokevirtual 69, 3) := by decide +kernel
theorem d_Reader_readPart_35 : decode prog_8_method_20_code 35 = .ok (.ifCond .eq 21, 3) := by decide +kernel
theorem d_Reader_readPart_56 : decode prog_8_method_20_code 56 = .ok (.aload_n 0, 1) := by decide +kernel
theorem d_Reader_readPart_57 : decode prog_8_method_20_code 57 = .ok (.bipush 29, 2) := by decide +kernel
theorem d_Reader_readPart_59 : decode prog_8_method_20_code 59 = .ok (.invokevirtual 69, 3) := by decide +kernel
theorem d_Reader_readPart_62 : decode prog_8_method_20_code 62 = .ok (.ifCond .eq 22, 3) := by decide +kernel
theorem d_Reader_readPart_84 : decode prog_8_method_20_code 84 = .ok (.aload_n 0, 1) := by decide +kernel
theorem d_Reader_readPart_85 : decode prog_8_method_20_code 85 = .ok (.bipush 30, 2) := by decide +kernel
theorem d_Reader_readPart_87 : decode prog_8_method_20_code 87 = .ok (.invokevirtual 69, 3) := by decide +kernel
theorem d_Reader_readPart_90 : decode prog_8_method_20_code 90 = .ok (.ifCond .eq 22, 3) := by decide +kernel
theorem d_Reader_readPart_112 : decode prog_8_method_20_code 112 = .ok (.aload_n 0, 1) := by decide +kernel
theorem d_Reader_readPart_113 : decode prog_8_method_20_code 113 = .ok (.bipush 31, 2) := by decide +kernel
theorem d_Reader_readPart_115 : decode prog_8_method_20_code 115 = .ok (.invokevirtual 69, 3) := by decide +kernel
theorem d_Reader_readPart_118 : decode prog_8_method_20_code 118 = .ok (.ifCond .ne 12, 3) := by decide +kernel
theorem d_Reader_readPart_130 : decode prog_8_method_20_code 130 = .ok (.aload_n 0, 1) := by decide +kernel
theorem d_Reader_readPart_131 : decode prog_8_method_20_code 131 = .ok (.bipush 31, 2) := by decide +kernel
theorem d_Reader_readPart_133 : decode prog_8_method_20_code 133 = .ok (.invokevirtual 69, 3) := by decide +kernel
theorem d_Reader_readPart_136 : decode prog_8_method_20_code 136 = .ok (.ifCond .eq 8, 3) := by decide +kernel
theorem d_Reader_readPart_144 : decode prog_8_method_20_code 144 = .ok (.bipush (-10), 2) := by decide +kernel
theorem d_Reader_readPart_146 : decode prog_8_method_20_code 146 = .ok (.istore_n 2, 1) := by decide +kernel
theorem d_Reader_readPart_147 : decode prog_8_method_20_code 147 = .ok (.aload_n 0, 1) := by decide +kernel
theorem d_Reader_readPart_148 : decode prog_8_method_20_code 148 = .ok (.invokevirtual 53, 3) := by decide +kernel
theorem d_Reader_readPart_151 : decode prog_8_method_20_code 151 = .ok (.aload_n 0, 1) := by decide +kernel
theorem d_Reader_readPart_152 : decode prog_8_method_20_code 152 = .ok (.iload_n 1, 1) := by decide +kernel
theorem d_Reader_readPart_153 : decode prog_8_method_20_code 153 = .ok (.iload_n 2, 1) := by decide +kernel
theorem d_Reader_readPart_154 : decode prog_8_method_20_code 154 = .ok (.invokevirtual 269, 3) := by decide +kernel
theorem kw_Reader_269 : KW "NineBoards$Reader" 269 ⟨"NineBoards$Reader", "readPair", "(II)V"⟩ prog_8_method_21_code 3 none 2 := ⟨(mt_3 (List.mem_of_getElem? (i := 125) rfl) rfl), (mt_1 (List.mem_of_getElem? (i := 10) rfl) rfl), (mt_3 (List.mem_of_getElem? (i := 128) rfl) rfl), by decide +kernel⟩
theorem kv_Reader_readPair : Cond.instanceMethod ⟨"NineBoards$Reader", "readPair", "(II)V"⟩ ∈ TB ∧ Cond.selects "NineBoards$Reader" ⟨"NineBoards$Reader", "readPair", "(II)V"⟩ ⟨"NineBoards$Reader", "readPair", "(II)V"⟩ ∈ TB := ⟨(mt_3 (List.mem_of_getElem? (i := 127) rfl) rfl), (ms_0 (List.mem_map.mpr ⟨(⟨"NineBoards$Reader", "readPair", "(II)V"⟩, 12), List.mem_of_getElem? (i := 16) (by decide +kernel), rfl⟩) rfl)⟩
theorem d_Reader_readPart_157 : decode prog_8_method_20_code 157 = .ok (.goto 45, 3) := by decide +kernel
theorem d_Reader_readPart_202 : decode prog_8_method_20_code 202 = .ok (.return_, 1) := by decide +kernel
theorem d_Reader_readPart_139 : decode prog_8_method_20_code 139 = .ok (.bipush (-9), 2) := by decide +kernel
theorem d_Reader_readPart_141 : decode prog_8_method_20_code 141 = .ok (.goto 5, 3) := by decide +kernel
theorem d_Reader_readPart_121 : decode prog_8_method_20_code 121 = .ok (.aload_n 0, 1) := by decide +kernel
theorem d_Reader_readPart_122 : decode prog_8_method_20_code 122 = .ok (.bipush 32, 2) := by decide +kernel
theorem d_Reader_readPart_124 : decode prog_8_method_20_code 124 = .ok (.invokevirtual 69, 3) := by decide +kernel
theorem d_Reader_readPart_127 : decode prog_8_method_20_code 127 = .ok (.ifCond .eq 33, 3) := by decide +kernel
theorem d_Reader_readPart_160 : decode prog_8_method_20_code 160 = .ok (.aload_n 0, 1) := by decide +kernel
theorem d_Reader_readPart_161 : decode prog_8_method_20_code 161 = .ok (.bipush 40, 2) := by decide +kernel
theorem d_Reader_readPart_163 : decode prog_8_method_20_code 163 = .ok (.invokevirtual 259, 3) := by decide +kernel
theorem d_Reader_readPart_166 : decode prog_8_method_20_code 166 = .ok (.ifCond .ne 15, 3) := by decide +kernel
theorem d_Reader_readPart_181 : decode prog_8_method_20_code 181 = .ok (.aload_n 0, 1) := by decide +kernel
theorem d_Reader_readPart_182 : decode prog_8_method_20_code 182 = .ok (.iload_n 1, 1) := by decide +kernel
theorem d_Reader_readPart_183 : decode prog_8_method_20_code 183 = .ok (.invokevirtual 256, 3) := by decide +kernel
theorem d_Reader_readPart_186 : decode prog_8_method_20_code 186 = .ok (.ifCond .eq 16, 3) := by decide +kernel
theorem d_Reader_readPart_169 : decode prog_8_method_20_code 169 = .ok (.aload_n 0, 1) := by decide +kernel
theorem d_Reader_readPart_170 : decode prog_8_method_20_code 170 = .ok (.iconst 1, 1) := by decide +kernel
theorem d_Reader_readPart_171 : decode prog_8_method_20_code 171 = .ok (.aload_n 0, 1) := by decide +kernel
theorem d_Reader_readPart_172 : decode prog_8_method_20_code 172 = .ok (.getfield 62, 3) := by decide +kernel
theorem d_Reader_readPart_175 : decode prog_8_method_20_code 175 = .ok (.invokevirtual 65, 3) := by decide +kernel
theorem d_Reader_readPart_178 : decode prog_8_method_20_code 178 = .ok (.goto 24, 3) := by decide +kernel
theorem d_Reader_readPart_93 : decode prog_8_method_20_code 93 = .ok (.aload_n 0, 1) := by decide +kernel
theorem d_Reader_readPart_94 : decode prog_8_method_20_code 94 = .ok (.invokevirtual 53, 3) := by decide +kernel
theorem d_Reader_readPart_97 : decode prog_8_method_20_code 97 = .ok (.aload_n 0, 1) := by decide +kernel
theorem d_Reader_readPart_98 : decode prog_8_method_20_code 98 = .ok (.getfield 23, 3) := by decide +kernel
theorem d_Reader_readPart_101 : decode prog_8_method_20_code 101 = .ok (.getfield 221, 3) := by decide +kernel
theorem gf_Reader_221 : GF "NineBoards$Reader" 221 2 9 := ⟨_, _, _, rfl, ci_Lake, by decide, (mt_2 (List.mem_of_getElem? (i := 65) rfl) rfl)⟩
theorem d_Reader_readPart_104 : decode prog_8_method_20_code 104 = .ok (.bipush (-3), 2) := by decide +kernel
theorem d_Reader_readPart_106 : decode prog_8_method_20_code 106 = .ok (.invokevirtual 250, 3) := by decide +kernel
theorem kw_Reader_250 : KW "NineBoards$Reader" 250 ⟨"NineBoards$Rules", "put", "(I)V"⟩ prog_9_method_2_code 2 none 1 := ⟨(mt_3 (List.mem_of_getElem? (i := 121) rfl) rfl), (mt_1 (List.mem_of_getElem? (i := 9) rfl) rfl), (mt_3 (List.mem_of_getElem? (i := 124) rfl) rfl), by decide +kernel⟩
theorem kv_Rules_put : Cond.instanceMethod ⟨"NineBoards$Rules", "put", "(I)V"⟩ ∈ TB ∧ Cond.selects "NineBoards$Rules" ⟨"NineBoards$Rules", "put", "(I)V"⟩ ⟨"NineBoards$Rules", "put", "(I)V"⟩ ∈ TB := ⟨(mt_3 (List.mem_of_getElem? (i := 122) rfl) rfl), (mt_3 (List.mem_of_getElem? (i := 123) rfl) rfl)⟩
theorem d_Reader_readPart_109 : decode prog_8_method_20_code 109 = .ok (.goto 93, 3) := by decide +kernel
theorem d_Reader_readPart_65 : decode prog_8_method_20_code 65 = .ok (.aload_n 0, 1) := by decide +kernel
theorem d_Reader_readPart_66 : decode prog_8_method_20_code 66 = .ok (.invokevirtual 53, 3) := by decide +kernel
theorem d_Reader_readPart_69 : decode prog_8_method_20_code 69 = .ok (.aload_n 0, 1) := by decide +kernel
theorem d_Reader_readPart_70 : decode prog_8_method_20_code 70 = .ok (.getfield 23, 3) := by decide +kernel
theorem d_Reader_readPart_73 : decode prog_8_method_20_code 73 = .ok (.getfield 221, 3) := by decide +kernel
theorem d_Reader_readPart_76 : decode prog_8_method_20_code 76 = .ok (.bipush (-2), 2) := by decide +kernel
theorem d_Reader_readPart_78 : decode prog_8_method_20_code 78 = .ok (.invokevirtual 250, 3) := by decide +kernel
theorem d_Reader_readPart_81 : decode prog_8_method_20_code 81 = .ok (.goto 121, 3) := by decide +kernel
theorem d_Reader_readPart_38 : decode prog_8_method_20_code 38 = .ok (.aload_n 0, 1) := by decide +kernel
theorem d_Reader_readPart_39 : decode prog_8_method_20_code 39 = .ok (.invokevirtual 53, 3) := by decide +kernel
theorem d_Reader_readPart_42 : decode prog_8_method_20_code 42 = .ok (.aload_n 0, 1) := by decide +kernel
theorem d_Reader_readPart_43 : decode prog_8_method_20_code 43 = .ok (.getfield 23, 3) := by decide +kernel
theorem d_Reader_readPart_46 : decode prog_8_method_20_code 46 = .ok (.getfield 221, 3) := by decide +kernel
theorem d_Reader_readPart_49 : decode prog_8_method_20_code 49 = .ok (.iconst (-1), 1) := by decide +kernel
theorem d_Reader_readPart_50 : decode prog_8_method_20_code 50 = .ok (.invokevirtual 250, 3) := by decide +kernel
theorem d_Reader_readPart_53 : decode prog_8_method_20_code 53 = .ok (.goto 149, 3) := by decide +kernel
theorem d_Reader_readPart_8 : decode prog_8_method_20_code 8 = .ok (.aload_n 0, 1) := by decide +kernel
theorem d_Reader_readPart_9 : decode prog_8_method_20_code 9 = .ok (.getfield 23, 3) := by decide +kernel
theorem d_Reader_readPart_12 : decode prog_8_method_20_code 12 = .ok (.getfield 221, 3) := by decide +kernel
theorem d_Reader_readPart_15 : decode prog_8_method_20_code 15 = .ok (.aload_n 0, 1) := by decide +kernel
theorem d_Reader_readPart_16 : decode prog_8_method_20_code 16 = .ok (.iconst 0, 1) := by decide +kernel
theorem d_Reader_readPart_17 : decode prog_8_method_20_code 17 = .ok (.sipush 9999, 3) := by decide +kernel
theorem d_Reader_readPart_20 : decode prog_8_method_20_code 20 = .ok (.invokevirtual 111, 3) := by decide +kernel
theorem kw_Reader_111 : KW "NineBoards$Reader" 111 ⟨"NineBoards$Reader", "readNumber", "(II)I"⟩ prog_8_method_27_code 5 (some .int) 2 := ⟨(mt_3 (List.mem_of_getElem? (i := 85) rfl) rfl), (mt_1 (List.mem_of_getElem? (i := 10) rfl) rfl), (mt_3 (List.mem_of_getElem? (i := 88) rfl) rfl), by decide +kernel⟩
theorem kv_Reader_readNumber : Cond.instanceMethod ⟨"NineBoards$Reader", "readNumber", "(II)I"⟩ ∈ TB ∧ Cond.selects "NineBoards$Reader" ⟨"NineBoards$Reader", "readNumber", "(II)I"⟩ ⟨"NineBoards$Reader", "readNumber", "(II)I"⟩ ∈ TB := ⟨(mt_3 (List.mem_of_getElem? (i := 87) rfl) rfl), (ms_0 (List.mem_map.mpr ⟨(⟨"NineBoards$Reader", "readNumber", "(II)I"⟩, 12), List.mem_of_getElem? (i := 7) (by decide +kernel), rfl⟩) rfl)⟩
theorem d_Reader_readPart_23 : decode prog_8_method_20_code 23 = .ok (.invokevirtual 250, 3) := by decide +kernel
theorem d_Reader_readPart_26 : decode prog_8_method_20_code 26 = .ok (.goto 176, 3) := by decide +kernel
theorem d_Reader_readProduct_0 : decode prog_8_method_19_code 0 = .ok (.aload_n 0, 1) := by decide +kernel
theorem d_Reader_readProduct_1 : decode prog_8_method_19_code 1 = .ok (.iload_n 1, 1) := by decide +kernel
theorem d_Reader_readProduct_2 : decode prog_8_method_19_code 2 = .ok (.invokevirtual 266, 3) := by decide +kernel
theorem kw_Reader_266 : KW "NineBoards$Reader" 266 ⟨"NineBoards$Reader", "readPart", "(I)V"⟩ prog_8_method_20_code 3 none 1 := ⟨(mt_3 (List.mem_of_getElem? (i := 117) rfl) rfl), (mt_1 (List.mem_of_getElem? (i := 10) rfl) rfl), (mt_3 (List.mem_of_getElem? (i := 120) rfl) rfl), by decide +kernel⟩
theorem kv_Reader_readPart : Cond.instanceMethod ⟨"NineBoards$Reader", "readPart", "(I)V"⟩ ∈ TB ∧ Cond.selects "NineBoards$Reader" ⟨"NineBoards$Reader", "readPart", "(I)V"⟩ ⟨"NineBoards$Reader", "readPart", "(I)V"⟩ ∈ TB := ⟨(mt_3 (List.mem_of_getElem? (i := 119) rfl) rfl), (ms_0 (List.mem_map.mpr ⟨(⟨"NineBoards$Reader", "readPart", "(I)V"⟩, 12), List.mem_of_getElem? (i := 15) (by decide +kernel), rfl⟩) rfl)⟩
theorem d_Reader_readProduct_5 : decode prog_8_method_19_code 5 = .ok (.iconst 0, 1) := by decide +kernel
theorem d_Reader_readProduct_6 : decode prog_8_method_19_code 6 = .ok (.istore_n 2, 1) := by decide +kernel
theorem d_Reader_readProduct_7 : decode prog_8_method_19_code 7 = .ok (.iload_n 2, 1) := by decide +kernel
theorem d_Reader_readProduct_8 : decode prog_8_method_19_code 8 = .ok (.sipush 1600, 3) := by decide +kernel
theorem d_Reader_readProduct_11 : decode prog_8_method_19_code 11 = .ok (.if_icmp .ge 64, 3) := by decide +kernel
theorem d_Reader_readProduct_75 : decode prog_8_method_19_code 75 = .ok (.return_, 1) := by decide +kernel
theorem d_Reader_readProduct_14 : decode prog_8_method_19_code 14 = .ok (.aload_n 0, 1) := by decide +kernel
theorem d_Reader_readProduct_15 : decode prog_8_method_19_code 15 = .ok (.bipush 42, 2) := by decide +kernel
theorem d_Reader_readProduct_17 : decode prog_8_method_19_code 17 = .ok (.invokevirtual 259, 3) := by decide +kernel
theorem d_Reader_readProduct_20 : decode prog_8_method_19_code 20 = .ok (.ifCond .ne 12, 3) := by decide +kernel
theorem d_Reader_readProduct_32 : decode prog_8_method_19_code 32 = .ok (.aload_n 0, 1) := by decide +kernel
theorem d_Reader_readProduct_33 : decode prog_8_method_19_code 33 = .ok (.bipush 42, 2) := by decide +kernel
theorem d_Reader_readProduct_35 : decode prog_8_method_19_code 35 = .ok (.invokevirtual 259, 3) := by decide +kernel
theorem d_Reader_readProduct_38 : decode prog_8_method_19_code 38 = .ok (.ifCond .eq 8, 3) := by decide +kernel
theorem d_Reader_readProduct_46 : decode prog_8_method_19_code 46 = .ok (.bipush (-8), 2) := by decide +kernel
theorem d_Reader_readProduct_48 : decode prog_8_method_19_code 48 = .ok (.istore_n 3, 1) := by decide +kernel
theorem d_Reader_readProduct_49 : decode prog_8_method_19_code 49 = .ok (.aload_n 0, 1) := by decide +kernel
theorem d_Reader_readProduct_50 : decode prog_8_method_19_code 50 = .ok (.invokevirtual 53, 3) := by decide +kernel
theorem d_Reader_readProduct_53 : decode prog_8_method_19_code 53 = .ok (.aload_n 0, 1) := by decide +kernel
theorem d_Reader_readProduct_54 : decode prog_8_method_19_code 54 = .ok (.iload_n 1, 1) := by decide +kernel
theorem d_Reader_readProduct_55 : decode prog_8_method_19_code 55 = .ok (.invokevirtual 266, 3) := by decide +kernel
theorem d_Reader_readProduct_58 : decode prog_8_method_19_code 58 = .ok (.aload_n 0, 1) := by decide +kernel
theorem d_Reader_readProduct_59 : decode prog_8_method_19_code 59 = .ok (.getfield 23, 3) := by decide +kernel
theorem d_Reader_readProduct_62 : decode prog_8_method_19_code 62 = .ok (.getfield 221, 3) := by decide +kernel
theorem d_Reader_readProduct_65 : decode prog_8_method_19_code 65 = .ok (.iload_n 3, 1) := by decide +kernel
theorem d_Reader_readProduct_66 : decode prog_8_method_19_code 66 = .ok (.invokevirtual 250, 3) := by decide +kernel
theorem d_Reader_readProduct_69 : decode prog_8_method_19_code 69 = .ok (.iinc 2 1, 3) := by decide +kernel
theorem d_Reader_readProduct_72 : decode prog_8_method_19_code 72 = .ok (.goto (-65), 3) := by decide +kernel
theorem d_Reader_readProduct_41 : decode prog_8_method_19_code 41 = .ok (.bipush (-7), 2) := by decide +kernel
theorem d_Reader_readProduct_43 : decode prog_8_method_19_code 43 = .ok (.goto 5, 3) := by decide +kernel
theorem d_Reader_readProduct_23 : decode prog_8_method_19_code 23 = .ok (.aload_n 0, 1) := by decide +kernel
theorem d_Reader_readProduct_24 : decode prog_8_method_19_code 24 = .ok (.bipush 47, 2) := by decide +kernel
theorem d_Reader_readProduct_26 : decode prog_8_method_19_code 26 = .ok (.invokevirtual 259, 3) := by decide +kernel
theorem d_Reader_readProduct_29 : decode prog_8_method_19_code 29 = .ok (.ifCond .eq 46, 3) := by decide +kernel
theorem d_Reader_readSum_0 : decode prog_8_method_18_code 0 = .ok (.aload_n 0, 1) := by decide +kernel
theorem d_Reader_readSum_1 : decode prog_8_method_18_code 1 = .ok (.iload_n 1, 1) := by decide +kernel
theorem d_Reader_readSum_2 : decode prog_8_method_18_code 2 = .ok (.invokevirtual 263, 3) := by decide +kernel
theorem kw_Reader_263 : KW "NineBoards$Reader" 263 ⟨"NineBoards$Reader", "readProduct", "(I)V"⟩ prog_8_method_19_code 4 none 1 := ⟨(mt_3 (List.mem_of_getElem? (i := 113) rfl) rfl), (mt_1 (List.mem_of_getElem? (i := 10) rfl) rfl), (mt_3 (List.mem_of_getElem? (i := 116) rfl) rfl), by decide +kernel⟩
theorem kv_Reader_readProduct : Cond.instanceMethod ⟨"NineBoards$Reader", "readProduct", "(I)V"⟩ ∈ TB ∧ Cond.selects "NineBoards$Reader" ⟨"NineBoards$Reader", "readProduct", "(I)V"⟩ ⟨"NineBoards$Reader", "readProduct", "(I)V"⟩ ∈ TB := ⟨(mt_3 (List.mem_of_getElem? (i := 115) rfl) rfl), (ms_0 (List.mem_map.mpr ⟨(⟨"NineBoards$Reader", "readProduct", "(I)V"⟩, 12), List.mem_of_getElem? (i := 14) (by decide +kernel), rfl⟩) rfl)⟩
theorem d_Reader_readSum_5 : decode prog_8_method_18_code 5 = .ok (.iconst 0, 1) := by decide +kernel
theorem d_Reader_readSum_6 : decode prog_8_method_18_code 6 = .ok (.istore_n 2, 1) := by decide +kernel
theorem d_Reader_readSum_7 : decode prog_8_method_18_code 7 = .ok (.iload_n 2, 1) := by decide +kernel
theorem d_Reader_readSum_8 : decode prog_8_method_18_code 8 = .ok (.sipush 1600, 3) := by decide +kernel
theorem d_Reader_readSum_11 : decode prog_8_method_18_code 11 = .ok (.if_icmp .ge 64, 3) := by decide +kernel
theorem d_Reader_readSum_75 : decode prog_8_method_18_code 75 = .ok (.return_, 1) := by decide +kernel
theorem d_Reader_readSum_14 : decode prog_8_method_18_code 14 = .ok (.aload_n 0, 1) := by decide +kernel
theorem d_Reader_readSum_15 : decode prog_8_method_18_code 15 = .ok (.bipush 43, 2) := by decide +kernel
theorem d_Reader_readSum_17 : decode prog_8_method_18_code 17 = .ok (.invokevirtual 259, 3) := by decide +kernel
theorem d_Reader_readSum_20 : decode prog_8_method_18_code 20 = .ok (.ifCond .ne 12, 3) := by decide +kernel
theorem d_Reader_readSum_32 : decode prog_8_method_18_code 32 = .ok (.aload_n 0, 1) := by decide +kernel
theorem d_Reader_readSum_33 : decode prog_8_method_18_code 33 = .ok (.bipush 43, 2) := by decide +kernel
theorem d_Reader_readSum_35 : decode prog_8_method_18_code 35 = .ok (.invokevirtual 259, 3) := by decide +kernel
theorem d_Reader_readSum_38 : decode prog_8_method_18_code 38 = .ok (.ifCond .eq 8, 3) := by decide +kernel
theorem d_Reader_readSum_46 : decode prog_8_method_18_code 46 = .ok (.bipush (-6), 2) := by decide +kernel
theorem d_Reader_readSum_48 : decode prog_8_method_18_code 48 = .ok (.istore_n 3, 1) := by decide +kernel
theorem d_Reader_readSum_49 : decode prog_8_method_18_code 49 = .ok (.aload_n 0, 1) := by decide +kernel
theorem d_Reader_readSum_50 : decode prog_8_method_18_code 50 = .ok (.invokevirtual 53, 3) := by decide +kernel
theorem d_Reader_readSum_53 : decode prog_8_method_18_code 53 = .ok (.aload_n 0, 1) := by decide +kernel
theorem d_Reader_readSum_54 : decode prog_8_method_18_code 54 = .ok (.iload_n 1, 1) := by decide +kernel
theorem d_Reader_readSum_55 : decode prog_8_method_18_code 55 = .ok (.invokevirtual 263, 3) := by decide +kernel
theorem d_Reader_readSum_58 : decode prog_8_method_18_code 58 = .ok (.aload_n 0, 1) := by decide +kernel
theorem d_Reader_readSum_59 : decode prog_8_method_18_code 59 = .ok (.getfield 23, 3) := by decide +kernel
theorem d_Reader_readSum_62 : decode prog_8_method_18_code 62 = .ok (.getfield 221, 3) := by decide +kernel
theorem d_Reader_readSum_65 : decode prog_8_method_18_code 65 = .ok (.iload_n 3, 1) := by decide +kernel
theorem d_Reader_readSum_66 : decode prog_8_method_18_code 66 = .ok (.invokevirtual 250, 3) := by decide +kernel
theorem d_Reader_readSum_69 : decode prog_8_method_18_code 69 = .ok (.iinc 2 1, 3) := by decide +kernel
theorem d_Reader_readSum_72 : decode prog_8_method_18_code 72 = .ok (.goto (-65), 3) := by decide +kernel
theorem d_Reader_readSum_41 : decode prog_8_method_18_code 41 = .ok (.bipush (-5), 2) := by decide +kernel
theorem d_Reader_readSum_43 : decode prog_8_method_18_code 43 = .ok (.goto 5, 3) := by decide +kernel
theorem d_Reader_readSum_23 : decode prog_8_method_18_code 23 = .ok (.aload_n 0, 1) := by decide +kernel
theorem d_Reader_readSum_24 : decode prog_8_method_18_code 24 = .ok (.bipush 45, 2) := by decide +kernel
theorem d_Reader_readSum_26 : decode prog_8_method_18_code 26 = .ok (.invokevirtual 259, 3) := by decide +kernel
theorem d_Reader_readSum_29 : decode prog_8_method_18_code 29 = .ok (.ifCond .eq 46, 3) := by decide +kernel
theorem d_Reader_readFact_0 : decode prog_8_method_17_code 0 = .ok (.aload_n 0, 1) := by decide +kernel
theorem d_Reader_readFact_1 : decode prog_8_method_17_code 1 = .ok (.bipush 26, 2) := by decide +kernel
theorem d_Reader_readFact_3 : decode prog_8_method_17_code 3 = .ok (.invokevirtual 69, 3) := by decide +kernel
theorem d_Reader_readFact_6 : decode prog_8_method_17_code 6 = .ok (.ifCond .eq 33, 3) := by decide +kernel
theorem d_Reader_readFact_39 : decode prog_8_method_17_code 39 = .ok (.aload_n 0, 1) := by decide +kernel
theorem d_Reader_readFact_40 : decode prog_8_method_17_code 40 = .ok (.bipush 91, 2) := by decide +kernel
theorem d_Reader_readFact_42 : decode prog_8_method_17_code 42 = .ok (.invokevirtual 259, 3) := by decide +kernel
theorem d_Reader_readFact_45 : decode prog_8_method_17_code 45 = .ok (.ifCond .eq 27, 3) := by decide +kernel
theorem d_Reader_readFact_72 : decode prog_8_method_17_code 72 = .ok (.aload_n 0, 1) := by decide +kernel
theorem d_Reader_readFact_73 : decode prog_8_method_17_code 73 = .ok (.bipush 27, 2) := by decide +kernel
theorem d_Reader_readFact_75 : decode prog_8_method_17_code 75 = .ok (.invokevirtual 69, 3) := by decide +kernel
theorem d_Reader_readFact_78 : decode prog_8_method_17_code 78 = .ok (.ifCond .eq 21, 3) := by decide +kernel
theorem d_Reader_readFact_99 : decode prog_8_method_17_code 99 = .ok (.aload_n 0, 1) := by decide +kernel
theorem d_Reader_readFact_100 : decode prog_8_method_17_code 100 = .ok (.iload_n 1, 1) := by decide +kernel
theorem d_Reader_readFact_101 : decode prog_8_method_17_code 101 = .ok (.invokevirtual 235, 3) := by decide +kernel
theorem kw_Reader_235 : KW "NineBoards$Reader" 235 ⟨"NineBoards$Reader", "readSum", "(I)V"⟩ prog_8_method_18_code 4 none 1 := ⟨(mt_3 (List.mem_of_getElem? (i := 109) rfl) rfl), (mt_1 (List.mem_of_getElem? (i := 10) rfl) rfl), (mt_3 (List.mem_of_getElem? (i := 112) rfl) rfl), by decide +kernel⟩
theorem kv_Reader_readSum : Cond.instanceMethod ⟨"NineBoards$Reader", "readSum", "(I)V"⟩ ∈ TB ∧ Cond.selects "NineBoards$Reader" ⟨"NineBoards$Reader", "readSum", "(I)V"⟩ ⟨"NineBoards$Reader", "readSum", "(I)V"⟩ ∈ TB := ⟨(mt_3 (List.mem_of_getElem? (i := 111) rfl) rfl), (ms_0 (List.mem_map.mpr ⟨(⟨"NineBoards$Reader", "readSum", "(I)V"⟩, 12), List.mem_of_getElem? (i := 13) (by decide +kernel), rfl⟩) rfl)⟩
theorem d_Reader_readFact_104 : decode prog_8_method_17_code 104 = .ok (.aload_n 0, 1) := by decide +kernel
theorem d_Reader_readFact_105 : decode prog_8_method_17_code 105 = .ok (.bipush 60, 2) := by decide +kernel
theorem d_Reader_readFact_107 : decode prog_8_method_17_code 107 = .ok (.invokevirtual 259, 3) := by decide +kernel
theorem d_Reader_readFact_110 : decode prog_8_method_17_code 110 = .ok (.ifCond .eq 8, 3) := by decide +kernel
theorem d_Reader_readFact_118 : decode prog_8_method_17_code 118 = .ok (.aload_n 0, 1) := by decide +kernel
theorem d_Reader_readFact_119 : decode prog_8_method_17_code 119 = .ok (.bipush 62, 2) := by decide +kernel
theorem d_Reader_readFact_121 : decode prog_8_method_17_code 121 = .ok (.invokevirtual 259, 3) := by decide +kernel
theorem d_Reader_readFact_124 : decode prog_8_method_17_code 124 = .ok (.ifCond .eq 8, 3) := by decide +kernel
theorem d_Reader_readFact_132 : decode prog_8_method_17_code 132 = .ok (.bipush (-13), 2) := by decide +kernel
theorem d_Reader_readFact_134 : decode prog_8_method_17_code 134 = .ok (.istore_n 2, 1) := by decide +kernel
theorem d_Reader_readFact_135 : decode prog_8_method_17_code 135 = .ok (.aload_n 0, 1) := by decide +kernel
theorem d_Reader_readFact_136 : decode prog_8_method_17_code 136 = .ok (.iload_n 2, 1) := by decide +kernel
theorem d_Reader_readFact_137 : decode prog_8_method_17_code 137 = .ok (.bipush (-11), 2) := by decide +kernel
theorem d_Reader_readFact_139 : decode prog_8_method_17_code 139 = .ok (.if_icmp .ne 8, 3) := by decide +kernel
theorem d_Reader_readFact_147 : decode prog_8_method_17_code 147 = .ok (.iload_n 2, 1) := by decide +kernel
theorem d_Reader_readFact_148 : decode prog_8_method_17_code 148 = .ok (.bipush (-12), 2) := by decide +kernel
theorem d_Reader_readFact_150 : decode prog_8_method_17_code 150 = .ok (.if_icmp .ne 8, 3) := by decide +kernel
theorem d_Reader_readFact_158 : decode prog_8_method_17_code 158 = .ok (.bipush 61, 2) := by decide +kernel
theorem d_Reader_readFact_160 : decode prog_8_method_17_code 160 = .ok (.invokevirtual 101, 3) := by decide +kernel
theorem kw_Reader_101 : KW "NineBoards$Reader" 101 ⟨"NineBoards$Reader", "readSign", "(C)V"⟩ prog_8_method_26_code 2 none 1 := ⟨(mt_3 (List.mem_of_getElem? (i := 93) rfl) rfl), (mt_1 (List.mem_of_getElem? (i := 10) rfl) rfl), (mt_3 (List.mem_of_getElem? (i := 96) rfl) rfl), by decide +kernel⟩
theorem kv_Reader_readSign : Cond.instanceMethod ⟨"NineBoards$Reader", "readSign", "(C)V"⟩ ∈ TB ∧ Cond.selects "NineBoards$Reader" ⟨"NineBoards$Reader", "readSign", "(C)V"⟩ ⟨"NineBoards$Reader", "readSign", "(C)V"⟩ ∈ TB := ⟨(mt_3 (List.mem_of_getElem? (i := 95) rfl) rfl), (ms_0 (List.mem_map.mpr ⟨(⟨"NineBoards$Reader", "readSign", "(C)V"⟩, 12), List.mem_of_getElem? (i := 9) (by decide +kernel), rfl⟩) rfl)⟩
theorem d_Reader_readFact_163 : decode prog_8_method_17_code 163 = .ok (.aload_n 0, 1) := by decide +kernel
theorem d_Reader_readFact_164 : decode prog_8_method_17_code 164 = .ok (.iload_n 1, 1) := by decide +kernel
theorem d_Reader_readFact_165 : decode prog_8_method_17_code 165 = .ok (.invokevirtual 235, 3) := by decide +kernel
theorem d_Reader_readFact_168 : decode prog_8_method_17_code 168 = .ok (.aload_n 0, 1) := by decide +kernel
theorem d_Reader_readFact_169 : decode prog_8_method_17_code 169 = .ok (.getfield 23, 3) := by decide +kernel
theorem d_Reader_readFact_172 : decode prog_8_method_17_code 172 = .ok (.getfield 221, 3) := by decide +kernel
theorem d_Reader_readFact_175 : decode prog_8_method_17_code 175 = .ok (.iload_n 2, 1) := by decide +kernel
theorem d_Reader_readFact_176 : decode prog_8_method_17_code 176 = .ok (.invokevirtual 250, 3) := by decide +kernel
theorem d_Reader_readFact_179 : decode prog_8_method_17_code 179 = .ok (.return_, 1) := by decide +kernel
theorem d_Reader_readFact_127 : decode prog_8_method_17_code 127 = .ok (.bipush (-12), 2) := by decide +kernel
theorem d_Reader_readFact_129 : decode prog_8_method_17_code 129 = .ok (.goto 5, 3) := by decide +kernel
theorem d_Reader_readFact_153 : decode prog_8_method_17_code 153 = .ok (.bipush 62, 2) := by decide +kernel
theorem d_Reader_readFact_155 : decode prog_8_method_17_code 155 = .ok (.goto 5, 3) := by decide +kernel
theorem d_Reader_readFact_113 : decode prog_8_method_17_code 113 = .ok (.bipush (-11), 2) := by decide +kernel
theorem d_Reader_readFact_115 : decode prog_8_method_17_code 115 = .ok (.goto 19, 3) := by decide +kernel
theorem d_Reader_readFact_142 : decode prog_8_method_17_code 142 = .ok (.bipush 60, 2) := by decide +kernel
theorem d_Reader_readFact_144 : decode prog_8_method_17_code 144 = .ok (.goto 16, 3) := by decide +kernel
theorem d_Reader_readFact_81 : decode prog_8_method_17_code 81 = .ok (.aload_n 0, 1) := by decide +kernel
theorem d_Reader_readFact_82 : decode prog_8_method_17_code 82 = .ok (.invokevirtual 53, 3) := by decide +kernel
theorem d_Reader_readFact_85 : decode prog_8_method_17_code 85 = .ok (.aload_n 0, 1) := by decide +kernel
theorem d_Reader_readFact_86 : decode prog_8_method_17_code 86 = .ok (.getfield 23, 3) := by decide +kernel
theorem d_Reader_readFact_89 : decode prog_8_method_17_code 89 = .ok (.getfield 221, 3) := by decide +kernel
theorem d_Reader_readFact_92 : decode prog_8_method_17_code 92 = .ok (.iconst 1, 1) := by decide +kernel
theorem d_Reader_readFact_93 : decode prog_8_method_17_code 93 = .ok (.invokevirtual 250, 3) := by decide +kernel
theorem d_Reader_readFact_96 : decode prog_8_method_17_code 96 = .ok (.goto 83, 3) := by decide +kernel
theorem d_Reader_readFact_48 : decode prog_8_method_17_code 48 = .ok (.aload_n 0, 1) := by decide +kernel
theorem d_Reader_readFact_49 : decode prog_8_method_17_code 49 = .ok (.iload_n 1, 1) := by decide +kernel
theorem d_Reader_readFact_50 : decode prog_8_method_17_code 50 = .ok (.invokevirtual 256, 3) := by decide +kernel
theorem d_Reader_readFact_53 : decode prog_8_method_17_code 53 = .ok (.ifCond .eq 126, 3) := by decide +kernel
theorem d_Reader_readFact_9 : decode prog_8_method_17_code 9 = .ok (.aload_n 0, 1) := by decide +kernel
theorem d_Reader_readFact_10 : decode prog_8_method_17_code 10 = .ok (.iload_n 1, 1) := by decide +kernel
theorem d_Reader_readFact_11 : decode prog_8_method_17_code 11 = .ok (.invokevirtual 256, 3) := by decide +kernel
theorem d_Reader_readFact_14 : decode prog_8_method_17_code 14 = .ok (.ifCond .eq 165, 3) := by decide +kernel
theorem d_Reader_readBothFacts_0 : decode prog_8_method_16_code 0 = .ok (.aload_n 0, 1) := by decide +kernel
theorem d_Reader_readBothFacts_1 : decode prog_8_method_16_code 1 = .ok (.iload_n 1, 1) := by decide +kernel
theorem d_Reader_readBothFacts_2 : decode prog_8_method_16_code 2 = .ok (.invokevirtual 253, 3) := by decide +kernel
theorem kw_Reader_253 : KW "NineBoards$Reader" 253 ⟨"NineBoards$Reader", "readFact", "(I)V"⟩ prog_8_method_17_code 3 none 1 := ⟨(mt_3 (List.mem_of_getElem? (i := 141) rfl) rfl), (mt_1 (List.mem_of_getElem? (i := 10) rfl) rfl), (mt_3 (List.mem_of_getElem? (i := 144) rfl) rfl), by decide +kernel⟩
theorem kv_Reader_readFact : Cond.instanceMethod ⟨"NineBoards$Reader", "readFact", "(I)V"⟩ ∈ TB ∧ Cond.selects "NineBoards$Reader" ⟨"NineBoards$Reader", "readFact", "(I)V"⟩ ⟨"NineBoards$Reader", "readFact", "(I)V"⟩ ∈ TB := ⟨(mt_3 (List.mem_of_getElem? (i := 143) rfl) rfl), (ms_0 (List.mem_map.mpr ⟨(⟨"NineBoards$Reader", "readFact", "(I)V"⟩, 12), List.mem_of_getElem? (i := 20) (by decide +kernel), rfl⟩) rfl)⟩
theorem d_Reader_readBothFacts_5 : decode prog_8_method_16_code 5 = .ok (.iconst 0, 1) := by decide +kernel
theorem d_Reader_readBothFacts_6 : decode prog_8_method_16_code 6 = .ok (.istore_n 2, 1) := by decide +kernel
theorem d_Reader_readBothFacts_7 : decode prog_8_method_16_code 7 = .ok (.iload_n 2, 1) := by decide +kernel
theorem d_Reader_readBothFacts_8 : decode prog_8_method_16_code 8 = .ok (.sipush 1600, 3) := by decide +kernel
theorem d_Reader_readBothFacts_11 : decode prog_8_method_16_code 11 = .ok (.if_icmp .ge 39, 3) := by decide +kernel
theorem d_Reader_readBothFacts_50 : decode prog_8_method_16_code 50 = .ok (.return_, 1) := by decide +kernel
theorem d_Reader_readBothFacts_14 : decode prog_8_method_16_code 14 = .ok (.aload_n 0, 1) := by decide +kernel
theorem d_Reader_readBothFacts_15 : decode prog_8_method_16_code 15 = .ok (.bipush 25, 2) := by decide +kernel
theorem d_Reader_readBothFacts_17 : decode prog_8_method_16_code 17 = .ok (.invokevirtual 69, 3) := by decide +kernel
theorem d_Reader_readBothFacts_20 : decode prog_8_method_16_code 20 = .ok (.ifCond .eq 30, 3) := by decide +kernel
theorem d_Reader_readBothFacts_23 : decode prog_8_method_16_code 23 = .ok (.aload_n 0, 1) := by decide +kernel
theorem d_Reader_readBothFacts_24 : decode prog_8_method_16_code 24 = .ok (.invokevirtual 53, 3) := by decide +kernel
theorem d_Reader_readBothFacts_27 : decode prog_8_method_16_code 27 = .ok (.aload_n 0, 1) := by decide +kernel
theorem d_Reader_readBothFacts_28 : decode prog_8_method_16_code 28 = .ok (.iload_n 1, 1) := by decide +kernel
theorem d_Reader_readBothFacts_29 : decode prog_8_method_16_code 29 = .ok (.invokevirtual 253, 3) := by decide +kernel
theorem d_Reader_readBothFacts_32 : decode prog_8_method_16_code 32 = .ok (.aload_n 0, 1) := by decide +kernel
theorem d_Reader_readBothFacts_33 : decode prog_8_method_16_code 33 = .ok (.getfield 23, 3) := by decide +kernel
theorem d_Reader_readBothFacts_36 : decode prog_8_method_16_code 36 = .ok (.getfield 221, 3) := by decide +kernel
theorem d_Reader_readBothFacts_39 : decode prog_8_method_16_code 39 = .ok (.bipush (-14), 2) := by decide +kernel
theorem d_Reader_readBothFacts_41 : decode prog_8_method_16_code 41 = .ok (.invokevirtual 250, 3) := by decide +kernel
theorem d_Reader_readBothFacts_44 : decode prog_8_method_16_code 44 = .ok (.iinc 2 1, 3) := by decide +kernel
theorem d_Reader_readBothFacts_47 : decode prog_8_method_16_code 47 = .ok (.goto (-40), 3) := by decide +kernel
theorem d_Reader_readTest_0 : decode prog_8_method_15_code 0 = .ok (.aload_n 0, 1) := by decide +kernel
theorem d_Reader_readTest_1 : decode prog_8_method_15_code 1 = .ok (.iload_n 1, 1) := by decide +kernel
theorem d_Reader_readTest_2 : decode prog_8_method_15_code 2 = .ok (.invokevirtual 247, 3) := by decide +kernel
theorem kw_Reader_247 : KW "NineBoards$Reader" 247 ⟨"NineBoards$Reader", "readBothFacts", "(I)V"⟩ prog_8_method_16_code 3 none 1 := ⟨(mt_3 (List.mem_of_getElem? (i := 137) rfl) rfl), (mt_1 (List.mem_of_getElem? (i := 10) rfl) rfl), (mt_3 (List.mem_of_getElem? (i := 140) rfl) rfl), by decide +kernel⟩
theorem kv_Reader_readBothFacts : Cond.instanceMethod ⟨"NineBoards$Reader", "readBothFacts", "(I)V"⟩ ∈ TB ∧ Cond.selects "NineBoards$Reader" ⟨"NineBoards$Reader", "readBothFacts", "(I)V"⟩ ⟨"NineBoards$Reader", "readBothFacts", "(I)V"⟩ ∈ TB := ⟨(mt_3 (List.mem_of_getElem? (i := 139) rfl) rfl), (ms_0 (List.mem_map.mpr ⟨(⟨"NineBoards$Reader", "readBothFacts", "(I)V"⟩, 12), List.mem_of_getElem? (i := 19) (by decide +kernel), rfl⟩) rfl)⟩
theorem d_Reader_readTest_5 : decode prog_8_method_15_code 5 = .ok (.iconst 0, 1) := by decide +kernel
theorem d_Reader_readTest_6 : decode prog_8_method_15_code 6 = .ok (.istore_n 2, 1) := by decide +kernel
theorem d_Reader_readTest_7 : decode prog_8_method_15_code 7 = .ok (.iload_n 2, 1) := by decide +kernel
theorem d_Reader_readTest_8 : decode prog_8_method_15_code 8 = .ok (.sipush 1600, 3) := by decide +kernel
theorem d_Reader_readTest_11 : decode prog_8_method_15_code 11 = .ok (.if_icmp .ge 39, 3) := by decide +kernel
theorem d_Reader_readTest_50 : decode prog_8_method_15_code 50 = .ok (.return_, 1) := by decide +kernel
theorem d_Reader_readTest_14 : decode prog_8_method_15_code 14 = .ok (.aload_n 0, 1) := by decide +kernel
theorem d_Reader_readTest_15 : decode prog_8_method_15_code 15 = .ok (.bipush 24, 2) := by decide +kernel
theorem d_Reader_readTest_17 : decode prog_8_method_15_code 17 = .ok (.invokevirtual 69, 3) := by decide +kernel
theorem d_Reader_readTest_20 : decode prog_8_method_15_code 20 = .ok (.ifCond .eq 30, 3) := by decide +kernel
theorem d_Reader_readTest_23 : decode prog_8_method_15_code 23 = .ok (.aload_n 0, 1) := by decide +kernel
theorem d_Reader_readTest_24 : decode prog_8_method_15_code 24 = .ok (.invokevirtual 53, 3) := by decide +kernel
theorem d_Reader_readTest_27 : decode prog_8_method_15_code 27 = .ok (.aload_n 0, 1) := by decide +kernel
theorem d_Reader_readTest_28 : decode prog_8_method_15_code 28 = .ok (.iload_n 1, 1) := by decide +kernel
theorem d_Reader_readTest_29 : decode prog_8_method_15_code 29 = .ok (.invokevirtual 247, 3) := by decide +kernel
theorem d_Reader_readTest_32 : decode prog_8_method_15_code 32 = .ok (.aload_n 0, 1) := by decide +kernel
theorem d_Reader_readTest_33 : decode prog_8_method_15_code 33 = .ok (.getfield 23, 3) := by decide +kernel
theorem d_Reader_readTest_36 : decode prog_8_method_15_code 36 = .ok (.getfield 221, 3) := by decide +kernel
theorem d_Reader_readTest_39 : decode prog_8_method_15_code 39 = .ok (.bipush (-15), 2) := by decide +kernel
theorem d_Reader_readTest_41 : decode prog_8_method_15_code 41 = .ok (.invokevirtual 250, 3) := by decide +kernel
theorem d_Reader_readTest_44 : decode prog_8_method_15_code 44 = .ok (.iinc 2 1, 3) := by decide +kernel
theorem d_Reader_readTest_47 : decode prog_8_method_15_code 47 = .ok (.goto (-40), 3) := by decide +kernel
theorem d_Reader_readPair_29 : decode prog_8_method_21_code 29 = .ok (.aload_n 0, 1) := by decide +kernel
theorem d_Reader_readPair_30 : decode prog_8_method_21_code 30 = .ok (.iload_n 1, 1) := by decide +kernel
theorem d_Reader_readPair_31 : decode prog_8_method_21_code 31 = .ok (.iconst 1, 1) := by decide +kernel
theorem d_Reader_readPair_32 : decode prog_8_method_21_code 32 = .ok (.iadd, 1) := by decide +kernel
theorem d_Reader_readPair_33 : decode prog_8_method_21_code 33 = .ok (.invokevirtual 235, 3) := by decide +kernel
theorem d_Reader_readPair_36 : decode prog_8_method_21_code 36 = .ok (.aload_n 0, 1) := by decide +kernel
theorem d_Reader_readPair_37 : decode prog_8_method_21_code 37 = .ok (.bipush 44, 2) := by decide +kernel
theorem d_Reader_readPair_39 : decode prog_8_method_21_code 39 = .ok (.invokevirtual 101, 3) := by decide +kernel
theorem d_Reader_readPair_42 : decode prog_8_method_21_code 42 = .ok (.aload_n 0, 1) := by decide +kernel
theorem d_Reader_readPair_43 : decode prog_8_method_21_code 43 = .ok (.iload_n 1, 1) := by decide +kernel
theorem d_Reader_readPair_44 : decode prog_8_method_21_code 44 = .ok (.iconst 1, 1) := by decide +kernel
theorem d_Reader_readPair_45 : decode prog_8_method_21_code 45 = .ok (.iadd, 1) := by decide +kernel
theorem d_Reader_readPair_46 : decode prog_8_method_21_code 46 = .ok (.invokevirtual 235, 3) := by decide +kernel
theorem d_Reader_readPair_49 : decode prog_8_method_21_code 49 = .ok (.aload_n 0, 1) := by decide +kernel
theorem d_Reader_readPair_50 : decode prog_8_method_21_code 50 = .ok (.bipush 41, 2) := by decide +kernel
theorem d_Reader_readPair_52 : decode prog_8_method_21_code 52 = .ok (.invokevirtual 101, 3) := by decide +kernel
theorem d_Reader_readPair_55 : decode prog_8_method_21_code 55 = .ok (.aload_n 0, 1) := by decide +kernel
theorem d_Reader_readPair_56 : decode prog_8_method_21_code 56 = .ok (.getfield 23, 3) := by decide +kernel
theorem d_Reader_readPair_59 : decode prog_8_method_21_code 59 = .ok (.getfield 221, 3) := by decide +kernel
theorem d_Reader_readPair_62 : decode prog_8_method_21_code 62 = .ok (.iload_n 2, 1) := by decide +kernel
theorem d_Reader_readPair_63 : decode prog_8_method_21_code 63 = .ok (.invokevirtual 250, 3) := by decide +kernel
theorem d_Reader_readPart_189 : decode prog_8_method_20_code 189 = .ok (.aload_n 0, 1) := by decide +kernel
theorem d_Reader_readPart_190 : decode prog_8_method_20_code 190 = .ok (.iload_n 1, 1) := by decide +kernel
theorem d_Reader_readPart_191 : decode prog_8_method_20_code 191 = .ok (.iconst 1, 1) := by decide +kernel
theorem d_Reader_readPart_192 : decode prog_8_method_20_code 192 = .ok (.iadd, 1) := by decide +kernel
theorem d_Reader_readPart_193 : decode prog_8_method_20_code 193 = .ok (.invokevirtual 235, 3) := by decide +kernel
theorem d_Reader_readPart_196 : decode prog_8_method_20_code 196 = .ok (.aload_n 0, 1) := by decide +kernel
theorem d_Reader_readPart_197 : decode prog_8_method_20_code 197 = .ok (.bipush 41, 2) := by decide +kernel
theorem d_Reader_readPart_199 : decode prog_8_method_20_code 199 = .ok (.invokevirtual 101, 3) := by decide +kernel
theorem d_Reader_readFact_56 : decode prog_8_method_17_code 56 = .ok (.aload_n 0, 1) := by decide +kernel
theorem d_Reader_readFact_57 : decode prog_8_method_17_code 57 = .ok (.iload_n 1, 1) := by decide +kernel
theorem d_Reader_readFact_58 : decode prog_8_method_17_code 58 = .ok (.iconst 1, 1) := by decide +kernel
theorem d_Reader_readFact_59 : decode prog_8_method_17_code 59 = .ok (.iadd, 1) := by decide +kernel
theorem d_Reader_readFact_60 : decode prog_8_method_17_code 60 = .ok (.invokevirtual 241, 3) := by decide +kernel
theorem kw_Reader_241 : KW "NineBoards$Reader" 241 ⟨"NineBoards$Reader", "readTest", "(I)V"⟩ prog_8_method_15_code 3 none 1 := ⟨(mt_3 (List.mem_of_getElem? (i := 133) rfl) rfl), (mt_1 (List.mem_of_getElem? (i := 10) rfl) rfl), (mt_3 (List.mem_of_getElem? (i := 136) rfl) rfl), by decide +kernel⟩
theorem kv_Reader_readTest : Cond.instanceMethod ⟨"NineBoards$Reader", "readTest", "(I)V"⟩ ∈ TB ∧ Cond.selects "NineBoards$Reader" ⟨"NineBoards$Reader", "readTest", "(I)V"⟩ ⟨"NineBoards$Reader", "readTest", "(I)V"⟩ ∈ TB := ⟨(mt_3 (List.mem_of_getElem? (i := 135) rfl) rfl), (ms_0 (List.mem_map.mpr ⟨(⟨"NineBoards$Reader", "readTest", "(I)V"⟩, 12), List.mem_of_getElem? (i := 18) (by decide +kernel), rfl⟩) rfl)⟩
theorem d_Reader_readFact_63 : decode prog_8_method_17_code 63 = .ok (.aload_n 0, 1) := by decide +kernel
theorem d_Reader_readFact_64 : decode prog_8_method_17_code 64 = .ok (.bipush 93, 2) := by decide +kernel
theorem d_Reader_readFact_66 : decode prog_8_method_17_code 66 = .ok (.invokevirtual 101, 3) := by decide +kernel
theorem d_Reader_readFact_69 : decode prog_8_method_17_code 69 = .ok (.goto 110, 3) := by decide +kernel
theorem d_Reader_readFact_17 : decode prog_8_method_17_code 17 = .ok (.aload_n 0, 1) := by decide +kernel
theorem d_Reader_readFact_18 : decode prog_8_method_17_code 18 = .ok (.iload_n 1, 1) := by decide +kernel
theorem d_Reader_readFact_19 : decode prog_8_method_17_code 19 = .ok (.iconst 1, 1) := by decide +kernel
theorem d_Reader_readFact_20 : decode prog_8_method_17_code 20 = .ok (.iadd, 1) := by decide +kernel
theorem d_Reader_readFact_21 : decode prog_8_method_17_code 21 = .ok (.invokevirtual 253, 3) := by decide +kernel
theorem d_Reader_readFact_24 : decode prog_8_method_17_code 24 = .ok (.aload_n 0, 1) := by decide +kernel
theorem d_Reader_readFact_25 : decode prog_8_method_17_code 25 = .ok (.getfield 23, 3) := by decide +kernel
theorem d_Reader_readFact_28 : decode prog_8_method_17_code 28 = .ok (.getfield 221, 3) := by decide +kernel
theorem d_Reader_readFact_31 : decode prog_8_method_17_code 31 = .ok (.bipush (-4), 2) := by decide +kernel
theorem d_Reader_readFact_33 : decode prog_8_method_17_code 33 = .ok (.invokevirtual 250, 3) := by decide +kernel
theorem d_Reader_readFact_36 : decode prog_8_method_17_code 36 = .ok (.goto 143, 3) := by decide +kernel
