theorem d_Reader_advance_46 : decode prog_8_method_32_code 46 = .ok (.aload_n 0, 1) := by decide +kernel
theorem d_Reader_advance_47 : decode prog_8_method_32_code 47 = .ok (.getfield 47, 3) := by decide +kernel
theorem d_Reader_advance_50 : decode prog_8_method_32_code 50 = .ok (.iload_n 3, 1) := by decide +kernel
theorem d_Reader_advance_51 : decode prog_8_method_32_code 51 = .ok (.if_icmp .ge 50, 3) := by decide +kernel
theorem d_Reader_advance_54 : decode prog_8_method_32_code 54 = .ok (.aload_n 0, 1) := by decide +kernel
theorem d_Reader_advance_55 : decode prog_8_method_32_code 55 = .ok (.getfield 19, 3) := by decide +kernel
theorem d_Reader_advance_58 : decode prog_8_method_32_code 58 = .ok (.getfield 288, 3) := by decide +kernel
theorem d_Reader_advance_61 : decode prog_8_method_32_code 61 = .ok (.aload_n 0, 1) := by decide +kernel
theorem d_Reader_advance_62 : decode prog_8_method_32_code 62 = .ok (.getfield 47, 3) := by decide +kernel
theorem d_Reader_advance_65 : decode prog_8_method_32_code 65 = .ok (.iaload, 1) := by decide +kernel
theorem d_Reader_advance_66 : decode prog_8_method_32_code 66 = .ok (.bipush 32, 2) := by decide +kernel
theorem d_Reader_advance_68 : decode prog_8_method_32_code 68 = .ok (.if_icmp .eq 20, 3) := by decide +kernel
theorem d_Reader_advance_88 : decode prog_8_method_32_code 88 = .ok (.aload_n 0, 1) := by decide +kernel
theorem d_Reader_advance_89 : decode prog_8_method_32_code 89 = .ok (.dup, 1) := by decide +kernel
theorem d_Reader_advance_90 : decode prog_8_method_32_code 90 = .ok (.getfield 47, 3) := by decide +kernel
theorem d_Reader_advance_93 : decode prog_8_method_32_code 93 = .ok (.iconst 1, 1) := by decide +kernel
theorem d_Reader_advance_94 : decode prog_8_method_32_code 94 = .ok (.iadd, 1) := by decide +kernel
theorem d_Reader_advance_95 : decode prog_8_method_32_code 95 = .ok (.putfield 47, 3) := by decide +kernel
theorem d_Reader_advance_98 : decode prog_8_method_32_code 98 = .ok (.goto (-52), 3) := by decide +kernel
theorem d_Reader_advance_71 : decode prog_8_method_32_code 71 = .ok (.aload_n 0, 1) := by decide +kernel
theorem d_Reader_advance_72 : decode prog_8_method_32_code 72 = .ok (.getfield 19, 3) := by decide +kernel
theorem d_Reader_advance_75 : decode prog_8_method_32_code 75 = .ok (.getfield 288, 3) := by decide +kernel
theorem d_Reader_advance_78 : decode prog_8_method_32_code 78 = .ok (.aload_n 0, 1) := by decide +kernel
theorem d_Reader_advance_79 : decode prog_8_method_32_code 79 = .ok (.getfield 47, 3) := by decide +kernel
theorem d_Reader_advance_82 : decode prog_8_method_32_code 82 = .ok (.iaload, 1) := by decide +kernel
theorem d_Reader_advance_83 : decode prog_8_method_32_code 83 = .ok (.bipush 10, 2) := by decide +kernel
theorem d_Reader_advance_85 : decode prog_8_method_32_code 85 = .ok (.if_icmp .ne 16, 3) := by decide +kernel
theorem d_Reader_advance_176 : decode prog_8_method_32_code 176 = .ok (.aload_n 0, 1) := by decide +kernel
theorem d_Reader_advance_177 : decode prog_8_method_32_code 177 = .ok (.getfield 47, 3) := by decide +kernel
theorem d_Reader_advance_180 : decode prog_8_method_32_code 180 = .ok (.iload_n 3, 1) := by decide +kernel
theorem d_Reader_advance_181 : decode prog_8_method_32_code 181 = .ok (.if_icmp .ge 46, 3) := by decide +kernel
theorem d_Reader_advance_184 : decode prog_8_method_32_code 184 = .ok (.aload_n 0, 1) := by decide +kernel
theorem d_Reader_advance_185 : decode prog_8_method_32_code 185 = .ok (.getfield 50, 3) := by decide +kernel
theorem d_Reader_advance_188 : decode prog_8_method_32_code 188 = .ok (.iconst 3, 1) := by decide +kernel
theorem d_Reader_advance_189 : decode prog_8_method_32_code 189 = .ok (.if_icmp .eq 38, 3) := by decide +kernel
theorem d_Reader_advance_192 : decode prog_8_method_32_code 192 = .ok (.aload_n 0, 1) := by decide +kernel
theorem d_Reader_advance_193 : decode prog_8_method_32_code 193 = .ok (.getfield 19, 3) := by decide +kernel
theorem d_Reader_advance_196 : decode prog_8_method_32_code 196 = .ok (.getfield 288, 3) := by decide +kernel
theorem d_Reader_advance_199 : decode prog_8_method_32_code 199 = .ok (.aload_n 0, 1) := by decide +kernel
theorem d_Reader_advance_200 : decode prog_8_method_32_code 200 = .ok (.getfield 47, 3) := by decide +kernel
theorem d_Reader_advance_203 : decode prog_8_method_32_code 203 = .ok (.iaload, 1) := by decide +kernel
theorem d_Reader_advance_204 : decode prog_8_method_32_code 204 = .ok (.invokestatic 296, 3) := by decide +kernel
theorem kw_Reader_296 : KW "NineBoards$Reader" 296 ⟨"NineBoards$Reader", "sortOf", "(I)I"⟩ prog_8_method_33_code 1 (some .int) 1 := ⟨(mt_3 (List.mem_of_getElem? (i := 58) rfl) rfl), (mt_1 (List.mem_of_getElem? (i := 10) rfl) rfl), (mt_3 (List.mem_of_getElem? (i := 60) rfl) rfl), by decide +kernel⟩
theorem ks_Reader_sortOf : Cond.static ⟨"NineBoards$Reader", "sortOf", "(I)I"⟩ ∈ TB := (mt_3 (List.mem_of_getElem? (i := 59) rfl) rfl)
theorem d_Reader_advance_207 : decode prog_8_method_32_code 207 = .ok (.aload_n 0, 1) := by decide +kernel
theorem d_Reader_advance_208 : decode prog_8_method_32_code 208 = .ok (.getfield 50, 3) := by decide +kernel
theorem d_Reader_advance_211 : decode prog_8_method_32_code 211 = .ok (.if_icmp .ne 16, 3) := by decide +kernel
theorem d_Reader_advance_214 : decode prog_8_method_32_code 214 = .ok (.aload_n 0, 1) := by decide +kernel
theorem d_Reader_advance_215 : decode prog_8_method_32_code 215 = .ok (.dup, 1) := by decide +kernel
theorem d_Reader_advance_216 : decode prog_8_method_32_code 216 = .ok (.getfield 47, 3) := by decide +kernel
theorem d_Reader_advance_219 : decode prog_8_method_32_code 219 = .ok (.iconst 1, 1) := by decide +kernel
theorem d_Reader_advance_220 : decode prog_8_method_32_code 220 = .ok (.iadd, 1) := by decide +kernel
theorem d_Reader_advance_221 : decode prog_8_method_32_code 221 = .ok (.putfield 47, 3) := by decide +kernel
theorem d_Reader_advance_224 : decode prog_8_method_32_code 224 = .ok (.goto (-48), 3) := by decide +kernel
theorem d_Reader_advance_21 : decode prog_8_method_32_code 21 = .ok (.istore_n 1, 1) := by decide +kernel
theorem d_Reader_advance_22 : decode prog_8_method_32_code 22 = .ok (.aload_n 0, 1) := by decide +kernel
theorem d_Reader_advance_23 : decode prog_8_method_32_code 23 = .ok (.getfield 47, 3) := by decide +kernel
theorem d_Reader_advance_26 : decode prog_8_method_32_code 26 = .ok (.istore_n 2, 1) := by decide +kernel
theorem d_Reader_advance_27 : decode prog_8_method_32_code 27 = .ok (.aload_n 0, 1) := by decide +kernel
theorem d_Reader_advance_28 : decode prog_8_method_32_code 28 = .ok (.getfield 19, 3) := by decide +kernel
theorem d_Reader_advance_31 : decode prog_8_method_32_code 31 = .ok (.getfield 285, 3) := by decide +kernel
theorem d_Reader_advance_34 : decode prog_8_method_32_code 34 = .ok (.aload_n 0, 1) := by decide +kernel
theorem d_Reader_advance_35 : decode prog_8_method_32_code 35 = .ok (.getfield 19, 3) := by decide +kernel
theorem d_Reader_advance_38 : decode prog_8_method_32_code 38 = .ok (.getfield 288, 3) := by decide +kernel
theorem d_Reader_advance_41 : decode prog_8_method_32_code 41 = .ok (.arraylength, 1) := by decide +kernel
theorem d_Reader_advance_42 : decode prog_8_method_32_code 42 = .ok (.invokestatic 291, 3) := by decide +kernel
theorem d_Reader_advance_45 : decode prog_8_method_32_code 45 = .ok (.istore_n 3, 1) := by decide +kernel
theorem d_Reader_advance_101 : decode prog_8_method_32_code 101 = .ok (.aload_n 0, 1) := by decide +kernel
theorem d_Reader_advance_102 : decode prog_8_method_32_code 102 = .ok (.aload_n 0, 1) := by decide +kernel
theorem d_Reader_advance_103 : decode prog_8_method_32_code 103 = .ok (.getfield 47, 3) := by decide +kernel
theorem d_Reader_advance_106 : decode prog_8_method_32_code 106 = .ok (.putfield 62, 3) := by decide +kernel
theorem d_Reader_advance_109 : decode prog_8_method_32_code 109 = .ok (.aload_n 0, 1) := by decide +kernel
theorem d_Reader_advance_110 : decode prog_8_method_32_code 110 = .ok (.getfield 47, 3) := by decide +kernel
theorem d_Reader_advance_113 : decode prog_8_method_32_code 113 = .ok (.iload_n 3, 1) := by decide +kernel
theorem d_Reader_advance_114 : decode prog_8_method_32_code 114 = .ok (.if_icmp .lt 9, 3) := by decide +kernel
theorem d_Reader_advance_123 : decode prog_8_method_32_code 123 = .ok (.aload_n 0, 1) := by decide +kernel
theorem d_Reader_advance_124 : decode prog_8_method_32_code 124 = .ok (.aload_n 0, 1) := by decide +kernel
theorem d_Reader_advance_125 : decode prog_8_method_32_code 125 = .ok (.getfield 19, 3) := by decide +kernel
theorem d_Reader_advance_128 : decode prog_8_method_32_code 128 = .ok (.getfield 288, 3) := by decide +kernel
theorem d_Reader_advance_131 : decode prog_8_method_32_code 131 = .ok (.aload_n 0, 1) := by decide +kernel
theorem d_Reader_advance_132 : decode prog_8_method_32_code 132 = .ok (.getfield 47, 3) := by decide +kernel
theorem d_Reader_advance_135 : decode prog_8_method_32_code 135 = .ok (.iaload, 1) := by decide +kernel
theorem d_Reader_advance_136 : decode prog_8_method_32_code 136 = .ok (.putfield 272, 3) := by decide +kernel
theorem pf_Reader_272 : PF "NineBoards$Reader" 272 5 11 (.int) false := ⟨_, _, _, ct_Reader, rfl, ci_Reader, by decide, (mt_2 (List.mem_of_getElem? (i := 175) rfl) rfl), cp_Reader, cn_Reader, rfl, by decide +kernel, (fun h => by cases h)⟩
theorem d_Reader_advance_163 : decode prog_8_method_32_code 163 = .ok (.putfield 50, 3) := by decide +kernel
theorem d_Reader_advance_166 : decode prog_8_method_32_code 166 = .ok (.aload_n 0, 1) := by decide +kernel
theorem d_Reader_advance_167 : decode prog_8_method_32_code 167 = .ok (.dup, 1) := by decide +kernel
theorem d_Reader_advance_168 : decode prog_8_method_32_code 168 = .ok (.getfield 47, 3) := by decide +kernel
theorem d_Reader_advance_171 : decode prog_8_method_32_code 171 = .ok (.iconst 1, 1) := by decide +kernel
theorem d_Reader_advance_172 : decode prog_8_method_32_code 172 = .ok (.iadd, 1) := by decide +kernel
theorem d_Reader_advance_173 : decode prog_8_method_32_code 173 = .ok (.putfield 47, 3) := by decide +kernel
theorem d_Reader_advance_227 : decode prog_8_method_32_code 227 = .ok (.aload_n 0, 1) := by decide +kernel
theorem d_Reader_advance_228 : decode prog_8_method_32_code 228 = .ok (.getfield 50, 3) := by decide +kernel
theorem d_Reader_advance_231 : decode prog_8_method_32_code 231 = .ok (.iconst 1, 1) := by decide +kernel
theorem d_Reader_advance_232 : decode prog_8_method_32_code 232 = .ok (.if_icmp .ne 10, 3) := by decide +kernel
theorem d_Reader_advance_242 : decode prog_8_method_32_code 242 = .ok (.aload_n 0, 1) := by decide +kernel
theorem d_Reader_advance_243 : decode prog_8_method_32_code 243 = .ok (.getfield 50, 3) := by decide +kernel
theorem d_Reader_advance_246 : decode prog_8_method_32_code 246 = .ok (.iconst 2, 1) := by decide +kernel
theorem d_Reader_advance_247 : decode prog_8_method_32_code 247 = .ok (.if_icmp .ne 7, 3) := by decide +kernel
theorem d_Reader_advance_254 : decode prog_8_method_32_code 254 = .ok (.return_, 1) := by decide +kernel
theorem d_Reader_advance_250 : decode prog_8_method_32_code 250 = .ok (.aload_n 0, 1) := by decide +kernel
theorem d_Reader_advance_251 : decode prog_8_method_32_code 251 = .ok (.invokevirtual 302, 3) := by decide +kernel
theorem kw_Reader_302 : KW "NineBoards$Reader" 302 ⟨"NineBoards$Reader", "knowNumber", "()V"⟩ prog_8_method_35_code 2 none 0 := ⟨(mt_3 (List.mem_of_getElem? (i := 65) rfl) rfl), (mt_1 (List.mem_of_getElem? (i := 10) rfl) rfl), (mt_3 (List.mem_of_getElem? (i := 68) rfl) rfl), by decide +kernel⟩
theorem kv_Reader_knowNumber : Cond.instanceMethod ⟨"NineBoards$Reader", "knowNumber", "()V"⟩ ∈ TB ∧ Cond.selects "NineBoards$Reader" ⟨"NineBoards$Reader", "knowNumber", "()V"⟩ ⟨"NineBoards$Reader", "knowNumber", "()V"⟩ ∈ TB := ⟨(mt_3 (List.mem_of_getElem? (i := 67) rfl) rfl), (ms_0 (List.mem_map.mpr ⟨(⟨"NineBoards$Reader", "knowNumber", "()V"⟩, 12), List.mem_of_getElem? (i := 2) (by decide +kernel), rfl⟩) rfl)⟩
theorem d_Reader_advance_235 : decode prog_8_method_32_code 235 = .ok (.aload_n 0, 1) := by decide +kernel
theorem d_Reader_advance_236 : decode prog_8_method_32_code 236 = .ok (.invokevirtual 299, 3) := by decide +kernel
theorem kw_Reader_299 : KW "NineBoards$Reader" 299 ⟨"NineBoards$Reader", "knowWord", "()V"⟩ prog_8_method_34_code 2 none 0 := ⟨(mt_3 (List.mem_of_getElem? (i := 61) rfl) rfl), (mt_1 (List.mem_of_getElem? (i := 10) rfl) rfl), (mt_3 (List.mem_of_getElem? (i := 64) rfl) rfl), by decide +kernel⟩
theorem kv_Reader_knowWord : Cond.instanceMethod ⟨"NineBoards$Reader", "knowWord", "()V"⟩ ∈ TB ∧ Cond.selects "NineBoards$Reader" ⟨"NineBoards$Reader", "knowWord", "()V"⟩ ⟨"NineBoards$Reader", "knowWord", "()V"⟩ ∈ TB := ⟨(mt_3 (List.mem_of_getElem? (i := 63) rfl) rfl), (ms_0 (List.mem_map.mpr ⟨(⟨"NineBoards$Reader", "knowWord", "()V"⟩, 12), List.mem_of_getElem? (i := 1) (by decide +kernel), rfl⟩) rfl)⟩
theorem d_Reader_advance_239 : decode prog_8_method_32_code 239 = .ok (.goto 15, 3) := by decide +kernel
theorem d_Reader_advance_139 : decode prog_8_method_32_code 139 = .ok (.aload_n 0, 1) := by decide +kernel
theorem d_Reader_advance_140 : decode prog_8_method_32_code 140 = .ok (.iload_n 1, 1) := by decide +kernel
theorem d_Reader_advance_141 : decode prog_8_method_32_code 141 = .ok (.ifCond .eq 15, 3) := by decide +kernel
theorem d_Reader_advance_156 : decode prog_8_method_32_code 156 = .ok (.aload_n 0, 1) := by decide +kernel
theorem d_Reader_advance_157 : decode prog_8_method_32_code 157 = .ok (.getfield 272, 3) := by decide +kernel
theorem d_Reader_advance_160 : decode prog_8_method_32_code 160 = .ok (.invokestatic 296, 3) := by decide +kernel
theorem d_Reader_advance_144 : decode prog_8_method_32_code 144 = .ok (.aload_n 0, 1) := by decide +kernel
theorem d_Reader_advance_145 : decode prog_8_method_32_code 145 = .ok (.getfield 47, 3) := by decide +kernel
theorem d_Reader_advance_148 : decode prog_8_method_32_code 148 = .ok (.iload_n 2, 1) := by decide +kernel
theorem d_Reader_advance_149 : decode prog_8_method_32_code 149 = .ok (.if_icmp .ne 7, 3) := by decide +kernel
theorem d_Reader_advance_152 : decode prog_8_method_32_code 152 = .ok (.iconst 3, 1) := by decide +kernel
theorem d_Reader_advance_153 : decode prog_8_method_32_code 153 = .ok (.goto 10, 3) := by decide +kernel
theorem d_Reader_advance_117 : decode prog_8_method_32_code 117 = .ok (.aload_n 0, 1) := by decide +kernel
theorem d_Reader_advance_118 : decode prog_8_method_32_code 118 = .ok (.iconst 0, 1) := by decide +kernel
theorem d_Reader_advance_119 : decode prog_8_method_32_code 119 = .ok (.putfield 50, 3) := by decide +kernel
theorem d_Reader_advance_122 : decode prog_8_method_32_code 122 = .ok (.return_, 1) := by decide +kernel
theorem d_Reader_advance_0 : decode prog_8_method_32_code 0 = .ok (.aload_n 0, 1) := by decide +kernel
theorem d_Reader_advance_1 : decode prog_8_method_32_code 1 = .ok (.getfield 50, 3) := by decide +kernel
theorem d_Reader_advance_4 : decode prog_8_method_32_code 4 = .ok (.iconst 1, 1) := by decide +kernel
theorem d_Reader_advance_5 : decode prog_8_method_32_code 5 = .ok (.if_icmp .eq 11, 3) := by decide +kernel
theorem d_Reader_advance_16 : decode prog_8_method_32_code 16 = .ok (.iconst 1, 1) := by decide +kernel
theorem d_Reader_advance_17 : decode prog_8_method_32_code 17 = .ok (.goto 4, 3) := by decide +kernel
theorem d_Reader_advance_8 : decode prog_8_method_32_code 8 = .ok (.aload_n 0, 1) := by decide +kernel
theorem d_Reader_advance_9 : decode prog_8_method_32_code 9 = .ok (.getfield 50, 3) := by decide +kernel
theorem d_Reader_advance_12 : decode prog_8_method_32_code 12 = .ok (.iconst 2, 1) := by decide +kernel
theorem d_Reader_advance_13 : decode prog_8_method_32_code 13 = .ok (.if_icmp .ne 7, 3) := by decide +kernel
theorem d_Reader_advance_20 : decode prog_8_method_32_code 20 = .ok (.iconst 0, 1) := by decide +kernel
