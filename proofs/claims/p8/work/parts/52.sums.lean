theorem d_Model_goesOn_0 : decode prog_13_method_39_code 0 = .ok (.aload_n 0, 1) := by decide +kernel
theorem d_Model_goesOn_1 : decode prog_13_method_39_code 1 = .ok (.getfield 201, 3) := by decide +kernel
theorem d_Model_goesOn_4 : decode prog_13_method_39_code 4 = .ok (.ifCond .ne 114, 3) := by decide +kernel
theorem d_Model_goesOn_7 : decode prog_13_method_39_code 7 = .ok (.aload_n 0, 1) := by decide +kernel
theorem d_Model_goesOn_8 : decode prog_13_method_39_code 8 = .ok (.invokevirtual 213, 3) := by decide +kernel
theorem d_Model_goesOn_11 : decode prog_13_method_39_code 11 = .ok (.bipush 41, 2) := by decide +kernel
theorem d_Model_goesOn_13 : decode prog_13_method_39_code 13 = .ok (.if_icmp .ne 105, 3) := by decide +kernel
theorem d_Model_goesOn_118 : decode prog_13_method_39_code 118 = .ok (.aload_n 0, 1) := by decide +kernel
theorem d_Model_goesOn_119 : decode prog_13_method_39_code 119 = .ok (.bipush 42, 2) := by decide +kernel
theorem d_Model_goesOn_121 : decode prog_13_method_39_code 121 = .ok (.invokevirtual 234, 3) := by decide +kernel
theorem d_Model_goesOn_124 : decode prog_13_method_39_code 124 = .ok (.ifCond .ne 12, 3) := by decide +kernel
theorem d_Model_goesOn_127 : decode prog_13_method_39_code 127 = .ok (.aload_n 0, 1) := by decide +kernel
theorem d_Model_goesOn_128 : decode prog_13_method_39_code 128 = .ok (.bipush 47, 2) := by decide +kernel
theorem d_Model_goesOn_130 : decode prog_13_method_39_code 130 = .ok (.invokevirtual 234, 3) := by decide +kernel
theorem d_Model_goesOn_133 : decode prog_13_method_39_code 133 = .ok (.ifCond .eq 70, 3) := by decide +kernel
theorem d_Model_goesOn_203 : decode prog_13_method_39_code 203 = .ok (.aload_n 0, 1) := by decide +kernel
theorem d_Model_goesOn_204 : decode prog_13_method_39_code 204 = .ok (.bipush 43, 2) := by decide +kernel
theorem d_Model_goesOn_206 : decode prog_13_method_39_code 206 = .ok (.invokevirtual 234, 3) := by decide +kernel
theorem d_Model_goesOn_209 : decode prog_13_method_39_code 209 = .ok (.ifCond .ne 12, 3) := by decide +kernel
theorem d_Model_goesOn_212 : decode prog_13_method_39_code 212 = .ok (.aload_n 0, 1) := by decide +kernel
theorem d_Model_goesOn_213 : decode prog_13_method_39_code 213 = .ok (.bipush 45, 2) := by decide +kernel
theorem d_Model_goesOn_215 : decode prog_13_method_39_code 215 = .ok (.invokevirtual 234, 3) := by decide +kernel
theorem d_Model_goesOn_218 : decode prog_13_method_39_code 218 = .ok (.ifCond .eq 86, 3) := by decide +kernel
theorem d_Model_goesOn_304 : decode prog_13_method_39_code 304 = .ok (.aload_n 0, 1) := by decide +kernel
theorem d_Model_goesOn_305 : decode prog_13_method_39_code 305 = .ok (.invokevirtual 356, 3) := by decide +kernel
theorem kw_Model_356 : KW "NineBoardsModel" 356 ⟨"NineBoardsModel", "mark", "()I"⟩ prog_13_method_36_code 2 (some .int) 0 := ⟨(mt_6 (List.mem_of_getElem? (i := 219) rfl) rfl), (mt_1 (List.mem_of_getElem? (i := 16) rfl) rfl), (mt_6 (List.mem_of_getElem? (i := 222) rfl) rfl), by decide +kernel⟩
theorem kv_Model_mark : Cond.instanceMethod ⟨"NineBoardsModel", "mark", "()I"⟩ ∈ TB ∧ Cond.selects "NineBoardsModel" ⟨"NineBoardsModel", "mark", "()I"⟩ ⟨"NineBoardsModel", "mark", "()I"⟩ ∈ TB := ⟨(mt_6 (List.mem_of_getElem? (i := 221) rfl) rfl), (ms_0 (List.mem_map.mpr ⟨(⟨"NineBoardsModel", "mark", "()I"⟩, 79), List.mem_of_getElem? (i := 76) (by decide +kernel), rfl⟩) rfl)⟩
theorem d_Model_goesOn_308 : decode prog_13_method_39_code 308 = .ok (.bipush 21, 2) := by decide +kernel
theorem d_Model_goesOn_310 : decode prog_13_method_39_code 310 = .ok (.if_icmp .eq 12, 3) := by decide +kernel
theorem d_Model_goesOn_322 : decode prog_13_method_39_code 322 = .ok (.aload_n 0, 1) := by decide +kernel
theorem d_Model_goesOn_323 : decode prog_13_method_39_code 323 = .ok (.bipush 44, 2) := by decide +kernel
theorem d_Model_goesOn_325 : decode prog_13_method_39_code 325 = .ok (.invokevirtual 271, 3) := by decide +kernel
theorem d_Model_goesOn_328 : decode prog_13_method_39_code 328 = .ok (.aload_n 0, 1) := by decide +kernel
theorem d_Model_goesOn_329 : decode prog_13_method_39_code 329 = .ok (.getfield 201, 3) := by decide +kernel
theorem d_Model_goesOn_332 : decode prog_13_method_39_code 332 = .ok (.ifCond .eq 5, 3) := by decide +kernel
theorem d_Model_goesOn_337 : decode prog_13_method_39_code 337 = .ok (.aload_n 0, 1) := by decide +kernel
theorem d_Model_goesOn_338 : decode prog_13_method_39_code 338 = .ok (.invokevirtual 359, 3) := by decide +kernel
theorem kw_Model_359 : KW "NineBoardsModel" 359 ⟨"NineBoardsModel", "dropsToMark", "()V"⟩ prog_13_method_37_code 1 none 0 := ⟨(mt_6 (List.mem_of_getElem? (i := 227) rfl) rfl), (mt_1 (List.mem_of_getElem? (i := 16) rfl) rfl), (mt_6 (List.mem_of_getElem? (i := 230) rfl) rfl), by decide +kernel⟩
theorem kv_Model_dropsToMark : Cond.instanceMethod ⟨"NineBoardsModel", "dropsToMark", "()V"⟩ ∈ TB ∧ Cond.selects "NineBoardsModel" ⟨"NineBoardsModel", "dropsToMark", "()V"⟩ ⟨"NineBoardsModel", "dropsToMark", "()V"⟩ ∈ TB := ⟨(mt_6 (List.mem_of_getElem? (i := 229) rfl) rfl), (ms_0 (List.mem_map.mpr ⟨(⟨"NineBoardsModel", "dropsToMark", "()V"⟩, 79), List.mem_of_getElem? (i := 78) (by decide +kernel), rfl⟩) rfl)⟩
theorem d_Model_goesOn_341 : decode prog_13_method_39_code 341 = .ok (.aload_n 0, 1) := by decide +kernel
theorem d_Model_goesOn_342 : decode prog_13_method_39_code 342 = .ok (.getfield 139, 3) := by decide +kernel
theorem d_Model_goesOn_345 : decode prog_13_method_39_code 345 = .ok (.aload_n 0, 1) := by decide +kernel
theorem d_Model_goesOn_346 : decode prog_13_method_39_code 346 = .ok (.getfield 292, 3) := by decide +kernel
theorem d_Model_goesOn_349 : decode prog_13_method_39_code 349 = .ok (.iconst 1, 1) := by decide +kernel
theorem d_Model_goesOn_350 : decode prog_13_method_39_code 350 = .ok (.isub, 1) := by decide +kernel
theorem d_Model_goesOn_351 : decode prog_13_method_39_code 351 = .ok (.dup2, 1) := by decide +kernel
theorem d_Model_goesOn_352 : decode prog_13_method_39_code 352 = .ok (.iaload, 1) := by decide +kernel
theorem d_Model_goesOn_353 : decode prog_13_method_39_code 353 = .ok (.iconst 2, 1) := by decide +kernel
theorem d_Model_goesOn_354 : decode prog_13_method_39_code 354 = .ok (.iadd, 1) := by decide +kernel
theorem d_Model_goesOn_355 : decode prog_13_method_39_code 355 = .ok (.iastore, 1) := by decide +kernel
theorem d_Model_goesOn_356 : decode prog_13_method_39_code 356 = .ok (.iconst 1, 1) := by decide +kernel
theorem d_Model_goesOn_357 : decode prog_13_method_39_code 357 = .ok (.ireturn, 1) := by decide +kernel
theorem d_Model_goesOn_335 : decode prog_13_method_39_code 335 = .ok (.iconst 0, 1) := by decide +kernel
theorem d_Model_goesOn_336 : decode prog_13_method_39_code 336 = .ok (.ireturn, 1) := by decide +kernel
theorem d_Model_goesOn_313 : decode prog_13_method_39_code 313 = .ok (.aload_n 0, 1) := by decide +kernel
theorem d_Model_goesOn_314 : decode prog_13_method_39_code 314 = .ok (.invokevirtual 356, 3) := by decide +kernel
theorem d_Model_goesOn_317 : decode prog_13_method_39_code 317 = .ok (.bipush 22, 2) := by decide +kernel
theorem d_Model_goesOn_319 : decode prog_13_method_39_code 319 = .ok (.if_icmp .ne 39, 3) := by decide +kernel
theorem d_Model_goesOn_358 : decode prog_13_method_39_code 358 = .ok (.aload_n 0, 1) := by decide +kernel
theorem d_Model_goesOn_359 : decode prog_13_method_39_code 359 = .ok (.invokevirtual 356, 3) := by decide +kernel
theorem d_Model_goesOn_362 : decode prog_13_method_39_code 362 = .ok (.iconst (-1), 1) := by decide +kernel
theorem d_Model_goesOn_363 : decode prog_13_method_39_code 363 = .ok (.if_icmp .eq 19, 3) := by decide +kernel
theorem d_Model_goesOn_382 : decode prog_13_method_39_code 382 = .ok (.iconst 0, 1) := by decide +kernel
theorem d_Model_goesOn_383 : decode prog_13_method_39_code 383 = .ok (.ireturn, 1) := by decide +kernel
theorem d_Model_goesOn_366 : decode prog_13_method_39_code 366 = .ok (.aload_n 0, 1) := by decide +kernel
theorem d_Model_goesOn_367 : decode prog_13_method_39_code 367 = .ok (.getfield 201, 3) := by decide +kernel
theorem d_Model_goesOn_370 : decode prog_13_method_39_code 370 = .ok (.ifCond .ne 12, 3) := by decide +kernel
theorem d_Model_goesOn_373 : decode prog_13_method_39_code 373 = .ok (.aload_n 0, 1) := by decide +kernel
theorem d_Model_goesOn_374 : decode prog_13_method_39_code 374 = .ok (.iconst 1, 1) := by decide +kernel
theorem d_Model_goesOn_375 : decode prog_13_method_39_code 375 = .ok (.aload_n 0, 1) := by decide +kernel
theorem d_Model_goesOn_376 : decode prog_13_method_39_code 376 = .ok (.getfield 207, 3) := by decide +kernel
theorem d_Model_goesOn_379 : decode prog_13_method_39_code 379 = .ok (.invokevirtual 230, 3) := by decide +kernel
theorem d_Model_goesOn_221 : decode prog_13_method_39_code 221 = .ok (.aload_n 0, 1) := by decide +kernel
theorem d_Model_goesOn_222 : decode prog_13_method_39_code 222 = .ok (.getfield 7, 3) := by decide +kernel
theorem d_Model_goesOn_225 : decode prog_13_method_39_code 225 = .ok (.aload_n 0, 1) := by decide +kernel
theorem d_Model_goesOn_226 : decode prog_13_method_39_code 226 = .ok (.getfield 207, 3) := by decide +kernel
theorem d_Model_goesOn_229 : decode prog_13_method_39_code 229 = .ok (.iconst 1, 1) := by decide +kernel
theorem d_Model_goesOn_230 : decode prog_13_method_39_code 230 = .ok (.isub, 1) := by decide +kernel
theorem d_Model_goesOn_231 : decode prog_13_method_39_code 231 = .ok (.iaload, 1) := by decide +kernel
theorem d_Model_goesOn_232 : decode prog_13_method_39_code 232 = .ok (.bipush 43, 2) := by decide +kernel
theorem d_Model_goesOn_234 : decode prog_13_method_39_code 234 = .ok (.if_icmp .ne 7, 3) := by decide +kernel
theorem d_Model_goesOn_241 : decode prog_13_method_39_code 241 = .ok (.iconst 2, 1) := by decide +kernel
theorem d_Model_goesOn_242 : decode prog_13_method_39_code 242 = .ok (.istore_n 1, 1) := by decide +kernel
theorem d_Model_goesOn_243 : decode prog_13_method_39_code 243 = .ok (.aload_n 0, 1) := by decide +kernel
theorem d_Model_goesOn_244 : decode prog_13_method_39_code 244 = .ok (.iconst 3, 1) := by decide +kernel
theorem d_Model_goesOn_245 : decode prog_13_method_39_code 245 = .ok (.invokevirtual 362, 3) := by decide +kernel
theorem kw_Model_362 : KW "NineBoardsModel" 362 ⟨"NineBoardsModel", "isOn", "(I)Z"⟩ prog_13_method_33_code 2 (some .boolean) 1 := ⟨(mt_6 (List.mem_of_getElem? (i := 235) rfl) rfl), (mt_1 (List.mem_of_getElem? (i := 16) rfl) rfl), (mt_6 (List.mem_of_getElem? (i := 238) rfl) rfl), by decide +kernel⟩
theorem kv_Model_isOn : Cond.instanceMethod ⟨"NineBoardsModel", "isOn", "(I)Z"⟩ ∈ TB ∧ Cond.selects "NineBoardsModel" ⟨"NineBoardsModel", "isOn", "(I)Z"⟩ ⟨"NineBoardsModel", "isOn", "(I)Z"⟩ ∈ TB := ⟨(mt_6 (List.mem_of_getElem? (i := 237) rfl) rfl), (ms_0 (List.mem_map.mpr ⟨(⟨"NineBoardsModel", "isOn", "(I)Z"⟩, 79), List.mem_of_getElem? (i := 80) (by decide +kernel), rfl⟩) rfl)⟩
theorem d_Model_goesOn_248 : decode prog_13_method_39_code 248 = .ok (.ifCond .ne 27, 3) := by decide +kernel
theorem d_Model_goesOn_251 : decode prog_13_method_39_code 251 = .ok (.aload_n 0, 1) := by decide +kernel
theorem d_Model_goesOn_252 : decode prog_13_method_39_code 252 = .ok (.iconst 4, 1) := by decide +kernel
theorem d_Model_goesOn_253 : decode prog_13_method_39_code 253 = .ok (.invokevirtual 362, 3) := by decide +kernel
theorem d_Model_goesOn_256 : decode prog_13_method_39_code 256 = .ok (.ifCond .ne 19, 3) := by decide +kernel
theorem d_Model_goesOn_259 : decode prog_13_method_39_code 259 = .ok (.aload_n 0, 1) := by decide +kernel
theorem d_Model_goesOn_260 : decode prog_13_method_39_code 260 = .ok (.iconst 1, 1) := by decide +kernel
theorem d_Model_goesOn_261 : decode prog_13_method_39_code 261 = .ok (.invokevirtual 362, 3) := by decide +kernel
theorem d_Model_goesOn_264 : decode prog_13_method_39_code 264 = .ok (.ifCond .ne 11, 3) := by decide +kernel
theorem d_Model_goesOn_267 : decode prog_13_method_39_code 267 = .ok (.aload_n 0, 1) := by decide +kernel
theorem d_Model_goesOn_268 : decode prog_13_method_39_code 268 = .ok (.iconst 2, 1) := by decide +kernel
theorem d_Model_goesOn_269 : decode prog_13_method_39_code 269 = .ok (.invokevirtual 362, 3) := by decide +kernel
theorem d_Model_goesOn_272 : decode prog_13_method_39_code 272 = .ok (.ifCond .eq 10, 3) := by decide +kernel
theorem d_Model_goesOn_282 : decode prog_13_method_39_code 282 = .ok (.aload_n 0, 1) := by decide +kernel
theorem d_Model_goesOn_283 : decode prog_13_method_39_code 283 = .ok (.getfield 139, 3) := by decide +kernel
theorem d_Model_goesOn_286 : decode prog_13_method_39_code 286 = .ok (.aload_n 0, 1) := by decide +kernel
theorem d_Model_goesOn_287 : decode prog_13_method_39_code 287 = .ok (.getfield 292, 3) := by decide +kernel
theorem d_Model_goesOn_290 : decode prog_13_method_39_code 290 = .ok (.iload_n 1, 1) := by decide +kernel
theorem d_Model_goesOn_291 : decode prog_13_method_39_code 291 = .ok (.iastore, 1) := by decide +kernel
theorem d_Model_goesOn_292 : decode prog_13_method_39_code 292 = .ok (.aload_n 0, 1) := by decide +kernel
theorem d_Model_goesOn_293 : decode prog_13_method_39_code 293 = .ok (.dup, 1) := by decide +kernel
theorem d_Model_goesOn_294 : decode prog_13_method_39_code 294 = .ok (.getfield 292, 3) := by decide +kernel
theorem d_Model_goesOn_297 : decode prog_13_method_39_code 297 = .ok (.iconst 1, 1) := by decide +kernel
theorem d_Model_goesOn_298 : decode prog_13_method_39_code 298 = .ok (.iadd, 1) := by decide +kernel
theorem d_Model_goesOn_299 : decode prog_13_method_39_code 299 = .ok (.putfield 292, 3) := by decide +kernel
theorem d_Model_goesOn_302 : decode prog_13_method_39_code 302 = .ok (.iconst 1, 1) := by decide +kernel
theorem d_Model_goesOn_303 : decode prog_13_method_39_code 303 = .ok (.ireturn, 1) := by decide +kernel
theorem d_Model_goesOn_275 : decode prog_13_method_39_code 275 = .ok (.aload_n 0, 1) := by decide +kernel
theorem d_Model_goesOn_276 : decode prog_13_method_39_code 276 = .ok (.invokevirtual 350, 3) := by decide +kernel
theorem d_Model_goesOn_279 : decode prog_13_method_39_code 279 = .ok (.goto (-36), 3) := by decide +kernel
theorem d_Model_goesOn_237 : decode prog_13_method_39_code 237 = .ok (.iconst 1, 1) := by decide +kernel
theorem d_Model_goesOn_238 : decode prog_13_method_39_code 238 = .ok (.goto 4, 3) := by decide +kernel
theorem d_Model_goesOn_136 : decode prog_13_method_39_code 136 = .ok (.aload_n 0, 1) := by decide +kernel
theorem d_Model_goesOn_137 : decode prog_13_method_39_code 137 = .ok (.getfield 7, 3) := by decide +kernel
theorem d_Model_goesOn_140 : decode prog_13_method_39_code 140 = .ok (.aload_n 0, 1) := by decide +kernel
theorem d_Model_goesOn_141 : decode prog_13_method_39_code 141 = .ok (.getfield 207, 3) := by decide +kernel
theorem d_Model_goesOn_144 : decode prog_13_method_39_code 144 = .ok (.iconst 1, 1) := by decide +kernel
theorem d_Model_goesOn_145 : decode prog_13_method_39_code 145 = .ok (.isub, 1) := by decide +kernel
theorem d_Model_goesOn_146 : decode prog_13_method_39_code 146 = .ok (.iaload, 1) := by decide +kernel
theorem d_Model_goesOn_147 : decode prog_13_method_39_code 147 = .ok (.bipush 42, 2) := by decide +kernel
theorem d_Model_goesOn_149 : decode prog_13_method_39_code 149 = .ok (.if_icmp .ne 7, 3) := by decide +kernel
theorem d_Model_goesOn_156 : decode prog_13_method_39_code 156 = .ok (.iconst 4, 1) := by decide +kernel
theorem d_Model_goesOn_157 : decode prog_13_method_39_code 157 = .ok (.istore_n 1, 1) := by decide +kernel
theorem d_Model_goesOn_158 : decode prog_13_method_39_code 158 = .ok (.aload_n 0, 1) := by decide +kernel
theorem d_Model_goesOn_159 : decode prog_13_method_39_code 159 = .ok (.iconst 3, 1) := by decide +kernel
theorem d_Model_goesOn_160 : decode prog_13_method_39_code 160 = .ok (.invokevirtual 362, 3) := by decide +kernel
theorem d_Model_goesOn_163 : decode prog_13_method_39_code 163 = .ok (.ifCond .ne 11, 3) := by decide +kernel
theorem d_Model_goesOn_166 : decode prog_13_method_39_code 166 = .ok (.aload_n 0, 1) := by decide +kernel
theorem d_Model_goesOn_167 : decode prog_13_method_39_code 167 = .ok (.iconst 4, 1) := by decide +kernel
theorem d_Model_goesOn_168 : decode prog_13_method_39_code 168 = .ok (.invokevirtual 362, 3) := by decide +kernel
theorem d_Model_goesOn_171 : decode prog_13_method_39_code 171 = .ok (.ifCond .eq 10, 3) := by decide +kernel
theorem d_Model_goesOn_181 : decode prog_13_method_39_code 181 = .ok (.aload_n 0, 1) := by decide +kernel
theorem d_Model_goesOn_182 : decode prog_13_method_39_code 182 = .ok (.getfield 139, 3) := by decide +kernel
theorem d_Model_goesOn_185 : decode prog_13_method_39_code 185 = .ok (.aload_n 0, 1) := by decide +kernel
theorem d_Model_goesOn_186 : decode prog_13_method_39_code 186 = .ok (.getfield 292, 3) := by decide +kernel
theorem d_Model_goesOn_189 : decode prog_13_method_39_code 189 = .ok (.iload_n 1, 1) := by decide +kernel
theorem d_Model_goesOn_190 : decode prog_13_method_39_code 190 = .ok (.iastore, 1) := by decide +kernel
theorem d_Model_goesOn_191 : decode prog_13_method_39_code 191 = .ok (.aload_n 0, 1) := by decide +kernel
theorem d_Model_goesOn_192 : decode prog_13_method_39_code 192 = .ok (.dup, 1) := by decide +kernel
theorem d_Model_goesOn_193 : decode prog_13_method_39_code 193 = .ok (.getfield 292, 3) := by decide +kernel
theorem d_Model_goesOn_196 : decode prog_13_method_39_code 196 = .ok (.iconst 1, 1) := by decide +kernel
theorem d_Model_goesOn_197 : decode prog_13_method_39_code 197 = .ok (.iadd, 1) := by decide +kernel
theorem d_Model_goesOn_198 : decode prog_13_method_39_code 198 = .ok (.putfield 292, 3) := by decide +kernel
theorem d_Model_goesOn_201 : decode prog_13_method_39_code 201 = .ok (.iconst 1, 1) := by decide +kernel
theorem d_Model_goesOn_202 : decode prog_13_method_39_code 202 = .ok (.ireturn, 1) := by decide +kernel
theorem d_Model_goesOn_174 : decode prog_13_method_39_code 174 = .ok (.aload_n 0, 1) := by decide +kernel
theorem d_Model_goesOn_175 : decode prog_13_method_39_code 175 = .ok (.invokevirtual 350, 3) := by decide +kernel
theorem d_Model_goesOn_178 : decode prog_13_method_39_code 178 = .ok (.goto (-20), 3) := by decide +kernel
theorem d_Model_goesOn_152 : decode prog_13_method_39_code 152 = .ok (.iconst 3, 1) := by decide +kernel
theorem d_Model_goesOn_153 : decode prog_13_method_39_code 153 = .ok (.goto 4, 3) := by decide +kernel
theorem d_Model_goesOn_16 : decode prog_13_method_39_code 16 = .ok (.aload_n 0, 1) := by decide +kernel
theorem d_Model_goesOn_17 : decode prog_13_method_39_code 17 = .ok (.invokevirtual 356, 3) := by decide +kernel
theorem d_Model_goesOn_20 : decode prog_13_method_39_code 20 = .ok (.bipush 20, 2) := by decide +kernel
theorem d_Model_goesOn_22 : decode prog_13_method_39_code 22 = .ok (.if_icmp .eq 21, 3) := by decide +kernel
theorem d_Model_goesOn_43 : decode prog_13_method_39_code 43 = .ok (.aload_n 0, 1) := by decide +kernel
theorem d_Model_goesOn_44 : decode prog_13_method_39_code 44 = .ok (.dup, 1) := by decide +kernel
theorem d_Model_goesOn_45 : decode prog_13_method_39_code 45 = .ok (.getfield 207, 3) := by decide +kernel
theorem d_Model_goesOn_48 : decode prog_13_method_39_code 48 = .ok (.iconst 1, 1) := by decide +kernel
theorem d_Model_goesOn_49 : decode prog_13_method_39_code 49 = .ok (.iadd, 1) := by decide +kernel
theorem d_Model_goesOn_50 : decode prog_13_method_39_code 50 = .ok (.putfield 207, 3) := by decide +kernel
theorem d_Model_goesOn_53 : decode prog_13_method_39_code 53 = .ok (.aload_n 0, 1) := by decide +kernel
theorem d_Model_goesOn_54 : decode prog_13_method_39_code 54 = .ok (.invokevirtual 359, 3) := by decide +kernel
theorem d_Model_goesOn_57 : decode prog_13_method_39_code 57 = .ok (.aload_n 0, 1) := by decide +kernel
theorem d_Model_goesOn_58 : decode prog_13_method_39_code 58 = .ok (.dup, 1) := by decide +kernel
theorem d_Model_goesOn_59 : decode prog_13_method_39_code 59 = .ok (.getfield 292, 3) := by decide +kernel
theorem d_Model_goesOn_62 : decode prog_13_method_39_code 62 = .ok (.iconst 1, 1) := by decide +kernel
theorem d_Model_goesOn_63 : decode prog_13_method_39_code 63 = .ok (.isub, 1) := by decide +kernel
theorem d_Model_goesOn_64 : decode prog_13_method_39_code 64 = .ok (.putfield 292, 3) := by decide +kernel
theorem d_Model_goesOn_67 : decode prog_13_method_39_code 67 = .ok (.aload_n 0, 1) := by decide +kernel
theorem d_Model_goesOn_68 : decode prog_13_method_39_code 68 = .ok (.dup, 1) := by decide +kernel
theorem d_Model_goesOn_69 : decode prog_13_method_39_code 69 = .ok (.getfield 295, 3) := by decide +kernel
theorem d_Model_goesOn_72 : decode prog_13_method_39_code 72 = .ok (.iconst 1, 1) := by decide +kernel
theorem d_Model_goesOn_73 : decode prog_13_method_39_code 73 = .ok (.isub, 1) := by decide +kernel
theorem d_Model_goesOn_74 : decode prog_13_method_39_code 74 = .ok (.putfield 295, 3) := by decide +kernel
theorem d_Model_goesOn_77 : decode prog_13_method_39_code 77 = .ok (.aload_n 0, 1) := by decide +kernel
theorem d_Model_goesOn_78 : decode prog_13_method_39_code 78 = .ok (.getfield 139, 3) := by decide +kernel
theorem d_Model_goesOn_81 : decode prog_13_method_39_code 81 = .ok (.aload_n 0, 1) := by decide +kernel
theorem d_Model_goesOn_82 : decode prog_13_method_39_code 82 = .ok (.getfield 292, 3) := by decide +kernel
theorem d_Model_goesOn_85 : decode prog_13_method_39_code 85 = .ok (.iaload, 1) := by decide +kernel
theorem d_Model_goesOn_86 : decode prog_13_method_39_code 86 = .ok (.bipush 20, 2) := by decide +kernel
theorem d_Model_goesOn_88 : decode prog_13_method_39_code 88 = .ok (.if_icmp .eq (-88), 3) := by decide +kernel
theorem d_Model_goesOn_25 : decode prog_13_method_39_code 25 = .ok (.aload_n 0, 1) := by decide +kernel
theorem d_Model_goesOn_26 : decode prog_13_method_39_code 26 = .ok (.invokevirtual 356, 3) := by decide +kernel
theorem d_Model_goesOn_29 : decode prog_13_method_39_code 29 = .ok (.bipush 23, 2) := by decide +kernel
theorem d_Model_goesOn_31 : decode prog_13_method_39_code 31 = .ok (.if_icmp .eq 12, 3) := by decide +kernel
theorem d_Model_goesOn_91 : decode prog_13_method_39_code 91 = .ok (.aload_n 0, 1) := by decide +kernel
theorem d_Model_goesOn_92 : decode prog_13_method_39_code 92 = .ok (.aload_n 0, 1) := by decide +kernel
theorem d_Model_goesOn_93 : decode prog_13_method_39_code 93 = .ok (.getfield 139, 3) := by decide +kernel
theorem d_Model_goesOn_96 : decode prog_13_method_39_code 96 = .ok (.aload_n 0, 1) := by decide +kernel
theorem d_Model_goesOn_97 : decode prog_13_method_39_code 97 = .ok (.getfield 292, 3) := by decide +kernel
theorem d_Model_goesOn_100 : decode prog_13_method_39_code 100 = .ok (.iaload, 1) := by decide +kernel
theorem d_Model_goesOn_101 : decode prog_13_method_39_code 101 = .ok (.bipush 23, 2) := by decide +kernel
theorem d_Model_goesOn_103 : decode prog_13_method_39_code 103 = .ok (.if_icmp .ne 7, 3) := by decide +kernel
theorem d_Model_goesOn_106 : decode prog_13_method_39_code 106 = .ok (.iconst 5, 1) := by decide +kernel
theorem d_Model_goesOn_107 : decode prog_13_method_39_code 107 = .ok (.goto 5, 3) := by decide +kernel
theorem d_Model_goesOn_112 : decode prog_13_method_39_code 112 = .ok (.invokevirtual 344, 3) := by decide +kernel
theorem d_Model_goesOn_115 : decode prog_13_method_39_code 115 = .ok (.goto (-115), 3) := by decide +kernel
theorem d_Model_goesOn_34 : decode prog_13_method_39_code 34 = .ok (.aload_n 0, 1) := by decide +kernel
theorem d_Model_goesOn_35 : decode prog_13_method_39_code 35 = .ok (.invokevirtual 356, 3) := by decide +kernel
theorem d_Model_goesOn_38 : decode prog_13_method_39_code 38 = .ok (.bipush 24, 2) := by decide +kernel
theorem d_Model_goesOn_40 : decode prog_13_method_39_code 40 = .ok (.if_icmp .ne 78, 3) := by decide +kernel
theorem d_Model_goesOn_110 : decode prog_13_method_39_code 110 = .ok (.bipush 6, 2) := by decide +kernel
set_option maxHeartbeats 4000000 in
set_option maxRecDepth 100000 in
theorem c_M_goesOn (l : Launch) (D : va_G) (y : Nat → ClassId) (mo : Nat) (ma : Nat → Nat) (t1 : Nat) (t2 : Nat) (t3 : Nat) (i4 : Int32) (i6 : Int32) (i7 : Int32) (i8 : Int32) (i42 : Int32) (i49 : Int32) (cd : Nat) (wn : Nat) (oo : Nat) (bs : Nat) (i61 : Int32) (i64 : Int32) (i66 : Int32) (t67 : Nat) (i76 : Int64) (i78 : Int32) (tx : Nat → Nat) (g50 : Nat → Int32) (g52 : Nat → Int32) (gs : PS) (s0 : Nat) (xx : Nat) (sk : List Nat) (cs : List Nat) (kq : Nat) (f0 : Nat → Int32) (ha : t2 ≤ t3) (he : t3 ≤ 1600) (hB : ∀ j, tx j < 256) (hx : RR tx t3 gs t2 i4 0 i6) (hR : RS kq s0 f0 (xx + 1) 0 g50 g52 cd wn t2) (hT : ITm g52 bs) (hS : ISm g52 bs wn) (hbw : bs ≤ wn) (hwb : WB sk g52 bs wn) (hcd : CD cs g50 cd) (hop : opn sk ≤ oo) (ho6 : oo ≤ 6) (hK : 1 ≤ kq) : CT l D y ⟨"NineBoardsModel", "goesOn", "()Z"⟩ prog_13_method_39_code 2 (some .boolean) ({ frames := 3, cells := 0, slots := 0, locals := 62 } : Room) [.ref mo] [MB mo ma (nI t1) (nI t2) (nI t3) i4 0 i6 i7 i8 i42 i49 (nI cd) (nI wn) (nI oo) (nI bs) i61 i64 i66 (nI t67) i76 i78, (ma 0, .inl (y 0, 1600, .inl (tby tx))), (ma 50, .inl (y 0, 3200, .inl g50)), (ma 52, .inl (y 0, 1700, .inl g52))] (QI D [MB mo ma (nI t1) (nI t2) (nI t3) i4 0 i6 i7 i8 i42 i49 (nI cd) (nI wn) (nI oo) (nI bs) i61 i64 i66 (nI t67) i76 i78, (ma 0, .inl (y 0, 1600, .inl (tby tx))), (ma 50, .inl (y 0, 3200, .inl g50)), (ma 52, .inl (y 0, 1700, .inl g52))] (fun (r : Int32) (u : Nat × Int32 × Int32 × Nat × Nat × Nat × (Nat → Int32) × (Nat → Int32) × PS × List Nat × List Nat) => t2 ≤ u.1 ∧ u.1 ≤ t3 ∧ (u.2.1 = 0 → 0 = 0 ∧ t2 ≤ u.1) ∧ ITm u.2.2.2.2.2.2.2.1 bs ∧ ISm u.2.2.2.2.2.2.2.1 bs u.2.2.2.2.1 ∧ bs ≤ u.2.2.2.2.1 ∧ RR tx t3 u.2.2.2.2.2.2.2.2.1 u.1 i4 u.2.1 u.2.2.1 ∧ (∀ j, j < bs → u.2.2.2.2.2.2.2.1 j = g52 j) ∧ u.2.2.2.2.2.1 ≤ 6 ∧ ((r = 1 ∧ u.2.1 = 0 ∧ RS kq s0 f0 xx u.2.1 u.2.2.2.2.2.2.1 u.2.2.2.2.2.2.2.1 u.2.2.2.1 u.2.2.2.2.1 u.1 ∧ Rch tx t3 (1, (gs, cs, sk, oo)) (0, (u.2.2.2.2.2.2.2.2.1, u.2.2.2.2.2.2.2.2.2.1, u.2.2.2.2.2.2.2.2.2.2, u.2.2.2.2.2.1)) ∧ CD u.2.2.2.2.2.2.2.2.2.1 u.2.2.2.2.2.2.1 u.2.2.2.1 ∧ WB u.2.2.2.2.2.2.2.2.2.2 u.2.2.2.2.2.2.2.1 bs u.2.2.2.2.1 ∧ opn u.2.2.2.2.2.2.2.2.2.2 ≤ u.2.2.2.2.2.1) ∨ (r = 0 ∧ RS kq s0 f0 (xx + 1) u.2.1 u.2.2.2.2.2.2.1 u.2.2.2.2.2.2.2.1 u.2.2.2.1 u.2.2.2.2.1 u.1 ∧ (u.2.1 = 0 → NMk u.2.2.2.2.2.2.2.1 bs u.2.2.2.2.1 ∧ Rch tx t3 (1, (gs, cs, sk, oo)) (2, (u.2.2.2.2.2.2.2.2.1, u.2.2.2.2.2.2.2.2.2.1, u.2.2.2.2.2.2.2.2.2.2, u.2.2.2.2.2.1)) ∧ CD u.2.2.2.2.2.2.2.2.2.1 u.2.2.2.2.2.2.1 u.2.2.2.1 ∧ WB u.2.2.2.2.2.2.2.2.2.2 u.2.2.2.2.2.2.2.1 bs u.2.2.2.2.1 ∧ mkf u.2.2.2.2.2.2.2.2.2.2 = 0) ∧ (¬ u.2.1 = 0 → ∃ c3 s3 o3, Rch tx t3 (1, (gs, cs, sk, oo)) (2, (u.2.2.2.2.2.2.2.2.1, c3, s3, o3)))))) (fun u => [MB mo ma (nI t1) (nI u.1) (nI t3) i4 u.2.1 u.2.2.1 i7 i8 i42 i49 (nI u.2.2.2.1) (nI u.2.2.2.2.1) (nI u.2.2.2.2.2.1) (nI bs) i61 i64 i66 (nI t67) i76 i78, (ma 0, .inl (y 0, 1600, .inl (tby tx))), (ma 50, .inl (y 0, 3200, .inl u.2.2.2.2.2.2.1)), (ma 52, .inl (y 0, 1700, .inl u.2.2.2.2.2.2.2.1))])) := by
  refine CT.of (by decide) (nb rfl) ?_
  intro p e s m args below meth c C hr
  refine j_lv (lv' := [(0, .ref mo)]) rfl ?_
  refine j_loop (α := Nat × Nat × Nat × (Nat → Int32) × Nat × PS × List Nat × List Nat) (fun a => t3 - a.1) (fun a => (a.1 ≤ t3) ∧ (t2 ≤ a.1) ∧ (bs ≤ a.2.2.1) ∧ (a.2.2.1 ≤ wn) ∧ (RS kq s0 f0 (xx + 1) 0 a.2.2.2.1 g52 a.2.1 a.2.2.1 a.1) ∧ (RR tx t3 a.2.2.2.2.2.1 a.1 i4 0 i6) ∧ (Rch tx t3 (1, (gs, cs, sk, oo)) (1, (a.2.2.2.2.2.1, a.2.2.2.2.2.2.1, a.2.2.2.2.2.2.2, a.2.2.2.2.1))) ∧ (WB a.2.2.2.2.2.2.2 g52 bs a.2.2.1) ∧ (CD a.2.2.2.2.2.2.1 a.2.2.2.1 a.2.1) ∧ (opn a.2.2.2.2.2.2.2 ≤ a.2.2.2.2.1) ∧ (a.2.2.2.2.1 ≤ 6)) (fun a => [MB mo ma (nI t1) (nI a.1) (nI t3) i4 0 i6 i7 i8 i42 i49 (nI a.2.1) (nI a.2.2.1) (nI a.2.2.2.2.1) (nI bs) i61 i64 i66 (nI t67) i76 i78, (ma 0, .inl (y 0, 1600, .inl (tby tx))), (ma 50, .inl (y 0, 3200, .inl a.2.2.2.1)), (ma 52, .inl (y 0, 1700, .inl g52))]) (fun a => [(0, .ref mo)]) (t2, cd, wn, g50, oo, gs, cs, sk) rfl rfl ⟨ha, (show t2 ≤ t2 by omega), hbw, (show wn ≤ wn by omega), hR, hx, (Rch.rf _), hwb, hcd, hop, ho6⟩ ?_
  rintro ⟨az, zc, zn, zf, oz, gz, cz, sz⟩ hP1440 ih1441
  obtain ⟨hz__, hy__, hb__, hn__, hR__, hrr__, hrc__, hwz__, hcz__, hoz__, ho__⟩ := hP1440
  have hz_ : az ≤ t3 := hz__
  have hy_ : t2 ≤ az := hy__
  have hb_ : bs ≤ zn := hb__
  have hn_ : zn ≤ wn := hn__
  have hR_ : RS kq s0 f0 (xx + 1) 0 zf g52 zc zn az := hR__
  have hrr_ : RR tx t3 gz az i4 0 i6 := hrr__
  have hrc_ : Rch tx t3 (1, (gs, cs, sk, oo)) (1, (gz, cz, sz, oz)) := hrc__
  have hwz_ : WB sz g52 bs zn := hwz__
  have hcz_ : CD cz zf zc := hcz__
  have hoz_ : opn sz ≤ oz := hoz__
  have ho_ : oz ≤ 6 := ho__
  refine j_ws (ws' := [MB mo ma (nI t1) (nI az) (nI t3) i4 0 i6 i7 i8 i42 i49 (nI zc) (nI zn) (nI oz) (nI bs) i61 i64 i66 (nI t67) i76 i78, (ma 0, .inl (y 0, 1600, .inl (tby tx))), (ma 50, .inl (y 0, 3200, .inl zf)), (ma 52, .inl (y 0, 1700, .inl g52))]) rfl ?_
  refine j_lv (lv' := [(0, .ref mo)]) rfl ?_
  have hac := rs_ac3 hR_
  have hS_ : ISm g52 bs zn := is_le hS hn_
  refine j_aload_n (pc := 0) C d_Model_goesOn_0 rfl 0 rfl ?_
  refine j_get (pc := 1) C gf_Model_201 0 rfl rfl d_Model_goesOn_1 ?_
  refine j_if_neF (pc := 4) C (tgt := 118) d_Model_goesOn_4 (by decide) (by decide) ?_
  refine j_aload_n (pc := 7) C d_Model_goesOn_7 rfl 0 rfl ?_
  refine j_callVi (pc := 8) C (c_M_look l D y mo ma t1 az t3 i4 0 i6 i7 i8 i42 i49 (nI zc) (nI zn) (nI oz) (nI bs) i61 i64 i66 t67 i76 i78 tx gz hz_ he hB hrr_ rfl) kw_Model_213 kv_Model_look 0 10 rfl rfl ⟨by decide, by decide⟩ ⟨by decide, by decide⟩ (wr := [(ma 50, .inl (y 0, 3200, .inl zf)), (ma 52, .inl (y 0, 1700, .inl g52))]) [0, 1] [2, 3] rfl rfl (by decide) (by decide) (by decide) (As := []) (rest := []) rfl (nb rfl) rfl d_Model_goesOn_8 (fun r1442 u1443 hr1442 => ?_)
  refine j_ws (ws' := [(ma 50, .inl (y 0, 3200, .inl zf)), (ma 52, .inl (y 0, 1700, .inl g52)), MB mo ma (nI t1) (nI u1443) (nI t3) i4 0 i6 i7 i8 i42 i49 (nI zc) (nI zn) (nI oz) (nI bs) i61 i64 i66 (nI t67) i76 i78, (ma 0, .inl (y 0, 1600, .inl (tby tx)))]) rfl ?_
  obtain ⟨xh1444, xh1445, xh1446, xh1447, xh1448⟩ := hr1442
  rcases xh1448 with ⟨rfl, xh1449⟩ | ⟨rfl, xh1450⟩
  · refine j_bipush (pc := 11) C (v := 41) d_Model_goesOn_11 (by decide) ?_
    refine j_icmp_neT (pc := 13) C (tgt := 118) d_Model_goesOn_13 (by decide) (by decide) ?_
    have xh1451 : ¬ (issS tx t3 41 gz = true ∧ (mkf sz = 20 ∨ mkf sz = 23 ∨ mkf sz = 24)) := (fun q => (sg_no1 ((rr_z xh1447).mp rfl) xh1446 xh1449) q.1)
    have xh1452 : gz.1 = 0 := ((rr_z xh1447).mp rfl)
    refine j_aload_n (pc := 118) C d_Model_goesOn_118 rfl 0 rfl ?_
    refine j_bipush (pc := 119) C (v := 42) d_Model_goesOn_119 (by decide) ?_
    refine j_callVi (pc := 121) C (c_M_takesSign l D y mo ma t1 u1443 t3 i4 0 i6 i7 i8 i42 i49 (nI zc) (nI zn) (nI oz) (nI bs) i61 i64 i66 t67 i76 i78 tx 42 gz xh1445 he hB xh1447 (by omega) (by decide)) kw_Model_234 kv_Model_takesSign 0 10 rfl rfl ⟨by decide, by decide⟩ ⟨by decide, by decide⟩ (wr := [(ma 50, .inl (y 0, 3200, .inl zf)), (ma 52, .inl (y 0, 1700, .inl g52))]) [2, 3] [0, 1] rfl rfl (by decide) (by decide) (by decide) (As := [.int 42]) (rest := []) rfl (nb rfl) rfl d_Model_goesOn_121 (fun r1453 u1454 hr1453 => ?_)
    refine j_ws (ws' := [(ma 50, .inl (y 0, 3200, .inl zf)), (ma 52, .inl (y 0, 1700, .inl g52)), MB mo ma (nI t1) (nI u1454) (nI t3) i4 0 i6 i7 i8 i42 i49 (nI zc) (nI zn) (nI oz) (nI bs) i61 i64 i66 (nI t67) i76 i78, (ma 0, .inl (y 0, 1600, .inl (tby tx)))]) rfl ?_
    obtain ⟨xh1455, xh1456, xh1457⟩ := hr1453
    rcases xh1457 with ⟨rfl, xh1458, xh1459, xh1460⟩ | ⟨rfl, xh1461, xh1462, xh1463, xh1464, xh1465⟩
    · refine j_if_neF (pc := 124) C (tgt := 136) d_Model_goesOn_124 (by decide) (by decide) ?_
      refine j_aload_n (pc := 127) C d_Model_goesOn_127 rfl 0 rfl ?_
      refine j_bipush (pc := 128) C (v := 47) d_Model_goesOn_128 (by decide) ?_
      refine j_callVi (pc := 130) C (c_M_takesSign l D y mo ma t1 u1454 t3 i4 0 i6 i7 i8 i42 i49 (nI zc) (nI zn) (nI oz) (nI bs) i61 i64 i66 t67 i76 i78 tx 47 gz xh1456 he hB xh1458 (by omega) (by decide)) kw_Model_234 kv_Model_takesSign 0 10 rfl rfl ⟨by decide, by decide⟩ ⟨by decide, by decide⟩ (wr := [(ma 50, .inl (y 0, 3200, .inl zf)), (ma 52, .inl (y 0, 1700, .inl g52))]) [2, 3] [0, 1] rfl rfl (by decide) (by decide) (by decide) (As := [.int 47]) (rest := []) rfl (nb rfl) rfl d_Model_goesOn_130 (fun r1466 u1467 hr1466 => ?_)
      refine j_ws (ws' := [(ma 50, .inl (y 0, 3200, .inl zf)), (ma 52, .inl (y 0, 1700, .inl g52)), MB mo ma (nI t1) (nI u1467) (nI t3) i4 0 i6 i7 i8 i42 i49 (nI zc) (nI zn) (nI oz) (nI bs) i61 i64 i66 (nI t67) i76 i78, (ma 0, .inl (y 0, 1600, .inl (tby tx)))]) rfl ?_
      obtain ⟨xh1468, xh1469, xh1470⟩ := hr1466
      rcases xh1470 with ⟨rfl, xh1471, xh1472, xh1473⟩ | ⟨rfl, xh1474, xh1475, xh1476, xh1477, xh1478⟩
      · refine j_if_eqT (pc := 133) C (tgt := 203) d_Model_goesOn_133 (by decide) (by decide) ?_
        refine j_aload_n (pc := 203) C d_Model_goesOn_203 rfl 0 rfl ?_
        refine j_bipush (pc := 204) C (v := 43) d_Model_goesOn_204 (by decide) ?_
        refine j_callVi (pc := 206) C (c_M_takesSign l D y mo ma t1 u1467 t3 i4 0 i6 i7 i8 i42 i49 (nI zc) (nI zn) (nI oz) (nI bs) i61 i64 i66 t67 i76 i78 tx 43 gz xh1469 he hB xh1471 (by omega) (by decide)) kw_Model_234 kv_Model_takesSign 0 10 rfl rfl ⟨by decide, by decide⟩ ⟨by decide, by decide⟩ (wr := [(ma 50, .inl (y 0, 3200, .inl zf)), (ma 52, .inl (y 0, 1700, .inl g52))]) [2, 3] [0, 1] rfl rfl (by decide) (by decide) (by decide) (As := [.int 43]) (rest := []) rfl (nb rfl) rfl d_Model_goesOn_206 (fun r1479 u1480 hr1479 => ?_)
        refine j_ws (ws' := [(ma 50, .inl (y 0, 3200, .inl zf)), (ma 52, .inl (y 0, 1700, .inl g52)), MB mo ma (nI t1) (nI u1480) (nI t3) i4 0 i6 i7 i8 i42 i49 (nI zc) (nI zn) (nI oz) (nI bs) i61 i64 i66 (nI t67) i76 i78, (ma 0, .inl (y 0, 1600, .inl (tby tx)))]) rfl ?_
        obtain ⟨xh1481, xh1482, xh1483⟩ := hr1479
        rcases xh1483 with ⟨rfl, xh1484, xh1485, xh1486⟩ | ⟨rfl, xh1487, xh1488, xh1489, xh1490, xh1491⟩
        · refine j_if_neF (pc := 209) C (tgt := 221) d_Model_goesOn_209 (by decide) (by decide) ?_
          refine j_aload_n (pc := 212) C d_Model_goesOn_212 rfl 0 rfl ?_
          refine j_bipush (pc := 213) C (v := 45) d_Model_goesOn_213 (by decide) ?_
          refine j_callVi (pc := 215) C (c_M_takesSign l D y mo ma t1 u1480 t3 i4 0 i6 i7 i8 i42 i49 (nI zc) (nI zn) (nI oz) (nI bs) i61 i64 i66 t67 i76 i78 tx 45 gz xh1482 he hB xh1484 (by omega) (by decide)) kw_Model_234 kv_Model_takesSign 0 10 rfl rfl ⟨by decide, by decide⟩ ⟨by decide, by decide⟩ (wr := [(ma 50, .inl (y 0, 3200, .inl zf)), (ma 52, .inl (y 0, 1700, .inl g52))]) [2, 3] [0, 1] rfl rfl (by decide) (by decide) (by decide) (As := [.int 45]) (rest := []) rfl (nb rfl) rfl d_Model_goesOn_215 (fun r1492 u1493 hr1492 => ?_)
          refine j_ws (ws' := [(ma 50, .inl (y 0, 3200, .inl zf)), (ma 52, .inl (y 0, 1700, .inl g52)), MB mo ma (nI t1) (nI u1493) (nI t3) i4 0 i6 i7 i8 i42 i49 (nI zc) (nI zn) (nI oz) (nI bs) i61 i64 i66 (nI t67) i76 i78, (ma 0, .inl (y 0, 1600, .inl (tby tx)))]) rfl ?_
          obtain ⟨xh1494, xh1495, xh1496⟩ := hr1492
          rcases xh1496 with ⟨rfl, xh1497, xh1498, xh1499⟩ | ⟨rfl, xh1500, xh1501, xh1502, xh1503, xh1504⟩
          · refine j_if_eqT (pc := 218) C (tgt := 304) d_Model_goesOn_218 (by decide) (by decide) ?_
            refine j_aload_n (pc := 304) C d_Model_goesOn_304 rfl 0 rfl ?_
            refine j_callVi (pc := 305) C (c_M_mark l D y mo ma t1 u1493 t3 i4 0 i6 i7 i8 i42 i49 (nI zc) zn (nI oz) bs i61 i64 i66 t67 i76 i78 g52 sz hb_ (by omega) hwz_) kw_Model_356 kv_Model_mark 0 10 rfl rfl ⟨by decide, by decide⟩ ⟨by decide, by decide⟩ (wr := [(ma 50, .inl (y 0, 3200, .inl zf)), (ma 0, .inl (y 0, 1600, .inl (tby tx)))]) [2, 1] [0, 3] rfl rfl (by decide) (by decide) (by decide) (As := []) (rest := []) rfl (nb rfl) rfl d_Model_goesOn_305 (fun r1505 _ hr1505 => ?_)
            obtain rfl := hr1505
            refine j_ws (ws' := [(ma 50, .inl (y 0, 3200, .inl zf)), (ma 0, .inl (y 0, 1600, .inl (tby tx))), MB mo ma (nI t1) (nI u1493) (nI t3) i4 0 i6 i7 i8 i42 i49 (nI zc) (nI zn) (nI oz) (nI bs) i61 i64 i66 (nI t67) i76 i78, (ma 52, .inl (y 0, 1700, .inl g52))]) rfl ?_
            refine j_bipush (pc := 308) C (v := 21) d_Model_goesOn_308 (by decide) ?_
            by_cases c1506 : mkf sz = 21
            · refine j_icmp_eqT (pc := 310) C (tgt := 322) d_Model_goesOn_310 (by decide) (show mkI sz = 21 from (mkI_iff (c := 21) (by decide) (by decide)).mpr (by omega)) ?_
              refine j_aload_n (pc := 322) C d_Model_goesOn_322 rfl 0 rfl ?_
              refine j_bipush (pc := 323) C (v := 44) d_Model_goesOn_323 (by decide) ?_
              refine j_callVv (pc := 325) C (c_M_asksSign l D y mo ma t1 u1493 t3 i4 0 i6 i7 i8 i42 i49 (nI zc) (nI zn) (nI oz) (nI bs) i61 i64 i66 t67 i76 i78 tx 44 gz xh1495 he hB xh1497 (by omega) (by decide)) kw_Model_271 kv_Model_asksSign 0 10 rfl rfl ⟨by decide, by decide⟩ ⟨by decide, by decide⟩ (wr := [(ma 50, .inl (y 0, 3200, .inl zf)), (ma 52, .inl (y 0, 1700, .inl g52))]) [2, 1] [0, 3] rfl rfl (by decide) (by decide) (by decide) (As := [.int 44]) (rest := []) rfl (nb rfl) rfl d_Model_goesOn_325 (fun u1507 hu1508 => ?_)
              obtain ⟨xh1509, xh1510, xh1511, xh1512⟩ := hu1508
              refine j_ws (ws' := [(ma 50, .inl (y 0, 3200, .inl zf)), (ma 52, .inl (y 0, 1700, .inl g52)), MB mo ma (nI t1) (nI u1507.1) (nI t3) i4 u1507.2.1 u1507.2.2 i7 i8 i42 i49 (nI zc) (nI zn) (nI oz) (nI bs) i61 i64 i66 (nI t67) i76 i78, (ma 0, .inl (y 0, 1600, .inl (tby tx)))]) rfl ?_
              refine j_aload_n (pc := 328) C d_Model_goesOn_328 rfl 0 rfl ?_
              refine j_get (pc := 329) C gf_Model_201 2 rfl rfl d_Model_goesOn_329 ?_
              refine j_if_eq (pc := 332) C (tgt := 337) d_Model_goesOn_332 (by decide) (fun c1513 => ?_) (fun c1513 => ?_)
              · have xh1514 : issS tx t3 44 gz = true := (rs_ok ((rr_z xh1512).mp c1513)).1
                have xh1515 : RR tx t3 (advS tx t3 gz) u1507.1 i4 u1507.2.1 u1507.2.2 := (rr_of xh1512 (if_pos xh1514).symm)
                have xh1516 : RS kq s0 f0 (xx + 1) u1507.2.1 zf g52 zc zn az := rs_mono hR_ (fun _ => rfl)
                refine j_ws (ws' := [(ma 50, .inl (y 0, 3200, .inl zf)), (ma 52, .inl (y 0, 1700, .inl g52)), MB mo ma (nI t1) (nI u1507.1) (nI t3) i4 0 u1507.2.2 i7 i8 i42 i49 (nI zc) (nI zn) (nI oz) (nI bs) i61 i64 i66 (nI t67) i76 i78, (ma 0, .inl (y 0, 1600, .inl (tby tx)))]) (by rw [c1513]) ?_
                have xh1517 : RR tx t3 (advS tx t3 gz) u1507.1 i4 0 u1507.2.2 := by have hq := xh1515; rw [c1513] at hq; exact hq
                have xh1518 : mkf sz = 21 := by omega
                refine j_aload_n (pc := 337) C d_Model_goesOn_337 rfl 0 rfl ?_
                refine j_callVv (pc := 338) C (c_M_dropsToMark l D y mo ma t1 u1507.1 t3 i4 u1507.2.2 i7 i8 i42 i49 zc zn (nI oz) bs i61 i64 i66 t67 i76 i78 zf g52 s0 xx sz cz kq f0 he xh1510 (rs_at hR_ (by omega)) hT hS_ hb_ hwz_ hcz_ hK) kw_Model_359 kv_Model_dropsToMark 0 10 rfl rfl ⟨by decide, by decide⟩ ⟨by decide, by decide⟩ (wr := [(ma 0, .inl (y 0, 1600, .inl (tby tx)))]) [2, 0, 1] [3] rfl rfl (by decide) (by decide) (by decide) (As := []) (rest := []) rfl (nb rfl) rfl d_Model_goesOn_338 (fun u1519 hu1520 => ?_)
                obtain ⟨xh1521, xh1522, xh1523, xh1524, xh1525, xh1526, xh1527, xh1528, xh1529⟩ := hu1520
                refine j_ws (ws' := [(ma 0, .inl (y 0, 1600, .inl (tby tx))), MB mo ma (nI t1) (nI u1507.1) (nI t3) i4 0 u1507.2.2 i7 i8 i42 i49 (nI u1519.1) (nI u1519.2.1) (nI oz) (nI bs) i61 i64 i66 (nI t67) i76 i78, (ma 50, .inl (y 0, 3200, .inl u1519.2.2.1)), (ma 52, .inl (y 0, 1700, .inl g52))]) rfl ?_
                obtain ⟨Cq1530, xh1531⟩ := drp_m (S := sz) (cs := cz) (by omega)
                have xh1532 : u1519.2.2.2.2 = 21 :: Cq1530 := by rw [xh1529, xh1518] at xh1531; exact xh1531
                have xh1533 : WB (21 :: Cq1530) g52 bs u1519.2.1 := wb_cast xh1527 xh1532
                have xh1534 : g52 (u1519.2.1 - 1) = 21 := xh1533.2.1
                have hb1535 := xh1533.1
                obtain ⟨xh1536, xh1537⟩ := opn_mk hoz_ (xh1529.trans (by rw [xh1532])) (by decide)
                refine j_aload_n (pc := 341) C d_Model_goesOn_341 rfl 0 rfl ?_
                refine j_get (pc := 342) C gf_Model_139 1 rfl rfl d_Model_goesOn_342 ?_
                refine j_aload_n (pc := 345) C d_Model_goesOn_345 rfl 0 rfl ?_
                refine j_get (pc := 346) C gf_Model_292 1 rfl rfl d_Model_goesOn_346 ?_
                refine j_iconst (pc := 349) C (v := 1) d_Model_goesOn_349 (by decide) ?_
                refine j_isub (pc := 350) C (v := nI (u1519.2.1 - 1)) d_Model_goesOn_350 (pk_sub (a := u1519.2.1) (b := 1) (by omega)) ?_
                refine j_dup2 (pc := 351) C d_Model_goesOn_351 rfl rfl ?_
                refine j_iald (pc := 352) C 3 rfl (v := 21) (vp_in_nI (by omega) (by decide)) (by rw [nI_clamp (by omega)]; exact xh1534) d_Model_goesOn_352 ?_
                refine j_iconst (pc := 353) C (v := 2) d_Model_goesOn_353 (by decide) ?_
                refine j_iadd (pc := 354) C (v := 23) d_Model_goesOn_354 (by decide) ?_
                refine j_iast (pc := 355) C 3 rfl (ws' := [(ma 0, .inl (y 0, 1600, .inl (tby tx))), MB mo ma (nI t1) (nI u1507.1) (nI t3) i4 0 u1507.2.2 i7 i8 i42 i49 (nI u1519.1) (nI u1519.2.1) (nI oz) (nI bs) i61 i64 i66 (nI t67) i76 i78, (ma 50, .inl (y 0, 3200, .inl u1519.2.2.1)), (ma 52, .inl (y 0, 1700, .inl (upd g52 (u1519.2.1 - 1) 23)))]) (vp_in_nI (by omega) (by decide)) (by rw [nI_clamp (by omega)]; rfl) d_Model_goesOn_355 ?_
                have xh1538 : Rch tx t3 (1, (gs, cs, sk, oo)) (0, ((advS tx t3 gz), u1519.2.2.2.1, (23 :: Cq1530), oz)) := hrc_.tr (Rch.st ((stA _ _ _ _).trans ((sA_cm xh1452 xh1459 xh1472 xh1485 xh1498 (by omega)).trans ((if_pos xh1514).trans (by rw [xh1529, xh1518, xh1532] <;> rfl)))) (Rch.rf _))
                refine j_iconst (pc := 356) C (v := 1) d_Model_goesOn_356 (by decide) ?_
                exact j_iret (pc := 357) C hr (by decide) (u1507.1, 0, u1507.2.2, u1519.1, u1519.2.1, oz, u1519.2.2.1, (upd g52 (u1519.2.1 - 1) 23), (advS tx t3 gz), u1519.2.2.2.1, (23 :: Cq1530)) ⟨(show t2 ≤ u1507.1 by omega), (show u1507.1 ≤ t3 by omega), (fun _ => ⟨rfl, by omega⟩), (it_up hT (show bs ≤ u1519.2.1 - 1 by omega)), (is_at (is_le hS (show u1519.2.1 ≤ wn by omega)) (by decide)), (show bs ≤ u1519.2.1 by omega), xh1517, (fun j hj => pk_un (show j ≠ u1519.2.1 - 1 by omega)), (show oz ≤ 6 by omega), (Or.inl ⟨rfl, rfl, rs_at (rs_next xh1524 (show u1519.2.1 = u1519.2.1 - 1 + 1 by omega) (by rw [xh1534]; decide) (by decide)) (by omega), xh1538, xh1528, wb_next xh1533 (by decide), opn_nx (by have hq := opn_d2 hoz_ xh1529; rw [xh1532] at hq; exact hq) (by decide)⟩)⟩ [1, 0, 2, 3] rfl (by decide) (by decide) (by decide) d_Model_goesOn_357
              · have xh1539 : ¬ issS tx t3 44 gz = true := fun q => c1513 ((rr_z xh1512).mpr (by rw [show rsS tx t3 44 gz = advS tx t3 gz from if_pos q]; exact adv_ok xh1452))
                have xh1540 : RR tx t3 (failS 1 (stS tx t3 gz) gz) u1507.1 i4 u1507.2.1 u1507.2.2 := (rr_of xh1512 (if_neg xh1539).symm)
                have xh1541 : Rch tx t3 (1, (gs, cs, sk, oo)) (2, ((failS 1 (stS tx t3 gz) gz), cz, sz, oz)) := hrc_.tr (Rch.st ((stA _ _ _ _).trans ((sA_cm xh1452 xh1459 xh1472 xh1485 xh1498 (by omega)).trans (if_neg xh1539))) (Rch.rf _))
                refine j_iconst (pc := 335) C (v := 0) d_Model_goesOn_335 (by decide) ?_
                have xh1542 : RS kq s0 f0 (xx + 1) u1507.2.1 zf g52 zc zn az := rs_bad hR_ c1513
                exact j_iret (pc := 336) C hr (by decide) (u1507.1, u1507.2.1, u1507.2.2, zc, zn, oz, zf, g52, (failS 1 (stS tx t3 gz) gz), cz, sz) ⟨(show t2 ≤ u1507.1 by omega), (show u1507.1 ≤ t3 by omega), (fun _ => ⟨rfl, by omega⟩), hT, hS_, (show bs ≤ zn by omega), xh1540, (fun _ _ => rfl), (show oz ≤ 6 by omega), (Or.inr ⟨rfl, (rs_at xh1542 (by omega)), (fun e => absurd e c1513), (fun _ => ⟨_, _, _, xh1541⟩)⟩)⟩ [2, 3, 0, 1] rfl (by decide) (by decide) (by decide) d_Model_goesOn_336
            · refine j_icmp_eqF (pc := 310) C (tgt := 322) d_Model_goesOn_310 (by decide) (show ¬ mkI sz = 21 from fun e => absurd ((mkI_iff (c := 21) (by decide) (by decide)).mp e) (by omega)) ?_
              refine j_aload_n (pc := 313) C d_Model_goesOn_313 rfl 0 rfl ?_
              refine j_callVi (pc := 314) C (c_M_mark l D y mo ma t1 u1493 t3 i4 0 i6 i7 i8 i42 i49 (nI zc) zn (nI oz) bs i61 i64 i66 t67 i76 i78 g52 sz hb_ (by omega) hwz_) kw_Model_356 kv_Model_mark 0 10 rfl rfl ⟨by decide, by decide⟩ ⟨by decide, by decide⟩ (wr := [(ma 50, .inl (y 0, 3200, .inl zf)), (ma 0, .inl (y 0, 1600, .inl (tby tx)))]) [2, 3] [0, 1] rfl rfl (by decide) (by decide) (by decide) (As := []) (rest := []) rfl (nb rfl) rfl d_Model_goesOn_314 (fun r1543 _ hr1543 => ?_)
              obtain rfl := hr1543
              refine j_ws (ws' := [(ma 50, .inl (y 0, 3200, .inl zf)), (ma 0, .inl (y 0, 1600, .inl (tby tx))), MB mo ma (nI t1) (nI u1493) (nI t3) i4 0 i6 i7 i8 i42 i49 (nI zc) (nI zn) (nI oz) (nI bs) i61 i64 i66 (nI t67) i76 i78, (ma 52, .inl (y 0, 1700, .inl g52))]) rfl ?_
              refine j_bipush (pc := 317) C (v := 22) d_Model_goesOn_317 (by decide) ?_
              by_cases c1544 : ¬ mkf sz = 22
              · refine j_icmp_neT (pc := 319) C (tgt := 358) d_Model_goesOn_319 (by decide) (show ¬ mkI sz = 22 from fun e => absurd ((mkI_iff (c := 22) (by decide) (by decide)).mp e) (by omega)) ?_
                refine j_aload_n (pc := 358) C d_Model_goesOn_358 rfl 0 rfl ?_
                refine j_callVi (pc := 359) C (c_M_mark l D y mo ma t1 u1493 t3 i4 0 i6 i7 i8 i42 i49 (nI zc) zn (nI oz) bs i61 i64 i66 t67 i76 i78 g52 sz hb_ (by omega) hwz_) kw_Model_356 kv_Model_mark 0 10 rfl rfl ⟨by decide, by decide⟩ ⟨by decide, by decide⟩ (wr := [(ma 50, .inl (y 0, 3200, .inl zf)), (ma 0, .inl (y 0, 1600, .inl (tby tx)))]) [2, 3] [0, 1] rfl rfl (by decide) (by decide) (by decide) (As := []) (rest := []) rfl (nb rfl) rfl d_Model_goesOn_359 (fun r1545 _ hr1545 => ?_)
                obtain rfl := hr1545
                refine j_ws (ws' := [(ma 50, .inl (y 0, 3200, .inl zf)), (ma 0, .inl (y 0, 1600, .inl (tby tx))), MB mo ma (nI t1) (nI u1493) (nI t3) i4 0 i6 i7 i8 i42 i49 (nI zc) (nI zn) (nI oz) (nI bs) i61 i64 i66 (nI t67) i76 i78, (ma 52, .inl (y 0, 1700, .inl g52))]) rfl ?_
                refine j_iconst (pc := 362) C (v := (-1)) d_Model_goesOn_362 (by decide) ?_
                by_cases c1546 : mkf sz = 0
                · refine j_icmp_eqT (pc := 363) C (tgt := 382) d_Model_goesOn_363 (by decide) (mkI_m1.mpr (by omega)) ?_
                  have xh1547 : Rch tx t3 (1, (gs, cs, sk, oo)) (2, (gz, cz, sz, oz)) := hrc_.tr (Rch.st ((stA _ _ _ _).trans (sA_en2 xh1452 xh1451 xh1459 xh1472 xh1485 xh1498 (by omega))) (Rch.rf _))
                  refine j_iconst (pc := 382) C (v := 0) d_Model_goesOn_382 (by decide) ?_
                  exact j_iret (pc := 383) C hr (by decide) (u1493, 0, i6, zc, zn, oz, zf, g52, gz, cz, sz) ⟨(show t2 ≤ u1493 by omega), (show u1493 ≤ t3 by omega), (fun _ => ⟨rfl, by omega⟩), hT, hS_, (show bs ≤ zn by omega), xh1497, (fun _ _ => rfl), (show oz ≤ 6 by omega), (Or.inr ⟨rfl, (rs_at hR_ (by omega)), (fun _ => ⟨wb_nm hwz_ (by omega), xh1547, hcz_, hwz_, by omega⟩), (fun e => absurd rfl e)⟩)⟩ [2, 1, 0, 3] rfl (by decide) (by decide) (by decide) d_Model_goesOn_383
                · refine j_icmp_eqF (pc := 363) C (tgt := 382) d_Model_goesOn_363 (by decide) (fun e => absurd (mkI_m1.mp e) (by omega)) ?_
                  refine j_aload_n (pc := 366) C d_Model_goesOn_366 rfl 0 rfl ?_
                  refine j_get (pc := 367) C gf_Model_201 2 rfl rfl d_Model_goesOn_367 ?_
                  refine j_if_neF (pc := 370) C (tgt := 382) d_Model_goesOn_370 (by decide) (by decide) ?_
                  refine j_aload_n (pc := 373) C d_Model_goesOn_373 rfl 0 rfl ?_
                  refine j_iconst (pc := 374) C (v := 1) d_Model_goesOn_374 (by decide) ?_
                  refine j_aload_n (pc := 375) C d_Model_goesOn_375 rfl 0 rfl ?_
                  refine j_get (pc := 376) C gf_Model_207 2 rfl rfl d_Model_goesOn_376 ?_
                  refine j_callVv (pc := 379) C (c_M_fail_1 l D y mo ma t1 u1493 t3 i4 0 i6 i7 i8 i42 i49 (nI zc) (nI zn) (nI oz) (nI bs) i61 i64 i66 t67 i76 i78 u1493 gz tx ((rr_z xh1497).mp rfl) (by omega) rfl) kw_Model_230 kv_Model_fail 0 10 rfl rfl ⟨by decide, by decide⟩ ⟨by decide, by decide⟩ (wr := [(ma 50, .inl (y 0, 3200, .inl zf)), (ma 0, .inl (y 0, 1600, .inl (tby tx))), (ma 52, .inl (y 0, 1700, .inl g52))]) [2] [0, 1, 3] rfl rfl (by decide) (by decide) (by decide) (As := [.int 1, .int (nI u1493)]) (rest := []) rfl (nb rfl) rfl d_Model_goesOn_379 (fun u1548 hu1549 => ?_)
                  obtain ⟨xh1550, xh1551⟩ := hu1549
                  refine j_ws (ws' := [(ma 50, .inl (y 0, 3200, .inl zf)), (ma 0, .inl (y 0, 1600, .inl (tby tx))), (ma 52, .inl (y 0, 1700, .inl g52)), MB mo ma (nI t1) (nI u1493) (nI t3) i4 u1548.1 u1548.2 i7 i8 i42 i49 (nI zc) (nI zn) (nI oz) (nI bs) i61 i64 i66 (nI t67) i76 i78]) rfl ?_
                  have xh1552 : RR tx t3 (failS 1 (stS tx t3 gz) gz) u1493 i4 u1548.1 u1548.2 := (rr_of xh1551 (by rw [← xh1499 rfl]))
                  have xh1553 : Rch tx t3 (1, (gs, cs, sk, oo)) (2, ((failS 1 (stS tx t3 gz) gz), cz, sz, oz)) := hrc_.tr (Rch.st ((stA _ _ _ _).trans (sA_no2 xh1452 xh1451 xh1459 xh1472 xh1485 xh1498 (by omega) (by omega))) (Rch.rf _))
                  refine j_iconst (pc := 382) C (v := 0) d_Model_goesOn_382 (by decide) ?_
                  have xh1554 : RS kq s0 f0 (xx + 1) u1548.1 zf g52 zc zn az := rs_bad hR_ xh1550
                  exact j_iret (pc := 383) C hr (by decide) (u1493, u1548.1, u1548.2, zc, zn, oz, zf, g52, (failS 1 (stS tx t3 gz) gz), cz, sz) ⟨(show t2 ≤ u1493 by omega), (show u1493 ≤ t3 by omega), (fun _ => ⟨rfl, by omega⟩), hT, hS_, (show bs ≤ zn by omega), xh1552, (fun _ _ => rfl), (show oz ≤ 6 by omega), (Or.inr ⟨rfl, (rs_at xh1554 (by omega)), (fun e => absurd e xh1550), (fun _ => ⟨_, _, _, xh1553⟩)⟩)⟩ [3, 1, 0, 2] rfl (by decide) (by decide) (by decide) d_Model_goesOn_383
              · refine j_icmp_neF (pc := 319) C (tgt := 358) d_Model_goesOn_319 (by decide) (show mkI sz = 22 from (mkI_iff (c := 22) (by decide) (by decide)).mpr (by omega)) ?_
                refine j_aload_n (pc := 322) C d_Model_goesOn_322 rfl 0 rfl ?_
                refine j_bipush (pc := 323) C (v := 44) d_Model_goesOn_323 (by decide) ?_
                refine j_callVv (pc := 325) C (c_M_asksSign l D y mo ma t1 u1493 t3 i4 0 i6 i7 i8 i42 i49 (nI zc) (nI zn) (nI oz) (nI bs) i61 i64 i66 t67 i76 i78 tx 44 gz xh1495 he hB xh1497 (by omega) (by decide)) kw_Model_271 kv_Model_asksSign 0 10 rfl rfl ⟨by decide, by decide⟩ ⟨by decide, by decide⟩ (wr := [(ma 50, .inl (y 0, 3200, .inl zf)), (ma 52, .inl (y 0, 1700, .inl g52))]) [2, 1] [0, 3] rfl rfl (by decide) (by decide) (by decide) (As := [.int 44]) (rest := []) rfl (nb rfl) rfl d_Model_goesOn_325 (fun u1555 hu1556 => ?_)
                obtain ⟨xh1557, xh1558, xh1559, xh1560⟩ := hu1556
                refine j_ws (ws' := [(ma 50, .inl (y 0, 3200, .inl zf)), (ma 52, .inl (y 0, 1700, .inl g52)), MB mo ma (nI t1) (nI u1555.1) (nI t3) i4 u1555.2.1 u1555.2.2 i7 i8 i42 i49 (nI zc) (nI zn) (nI oz) (nI bs) i61 i64 i66 (nI t67) i76 i78, (ma 0, .inl (y 0, 1600, .inl (tby tx)))]) rfl ?_
                refine j_aload_n (pc := 328) C d_Model_goesOn_328 rfl 0 rfl ?_
                refine j_get (pc := 329) C gf_Model_201 2 rfl rfl d_Model_goesOn_329 ?_
                refine j_if_eq (pc := 332) C (tgt := 337) d_Model_goesOn_332 (by decide) (fun c1561 => ?_) (fun c1561 => ?_)
                · have xh1562 : issS tx t3 44 gz = true := (rs_ok ((rr_z xh1560).mp c1561)).1
                  have xh1563 : RR tx t3 (advS tx t3 gz) u1555.1 i4 u1555.2.1 u1555.2.2 := (rr_of xh1560 (if_pos xh1562).symm)
                  have xh1564 : RS kq s0 f0 (xx + 1) u1555.2.1 zf g52 zc zn az := rs_mono hR_ (fun _ => rfl)
                  refine j_ws (ws' := [(ma 50, .inl (y 0, 3200, .inl zf)), (ma 52, .inl (y 0, 1700, .inl g52)), MB mo ma (nI t1) (nI u1555.1) (nI t3) i4 0 u1555.2.2 i7 i8 i42 i49 (nI zc) (nI zn) (nI oz) (nI bs) i61 i64 i66 (nI t67) i76 i78, (ma 0, .inl (y 0, 1600, .inl (tby tx)))]) (by rw [c1561]) ?_
                  have xh1565 : RR tx t3 (advS tx t3 gz) u1555.1 i4 0 u1555.2.2 := by have hq := xh1563; rw [c1561] at hq; exact hq
                  have xh1566 : mkf sz = 22 := by omega
                  refine j_aload_n (pc := 337) C d_Model_goesOn_337 rfl 0 rfl ?_
                  refine j_callVv (pc := 338) C (c_M_dropsToMark l D y mo ma t1 u1555.1 t3 i4 u1555.2.2 i7 i8 i42 i49 zc zn (nI oz) bs i61 i64 i66 t67 i76 i78 zf g52 s0 xx sz cz kq f0 he xh1558 (rs_at hR_ (by omega)) hT hS_ hb_ hwz_ hcz_ hK) kw_Model_359 kv_Model_dropsToMark 0 10 rfl rfl ⟨by decide, by decide⟩ ⟨by decide, by decide⟩ (wr := [(ma 0, .inl (y 0, 1600, .inl (tby tx)))]) [2, 0, 1] [3] rfl rfl (by decide) (by decide) (by decide) (As := []) (rest := []) rfl (nb rfl) rfl d_Model_goesOn_338 (fun u1567 hu1568 => ?_)
                  obtain ⟨xh1569, xh1570, xh1571, xh1572, xh1573, xh1574, xh1575, xh1576, xh1577⟩ := hu1568
                  refine j_ws (ws' := [(ma 0, .inl (y 0, 1600, .inl (tby tx))), MB mo ma (nI t1) (nI u1555.1) (nI t3) i4 0 u1555.2.2 i7 i8 i42 i49 (nI u1567.1) (nI u1567.2.1) (nI oz) (nI bs) i61 i64 i66 (nI t67) i76 i78, (ma 50, .inl (y 0, 3200, .inl u1567.2.2.1)), (ma 52, .inl (y 0, 1700, .inl g52))]) rfl ?_
                  obtain ⟨Cq1578, xh1579⟩ := drp_m (S := sz) (cs := cz) (by omega)
                  have xh1580 : u1567.2.2.2.2 = 22 :: Cq1578 := by rw [xh1577, xh1566] at xh1579; exact xh1579
                  have xh1581 : WB (22 :: Cq1578) g52 bs u1567.2.1 := wb_cast xh1575 xh1580
                  have xh1582 : g52 (u1567.2.1 - 1) = 22 := xh1581.2.1
                  have hb1583 := xh1581.1
                  obtain ⟨xh1584, xh1585⟩ := opn_mk hoz_ (xh1577.trans (by rw [xh1580])) (by decide)
                  refine j_aload_n (pc := 341) C d_Model_goesOn_341 rfl 0 rfl ?_
                  refine j_get (pc := 342) C gf_Model_139 1 rfl rfl d_Model_goesOn_342 ?_
                  refine j_aload_n (pc := 345) C d_Model_goesOn_345 rfl 0 rfl ?_
                  refine j_get (pc := 346) C gf_Model_292 1 rfl rfl d_Model_goesOn_346 ?_
                  refine j_iconst (pc := 349) C (v := 1) d_Model_goesOn_349 (by decide) ?_
                  refine j_isub (pc := 350) C (v := nI (u1567.2.1 - 1)) d_Model_goesOn_350 (pk_sub (a := u1567.2.1) (b := 1) (by omega)) ?_
                  refine j_dup2 (pc := 351) C d_Model_goesOn_351 rfl rfl ?_
                  refine j_iald (pc := 352) C 3 rfl (v := 22) (vp_in_nI (by omega) (by decide)) (by rw [nI_clamp (by omega)]; exact xh1582) d_Model_goesOn_352 ?_
                  refine j_iconst (pc := 353) C (v := 2) d_Model_goesOn_353 (by decide) ?_
                  refine j_iadd (pc := 354) C (v := 24) d_Model_goesOn_354 (by decide) ?_
                  refine j_iast (pc := 355) C 3 rfl (ws' := [(ma 0, .inl (y 0, 1600, .inl (tby tx))), MB mo ma (nI t1) (nI u1555.1) (nI t3) i4 0 u1555.2.2 i7 i8 i42 i49 (nI u1567.1) (nI u1567.2.1) (nI oz) (nI bs) i61 i64 i66 (nI t67) i76 i78, (ma 50, .inl (y 0, 3200, .inl u1567.2.2.1)), (ma 52, .inl (y 0, 1700, .inl (upd g52 (u1567.2.1 - 1) 24)))]) (vp_in_nI (by omega) (by decide)) (by rw [nI_clamp (by omega)]; rfl) d_Model_goesOn_355 ?_
                  have xh1586 : Rch tx t3 (1, (gs, cs, sk, oo)) (0, ((advS tx t3 gz), u1567.2.2.2.1, (24 :: Cq1578), oz)) := hrc_.tr (Rch.st ((stA _ _ _ _).trans ((sA_cm xh1452 xh1459 xh1472 xh1485 xh1498 (by omega)).trans ((if_pos xh1562).trans (by rw [xh1577, xh1566, xh1580] <;> rfl)))) (Rch.rf _))
                  refine j_iconst (pc := 356) C (v := 1) d_Model_goesOn_356 (by decide) ?_
                  exact j_iret (pc := 357) C hr (by decide) (u1555.1, 0, u1555.2.2, u1567.1, u1567.2.1, oz, u1567.2.2.1, (upd g52 (u1567.2.1 - 1) 24), (advS tx t3 gz), u1567.2.2.2.1, (24 :: Cq1578)) ⟨(show t2 ≤ u1555.1 by omega), (show u1555.1 ≤ t3 by omega), (fun _ => ⟨rfl, by omega⟩), (it_up hT (show bs ≤ u1567.2.1 - 1 by omega)), (is_at (is_le hS (show u1567.2.1 ≤ wn by omega)) (by decide)), (show bs ≤ u1567.2.1 by omega), xh1565, (fun j hj => pk_un (show j ≠ u1567.2.1 - 1 by omega)), (show oz ≤ 6 by omega), (Or.inl ⟨rfl, rfl, rs_at (rs_next xh1572 (show u1567.2.1 = u1567.2.1 - 1 + 1 by omega) (by rw [xh1582]; decide) (by decide)) (by omega), xh1586, xh1576, wb_next xh1581 (by decide), opn_nx (by have hq := opn_d2 hoz_ xh1577; rw [xh1580] at hq; exact hq) (by decide)⟩)⟩ [1, 0, 2, 3] rfl (by decide) (by decide) (by decide) d_Model_goesOn_357
                · have xh1587 : ¬ issS tx t3 44 gz = true := fun q => c1561 ((rr_z xh1560).mpr (by rw [show rsS tx t3 44 gz = advS tx t3 gz from if_pos q]; exact adv_ok xh1452))
                  have xh1588 : RR tx t3 (failS 1 (stS tx t3 gz) gz) u1555.1 i4 u1555.2.1 u1555.2.2 := (rr_of xh1560 (if_neg xh1587).symm)
                  have xh1589 : Rch tx t3 (1, (gs, cs, sk, oo)) (2, ((failS 1 (stS tx t3 gz) gz), cz, sz, oz)) := hrc_.tr (Rch.st ((stA _ _ _ _).trans ((sA_cm xh1452 xh1459 xh1472 xh1485 xh1498 (by omega)).trans (if_neg xh1587))) (Rch.rf _))
                  refine j_iconst (pc := 335) C (v := 0) d_Model_goesOn_335 (by decide) ?_
                  have xh1590 : RS kq s0 f0 (xx + 1) u1555.2.1 zf g52 zc zn az := rs_bad hR_ c1561
                  exact j_iret (pc := 336) C hr (by decide) (u1555.1, u1555.2.1, u1555.2.2, zc, zn, oz, zf, g52, (failS 1 (stS tx t3 gz) gz), cz, sz) ⟨(show t2 ≤ u1555.1 by omega), (show u1555.1 ≤ t3 by omega), (fun _ => ⟨rfl, by omega⟩), hT, hS_, (show bs ≤ zn by omega), xh1588, (fun _ _ => rfl), (show oz ≤ 6 by omega), (Or.inr ⟨rfl, (rs_at xh1590 (by omega)), (fun e => absurd e c1561), (fun _ => ⟨_, _, _, xh1589⟩)⟩)⟩ [2, 3, 0, 1] rfl (by decide) (by decide) (by decide) d_Model_goesOn_336
          · refine j_if_eqF (pc := 218) C (tgt := 304) d_Model_goesOn_218 (by decide) (by decide) ?_
            refine j_aload_n (pc := 221) C d_Model_goesOn_221 rfl 0 rfl ?_
            refine j_get (pc := 222) C gf_Model_7 2 rfl rfl d_Model_goesOn_222 ?_
            refine j_aload_n (pc := 225) C d_Model_goesOn_225 rfl 0 rfl ?_
            refine j_get (pc := 226) C gf_Model_207 2 rfl rfl d_Model_goesOn_226 ?_
            refine j_iconst (pc := 229) C (v := 1) d_Model_goesOn_229 (by decide) ?_
            refine j_isub (pc := 230) C (v := nI (u1493 - 1)) d_Model_goesOn_230 (pk_sub (a := u1493) (b := 1) (by omega)) ?_
            refine j_iald (pc := 231) C 3 rfl (v := 45) (vp_in_nI (by omega) (by decide)) (by rw [nI_clamp (by omega)]; exact congrArg nI xh1504) d_Model_goesOn_231 ?_
            refine j_bipush (pc := 232) C (v := 43) d_Model_goesOn_232 (by decide) ?_
            refine j_icmp_neT (pc := 234) C (tgt := 241) d_Model_goesOn_234 (by decide) (by decide) ?_
            refine j_iconst (pc := 241) C (v := 2) d_Model_goesOn_241 (by decide) ?_
            refine j_istore_n (pc := 242) C (lv' := [(1, .int 2), (0, .ref mo)]) d_Model_goesOn_242 rfl (by decide) rfl ?_
            refine j_loop (α := Nat × Nat × (Nat → Int32) × List Nat × List Nat) (fun a => a.2.1) (fun a => (bs ≤ a.2.1) ∧ (a.2.1 ≤ zn) ∧ (RS kq s0 f0 (xx + 1) 0 a.2.2.1 g52 a.1 a.2.1 az) ∧ (WB a.2.2.2.1 g52 bs a.2.1) ∧ (CD a.2.2.2.2 a.2.2.1 a.1) ∧ (drp isAo a.2.2.2.1 a.2.2.2.2 = drp isAo sz cz) ∧ (opn a.2.2.2.1 ≤ oz)) (fun a => [(ma 50, .inl (y 0, 3200, .inl a.2.2.1)), (ma 52, .inl (y 0, 1700, .inl g52)), MB mo ma (nI t1) (nI u1493) (nI t3) i4 0 i6 i7 i8 i42 i49 (nI a.1) (nI a.2.1) (nI oz) (nI bs) i61 i64 i66 (nI t67) i76 i78, (ma 0, .inl (y 0, 1600, .inl (tby tx)))]) (fun a => [(1, .int 2), (0, .ref mo)]) (zc, zn, zf, sz, cz) rfl rfl ⟨hb_, (show zn ≤ zn by omega), hR_, hwz_, hcz_, rfl, hoz_⟩ ?_
            rintro ⟨yc, yn, yf, sy, cy⟩ hP1641 ih1642
            obtain ⟨hby__, hny__, hRy__, hWy__, hCy__, hDy__, hOy__⟩ := hP1641
            have hby_ : bs ≤ yn := hby__
            have hny_ : yn ≤ zn := hny__
            have hRy_ : RS kq s0 f0 (xx + 1) 0 yf g52 yc yn az := hRy__
            have hWy_ : WB sy g52 bs yn := hWy__
            have hCy_ : CD cy yf yc := hCy__
            have hDy_ : drp isAo sy cy = drp isAo sz cz := hDy__
            have hOy_ : opn sy ≤ oz := hOy__
            refine j_ws (ws' := [(ma 50, .inl (y 0, 3200, .inl yf)), (ma 52, .inl (y 0, 1700, .inl g52)), MB mo ma (nI t1) (nI u1493) (nI t3) i4 0 i6 i7 i8 i42 i49 (nI yc) (nI yn) (nI oz) (nI bs) i61 i64 i66 (nI t67) i76 i78, (ma 0, .inl (y 0, 1600, .inl (tby tx)))]) rfl ?_
            refine j_lv (lv' := [(1, .int 2), (0, .ref mo)]) rfl ?_
            have hacy := rs_ac3 hRy_
            have hSy_ : ISm g52 bs yn := is_le hS (by omega)
            refine j_aload_n (pc := 243) C d_Model_goesOn_243 rfl 1 rfl ?_
            refine j_iconst (pc := 244) C (v := 3) d_Model_goesOn_244 (by decide) ?_
            refine j_callVi (pc := 245) C (c_M_isOn l D y mo ma t1 u1493 t3 i4 0 i6 i7 i8 i42 i49 (nI yc) yn (nI oz) (nI bs) i61 i64 i66 t67 i76 i78 g52 3 (by omega)) kw_Model_362 kv_Model_isOn 0 10 rfl rfl ⟨by decide, by decide⟩ ⟨by decide, by decide⟩ (wr := [(ma 50, .inl (y 0, 3200, .inl yf)), (ma 0, .inl (y 0, 1600, .inl (tby tx)))]) [2, 1] [0, 3] rfl rfl (by decide) (by decide) (by decide) (As := [.int 3]) (rest := []) rfl (nb rfl) rfl d_Model_goesOn_245 (fun r1643 _ hr1643 => ?_)
            refine j_ws (ws' := [(ma 50, .inl (y 0, 3200, .inl yf)), (ma 0, .inl (y 0, 1600, .inl (tby tx))), MB mo ma (nI t1) (nI u1493) (nI t3) i4 0 i6 i7 i8 i42 i49 (nI yc) (nI yn) (nI oz) (nI bs) i61 i64 i66 (nI t67) i76 i78, (ma 52, .inl (y 0, 1700, .inl g52))]) rfl ?_
            rcases hr1643 with ⟨rfl, xh1645⟩ | ⟨rfl, xh1646, e1647⟩
            · refine j_if_neF (pc := 248) C (tgt := 275) d_Model_goesOn_248 (by decide) (by decide) ?_
              refine j_aload_n (pc := 251) C d_Model_goesOn_251 rfl 1 rfl ?_
              refine j_iconst (pc := 252) C (v := 4) d_Model_goesOn_252 (by decide) ?_
              refine j_callVi (pc := 253) C (c_M_isOn l D y mo ma t1 u1493 t3 i4 0 i6 i7 i8 i42 i49 (nI yc) yn (nI oz) (nI bs) i61 i64 i66 t67 i76 i78 g52 4 (by omega)) kw_Model_362 kv_Model_isOn 0 10 rfl rfl ⟨by decide, by decide⟩ ⟨by decide, by decide⟩ (wr := [(ma 50, .inl (y 0, 3200, .inl yf)), (ma 0, .inl (y 0, 1600, .inl (tby tx)))]) [2, 3] [0, 1] rfl rfl (by decide) (by decide) (by decide) (As := [.int 4]) (rest := []) rfl (nb rfl) rfl d_Model_goesOn_253 (fun r1648 _ hr1648 => ?_)
              refine j_ws (ws' := [(ma 50, .inl (y 0, 3200, .inl yf)), (ma 0, .inl (y 0, 1600, .inl (tby tx))), MB mo ma (nI t1) (nI u1493) (nI t3) i4 0 i6 i7 i8 i42 i49 (nI yc) (nI yn) (nI oz) (nI bs) i61 i64 i66 (nI t67) i76 i78, (ma 52, .inl (y 0, 1700, .inl g52))]) rfl ?_
              rcases hr1648 with ⟨rfl, xh1650⟩ | ⟨rfl, xh1651, e1652⟩
              · refine j_if_neF (pc := 256) C (tgt := 275) d_Model_goesOn_256 (by decide) (by decide) ?_
                refine j_aload_n (pc := 259) C d_Model_goesOn_259 rfl 1 rfl ?_
                refine j_iconst (pc := 260) C (v := 1) d_Model_goesOn_260 (by decide) ?_
                refine j_callVi (pc := 261) C (c_M_isOn l D y mo ma t1 u1493 t3 i4 0 i6 i7 i8 i42 i49 (nI yc) yn (nI oz) (nI bs) i61 i64 i66 t67 i76 i78 g52 1 (by omega)) kw_Model_362 kv_Model_isOn 0 10 rfl rfl ⟨by decide, by decide⟩ ⟨by decide, by decide⟩ (wr := [(ma 50, .inl (y 0, 3200, .inl yf)), (ma 0, .inl (y 0, 1600, .inl (tby tx)))]) [2, 3] [0, 1] rfl rfl (by decide) (by decide) (by decide) (As := [.int 1]) (rest := []) rfl (nb rfl) rfl d_Model_goesOn_261 (fun r1653 _ hr1653 => ?_)
                refine j_ws (ws' := [(ma 50, .inl (y 0, 3200, .inl yf)), (ma 0, .inl (y 0, 1600, .inl (tby tx))), MB mo ma (nI t1) (nI u1493) (nI t3) i4 0 i6 i7 i8 i42 i49 (nI yc) (nI yn) (nI oz) (nI bs) i61 i64 i66 (nI t67) i76 i78, (ma 52, .inl (y 0, 1700, .inl g52))]) rfl ?_
                rcases hr1653 with ⟨rfl, xh1655⟩ | ⟨rfl, xh1656, e1657⟩
                · refine j_if_neF (pc := 264) C (tgt := 275) d_Model_goesOn_264 (by decide) (by decide) ?_
                  refine j_aload_n (pc := 267) C d_Model_goesOn_267 rfl 1 rfl ?_
                  refine j_iconst (pc := 268) C (v := 2) d_Model_goesOn_268 (by decide) ?_
                  refine j_callVi (pc := 269) C (c_M_isOn l D y mo ma t1 u1493 t3 i4 0 i6 i7 i8 i42 i49 (nI yc) yn (nI oz) (nI bs) i61 i64 i66 t67 i76 i78 g52 2 (by omega)) kw_Model_362 kv_Model_isOn 0 10 rfl rfl ⟨by decide, by decide⟩ ⟨by decide, by decide⟩ (wr := [(ma 50, .inl (y 0, 3200, .inl yf)), (ma 0, .inl (y 0, 1600, .inl (tby tx)))]) [2, 3] [0, 1] rfl rfl (by decide) (by decide) (by decide) (As := [.int 2]) (rest := []) rfl (nb rfl) rfl d_Model_goesOn_269 (fun r1658 _ hr1658 => ?_)
                  refine j_ws (ws' := [(ma 50, .inl (y 0, 3200, .inl yf)), (ma 0, .inl (y 0, 1600, .inl (tby tx))), MB mo ma (nI t1) (nI u1493) (nI t3) i4 0 i6 i7 i8 i42 i49 (nI yc) (nI yn) (nI oz) (nI bs) i61 i64 i66 (nI t67) i76 i78, (ma 52, .inl (y 0, 1700, .inl g52))]) rfl ?_
                  rcases hr1658 with ⟨rfl, xh1660⟩ | ⟨rfl, xh1661, e1662⟩
                  · refine j_if_eqT (pc := 272) C (tgt := 282) d_Model_goesOn_272 (by decide) (by decide) ?_
                    have xh1663 : drp isAo sz cz = (sy, cy) := hDy_.symm.trans (drp_no (fun v hv => ao_no (on_no (c := 1) hWy_ xh1655 v hv) (on_no (c := 2) hWy_ xh1660 v hv) (on_no (c := 3) hWy_ xh1645 v hv) (on_no (c := 4) hWy_ xh1650 v hv)))
                    have xh1664 : Rch tx t3 (1, (gs, cs, sk, oo)) (0, ((advS tx t3 gz), cy, (2 :: sy), oz)) := hrc_.tr (Rch.st ((stA _ _ _ _).trans ((sA_A (Or.inr xh1501)).trans (by rw [xh1663, if_neg xh1485]))) (Rch.rf _))
                    refine j_aload_n (pc := 282) C d_Model_goesOn_282 rfl 1 rfl ?_
                    refine j_get (pc := 283) C gf_Model_139 2 rfl rfl d_Model_goesOn_283 ?_
                    refine j_aload_n (pc := 286) C d_Model_goesOn_286 rfl 1 rfl ?_
                    refine j_get (pc := 287) C gf_Model_292 2 rfl rfl d_Model_goesOn_287 ?_
                    refine j_iload_n (pc := 290) C d_Model_goesOn_290 rfl 0 rfl ?_
                    refine j_iast (pc := 291) C 3 rfl (ws' := [(ma 50, .inl (y 0, 3200, .inl yf)), (ma 0, .inl (y 0, 1600, .inl (tby tx))), MB mo ma (nI t1) (nI u1493) (nI t3) i4 0 i6 i7 i8 i42 i49 (nI yc) (nI yn) (nI oz) (nI bs) i61 i64 i66 (nI t67) i76 i78, (ma 52, .inl (y 0, 1700, .inl (upd g52 yn 2)))]) (vp_in_nI (by omega) (by decide)) (by rw [nI_clamp (by omega)]; rfl) d_Model_goesOn_291 ?_
                    refine j_aload_n (pc := 292) C d_Model_goesOn_292 rfl 1 rfl ?_
                    refine j_dup (pc := 293) C d_Model_goesOn_293 rfl ?_
                    refine j_get (pc := 294) C gf_Model_292 2 rfl rfl d_Model_goesOn_294 ?_
                    refine j_iconst (pc := 297) C (v := 1) d_Model_goesOn_297 (by decide) ?_
                    refine j_iadd (pc := 298) C (v := nI (yn + 1)) d_Model_goesOn_298 (nI_add _ _) ?_
                    refine j_put (pc := 299) C pf_Model_292 2 (ws' := [(ma 50, .inl (y 0, 3200, .inl yf)), (ma 0, .inl (y 0, 1600, .inl (tby tx))), MB mo ma (nI t1) (nI u1493) (nI t3) i4 0 i6 i7 i8 i42 i49 (nI yc) (nI (yn + 1)) (nI oz) (nI bs) i61 i64 i66 (nI t67) i76 i78, (ma 52, .inl (y 0, 1700, .inl (upd g52 yn 2)))]) rfl rfl rfl (nl rfl) rfl d_Model_goesOn_299 ?_
                    refine j_iconst (pc := 302) C (v := 1) d_Model_goesOn_302 (by decide) ?_
                    exact j_iret (pc := 303) C hr (by decide) (u1493, 0, i6, yc, (yn + 1), oz, yf, (upd g52 yn 2), (advS tx t3 gz), cy, (2 :: sy)) ⟨(show t2 ≤ u1493 by omega), (show u1493 ≤ t3 by omega), (fun _ => ⟨rfl, by omega⟩), (it_up hT (show bs ≤ yn by omega)), (is_up hSy_ (by decide)), (show bs ≤ (yn + 1) by omega), xh1500, (fun j hj => pk_un (show j ≠ yn by omega)), (show oz ≤ 6 by omega), (Or.inl ⟨rfl, rfl, rs_op hRy_ (by decide) (show az < u1493 by omega), xh1664, hCy_, wb_push hWy_ (by decide), opn_op hOy_ (by decide)⟩)⟩ [2, 1, 0, 3] rfl (by decide) (by decide) (by decide) d_Model_goesOn_303
                  · refine j_if_eqF (pc := 272) C (tgt := 282) d_Model_goesOn_272 (by decide) (by decide) ?_
                    have hbz : bs < yn := top_s hT e1662 (by omega) (by omega) (by decide)
                    obtain ⟨vq1665, sq1666, xh1667, xh1668, xh1669, xh1670⟩ := wb_top hWy_ hbz
                    have xh1671 : vq1665 = 2 := on_yes xh1668 xh1669 (by decide) e1662
                    refine j_aload_n (pc := 275) C d_Model_goesOn_275 rfl 1 rfl ?_
                    refine j_callVv (pc := 276) C (c_M_drops l D y mo ma t1 u1493 t3 i4 0 i6 i7 i8 i42 i49 yc yn (nI oz) (nI bs) i61 i64 i66 t67 i76 i78 yf g52 (by omega) (by omega) (by omega)) kw_Model_350 kv_Model_drops 0 10 rfl rfl ⟨by decide, by decide⟩ ⟨by decide, by decide⟩ (wr := [(ma 0, .inl (y 0, 1600, .inl (tby tx)))]) [2, 0, 3] [1] rfl rfl (by decide) (by decide) (by decide) (As := []) (rest := []) rfl (nb rfl) rfl d_Model_goesOn_276 (fun _ _ => ?_)
                    refine j_ws (ws' := [(ma 0, .inl (y 0, 1600, .inl (tby tx))), MB mo ma (nI t1) (nI u1493) (nI t3) i4 0 i6 i7 i8 i42 i49 (nI (yc + 1)) (nI (yn - 1)) (nI oz) (nI bs) i61 i64 i66 (nI t67) i76 i78, (ma 50, .inl (y 0, 3200, .inl (upd yf yc (g52 (yn - 1))))), (ma 52, .inl (y 0, 1700, .inl g52))]) rfl ?_
                    refine j_goto (pc := 279) C (tgt := 243) d_Model_goesOn_279 (by decide) ?_
                    refine j_sub (ws' := [(ma 50, .inl (y 0, 3200, .inl (upd yf yc (g52 (yn - 1))))), (ma 52, .inl (y 0, 1700, .inl g52)), MB mo ma (nI t1) (nI u1493) (nI t3) i4 0 i6 i7 i8 i42 i49 (nI (yc + 1)) (nI (yn - 1)) (nI oz) (nI bs) i61 i64 i66 (nI t67) i76 i78, (ma 0, .inl (y 0, 1600, .inl (tby tx)))]) [2, 3, 1, 0] rfl (by decide) ?_
                    exact ih1642 ((yc + 1), (yn - 1), (upd yf yc (g52 (yn - 1))), sq1666, (putS vq1665 cy)) ⟨(show bs ≤ (yn - 1) by omega), (show (yn - 1) ≤ zn by omega), (show RS kq s0 f0 (xx + 1) 0 (upd yf yc (g52 (yn - 1))) g52 (yc + 1) (yn - 1) az from rs_drop hRy_ (by omega) (show yn = yn - 1 + 1 by omega) (Or.inl (by rw [e1662]; decide))), xh1670, (show CD (putS vq1665 cy) (upd yf yc (g52 (yn - 1))) (yc + 1) from cd_put hCy_ (by omega) xh1668 (by omega)), (show drp isAo sq1666 (putS vq1665 cy) = drp isAo sz cz by rw [← hDy_, xh1667]; exact (drp_go (by rw [xh1671]; decide)).symm), (opn_tl (by have hq := hOy_; rw [xh1667] at hq; exact hq))⟩ (show (yn - 1) < yn by omega)
                · refine j_if_neT (pc := 264) C (tgt := 275) d_Model_goesOn_264 (by decide) (by decide) ?_
                  have hbz : bs < yn := top_s hT e1657 (by omega) (by omega) (by decide)
                  obtain ⟨vq1672, sq1673, xh1674, xh1675, xh1676, xh1677⟩ := wb_top hWy_ hbz
                  have xh1678 : vq1672 = 1 := on_yes xh1675 xh1676 (by decide) e1657
                  refine j_aload_n (pc := 275) C d_Model_goesOn_275 rfl 1 rfl ?_
                  refine j_callVv (pc := 276) C (c_M_drops l D y mo ma t1 u1493 t3 i4 0 i6 i7 i8 i42 i49 yc yn (nI oz) (nI bs) i61 i64 i66 t67 i76 i78 yf g52 (by omega) (by omega) (by omega)) kw_Model_350 kv_Model_drops 0 10 rfl rfl ⟨by decide, by decide⟩ ⟨by decide, by decide⟩ (wr := [(ma 0, .inl (y 0, 1600, .inl (tby tx)))]) [2, 0, 3] [1] rfl rfl (by decide) (by decide) (by decide) (As := []) (rest := []) rfl (nb rfl) rfl d_Model_goesOn_276 (fun _ _ => ?_)
                  refine j_ws (ws' := [(ma 0, .inl (y 0, 1600, .inl (tby tx))), MB mo ma (nI t1) (nI u1493) (nI t3) i4 0 i6 i7 i8 i42 i49 (nI (yc + 1)) (nI (yn - 1)) (nI oz) (nI bs) i61 i64 i66 (nI t67) i76 i78, (ma 50, .inl (y 0, 3200, .inl (upd yf yc (g52 (yn - 1))))), (ma 52, .inl (y 0, 1700, .inl g52))]) rfl ?_
                  refine j_goto (pc := 279) C (tgt := 243) d_Model_goesOn_279 (by decide) ?_
                  refine j_sub (ws' := [(ma 50, .inl (y 0, 3200, .inl (upd yf yc (g52 (yn - 1))))), (ma 52, .inl (y 0, 1700, .inl g52)), MB mo ma (nI t1) (nI u1493) (nI t3) i4 0 i6 i7 i8 i42 i49 (nI (yc + 1)) (nI (yn - 1)) (nI oz) (nI bs) i61 i64 i66 (nI t67) i76 i78, (ma 0, .inl (y 0, 1600, .inl (tby tx)))]) [2, 3, 1, 0] rfl (by decide) ?_
                  exact ih1642 ((yc + 1), (yn - 1), (upd yf yc (g52 (yn - 1))), sq1673, (putS vq1672 cy)) ⟨(show bs ≤ (yn - 1) by omega), (show (yn - 1) ≤ zn by omega), (show RS kq s0 f0 (xx + 1) 0 (upd yf yc (g52 (yn - 1))) g52 (yc + 1) (yn - 1) az from rs_drop hRy_ (by omega) (show yn = yn - 1 + 1 by omega) (Or.inl (by rw [e1657]; decide))), xh1677, (show CD (putS vq1672 cy) (upd yf yc (g52 (yn - 1))) (yc + 1) from cd_put hCy_ (by omega) xh1675 (by omega)), (show drp isAo sq1673 (putS vq1672 cy) = drp isAo sz cz by rw [← hDy_, xh1674]; exact (drp_go (by rw [xh1678]; decide)).symm), (opn_tl (by have hq := hOy_; rw [xh1674] at hq; exact hq))⟩ (show (yn - 1) < yn by omega)
              · refine j_if_neT (pc := 256) C (tgt := 275) d_Model_goesOn_256 (by decide) (by decide) ?_
                have hbz : bs < yn := top_s hT e1652 (by omega) (by omega) (by decide)
                obtain ⟨vq1679, sq1680, xh1681, xh1682, xh1683, xh1684⟩ := wb_top hWy_ hbz
                have xh1685 : vq1679 = 4 := on_yes xh1682 xh1683 (by decide) e1652
                refine j_aload_n (pc := 275) C d_Model_goesOn_275 rfl 1 rfl ?_
                refine j_callVv (pc := 276) C (c_M_drops l D y mo ma t1 u1493 t3 i4 0 i6 i7 i8 i42 i49 yc yn (nI oz) (nI bs) i61 i64 i66 t67 i76 i78 yf g52 (by omega) (by omega) (by omega)) kw_Model_350 kv_Model_drops 0 10 rfl rfl ⟨by decide, by decide⟩ ⟨by decide, by decide⟩ (wr := [(ma 0, .inl (y 0, 1600, .inl (tby tx)))]) [2, 0, 3] [1] rfl rfl (by decide) (by decide) (by decide) (As := []) (rest := []) rfl (nb rfl) rfl d_Model_goesOn_276 (fun _ _ => ?_)
                refine j_ws (ws' := [(ma 0, .inl (y 0, 1600, .inl (tby tx))), MB mo ma (nI t1) (nI u1493) (nI t3) i4 0 i6 i7 i8 i42 i49 (nI (yc + 1)) (nI (yn - 1)) (nI oz) (nI bs) i61 i64 i66 (nI t67) i76 i78, (ma 50, .inl (y 0, 3200, .inl (upd yf yc (g52 (yn - 1))))), (ma 52, .inl (y 0, 1700, .inl g52))]) rfl ?_
                refine j_goto (pc := 279) C (tgt := 243) d_Model_goesOn_279 (by decide) ?_
                refine j_sub (ws' := [(ma 50, .inl (y 0, 3200, .inl (upd yf yc (g52 (yn - 1))))), (ma 52, .inl (y 0, 1700, .inl g52)), MB mo ma (nI t1) (nI u1493) (nI t3) i4 0 i6 i7 i8 i42 i49 (nI (yc + 1)) (nI (yn - 1)) (nI oz) (nI bs) i61 i64 i66 (nI t67) i76 i78, (ma 0, .inl (y 0, 1600, .inl (tby tx)))]) [2, 3, 1, 0] rfl (by decide) ?_
                exact ih1642 ((yc + 1), (yn - 1), (upd yf yc (g52 (yn - 1))), sq1680, (putS vq1679 cy)) ⟨(show bs ≤ (yn - 1) by omega), (show (yn - 1) ≤ zn by omega), (show RS kq s0 f0 (xx + 1) 0 (upd yf yc (g52 (yn - 1))) g52 (yc + 1) (yn - 1) az from rs_drop hRy_ (by omega) (show yn = yn - 1 + 1 by omega) (Or.inl (by rw [e1652]; decide))), xh1684, (show CD (putS vq1679 cy) (upd yf yc (g52 (yn - 1))) (yc + 1) from cd_put hCy_ (by omega) xh1682 (by omega)), (show drp isAo sq1680 (putS vq1679 cy) = drp isAo sz cz by rw [← hDy_, xh1681]; exact (drp_go (by rw [xh1685]; decide)).symm), (opn_tl (by have hq := hOy_; rw [xh1681] at hq; exact hq))⟩ (show (yn - 1) < yn by omega)
            · refine j_if_neT (pc := 248) C (tgt := 275) d_Model_goesOn_248 (by decide) (by decide) ?_
              have hbz : bs < yn := top_s hT e1647 (by omega) (by omega) (by decide)
              obtain ⟨vq1686, sq1687, xh1688, xh1689, xh1690, xh1691⟩ := wb_top hWy_ hbz
              have xh1692 : vq1686 = 3 := on_yes xh1689 xh1690 (by decide) e1647
              refine j_aload_n (pc := 275) C d_Model_goesOn_275 rfl 1 rfl ?_
              refine j_callVv (pc := 276) C (c_M_drops l D y mo ma t1 u1493 t3 i4 0 i6 i7 i8 i42 i49 yc yn (nI oz) (nI bs) i61 i64 i66 t67 i76 i78 yf g52 (by omega) (by omega) (by omega)) kw_Model_350 kv_Model_drops 0 10 rfl rfl ⟨by decide, by decide⟩ ⟨by decide, by decide⟩ (wr := [(ma 0, .inl (y 0, 1600, .inl (tby tx)))]) [2, 0, 3] [1] rfl rfl (by decide) (by decide) (by decide) (As := []) (rest := []) rfl (nb rfl) rfl d_Model_goesOn_276 (fun _ _ => ?_)
              refine j_ws (ws' := [(ma 0, .inl (y 0, 1600, .inl (tby tx))), MB mo ma (nI t1) (nI u1493) (nI t3) i4 0 i6 i7 i8 i42 i49 (nI (yc + 1)) (nI (yn - 1)) (nI oz) (nI bs) i61 i64 i66 (nI t67) i76 i78, (ma 50, .inl (y 0, 3200, .inl (upd yf yc (g52 (yn - 1))))), (ma 52, .inl (y 0, 1700, .inl g52))]) rfl ?_
              refine j_goto (pc := 279) C (tgt := 243) d_Model_goesOn_279 (by decide) ?_
              refine j_sub (ws' := [(ma 50, .inl (y 0, 3200, .inl (upd yf yc (g52 (yn - 1))))), (ma 52, .inl (y 0, 1700, .inl g52)), MB mo ma (nI t1) (nI u1493) (nI t3) i4 0 i6 i7 i8 i42 i49 (nI (yc + 1)) (nI (yn - 1)) (nI oz) (nI bs) i61 i64 i66 (nI t67) i76 i78, (ma 0, .inl (y 0, 1600, .inl (tby tx)))]) [2, 3, 1, 0] rfl (by decide) ?_
              exact ih1642 ((yc + 1), (yn - 1), (upd yf yc (g52 (yn - 1))), sq1687, (putS vq1686 cy)) ⟨(show bs ≤ (yn - 1) by omega), (show (yn - 1) ≤ zn by omega), (show RS kq s0 f0 (xx + 1) 0 (upd yf yc (g52 (yn - 1))) g52 (yc + 1) (yn - 1) az from rs_drop hRy_ (by omega) (show yn = yn - 1 + 1 by omega) (Or.inl (by rw [e1647]; decide))), xh1691, (show CD (putS vq1686 cy) (upd yf yc (g52 (yn - 1))) (yc + 1) from cd_put hCy_ (by omega) xh1689 (by omega)), (show drp isAo sq1687 (putS vq1686 cy) = drp isAo sz cz by rw [← hDy_, xh1688]; exact (drp_go (by rw [xh1692]; decide)).symm), (opn_tl (by have hq := hOy_; rw [xh1688] at hq; exact hq))⟩ (show (yn - 1) < yn by omega)
        · refine j_if_neT (pc := 209) C (tgt := 221) d_Model_goesOn_209 (by decide) (by decide) ?_
          refine j_aload_n (pc := 221) C d_Model_goesOn_221 rfl 0 rfl ?_
          refine j_get (pc := 222) C gf_Model_7 2 rfl rfl d_Model_goesOn_222 ?_
          refine j_aload_n (pc := 225) C d_Model_goesOn_225 rfl 0 rfl ?_
          refine j_get (pc := 226) C gf_Model_207 2 rfl rfl d_Model_goesOn_226 ?_
          refine j_iconst (pc := 229) C (v := 1) d_Model_goesOn_229 (by decide) ?_
          refine j_isub (pc := 230) C (v := nI (u1480 - 1)) d_Model_goesOn_230 (pk_sub (a := u1480) (b := 1) (by omega)) ?_
          refine j_iald (pc := 231) C 3 rfl (v := 43) (vp_in_nI (by omega) (by decide)) (by rw [nI_clamp (by omega)]; exact congrArg nI xh1491) d_Model_goesOn_231 ?_
          refine j_bipush (pc := 232) C (v := 43) d_Model_goesOn_232 (by decide) ?_
          refine j_icmp_neF (pc := 234) C (tgt := 241) d_Model_goesOn_234 (by decide) (by decide) ?_
          refine j_iconst (pc := 237) C (v := 1) d_Model_goesOn_237 (by decide) ?_
          refine j_goto (pc := 238) C (tgt := 242) d_Model_goesOn_238 (by decide) ?_
          refine j_istore_n (pc := 242) C (lv' := [(1, .int 1), (0, .ref mo)]) d_Model_goesOn_242 rfl (by decide) rfl ?_
          refine j_loop (α := Nat × Nat × (Nat → Int32) × List Nat × List Nat) (fun a => a.2.1) (fun a => (bs ≤ a.2.1) ∧ (a.2.1 ≤ zn) ∧ (RS kq s0 f0 (xx + 1) 0 a.2.2.1 g52 a.1 a.2.1 az) ∧ (WB a.2.2.2.1 g52 bs a.2.1) ∧ (CD a.2.2.2.2 a.2.2.1 a.1) ∧ (drp isAo a.2.2.2.1 a.2.2.2.2 = drp isAo sz cz) ∧ (opn a.2.2.2.1 ≤ oz)) (fun a => [(ma 50, .inl (y 0, 3200, .inl a.2.2.1)), (ma 52, .inl (y 0, 1700, .inl g52)), MB mo ma (nI t1) (nI u1480) (nI t3) i4 0 i6 i7 i8 i42 i49 (nI a.1) (nI a.2.1) (nI oz) (nI bs) i61 i64 i66 (nI t67) i76 i78, (ma 0, .inl (y 0, 1600, .inl (tby tx)))]) (fun a => [(1, .int 1), (0, .ref mo)]) (zc, zn, zf, sz, cz) rfl rfl ⟨hb_, (show zn ≤ zn by omega), hR_, hwz_, hcz_, rfl, hoz_⟩ ?_
          rintro ⟨yc, yn, yf, sy, cy⟩ hP1743 ih1744
          obtain ⟨hby__, hny__, hRy__, hWy__, hCy__, hDy__, hOy__⟩ := hP1743
          have hby_ : bs ≤ yn := hby__
          have hny_ : yn ≤ zn := hny__
          have hRy_ : RS kq s0 f0 (xx + 1) 0 yf g52 yc yn az := hRy__
          have hWy_ : WB sy g52 bs yn := hWy__
          have hCy_ : CD cy yf yc := hCy__
          have hDy_ : drp isAo sy cy = drp isAo sz cz := hDy__
          have hOy_ : opn sy ≤ oz := hOy__
          refine j_ws (ws' := [(ma 50, .inl (y 0, 3200, .inl yf)), (ma 52, .inl (y 0, 1700, .inl g52)), MB mo ma (nI t1) (nI u1480) (nI t3) i4 0 i6 i7 i8 i42 i49 (nI yc) (nI yn) (nI oz) (nI bs) i61 i64 i66 (nI t67) i76 i78, (ma 0, .inl (y 0, 1600, .inl (tby tx)))]) rfl ?_
          refine j_lv (lv' := [(1, .int 1), (0, .ref mo)]) rfl ?_
          have hacy := rs_ac3 hRy_
          have hSy_ : ISm g52 bs yn := is_le hS (by omega)
          refine j_aload_n (pc := 243) C d_Model_goesOn_243 rfl 1 rfl ?_
          refine j_iconst (pc := 244) C (v := 3) d_Model_goesOn_244 (by decide) ?_
          refine j_callVi (pc := 245) C (c_M_isOn l D y mo ma t1 u1480 t3 i4 0 i6 i7 i8 i42 i49 (nI yc) yn (nI oz) (nI bs) i61 i64 i66 t67 i76 i78 g52 3 (by omega)) kw_Model_362 kv_Model_isOn 0 10 rfl rfl ⟨by decide, by decide⟩ ⟨by decide, by decide⟩ (wr := [(ma 50, .inl (y 0, 3200, .inl yf)), (ma 0, .inl (y 0, 1600, .inl (tby tx)))]) [2, 1] [0, 3] rfl rfl (by decide) (by decide) (by decide) (As := [.int 3]) (rest := []) rfl (nb rfl) rfl d_Model_goesOn_245 (fun r1745 _ hr1745 => ?_)
          refine j_ws (ws' := [(ma 50, .inl (y 0, 3200, .inl yf)), (ma 0, .inl (y 0, 1600, .inl (tby tx))), MB mo ma (nI t1) (nI u1480) (nI t3) i4 0 i6 i7 i8 i42 i49 (nI yc) (nI yn) (nI oz) (nI bs) i61 i64 i66 (nI t67) i76 i78, (ma 52, .inl (y 0, 1700, .inl g52))]) rfl ?_
          rcases hr1745 with ⟨rfl, xh1747⟩ | ⟨rfl, xh1748, e1749⟩
          · refine j_if_neF (pc := 248) C (tgt := 275) d_Model_goesOn_248 (by decide) (by decide) ?_
            refine j_aload_n (pc := 251) C d_Model_goesOn_251 rfl 1 rfl ?_
            refine j_iconst (pc := 252) C (v := 4) d_Model_goesOn_252 (by decide) ?_
            refine j_callVi (pc := 253) C (c_M_isOn l D y mo ma t1 u1480 t3 i4 0 i6 i7 i8 i42 i49 (nI yc) yn (nI oz) (nI bs) i61 i64 i66 t67 i76 i78 g52 4 (by omega)) kw_Model_362 kv_Model_isOn 0 10 rfl rfl ⟨by decide, by decide⟩ ⟨by decide, by decide⟩ (wr := [(ma 50, .inl (y 0, 3200, .inl yf)), (ma 0, .inl (y 0, 1600, .inl (tby tx)))]) [2, 3] [0, 1] rfl rfl (by decide) (by decide) (by decide) (As := [.int 4]) (rest := []) rfl (nb rfl) rfl d_Model_goesOn_253 (fun r1750 _ hr1750 => ?_)
            refine j_ws (ws' := [(ma 50, .inl (y 0, 3200, .inl yf)), (ma 0, .inl (y 0, 1600, .inl (tby tx))), MB mo ma (nI t1) (nI u1480) (nI t3) i4 0 i6 i7 i8 i42 i49 (nI yc) (nI yn) (nI oz) (nI bs) i61 i64 i66 (nI t67) i76 i78, (ma 52, .inl (y 0, 1700, .inl g52))]) rfl ?_
            rcases hr1750 with ⟨rfl, xh1752⟩ | ⟨rfl, xh1753, e1754⟩
            · refine j_if_neF (pc := 256) C (tgt := 275) d_Model_goesOn_256 (by decide) (by decide) ?_
              refine j_aload_n (pc := 259) C d_Model_goesOn_259 rfl 1 rfl ?_
              refine j_iconst (pc := 260) C (v := 1) d_Model_goesOn_260 (by decide) ?_
              refine j_callVi (pc := 261) C (c_M_isOn l D y mo ma t1 u1480 t3 i4 0 i6 i7 i8 i42 i49 (nI yc) yn (nI oz) (nI bs) i61 i64 i66 t67 i76 i78 g52 1 (by omega)) kw_Model_362 kv_Model_isOn 0 10 rfl rfl ⟨by decide, by decide⟩ ⟨by decide, by decide⟩ (wr := [(ma 50, .inl (y 0, 3200, .inl yf)), (ma 0, .inl (y 0, 1600, .inl (tby tx)))]) [2, 3] [0, 1] rfl rfl (by decide) (by decide) (by decide) (As := [.int 1]) (rest := []) rfl (nb rfl) rfl d_Model_goesOn_261 (fun r1755 _ hr1755 => ?_)
              refine j_ws (ws' := [(ma 50, .inl (y 0, 3200, .inl yf)), (ma 0, .inl (y 0, 1600, .inl (tby tx))), MB mo ma (nI t1) (nI u1480) (nI t3) i4 0 i6 i7 i8 i42 i49 (nI yc) (nI yn) (nI oz) (nI bs) i61 i64 i66 (nI t67) i76 i78, (ma 52, .inl (y 0, 1700, .inl g52))]) rfl ?_
              rcases hr1755 with ⟨rfl, xh1757⟩ | ⟨rfl, xh1758, e1759⟩
              · refine j_if_neF (pc := 264) C (tgt := 275) d_Model_goesOn_264 (by decide) (by decide) ?_
                refine j_aload_n (pc := 267) C d_Model_goesOn_267 rfl 1 rfl ?_
                refine j_iconst (pc := 268) C (v := 2) d_Model_goesOn_268 (by decide) ?_
                refine j_callVi (pc := 269) C (c_M_isOn l D y mo ma t1 u1480 t3 i4 0 i6 i7 i8 i42 i49 (nI yc) yn (nI oz) (nI bs) i61 i64 i66 t67 i76 i78 g52 2 (by omega)) kw_Model_362 kv_Model_isOn 0 10 rfl rfl ⟨by decide, by decide⟩ ⟨by decide, by decide⟩ (wr := [(ma 50, .inl (y 0, 3200, .inl yf)), (ma 0, .inl (y 0, 1600, .inl (tby tx)))]) [2, 3] [0, 1] rfl rfl (by decide) (by decide) (by decide) (As := [.int 2]) (rest := []) rfl (nb rfl) rfl d_Model_goesOn_269 (fun r1760 _ hr1760 => ?_)
                refine j_ws (ws' := [(ma 50, .inl (y 0, 3200, .inl yf)), (ma 0, .inl (y 0, 1600, .inl (tby tx))), MB mo ma (nI t1) (nI u1480) (nI t3) i4 0 i6 i7 i8 i42 i49 (nI yc) (nI yn) (nI oz) (nI bs) i61 i64 i66 (nI t67) i76 i78, (ma 52, .inl (y 0, 1700, .inl g52))]) rfl ?_
                rcases hr1760 with ⟨rfl, xh1762⟩ | ⟨rfl, xh1763, e1764⟩
                · refine j_if_eqT (pc := 272) C (tgt := 282) d_Model_goesOn_272 (by decide) (by decide) ?_
                  have xh1765 : drp isAo sz cz = (sy, cy) := hDy_.symm.trans (drp_no (fun v hv => ao_no (on_no (c := 1) hWy_ xh1757 v hv) (on_no (c := 2) hWy_ xh1762 v hv) (on_no (c := 3) hWy_ xh1747 v hv) (on_no (c := 4) hWy_ xh1752 v hv)))
                  have xh1766 : Rch tx t3 (1, (gs, cs, sk, oo)) (0, ((advS tx t3 gz), cy, (1 :: sy), oz)) := hrc_.tr (Rch.st ((stA _ _ _ _).trans ((sA_A (Or.inl xh1488)).trans (by rw [xh1765, if_pos xh1488]))) (Rch.rf _))
                  refine j_aload_n (pc := 282) C d_Model_goesOn_282 rfl 1 rfl ?_
                  refine j_get (pc := 283) C gf_Model_139 2 rfl rfl d_Model_goesOn_283 ?_
                  refine j_aload_n (pc := 286) C d_Model_goesOn_286 rfl 1 rfl ?_
                  refine j_get (pc := 287) C gf_Model_292 2 rfl rfl d_Model_goesOn_287 ?_
                  refine j_iload_n (pc := 290) C d_Model_goesOn_290 rfl 0 rfl ?_
                  refine j_iast (pc := 291) C 3 rfl (ws' := [(ma 50, .inl (y 0, 3200, .inl yf)), (ma 0, .inl (y 0, 1600, .inl (tby tx))), MB mo ma (nI t1) (nI u1480) (nI t3) i4 0 i6 i7 i8 i42 i49 (nI yc) (nI yn) (nI oz) (nI bs) i61 i64 i66 (nI t67) i76 i78, (ma 52, .inl (y 0, 1700, .inl (upd g52 yn 1)))]) (vp_in_nI (by omega) (by decide)) (by rw [nI_clamp (by omega)]; rfl) d_Model_goesOn_291 ?_
                  refine j_aload_n (pc := 292) C d_Model_goesOn_292 rfl 1 rfl ?_
                  refine j_dup (pc := 293) C d_Model_goesOn_293 rfl ?_
                  refine j_get (pc := 294) C gf_Model_292 2 rfl rfl d_Model_goesOn_294 ?_
                  refine j_iconst (pc := 297) C (v := 1) d_Model_goesOn_297 (by decide) ?_
                  refine j_iadd (pc := 298) C (v := nI (yn + 1)) d_Model_goesOn_298 (nI_add _ _) ?_
                  refine j_put (pc := 299) C pf_Model_292 2 (ws' := [(ma 50, .inl (y 0, 3200, .inl yf)), (ma 0, .inl (y 0, 1600, .inl (tby tx))), MB mo ma (nI t1) (nI u1480) (nI t3) i4 0 i6 i7 i8 i42 i49 (nI yc) (nI (yn + 1)) (nI oz) (nI bs) i61 i64 i66 (nI t67) i76 i78, (ma 52, .inl (y 0, 1700, .inl (upd g52 yn 1)))]) rfl rfl rfl (nl rfl) rfl d_Model_goesOn_299 ?_
                  refine j_iconst (pc := 302) C (v := 1) d_Model_goesOn_302 (by decide) ?_
                  exact j_iret (pc := 303) C hr (by decide) (u1480, 0, i6, yc, (yn + 1), oz, yf, (upd g52 yn 1), (advS tx t3 gz), cy, (1 :: sy)) ⟨(show t2 ≤ u1480 by omega), (show u1480 ≤ t3 by omega), (fun _ => ⟨rfl, by omega⟩), (it_up hT (show bs ≤ yn by omega)), (is_up hSy_ (by decide)), (show bs ≤ (yn + 1) by omega), xh1487, (fun j hj => pk_un (show j ≠ yn by omega)), (show oz ≤ 6 by omega), (Or.inl ⟨rfl, rfl, rs_op hRy_ (by decide) (show az < u1480 by omega), xh1766, hCy_, wb_push hWy_ (by decide), opn_op hOy_ (by decide)⟩)⟩ [2, 1, 0, 3] rfl (by decide) (by decide) (by decide) d_Model_goesOn_303
                · refine j_if_eqF (pc := 272) C (tgt := 282) d_Model_goesOn_272 (by decide) (by decide) ?_
                  have hbz : bs < yn := top_s hT e1764 (by omega) (by omega) (by decide)
                  obtain ⟨vq1767, sq1768, xh1769, xh1770, xh1771, xh1772⟩ := wb_top hWy_ hbz
                  have xh1773 : vq1767 = 2 := on_yes xh1770 xh1771 (by decide) e1764
                  refine j_aload_n (pc := 275) C d_Model_goesOn_275 rfl 1 rfl ?_
                  refine j_callVv (pc := 276) C (c_M_drops l D y mo ma t1 u1480 t3 i4 0 i6 i7 i8 i42 i49 yc yn (nI oz) (nI bs) i61 i64 i66 t67 i76 i78 yf g52 (by omega) (by omega) (by omega)) kw_Model_350 kv_Model_drops 0 10 rfl rfl ⟨by decide, by decide⟩ ⟨by decide, by decide⟩ (wr := [(ma 0, .inl (y 0, 1600, .inl (tby tx)))]) [2, 0, 3] [1] rfl rfl (by decide) (by decide) (by decide) (As := []) (rest := []) rfl (nb rfl) rfl d_Model_goesOn_276 (fun _ _ => ?_)
                  refine j_ws (ws' := [(ma 0, .inl (y 0, 1600, .inl (tby tx))), MB mo ma (nI t1) (nI u1480) (nI t3) i4 0 i6 i7 i8 i42 i49 (nI (yc + 1)) (nI (yn - 1)) (nI oz) (nI bs) i61 i64 i66 (nI t67) i76 i78, (ma 50, .inl (y 0, 3200, .inl (upd yf yc (g52 (yn - 1))))), (ma 52, .inl (y 0, 1700, .inl g52))]) rfl ?_
                  refine j_goto (pc := 279) C (tgt := 243) d_Model_goesOn_279 (by decide) ?_
                  refine j_sub (ws' := [(ma 50, .inl (y 0, 3200, .inl (upd yf yc (g52 (yn - 1))))), (ma 52, .inl (y 0, 1700, .inl g52)), MB mo ma (nI t1) (nI u1480) (nI t3) i4 0 i6 i7 i8 i42 i49 (nI (yc + 1)) (nI (yn - 1)) (nI oz) (nI bs) i61 i64 i66 (nI t67) i76 i78, (ma 0, .inl (y 0, 1600, .inl (tby tx)))]) [2, 3, 1, 0] rfl (by decide) ?_
                  exact ih1744 ((yc + 1), (yn - 1), (upd yf yc (g52 (yn - 1))), sq1768, (putS vq1767 cy)) ⟨(show bs ≤ (yn - 1) by omega), (show (yn - 1) ≤ zn by omega), (show RS kq s0 f0 (xx + 1) 0 (upd yf yc (g52 (yn - 1))) g52 (yc + 1) (yn - 1) az from rs_drop hRy_ (by omega) (show yn = yn - 1 + 1 by omega) (Or.inl (by rw [e1764]; decide))), xh1772, (show CD (putS vq1767 cy) (upd yf yc (g52 (yn - 1))) (yc + 1) from cd_put hCy_ (by omega) xh1770 (by omega)), (show drp isAo sq1768 (putS vq1767 cy) = drp isAo sz cz by rw [← hDy_, xh1769]; exact (drp_go (by rw [xh1773]; decide)).symm), (opn_tl (by have hq := hOy_; rw [xh1769] at hq; exact hq))⟩ (show (yn - 1) < yn by omega)
              · refine j_if_neT (pc := 264) C (tgt := 275) d_Model_goesOn_264 (by decide) (by decide) ?_
                have hbz : bs < yn := top_s hT e1759 (by omega) (by omega) (by decide)
                obtain ⟨vq1774, sq1775, xh1776, xh1777, xh1778, xh1779⟩ := wb_top hWy_ hbz
                have xh1780 : vq1774 = 1 := on_yes xh1777 xh1778 (by decide) e1759
                refine j_aload_n (pc := 275) C d_Model_goesOn_275 rfl 1 rfl ?_
                refine j_callVv (pc := 276) C (c_M_drops l D y mo ma t1 u1480 t3 i4 0 i6 i7 i8 i42 i49 yc yn (nI oz) (nI bs) i61 i64 i66 t67 i76 i78 yf g52 (by omega) (by omega) (by omega)) kw_Model_350 kv_Model_drops 0 10 rfl rfl ⟨by decide, by decide⟩ ⟨by decide, by decide⟩ (wr := [(ma 0, .inl (y 0, 1600, .inl (tby tx)))]) [2, 0, 3] [1] rfl rfl (by decide) (by decide) (by decide) (As := []) (rest := []) rfl (nb rfl) rfl d_Model_goesOn_276 (fun _ _ => ?_)
                refine j_ws (ws' := [(ma 0, .inl (y 0, 1600, .inl (tby tx))), MB mo ma (nI t1) (nI u1480) (nI t3) i4 0 i6 i7 i8 i42 i49 (nI (yc + 1)) (nI (yn - 1)) (nI oz) (nI bs) i61 i64 i66 (nI t67) i76 i78, (ma 50, .inl (y 0, 3200, .inl (upd yf yc (g52 (yn - 1))))), (ma 52, .inl (y 0, 1700, .inl g52))]) rfl ?_
                refine j_goto (pc := 279) C (tgt := 243) d_Model_goesOn_279 (by decide) ?_
                refine j_sub (ws' := [(ma 50, .inl (y 0, 3200, .inl (upd yf yc (g52 (yn - 1))))), (ma 52, .inl (y 0, 1700, .inl g52)), MB mo ma (nI t1) (nI u1480) (nI t3) i4 0 i6 i7 i8 i42 i49 (nI (yc + 1)) (nI (yn - 1)) (nI oz) (nI bs) i61 i64 i66 (nI t67) i76 i78, (ma 0, .inl (y 0, 1600, .inl (tby tx)))]) [2, 3, 1, 0] rfl (by decide) ?_
                exact ih1744 ((yc + 1), (yn - 1), (upd yf yc (g52 (yn - 1))), sq1775, (putS vq1774 cy)) ⟨(show bs ≤ (yn - 1) by omega), (show (yn - 1) ≤ zn by omega), (show RS kq s0 f0 (xx + 1) 0 (upd yf yc (g52 (yn - 1))) g52 (yc + 1) (yn - 1) az from rs_drop hRy_ (by omega) (show yn = yn - 1 + 1 by omega) (Or.inl (by rw [e1759]; decide))), xh1779, (show CD (putS vq1774 cy) (upd yf yc (g52 (yn - 1))) (yc + 1) from cd_put hCy_ (by omega) xh1777 (by omega)), (show drp isAo sq1775 (putS vq1774 cy) = drp isAo sz cz by rw [← hDy_, xh1776]; exact (drp_go (by rw [xh1780]; decide)).symm), (opn_tl (by have hq := hOy_; rw [xh1776] at hq; exact hq))⟩ (show (yn - 1) < yn by omega)
            · refine j_if_neT (pc := 256) C (tgt := 275) d_Model_goesOn_256 (by decide) (by decide) ?_
              have hbz : bs < yn := top_s hT e1754 (by omega) (by omega) (by decide)
              obtain ⟨vq1781, sq1782, xh1783, xh1784, xh1785, xh1786⟩ := wb_top hWy_ hbz
              have xh1787 : vq1781 = 4 := on_yes xh1784 xh1785 (by decide) e1754
              refine j_aload_n (pc := 275) C d_Model_goesOn_275 rfl 1 rfl ?_
              refine j_callVv (pc := 276) C (c_M_drops l D y mo ma t1 u1480 t3 i4 0 i6 i7 i8 i42 i49 yc yn (nI oz) (nI bs) i61 i64 i66 t67 i76 i78 yf g52 (by omega) (by omega) (by omega)) kw_Model_350 kv_Model_drops 0 10 rfl rfl ⟨by decide, by decide⟩ ⟨by decide, by decide⟩ (wr := [(ma 0, .inl (y 0, 1600, .inl (tby tx)))]) [2, 0, 3] [1] rfl rfl (by decide) (by decide) (by decide) (As := []) (rest := []) rfl (nb rfl) rfl d_Model_goesOn_276 (fun _ _ => ?_)
              refine j_ws (ws' := [(ma 0, .inl (y 0, 1600, .inl (tby tx))), MB mo ma (nI t1) (nI u1480) (nI t3) i4 0 i6 i7 i8 i42 i49 (nI (yc + 1)) (nI (yn - 1)) (nI oz) (nI bs) i61 i64 i66 (nI t67) i76 i78, (ma 50, .inl (y 0, 3200, .inl (upd yf yc (g52 (yn - 1))))), (ma 52, .inl (y 0, 1700, .inl g52))]) rfl ?_
              refine j_goto (pc := 279) C (tgt := 243) d_Model_goesOn_279 (by decide) ?_
              refine j_sub (ws' := [(ma 50, .inl (y 0, 3200, .inl (upd yf yc (g52 (yn - 1))))), (ma 52, .inl (y 0, 1700, .inl g52)), MB mo ma (nI t1) (nI u1480) (nI t3) i4 0 i6 i7 i8 i42 i49 (nI (yc + 1)) (nI (yn - 1)) (nI oz) (nI bs) i61 i64 i66 (nI t67) i76 i78, (ma 0, .inl (y 0, 1600, .inl (tby tx)))]) [2, 3, 1, 0] rfl (by decide) ?_
              exact ih1744 ((yc + 1), (yn - 1), (upd yf yc (g52 (yn - 1))), sq1782, (putS vq1781 cy)) ⟨(show bs ≤ (yn - 1) by omega), (show (yn - 1) ≤ zn by omega), (show RS kq s0 f0 (xx + 1) 0 (upd yf yc (g52 (yn - 1))) g52 (yc + 1) (yn - 1) az from rs_drop hRy_ (by omega) (show yn = yn - 1 + 1 by omega) (Or.inl (by rw [e1754]; decide))), xh1786, (show CD (putS vq1781 cy) (upd yf yc (g52 (yn - 1))) (yc + 1) from cd_put hCy_ (by omega) xh1784 (by omega)), (show drp isAo sq1782 (putS vq1781 cy) = drp isAo sz cz by rw [← hDy_, xh1783]; exact (drp_go (by rw [xh1787]; decide)).symm), (opn_tl (by have hq := hOy_; rw [xh1783] at hq; exact hq))⟩ (show (yn - 1) < yn by omega)
          · refine j_if_neT (pc := 248) C (tgt := 275) d_Model_goesOn_248 (by decide) (by decide) ?_
            have hbz : bs < yn := top_s hT e1749 (by omega) (by omega) (by decide)
            obtain ⟨vq1788, sq1789, xh1790, xh1791, xh1792, xh1793⟩ := wb_top hWy_ hbz
            have xh1794 : vq1788 = 3 := on_yes xh1791 xh1792 (by decide) e1749
            refine j_aload_n (pc := 275) C d_Model_goesOn_275 rfl 1 rfl ?_
            refine j_callVv (pc := 276) C (c_M_drops l D y mo ma t1 u1480 t3 i4 0 i6 i7 i8 i42 i49 yc yn (nI oz) (nI bs) i61 i64 i66 t67 i76 i78 yf g52 (by omega) (by omega) (by omega)) kw_Model_350 kv_Model_drops 0 10 rfl rfl ⟨by decide, by decide⟩ ⟨by decide, by decide⟩ (wr := [(ma 0, .inl (y 0, 1600, .inl (tby tx)))]) [2, 0, 3] [1] rfl rfl (by decide) (by decide) (by decide) (As := []) (rest := []) rfl (nb rfl) rfl d_Model_goesOn_276 (fun _ _ => ?_)
            refine j_ws (ws' := [(ma 0, .inl (y 0, 1600, .inl (tby tx))), MB mo ma (nI t1) (nI u1480) (nI t3) i4 0 i6 i7 i8 i42 i49 (nI (yc + 1)) (nI (yn - 1)) (nI oz) (nI bs) i61 i64 i66 (nI t67) i76 i78, (ma 50, .inl (y 0, 3200, .inl (upd yf yc (g52 (yn - 1))))), (ma 52, .inl (y 0, 1700, .inl g52))]) rfl ?_
            refine j_goto (pc := 279) C (tgt := 243) d_Model_goesOn_279 (by decide) ?_
            refine j_sub (ws' := [(ma 50, .inl (y 0, 3200, .inl (upd yf yc (g52 (yn - 1))))), (ma 52, .inl (y 0, 1700, .inl g52)), MB mo ma (nI t1) (nI u1480) (nI t3) i4 0 i6 i7 i8 i42 i49 (nI (yc + 1)) (nI (yn - 1)) (nI oz) (nI bs) i61 i64 i66 (nI t67) i76 i78, (ma 0, .inl (y 0, 1600, .inl (tby tx)))]) [2, 3, 1, 0] rfl (by decide) ?_
            exact ih1744 ((yc + 1), (yn - 1), (upd yf yc (g52 (yn - 1))), sq1789, (putS vq1788 cy)) ⟨(show bs ≤ (yn - 1) by omega), (show (yn - 1) ≤ zn by omega), (show RS kq s0 f0 (xx + 1) 0 (upd yf yc (g52 (yn - 1))) g52 (yc + 1) (yn - 1) az from rs_drop hRy_ (by omega) (show yn = yn - 1 + 1 by omega) (Or.inl (by rw [e1749]; decide))), xh1793, (show CD (putS vq1788 cy) (upd yf yc (g52 (yn - 1))) (yc + 1) from cd_put hCy_ (by omega) xh1791 (by omega)), (show drp isAo sq1789 (putS vq1788 cy) = drp isAo sz cz by rw [← hDy_, xh1790]; exact (drp_go (by rw [xh1794]; decide)).symm), (opn_tl (by have hq := hOy_; rw [xh1790] at hq; exact hq))⟩ (show (yn - 1) < yn by omega)
      · refine j_if_eqF (pc := 133) C (tgt := 203) d_Model_goesOn_133 (by decide) (by decide) ?_
        refine j_aload_n (pc := 136) C d_Model_goesOn_136 rfl 0 rfl ?_
        refine j_get (pc := 137) C gf_Model_7 2 rfl rfl d_Model_goesOn_137 ?_
        refine j_aload_n (pc := 140) C d_Model_goesOn_140 rfl 0 rfl ?_
        refine j_get (pc := 141) C gf_Model_207 2 rfl rfl d_Model_goesOn_141 ?_
        refine j_iconst (pc := 144) C (v := 1) d_Model_goesOn_144 (by decide) ?_
        refine j_isub (pc := 145) C (v := nI (u1467 - 1)) d_Model_goesOn_145 (pk_sub (a := u1467) (b := 1) (by omega)) ?_
        refine j_iald (pc := 146) C 3 rfl (v := 47) (vp_in_nI (by omega) (by decide)) (by rw [nI_clamp (by omega)]; exact congrArg nI xh1478) d_Model_goesOn_146 ?_
        refine j_bipush (pc := 147) C (v := 42) d_Model_goesOn_147 (by decide) ?_
        refine j_icmp_neT (pc := 149) C (tgt := 156) d_Model_goesOn_149 (by decide) (by decide) ?_
        refine j_iconst (pc := 156) C (v := 4) d_Model_goesOn_156 (by decide) ?_
        refine j_istore_n (pc := 157) C (lv' := [(1, .int 4), (0, .ref mo)]) d_Model_goesOn_157 rfl (by decide) rfl ?_
        refine j_loop (α := Nat × Nat × (Nat → Int32) × List Nat × List Nat) (fun a => a.2.1) (fun a => (bs ≤ a.2.1) ∧ (a.2.1 ≤ zn) ∧ (RS kq s0 f0 (xx + 1) 0 a.2.2.1 g52 a.1 a.2.1 az) ∧ (WB a.2.2.2.1 g52 bs a.2.1) ∧ (CD a.2.2.2.2 a.2.2.1 a.1) ∧ (drp isMo a.2.2.2.1 a.2.2.2.2 = drp isMo sz cz) ∧ (opn a.2.2.2.1 ≤ oz)) (fun a => [(ma 50, .inl (y 0, 3200, .inl a.2.2.1)), (ma 52, .inl (y 0, 1700, .inl g52)), MB mo ma (nI t1) (nI u1467) (nI t3) i4 0 i6 i7 i8 i42 i49 (nI a.1) (nI a.2.1) (nI oz) (nI bs) i61 i64 i66 (nI t67) i76 i78, (ma 0, .inl (y 0, 1600, .inl (tby tx)))]) (fun a => [(1, .int 4), (0, .ref mo)]) (zc, zn, zf, sz, cz) rfl rfl ⟨hb_, (show zn ≤ zn by omega), hR_, hwz_, hcz_, rfl, hoz_⟩ ?_
        rintro ⟨yc, yn, yf, sy, cy⟩ hP1821 ih1822
        obtain ⟨hby__, hny__, hRy__, hWy__, hCy__, hDy__, hOy__⟩ := hP1821
        have hby_ : bs ≤ yn := hby__
        have hny_ : yn ≤ zn := hny__
        have hRy_ : RS kq s0 f0 (xx + 1) 0 yf g52 yc yn az := hRy__
        have hWy_ : WB sy g52 bs yn := hWy__
        have hCy_ : CD cy yf yc := hCy__
        have hDy_ : drp isMo sy cy = drp isMo sz cz := hDy__
        have hOy_ : opn sy ≤ oz := hOy__
        refine j_ws (ws' := [(ma 50, .inl (y 0, 3200, .inl yf)), (ma 52, .inl (y 0, 1700, .inl g52)), MB mo ma (nI t1) (nI u1467) (nI t3) i4 0 i6 i7 i8 i42 i49 (nI yc) (nI yn) (nI oz) (nI bs) i61 i64 i66 (nI t67) i76 i78, (ma 0, .inl (y 0, 1600, .inl (tby tx)))]) rfl ?_
        refine j_lv (lv' := [(1, .int 4), (0, .ref mo)]) rfl ?_
        have hacy := rs_ac3 hRy_
        have hSy_ : ISm g52 bs yn := is_le hS (by omega)
        refine j_aload_n (pc := 158) C d_Model_goesOn_158 rfl 1 rfl ?_
        refine j_iconst (pc := 159) C (v := 3) d_Model_goesOn_159 (by decide) ?_
        refine j_callVi (pc := 160) C (c_M_isOn l D y mo ma t1 u1467 t3 i4 0 i6 i7 i8 i42 i49 (nI yc) yn (nI oz) (nI bs) i61 i64 i66 t67 i76 i78 g52 3 (by omega)) kw_Model_362 kv_Model_isOn 0 10 rfl rfl ⟨by decide, by decide⟩ ⟨by decide, by decide⟩ (wr := [(ma 50, .inl (y 0, 3200, .inl yf)), (ma 0, .inl (y 0, 1600, .inl (tby tx)))]) [2, 1] [0, 3] rfl rfl (by decide) (by decide) (by decide) (As := [.int 3]) (rest := []) rfl (nb rfl) rfl d_Model_goesOn_160 (fun r1823 _ hr1823 => ?_)
        refine j_ws (ws' := [(ma 50, .inl (y 0, 3200, .inl yf)), (ma 0, .inl (y 0, 1600, .inl (tby tx))), MB mo ma (nI t1) (nI u1467) (nI t3) i4 0 i6 i7 i8 i42 i49 (nI yc) (nI yn) (nI oz) (nI bs) i61 i64 i66 (nI t67) i76 i78, (ma 52, .inl (y 0, 1700, .inl g52))]) rfl ?_
        rcases hr1823 with ⟨rfl, xh1825⟩ | ⟨rfl, xh1826, e1827⟩
        · refine j_if_neF (pc := 163) C (tgt := 174) d_Model_goesOn_163 (by decide) (by decide) ?_
          refine j_aload_n (pc := 166) C d_Model_goesOn_166 rfl 1 rfl ?_
          refine j_iconst (pc := 167) C (v := 4) d_Model_goesOn_167 (by decide) ?_
          refine j_callVi (pc := 168) C (c_M_isOn l D y mo ma t1 u1467 t3 i4 0 i6 i7 i8 i42 i49 (nI yc) yn (nI oz) (nI bs) i61 i64 i66 t67 i76 i78 g52 4 (by omega)) kw_Model_362 kv_Model_isOn 0 10 rfl rfl ⟨by decide, by decide⟩ ⟨by decide, by decide⟩ (wr := [(ma 50, .inl (y 0, 3200, .inl yf)), (ma 0, .inl (y 0, 1600, .inl (tby tx)))]) [2, 3] [0, 1] rfl rfl (by decide) (by decide) (by decide) (As := [.int 4]) (rest := []) rfl (nb rfl) rfl d_Model_goesOn_168 (fun r1828 _ hr1828 => ?_)
          refine j_ws (ws' := [(ma 50, .inl (y 0, 3200, .inl yf)), (ma 0, .inl (y 0, 1600, .inl (tby tx))), MB mo ma (nI t1) (nI u1467) (nI t3) i4 0 i6 i7 i8 i42 i49 (nI yc) (nI yn) (nI oz) (nI bs) i61 i64 i66 (nI t67) i76 i78, (ma 52, .inl (y 0, 1700, .inl g52))]) rfl ?_
          rcases hr1828 with ⟨rfl, xh1830⟩ | ⟨rfl, xh1831, e1832⟩
          · refine j_if_eqT (pc := 171) C (tgt := 181) d_Model_goesOn_171 (by decide) (by decide) ?_
            have xh1833 : drp isMo sz cz = (sy, cy) := hDy_.symm.trans (drp_no (fun v hv => mo_no (on_no (c := 3) hWy_ xh1825 v hv) (on_no (c := 4) hWy_ xh1830 v hv)))
            have xh1834 : Rch tx t3 (1, (gs, cs, sk, oo)) (0, ((advS tx t3 gz), cy, (4 :: sy), oz)) := hrc_.tr (Rch.st ((stA _ _ _ _).trans ((sA_M (Or.inr xh1475)).trans (by rw [xh1833, if_neg xh1459]))) (Rch.rf _))
            refine j_aload_n (pc := 181) C d_Model_goesOn_181 rfl 1 rfl ?_
            refine j_get (pc := 182) C gf_Model_139 2 rfl rfl d_Model_goesOn_182 ?_
            refine j_aload_n (pc := 185) C d_Model_goesOn_185 rfl 1 rfl ?_
            refine j_get (pc := 186) C gf_Model_292 2 rfl rfl d_Model_goesOn_186 ?_
            refine j_iload_n (pc := 189) C d_Model_goesOn_189 rfl 0 rfl ?_
            refine j_iast (pc := 190) C 3 rfl (ws' := [(ma 50, .inl (y 0, 3200, .inl yf)), (ma 0, .inl (y 0, 1600, .inl (tby tx))), MB mo ma (nI t1) (nI u1467) (nI t3) i4 0 i6 i7 i8 i42 i49 (nI yc) (nI yn) (nI oz) (nI bs) i61 i64 i66 (nI t67) i76 i78, (ma 52, .inl (y 0, 1700, .inl (upd g52 yn 4)))]) (vp_in_nI (by omega) (by decide)) (by rw [nI_clamp (by omega)]; rfl) d_Model_goesOn_190 ?_
            refine j_aload_n (pc := 191) C d_Model_goesOn_191 rfl 1 rfl ?_
            refine j_dup (pc := 192) C d_Model_goesOn_192 rfl ?_
            refine j_get (pc := 193) C gf_Model_292 2 rfl rfl d_Model_goesOn_193 ?_
            refine j_iconst (pc := 196) C (v := 1) d_Model_goesOn_196 (by decide) ?_
            refine j_iadd (pc := 197) C (v := nI (yn + 1)) d_Model_goesOn_197 (nI_add _ _) ?_
            refine j_put (pc := 198) C pf_Model_292 2 (ws' := [(ma 50, .inl (y 0, 3200, .inl yf)), (ma 0, .inl (y 0, 1600, .inl (tby tx))), MB mo ma (nI t1) (nI u1467) (nI t3) i4 0 i6 i7 i8 i42 i49 (nI yc) (nI (yn + 1)) (nI oz) (nI bs) i61 i64 i66 (nI t67) i76 i78, (ma 52, .inl (y 0, 1700, .inl (upd g52 yn 4)))]) rfl rfl rfl (nl rfl) rfl d_Model_goesOn_198 ?_
            refine j_iconst (pc := 201) C (v := 1) d_Model_goesOn_201 (by decide) ?_
            exact j_iret (pc := 202) C hr (by decide) (u1467, 0, i6, yc, (yn + 1), oz, yf, (upd g52 yn 4), (advS tx t3 gz), cy, (4 :: sy)) ⟨(show t2 ≤ u1467 by omega), (show u1467 ≤ t3 by omega), (fun _ => ⟨rfl, by omega⟩), (it_up hT (show bs ≤ yn by omega)), (is_up hSy_ (by decide)), (show bs ≤ (yn + 1) by omega), xh1474, (fun j hj => pk_un (show j ≠ yn by omega)), (show oz ≤ 6 by omega), (Or.inl ⟨rfl, rfl, rs_op hRy_ (by decide) (show az < u1467 by omega), xh1834, hCy_, wb_push hWy_ (by decide), opn_op hOy_ (by decide)⟩)⟩ [2, 1, 0, 3] rfl (by decide) (by decide) (by decide) d_Model_goesOn_202
          · refine j_if_eqF (pc := 171) C (tgt := 181) d_Model_goesOn_171 (by decide) (by decide) ?_
            have hbz : bs < yn := top_s hT e1832 (by omega) (by omega) (by decide)
            obtain ⟨vq1835, sq1836, xh1837, xh1838, xh1839, xh1840⟩ := wb_top hWy_ hbz
            have xh1841 : vq1835 = 4 := on_yes xh1838 xh1839 (by decide) e1832
            refine j_aload_n (pc := 174) C d_Model_goesOn_174 rfl 1 rfl ?_
            refine j_callVv (pc := 175) C (c_M_drops l D y mo ma t1 u1467 t3 i4 0 i6 i7 i8 i42 i49 yc yn (nI oz) (nI bs) i61 i64 i66 t67 i76 i78 yf g52 (by omega) (by omega) (by omega)) kw_Model_350 kv_Model_drops 0 10 rfl rfl ⟨by decide, by decide⟩ ⟨by decide, by decide⟩ (wr := [(ma 0, .inl (y 0, 1600, .inl (tby tx)))]) [2, 0, 3] [1] rfl rfl (by decide) (by decide) (by decide) (As := []) (rest := []) rfl (nb rfl) rfl d_Model_goesOn_175 (fun _ _ => ?_)
            refine j_ws (ws' := [(ma 0, .inl (y 0, 1600, .inl (tby tx))), MB mo ma (nI t1) (nI u1467) (nI t3) i4 0 i6 i7 i8 i42 i49 (nI (yc + 1)) (nI (yn - 1)) (nI oz) (nI bs) i61 i64 i66 (nI t67) i76 i78, (ma 50, .inl (y 0, 3200, .inl (upd yf yc (g52 (yn - 1))))), (ma 52, .inl (y 0, 1700, .inl g52))]) rfl ?_
            refine j_goto (pc := 178) C (tgt := 158) d_Model_goesOn_178 (by decide) ?_
            refine j_sub (ws' := [(ma 50, .inl (y 0, 3200, .inl (upd yf yc (g52 (yn - 1))))), (ma 52, .inl (y 0, 1700, .inl g52)), MB mo ma (nI t1) (nI u1467) (nI t3) i4 0 i6 i7 i8 i42 i49 (nI (yc + 1)) (nI (yn - 1)) (nI oz) (nI bs) i61 i64 i66 (nI t67) i76 i78, (ma 0, .inl (y 0, 1600, .inl (tby tx)))]) [2, 3, 1, 0] rfl (by decide) ?_
            exact ih1822 ((yc + 1), (yn - 1), (upd yf yc (g52 (yn - 1))), sq1836, (putS vq1835 cy)) ⟨(show bs ≤ (yn - 1) by omega), (show (yn - 1) ≤ zn by omega), (show RS kq s0 f0 (xx + 1) 0 (upd yf yc (g52 (yn - 1))) g52 (yc + 1) (yn - 1) az from rs_drop hRy_ (by omega) (show yn = yn - 1 + 1 by omega) (Or.inl (by rw [e1832]; decide))), xh1840, (show CD (putS vq1835 cy) (upd yf yc (g52 (yn - 1))) (yc + 1) from cd_put hCy_ (by omega) xh1838 (by omega)), (show drp isMo sq1836 (putS vq1835 cy) = drp isMo sz cz by rw [← hDy_, xh1837]; exact (drp_go (by rw [xh1841]; decide)).symm), (opn_tl (by have hq := hOy_; rw [xh1837] at hq; exact hq))⟩ (show (yn - 1) < yn by omega)
        · refine j_if_neT (pc := 163) C (tgt := 174) d_Model_goesOn_163 (by decide) (by decide) ?_
          have hbz : bs < yn := top_s hT e1827 (by omega) (by omega) (by decide)
          obtain ⟨vq1842, sq1843, xh1844, xh1845, xh1846, xh1847⟩ := wb_top hWy_ hbz
          have xh1848 : vq1842 = 3 := on_yes xh1845 xh1846 (by decide) e1827
          refine j_aload_n (pc := 174) C d_Model_goesOn_174 rfl 1 rfl ?_
          refine j_callVv (pc := 175) C (c_M_drops l D y mo ma t1 u1467 t3 i4 0 i6 i7 i8 i42 i49 yc yn (nI oz) (nI bs) i61 i64 i66 t67 i76 i78 yf g52 (by omega) (by omega) (by omega)) kw_Model_350 kv_Model_drops 0 10 rfl rfl ⟨by decide, by decide⟩ ⟨by decide, by decide⟩ (wr := [(ma 0, .inl (y 0, 1600, .inl (tby tx)))]) [2, 0, 3] [1] rfl rfl (by decide) (by decide) (by decide) (As := []) (rest := []) rfl (nb rfl) rfl d_Model_goesOn_175 (fun _ _ => ?_)
          refine j_ws (ws' := [(ma 0, .inl (y 0, 1600, .inl (tby tx))), MB mo ma (nI t1) (nI u1467) (nI t3) i4 0 i6 i7 i8 i42 i49 (nI (yc + 1)) (nI (yn - 1)) (nI oz) (nI bs) i61 i64 i66 (nI t67) i76 i78, (ma 50, .inl (y 0, 3200, .inl (upd yf yc (g52 (yn - 1))))), (ma 52, .inl (y 0, 1700, .inl g52))]) rfl ?_
          refine j_goto (pc := 178) C (tgt := 158) d_Model_goesOn_178 (by decide) ?_
          refine j_sub (ws' := [(ma 50, .inl (y 0, 3200, .inl (upd yf yc (g52 (yn - 1))))), (ma 52, .inl (y 0, 1700, .inl g52)), MB mo ma (nI t1) (nI u1467) (nI t3) i4 0 i6 i7 i8 i42 i49 (nI (yc + 1)) (nI (yn - 1)) (nI oz) (nI bs) i61 i64 i66 (nI t67) i76 i78, (ma 0, .inl (y 0, 1600, .inl (tby tx)))]) [2, 3, 1, 0] rfl (by decide) ?_
          exact ih1822 ((yc + 1), (yn - 1), (upd yf yc (g52 (yn - 1))), sq1843, (putS vq1842 cy)) ⟨(show bs ≤ (yn - 1) by omega), (show (yn - 1) ≤ zn by omega), (show RS kq s0 f0 (xx + 1) 0 (upd yf yc (g52 (yn - 1))) g52 (yc + 1) (yn - 1) az from rs_drop hRy_ (by omega) (show yn = yn - 1 + 1 by omega) (Or.inl (by rw [e1827]; decide))), xh1847, (show CD (putS vq1842 cy) (upd yf yc (g52 (yn - 1))) (yc + 1) from cd_put hCy_ (by omega) xh1845 (by omega)), (show drp isMo sq1843 (putS vq1842 cy) = drp isMo sz cz by rw [← hDy_, xh1844]; exact (drp_go (by rw [xh1848]; decide)).symm), (opn_tl (by have hq := hOy_; rw [xh1844] at hq; exact hq))⟩ (show (yn - 1) < yn by omega)
    · refine j_if_neT (pc := 124) C (tgt := 136) d_Model_goesOn_124 (by decide) (by decide) ?_
      refine j_aload_n (pc := 136) C d_Model_goesOn_136 rfl 0 rfl ?_
      refine j_get (pc := 137) C gf_Model_7 2 rfl rfl d_Model_goesOn_137 ?_
      refine j_aload_n (pc := 140) C d_Model_goesOn_140 rfl 0 rfl ?_
      refine j_get (pc := 141) C gf_Model_207 2 rfl rfl d_Model_goesOn_141 ?_
      refine j_iconst (pc := 144) C (v := 1) d_Model_goesOn_144 (by decide) ?_
      refine j_isub (pc := 145) C (v := nI (u1454 - 1)) d_Model_goesOn_145 (pk_sub (a := u1454) (b := 1) (by omega)) ?_
      refine j_iald (pc := 146) C 3 rfl (v := 42) (vp_in_nI (by omega) (by decide)) (by rw [nI_clamp (by omega)]; exact congrArg nI xh1465) d_Model_goesOn_146 ?_
      refine j_bipush (pc := 147) C (v := 42) d_Model_goesOn_147 (by decide) ?_
      refine j_icmp_neF (pc := 149) C (tgt := 156) d_Model_goesOn_149 (by decide) (by decide) ?_
      refine j_iconst (pc := 152) C (v := 3) d_Model_goesOn_152 (by decide) ?_
      refine j_goto (pc := 153) C (tgt := 157) d_Model_goesOn_153 (by decide) ?_
      refine j_istore_n (pc := 157) C (lv' := [(1, .int 3), (0, .ref mo)]) d_Model_goesOn_157 rfl (by decide) rfl ?_
      refine j_loop (α := Nat × Nat × (Nat → Int32) × List Nat × List Nat) (fun a => a.2.1) (fun a => (bs ≤ a.2.1) ∧ (a.2.1 ≤ zn) ∧ (RS kq s0 f0 (xx + 1) 0 a.2.2.1 g52 a.1 a.2.1 az) ∧ (WB a.2.2.2.1 g52 bs a.2.1) ∧ (CD a.2.2.2.2 a.2.2.1 a.1) ∧ (drp isMo a.2.2.2.1 a.2.2.2.2 = drp isMo sz cz) ∧ (opn a.2.2.2.1 ≤ oz)) (fun a => [(ma 50, .inl (y 0, 3200, .inl a.2.2.1)), (ma 52, .inl (y 0, 1700, .inl g52)), MB mo ma (nI t1) (nI u1454) (nI t3) i4 0 i6 i7 i8 i42 i49 (nI a.1) (nI a.2.1) (nI oz) (nI bs) i61 i64 i66 (nI t67) i76 i78, (ma 0, .inl (y 0, 1600, .inl (tby tx)))]) (fun a => [(1, .int 3), (0, .ref mo)]) (zc, zn, zf, sz, cz) rfl rfl ⟨hb_, (show zn ≤ zn by omega), hR_, hwz_, hcz_, rfl, hoz_⟩ ?_
      rintro ⟨yc, yn, yf, sy, cy⟩ hP1875 ih1876
      obtain ⟨hby__, hny__, hRy__, hWy__, hCy__, hDy__, hOy__⟩ := hP1875
      have hby_ : bs ≤ yn := hby__
      have hny_ : yn ≤ zn := hny__
      have hRy_ : RS kq s0 f0 (xx + 1) 0 yf g52 yc yn az := hRy__
      have hWy_ : WB sy g52 bs yn := hWy__
      have hCy_ : CD cy yf yc := hCy__
      have hDy_ : drp isMo sy cy = drp isMo sz cz := hDy__
      have hOy_ : opn sy ≤ oz := hOy__
      refine j_ws (ws' := [(ma 50, .inl (y 0, 3200, .inl yf)), (ma 52, .inl (y 0, 1700, .inl g52)), MB mo ma (nI t1) (nI u1454) (nI t3) i4 0 i6 i7 i8 i42 i49 (nI yc) (nI yn) (nI oz) (nI bs) i61 i64 i66 (nI t67) i76 i78, (ma 0, .inl (y 0, 1600, .inl (tby tx)))]) rfl ?_
      refine j_lv (lv' := [(1, .int 3), (0, .ref mo)]) rfl ?_
      have hacy := rs_ac3 hRy_
      have hSy_ : ISm g52 bs yn := is_le hS (by omega)
      refine j_aload_n (pc := 158) C d_Model_goesOn_158 rfl 1 rfl ?_
      refine j_iconst (pc := 159) C (v := 3) d_Model_goesOn_159 (by decide) ?_
      refine j_callVi (pc := 160) C (c_M_isOn l D y mo ma t1 u1454 t3 i4 0 i6 i7 i8 i42 i49 (nI yc) yn (nI oz) (nI bs) i61 i64 i66 t67 i76 i78 g52 3 (by omega)) kw_Model_362 kv_Model_isOn 0 10 rfl rfl ⟨by decide, by decide⟩ ⟨by decide, by decide⟩ (wr := [(ma 50, .inl (y 0, 3200, .inl yf)), (ma 0, .inl (y 0, 1600, .inl (tby tx)))]) [2, 1] [0, 3] rfl rfl (by decide) (by decide) (by decide) (As := [.int 3]) (rest := []) rfl (nb rfl) rfl d_Model_goesOn_160 (fun r1877 _ hr1877 => ?_)
      refine j_ws (ws' := [(ma 50, .inl (y 0, 3200, .inl yf)), (ma 0, .inl (y 0, 1600, .inl (tby tx))), MB mo ma (nI t1) (nI u1454) (nI t3) i4 0 i6 i7 i8 i42 i49 (nI yc) (nI yn) (nI oz) (nI bs) i61 i64 i66 (nI t67) i76 i78, (ma 52, .inl (y 0, 1700, .inl g52))]) rfl ?_
      rcases hr1877 with ⟨rfl, xh1879⟩ | ⟨rfl, xh1880, e1881⟩
      · refine j_if_neF (pc := 163) C (tgt := 174) d_Model_goesOn_163 (by decide) (by decide) ?_
        refine j_aload_n (pc := 166) C d_Model_goesOn_166 rfl 1 rfl ?_
        refine j_iconst (pc := 167) C (v := 4) d_Model_goesOn_167 (by decide) ?_
        refine j_callVi (pc := 168) C (c_M_isOn l D y mo ma t1 u1454 t3 i4 0 i6 i7 i8 i42 i49 (nI yc) yn (nI oz) (nI bs) i61 i64 i66 t67 i76 i78 g52 4 (by omega)) kw_Model_362 kv_Model_isOn 0 10 rfl rfl ⟨by decide, by decide⟩ ⟨by decide, by decide⟩ (wr := [(ma 50, .inl (y 0, 3200, .inl yf)), (ma 0, .inl (y 0, 1600, .inl (tby tx)))]) [2, 3] [0, 1] rfl rfl (by decide) (by decide) (by decide) (As := [.int 4]) (rest := []) rfl (nb rfl) rfl d_Model_goesOn_168 (fun r1882 _ hr1882 => ?_)
        refine j_ws (ws' := [(ma 50, .inl (y 0, 3200, .inl yf)), (ma 0, .inl (y 0, 1600, .inl (tby tx))), MB mo ma (nI t1) (nI u1454) (nI t3) i4 0 i6 i7 i8 i42 i49 (nI yc) (nI yn) (nI oz) (nI bs) i61 i64 i66 (nI t67) i76 i78, (ma 52, .inl (y 0, 1700, .inl g52))]) rfl ?_
        rcases hr1882 with ⟨rfl, xh1884⟩ | ⟨rfl, xh1885, e1886⟩
        · refine j_if_eqT (pc := 171) C (tgt := 181) d_Model_goesOn_171 (by decide) (by decide) ?_
          have xh1887 : drp isMo sz cz = (sy, cy) := hDy_.symm.trans (drp_no (fun v hv => mo_no (on_no (c := 3) hWy_ xh1879 v hv) (on_no (c := 4) hWy_ xh1884 v hv)))
          have xh1888 : Rch tx t3 (1, (gs, cs, sk, oo)) (0, ((advS tx t3 gz), cy, (3 :: sy), oz)) := hrc_.tr (Rch.st ((stA _ _ _ _).trans ((sA_M (Or.inl xh1462)).trans (by rw [xh1887, if_pos xh1462]))) (Rch.rf _))
          refine j_aload_n (pc := 181) C d_Model_goesOn_181 rfl 1 rfl ?_
          refine j_get (pc := 182) C gf_Model_139 2 rfl rfl d_Model_goesOn_182 ?_
          refine j_aload_n (pc := 185) C d_Model_goesOn_185 rfl 1 rfl ?_
          refine j_get (pc := 186) C gf_Model_292 2 rfl rfl d_Model_goesOn_186 ?_
          refine j_iload_n (pc := 189) C d_Model_goesOn_189 rfl 0 rfl ?_
          refine j_iast (pc := 190) C 3 rfl (ws' := [(ma 50, .inl (y 0, 3200, .inl yf)), (ma 0, .inl (y 0, 1600, .inl (tby tx))), MB mo ma (nI t1) (nI u1454) (nI t3) i4 0 i6 i7 i8 i42 i49 (nI yc) (nI yn) (nI oz) (nI bs) i61 i64 i66 (nI t67) i76 i78, (ma 52, .inl (y 0, 1700, .inl (upd g52 yn 3)))]) (vp_in_nI (by omega) (by decide)) (by rw [nI_clamp (by omega)]; rfl) d_Model_goesOn_190 ?_
          refine j_aload_n (pc := 191) C d_Model_goesOn_191 rfl 1 rfl ?_
          refine j_dup (pc := 192) C d_Model_goesOn_192 rfl ?_
          refine j_get (pc := 193) C gf_Model_292 2 rfl rfl d_Model_goesOn_193 ?_
          refine j_iconst (pc := 196) C (v := 1) d_Model_goesOn_196 (by decide) ?_
          refine j_iadd (pc := 197) C (v := nI (yn + 1)) d_Model_goesOn_197 (nI_add _ _) ?_
          refine j_put (pc := 198) C pf_Model_292 2 (ws' := [(ma 50, .inl (y 0, 3200, .inl yf)), (ma 0, .inl (y 0, 1600, .inl (tby tx))), MB mo ma (nI t1) (nI u1454) (nI t3) i4 0 i6 i7 i8 i42 i49 (nI yc) (nI (yn + 1)) (nI oz) (nI bs) i61 i64 i66 (nI t67) i76 i78, (ma 52, .inl (y 0, 1700, .inl (upd g52 yn 3)))]) rfl rfl rfl (nl rfl) rfl d_Model_goesOn_198 ?_
          refine j_iconst (pc := 201) C (v := 1) d_Model_goesOn_201 (by decide) ?_
          exact j_iret (pc := 202) C hr (by decide) (u1454, 0, i6, yc, (yn + 1), oz, yf, (upd g52 yn 3), (advS tx t3 gz), cy, (3 :: sy)) ⟨(show t2 ≤ u1454 by omega), (show u1454 ≤ t3 by omega), (fun _ => ⟨rfl, by omega⟩), (it_up hT (show bs ≤ yn by omega)), (is_up hSy_ (by decide)), (show bs ≤ (yn + 1) by omega), xh1461, (fun j hj => pk_un (show j ≠ yn by omega)), (show oz ≤ 6 by omega), (Or.inl ⟨rfl, rfl, rs_op hRy_ (by decide) (show az < u1454 by omega), xh1888, hCy_, wb_push hWy_ (by decide), opn_op hOy_ (by decide)⟩)⟩ [2, 1, 0, 3] rfl (by decide) (by decide) (by decide) d_Model_goesOn_202
        · refine j_if_eqF (pc := 171) C (tgt := 181) d_Model_goesOn_171 (by decide) (by decide) ?_
          have hbz : bs < yn := top_s hT e1886 (by omega) (by omega) (by decide)
          obtain ⟨vq1889, sq1890, xh1891, xh1892, xh1893, xh1894⟩ := wb_top hWy_ hbz
          have xh1895 : vq1889 = 4 := on_yes xh1892 xh1893 (by decide) e1886
          refine j_aload_n (pc := 174) C d_Model_goesOn_174 rfl 1 rfl ?_
          refine j_callVv (pc := 175) C (c_M_drops l D y mo ma t1 u1454 t3 i4 0 i6 i7 i8 i42 i49 yc yn (nI oz) (nI bs) i61 i64 i66 t67 i76 i78 yf g52 (by omega) (by omega) (by omega)) kw_Model_350 kv_Model_drops 0 10 rfl rfl ⟨by decide, by decide⟩ ⟨by decide, by decide⟩ (wr := [(ma 0, .inl (y 0, 1600, .inl (tby tx)))]) [2, 0, 3] [1] rfl rfl (by decide) (by decide) (by decide) (As := []) (rest := []) rfl (nb rfl) rfl d_Model_goesOn_175 (fun _ _ => ?_)
          refine j_ws (ws' := [(ma 0, .inl (y 0, 1600, .inl (tby tx))), MB mo ma (nI t1) (nI u1454) (nI t3) i4 0 i6 i7 i8 i42 i49 (nI (yc + 1)) (nI (yn - 1)) (nI oz) (nI bs) i61 i64 i66 (nI t67) i76 i78, (ma 50, .inl (y 0, 3200, .inl (upd yf yc (g52 (yn - 1))))), (ma 52, .inl (y 0, 1700, .inl g52))]) rfl ?_
          refine j_goto (pc := 178) C (tgt := 158) d_Model_goesOn_178 (by decide) ?_
          refine j_sub (ws' := [(ma 50, .inl (y 0, 3200, .inl (upd yf yc (g52 (yn - 1))))), (ma 52, .inl (y 0, 1700, .inl g52)), MB mo ma (nI t1) (nI u1454) (nI t3) i4 0 i6 i7 i8 i42 i49 (nI (yc + 1)) (nI (yn - 1)) (nI oz) (nI bs) i61 i64 i66 (nI t67) i76 i78, (ma 0, .inl (y 0, 1600, .inl (tby tx)))]) [2, 3, 1, 0] rfl (by decide) ?_
          exact ih1876 ((yc + 1), (yn - 1), (upd yf yc (g52 (yn - 1))), sq1890, (putS vq1889 cy)) ⟨(show bs ≤ (yn - 1) by omega), (show (yn - 1) ≤ zn by omega), (show RS kq s0 f0 (xx + 1) 0 (upd yf yc (g52 (yn - 1))) g52 (yc + 1) (yn - 1) az from rs_drop hRy_ (by omega) (show yn = yn - 1 + 1 by omega) (Or.inl (by rw [e1886]; decide))), xh1894, (show CD (putS vq1889 cy) (upd yf yc (g52 (yn - 1))) (yc + 1) from cd_put hCy_ (by omega) xh1892 (by omega)), (show drp isMo sq1890 (putS vq1889 cy) = drp isMo sz cz by rw [← hDy_, xh1891]; exact (drp_go (by rw [xh1895]; decide)).symm), (opn_tl (by have hq := hOy_; rw [xh1891] at hq; exact hq))⟩ (show (yn - 1) < yn by omega)
      · refine j_if_neT (pc := 163) C (tgt := 174) d_Model_goesOn_163 (by decide) (by decide) ?_
        have hbz : bs < yn := top_s hT e1881 (by omega) (by omega) (by decide)
        obtain ⟨vq1896, sq1897, xh1898, xh1899, xh1900, xh1901⟩ := wb_top hWy_ hbz
        have xh1902 : vq1896 = 3 := on_yes xh1899 xh1900 (by decide) e1881
        refine j_aload_n (pc := 174) C d_Model_goesOn_174 rfl 1 rfl ?_
        refine j_callVv (pc := 175) C (c_M_drops l D y mo ma t1 u1454 t3 i4 0 i6 i7 i8 i42 i49 yc yn (nI oz) (nI bs) i61 i64 i66 t67 i76 i78 yf g52 (by omega) (by omega) (by omega)) kw_Model_350 kv_Model_drops 0 10 rfl rfl ⟨by decide, by decide⟩ ⟨by decide, by decide⟩ (wr := [(ma 0, .inl (y 0, 1600, .inl (tby tx)))]) [2, 0, 3] [1] rfl rfl (by decide) (by decide) (by decide) (As := []) (rest := []) rfl (nb rfl) rfl d_Model_goesOn_175 (fun _ _ => ?_)
        refine j_ws (ws' := [(ma 0, .inl (y 0, 1600, .inl (tby tx))), MB mo ma (nI t1) (nI u1454) (nI t3) i4 0 i6 i7 i8 i42 i49 (nI (yc + 1)) (nI (yn - 1)) (nI oz) (nI bs) i61 i64 i66 (nI t67) i76 i78, (ma 50, .inl (y 0, 3200, .inl (upd yf yc (g52 (yn - 1))))), (ma 52, .inl (y 0, 1700, .inl g52))]) rfl ?_
        refine j_goto (pc := 178) C (tgt := 158) d_Model_goesOn_178 (by decide) ?_
        refine j_sub (ws' := [(ma 50, .inl (y 0, 3200, .inl (upd yf yc (g52 (yn - 1))))), (ma 52, .inl (y 0, 1700, .inl g52)), MB mo ma (nI t1) (nI u1454) (nI t3) i4 0 i6 i7 i8 i42 i49 (nI (yc + 1)) (nI (yn - 1)) (nI oz) (nI bs) i61 i64 i66 (nI t67) i76 i78, (ma 0, .inl (y 0, 1600, .inl (tby tx)))]) [2, 3, 1, 0] rfl (by decide) ?_
        exact ih1876 ((yc + 1), (yn - 1), (upd yf yc (g52 (yn - 1))), sq1897, (putS vq1896 cy)) ⟨(show bs ≤ (yn - 1) by omega), (show (yn - 1) ≤ zn by omega), (show RS kq s0 f0 (xx + 1) 0 (upd yf yc (g52 (yn - 1))) g52 (yc + 1) (yn - 1) az from rs_drop hRy_ (by omega) (show yn = yn - 1 + 1 by omega) (Or.inl (by rw [e1881]; decide))), xh1901, (show CD (putS vq1896 cy) (upd yf yc (g52 (yn - 1))) (yc + 1) from cd_put hCy_ (by omega) xh1899 (by omega)), (show drp isMo sq1897 (putS vq1896 cy) = drp isMo sz cz by rw [← hDy_, xh1898]; exact (drp_go (by rw [xh1902]; decide)).symm), (opn_tl (by have hq := hOy_; rw [xh1898] at hq; exact hq))⟩ (show (yn - 1) < yn by omega)
  · have hb1903 : tx u1443 < 256 := hB u1443
    refine j_bipush (pc := 11) C (v := 41) d_Model_goesOn_11 (by decide) ?_
    by_cases c1904 : ¬ (tx u1443) = 41
    · refine j_icmp_neT (pc := 13) C (tgt := 118) d_Model_goesOn_13 (by decide) (show ¬ nI (tx u1443) = nI 41 from fun e => absurd ((nI_eq (by omega) (by omega)).mp e) (by omega)) ?_
      have xh1905 : ¬ (issS tx t3 41 gz = true ∧ (mkf sz = 20 ∨ mkf sz = 23 ∨ mkf sz = 24)) := (fun q => (sg_no2 xh1446 (show ¬ tx u1443 = 41 by omega)) q.1)
      have xh1906 : gz.1 = 0 := ((rr_z xh1447).mp rfl)
      refine j_aload_n (pc := 118) C d_Model_goesOn_118 rfl 0 rfl ?_
      refine j_bipush (pc := 119) C (v := 42) d_Model_goesOn_119 (by decide) ?_
      refine j_callVi (pc := 121) C (c_M_takesSign l D y mo ma t1 u1443 t3 i4 0 i6 i7 i8 i42 i49 (nI zc) (nI zn) (nI oz) (nI bs) i61 i64 i66 t67 i76 i78 tx 42 gz xh1445 he hB xh1447 (by omega) (by decide)) kw_Model_234 kv_Model_takesSign 0 10 rfl rfl ⟨by decide, by decide⟩ ⟨by decide, by decide⟩ (wr := [(ma 50, .inl (y 0, 3200, .inl zf)), (ma 52, .inl (y 0, 1700, .inl g52))]) [2, 3] [0, 1] rfl rfl (by decide) (by decide) (by decide) (As := [.int 42]) (rest := []) rfl (nb rfl) rfl d_Model_goesOn_121 (fun r1907 u1908 hr1907 => ?_)
      refine j_ws (ws' := [(ma 50, .inl (y 0, 3200, .inl zf)), (ma 52, .inl (y 0, 1700, .inl g52)), MB mo ma (nI t1) (nI u1908) (nI t3) i4 0 i6 i7 i8 i42 i49 (nI zc) (nI zn) (nI oz) (nI bs) i61 i64 i66 (nI t67) i76 i78, (ma 0, .inl (y 0, 1600, .inl (tby tx)))]) rfl ?_
      obtain ⟨xh1909, xh1910, xh1911⟩ := hr1907
      rcases xh1911 with ⟨rfl, xh1912, xh1913, xh1914⟩ | ⟨rfl, xh1915, xh1916, xh1917, xh1918, xh1919⟩
      · refine j_if_neF (pc := 124) C (tgt := 136) d_Model_goesOn_124 (by decide) (by decide) ?_
        refine j_aload_n (pc := 127) C d_Model_goesOn_127 rfl 0 rfl ?_
        refine j_bipush (pc := 128) C (v := 47) d_Model_goesOn_128 (by decide) ?_
        refine j_callVi (pc := 130) C (c_M_takesSign l D y mo ma t1 u1908 t3 i4 0 i6 i7 i8 i42 i49 (nI zc) (nI zn) (nI oz) (nI bs) i61 i64 i66 t67 i76 i78 tx 47 gz xh1910 he hB xh1912 (by omega) (by decide)) kw_Model_234 kv_Model_takesSign 0 10 rfl rfl ⟨by decide, by decide⟩ ⟨by decide, by decide⟩ (wr := [(ma 50, .inl (y 0, 3200, .inl zf)), (ma 52, .inl (y 0, 1700, .inl g52))]) [2, 3] [0, 1] rfl rfl (by decide) (by decide) (by decide) (As := [.int 47]) (rest := []) rfl (nb rfl) rfl d_Model_goesOn_130 (fun r1920 u1921 hr1920 => ?_)
        refine j_ws (ws' := [(ma 50, .inl (y 0, 3200, .inl zf)), (ma 52, .inl (y 0, 1700, .inl g52)), MB mo ma (nI t1) (nI u1921) (nI t3) i4 0 i6 i7 i8 i42 i49 (nI zc) (nI zn) (nI oz) (nI bs) i61 i64 i66 (nI t67) i76 i78, (ma 0, .inl (y 0, 1600, .inl (tby tx)))]) rfl ?_
        obtain ⟨xh1922, xh1923, xh1924⟩ := hr1920
        rcases xh1924 with ⟨rfl, xh1925, xh1926, xh1927⟩ | ⟨rfl, xh1928, xh1929, xh1930, xh1931, xh1932⟩
        · refine j_if_eqT (pc := 133) C (tgt := 203) d_Model_goesOn_133 (by decide) (by decide) ?_
          refine j_aload_n (pc := 203) C d_Model_goesOn_203 rfl 0 rfl ?_
          refine j_bipush (pc := 204) C (v := 43) d_Model_goesOn_204 (by decide) ?_
          refine j_callVi (pc := 206) C (c_M_takesSign l D y mo ma t1 u1921 t3 i4 0 i6 i7 i8 i42 i49 (nI zc) (nI zn) (nI oz) (nI bs) i61 i64 i66 t67 i76 i78 tx 43 gz xh1923 he hB xh1925 (by omega) (by decide)) kw_Model_234 kv_Model_takesSign 0 10 rfl rfl ⟨by decide, by decide⟩ ⟨by decide, by decide⟩ (wr := [(ma 50, .inl (y 0, 3200, .inl zf)), (ma 52, .inl (y 0, 1700, .inl g52))]) [2, 3] [0, 1] rfl rfl (by decide) (by decide) (by decide) (As := [.int 43]) (rest := []) rfl (nb rfl) rfl d_Model_goesOn_206 (fun r1933 u1934 hr1933 => ?_)
          refine j_ws (ws' := [(ma 50, .inl (y 0, 3200, .inl zf)), (ma 52, .inl (y 0, 1700, .inl g52)), MB mo ma (nI t1) (nI u1934) (nI t3) i4 0 i6 i7 i8 i42 i49 (nI zc) (nI zn) (nI oz) (nI bs) i61 i64 i66 (nI t67) i76 i78, (ma 0, .inl (y 0, 1600, .inl (tby tx)))]) rfl ?_
          obtain ⟨xh1935, xh1936, xh1937⟩ := hr1933
          rcases xh1937 with ⟨rfl, xh1938, xh1939, xh1940⟩ | ⟨rfl, xh1941, xh1942, xh1943, xh1944, xh1945⟩
          · refine j_if_neF (pc := 209) C (tgt := 221) d_Model_goesOn_209 (by decide) (by decide) ?_
            refine j_aload_n (pc := 212) C d_Model_goesOn_212 rfl 0 rfl ?_
            refine j_bipush (pc := 213) C (v := 45) d_Model_goesOn_213 (by decide) ?_
            refine j_callVi (pc := 215) C (c_M_takesSign l D y mo ma t1 u1934 t3 i4 0 i6 i7 i8 i42 i49 (nI zc) (nI zn) (nI oz) (nI bs) i61 i64 i66 t67 i76 i78 tx 45 gz xh1936 he hB xh1938 (by omega) (by decide)) kw_Model_234 kv_Model_takesSign 0 10 rfl rfl ⟨by decide, by decide⟩ ⟨by decide, by decide⟩ (wr := [(ma 50, .inl (y 0, 3200, .inl zf)), (ma 52, .inl (y 0, 1700, .inl g52))]) [2, 3] [0, 1] rfl rfl (by decide) (by decide) (by decide) (As := [.int 45]) (rest := []) rfl (nb rfl) rfl d_Model_goesOn_215 (fun r1946 u1947 hr1946 => ?_)
            refine j_ws (ws' := [(ma 50, .inl (y 0, 3200, .inl zf)), (ma 52, .inl (y 0, 1700, .inl g52)), MB mo ma (nI t1) (nI u1947) (nI t3) i4 0 i6 i7 i8 i42 i49 (nI zc) (nI zn) (nI oz) (nI bs) i61 i64 i66 (nI t67) i76 i78, (ma 0, .inl (y 0, 1600, .inl (tby tx)))]) rfl ?_
            obtain ⟨xh1948, xh1949, xh1950⟩ := hr1946
            rcases xh1950 with ⟨rfl, xh1951, xh1952, xh1953⟩ | ⟨rfl, xh1954, xh1955, xh1956, xh1957, xh1958⟩
            · refine j_if_eqT (pc := 218) C (tgt := 304) d_Model_goesOn_218 (by decide) (by decide) ?_
              refine j_aload_n (pc := 304) C d_Model_goesOn_304 rfl 0 rfl ?_
              refine j_callVi (pc := 305) C (c_M_mark l D y mo ma t1 u1947 t3 i4 0 i6 i7 i8 i42 i49 (nI zc) zn (nI oz) bs i61 i64 i66 t67 i76 i78 g52 sz hb_ (by omega) hwz_) kw_Model_356 kv_Model_mark 0 10 rfl rfl ⟨by decide, by decide⟩ ⟨by decide, by decide⟩ (wr := [(ma 50, .inl (y 0, 3200, .inl zf)), (ma 0, .inl (y 0, 1600, .inl (tby tx)))]) [2, 1] [0, 3] rfl rfl (by decide) (by decide) (by decide) (As := []) (rest := []) rfl (nb rfl) rfl d_Model_goesOn_305 (fun r1959 _ hr1959 => ?_)
              obtain rfl := hr1959
              refine j_ws (ws' := [(ma 50, .inl (y 0, 3200, .inl zf)), (ma 0, .inl (y 0, 1600, .inl (tby tx))), MB mo ma (nI t1) (nI u1947) (nI t3) i4 0 i6 i7 i8 i42 i49 (nI zc) (nI zn) (nI oz) (nI bs) i61 i64 i66 (nI t67) i76 i78, (ma 52, .inl (y 0, 1700, .inl g52))]) rfl ?_
              refine j_bipush (pc := 308) C (v := 21) d_Model_goesOn_308 (by decide) ?_
              by_cases c1960 : mkf sz = 21
              · refine j_icmp_eqT (pc := 310) C (tgt := 322) d_Model_goesOn_310 (by decide) (show mkI sz = 21 from (mkI_iff (c := 21) (by decide) (by decide)).mpr (by omega)) ?_
                refine j_aload_n (pc := 322) C d_Model_goesOn_322 rfl 0 rfl ?_
                refine j_bipush (pc := 323) C (v := 44) d_Model_goesOn_323 (by decide) ?_
                refine j_callVv (pc := 325) C (c_M_asksSign l D y mo ma t1 u1947 t3 i4 0 i6 i7 i8 i42 i49 (nI zc) (nI zn) (nI oz) (nI bs) i61 i64 i66 t67 i76 i78 tx 44 gz xh1949 he hB xh1951 (by omega) (by decide)) kw_Model_271 kv_Model_asksSign 0 10 rfl rfl ⟨by decide, by decide⟩ ⟨by decide, by decide⟩ (wr := [(ma 50, .inl (y 0, 3200, .inl zf)), (ma 52, .inl (y 0, 1700, .inl g52))]) [2, 1] [0, 3] rfl rfl (by decide) (by decide) (by decide) (As := [.int 44]) (rest := []) rfl (nb rfl) rfl d_Model_goesOn_325 (fun u1961 hu1962 => ?_)
                obtain ⟨xh1963, xh1964, xh1965, xh1966⟩ := hu1962
                refine j_ws (ws' := [(ma 50, .inl (y 0, 3200, .inl zf)), (ma 52, .inl (y 0, 1700, .inl g52)), MB mo ma (nI t1) (nI u1961.1) (nI t3) i4 u1961.2.1 u1961.2.2 i7 i8 i42 i49 (nI zc) (nI zn) (nI oz) (nI bs) i61 i64 i66 (nI t67) i76 i78, (ma 0, .inl (y 0, 1600, .inl (tby tx)))]) rfl ?_
                refine j_aload_n (pc := 328) C d_Model_goesOn_328 rfl 0 rfl ?_
                refine j_get (pc := 329) C gf_Model_201 2 rfl rfl d_Model_goesOn_329 ?_
                refine j_if_eq (pc := 332) C (tgt := 337) d_Model_goesOn_332 (by decide) (fun c1967 => ?_) (fun c1967 => ?_)
                · have xh1968 : issS tx t3 44 gz = true := (rs_ok ((rr_z xh1966).mp c1967)).1
                  have xh1969 : RR tx t3 (advS tx t3 gz) u1961.1 i4 u1961.2.1 u1961.2.2 := (rr_of xh1966 (if_pos xh1968).symm)
                  have xh1970 : RS kq s0 f0 (xx + 1) u1961.2.1 zf g52 zc zn az := rs_mono hR_ (fun _ => rfl)
                  refine j_ws (ws' := [(ma 50, .inl (y 0, 3200, .inl zf)), (ma 52, .inl (y 0, 1700, .inl g52)), MB mo ma (nI t1) (nI u1961.1) (nI t3) i4 0 u1961.2.2 i7 i8 i42 i49 (nI zc) (nI zn) (nI oz) (nI bs) i61 i64 i66 (nI t67) i76 i78, (ma 0, .inl (y 0, 1600, .inl (tby tx)))]) (by rw [c1967]) ?_
                  have xh1971 : RR tx t3 (advS tx t3 gz) u1961.1 i4 0 u1961.2.2 := by have hq := xh1969; rw [c1967] at hq; exact hq
                  have xh1972 : mkf sz = 21 := by omega
                  refine j_aload_n (pc := 337) C d_Model_goesOn_337 rfl 0 rfl ?_
                  refine j_callVv (pc := 338) C (c_M_dropsToMark l D y mo ma t1 u1961.1 t3 i4 u1961.2.2 i7 i8 i42 i49 zc zn (nI oz) bs i61 i64 i66 t67 i76 i78 zf g52 s0 xx sz cz kq f0 he xh1964 (rs_at hR_ (by omega)) hT hS_ hb_ hwz_ hcz_ hK) kw_Model_359 kv_Model_dropsToMark 0 10 rfl rfl ⟨by decide, by decide⟩ ⟨by decide, by decide⟩ (wr := [(ma 0, .inl (y 0, 1600, .inl (tby tx)))]) [2, 0, 1] [3] rfl rfl (by decide) (by decide) (by decide) (As := []) (rest := []) rfl (nb rfl) rfl d_Model_goesOn_338 (fun u1973 hu1974 => ?_)
                  obtain ⟨xh1975, xh1976, xh1977, xh1978, xh1979, xh1980, xh1981, xh1982, xh1983⟩ := hu1974
                  refine j_ws (ws' := [(ma 0, .inl (y 0, 1600, .inl (tby tx))), MB mo ma (nI t1) (nI u1961.1) (nI t3) i4 0 u1961.2.2 i7 i8 i42 i49 (nI u1973.1) (nI u1973.2.1) (nI oz) (nI bs) i61 i64 i66 (nI t67) i76 i78, (ma 50, .inl (y 0, 3200, .inl u1973.2.2.1)), (ma 52, .inl (y 0, 1700, .inl g52))]) rfl ?_
                  obtain ⟨Cq1984, xh1985⟩ := drp_m (S := sz) (cs := cz) (by omega)
                  have xh1986 : u1973.2.2.2.2 = 21 :: Cq1984 := by rw [xh1983, xh1972] at xh1985; exact xh1985
                  have xh1987 : WB (21 :: Cq1984) g52 bs u1973.2.1 := wb_cast xh1981 xh1986
                  have xh1988 : g52 (u1973.2.1 - 1) = 21 := xh1987.2.1
                  have hb1989 := xh1987.1
                  obtain ⟨xh1990, xh1991⟩ := opn_mk hoz_ (xh1983.trans (by rw [xh1986])) (by decide)
                  refine j_aload_n (pc := 341) C d_Model_goesOn_341 rfl 0 rfl ?_
                  refine j_get (pc := 342) C gf_Model_139 1 rfl rfl d_Model_goesOn_342 ?_
                  refine j_aload_n (pc := 345) C d_Model_goesOn_345 rfl 0 rfl ?_
                  refine j_get (pc := 346) C gf_Model_292 1 rfl rfl d_Model_goesOn_346 ?_
                  refine j_iconst (pc := 349) C (v := 1) d_Model_goesOn_349 (by decide) ?_
                  refine j_isub (pc := 350) C (v := nI (u1973.2.1 - 1)) d_Model_goesOn_350 (pk_sub (a := u1973.2.1) (b := 1) (by omega)) ?_
                  refine j_dup2 (pc := 351) C d_Model_goesOn_351 rfl rfl ?_
                  refine j_iald (pc := 352) C 3 rfl (v := 21) (vp_in_nI (by omega) (by decide)) (by rw [nI_clamp (by omega)]; exact xh1988) d_Model_goesOn_352 ?_
                  refine j_iconst (pc := 353) C (v := 2) d_Model_goesOn_353 (by decide) ?_
                  refine j_iadd (pc := 354) C (v := 23) d_Model_goesOn_354 (by decide) ?_
                  refine j_iast (pc := 355) C 3 rfl (ws' := [(ma 0, .inl (y 0, 1600, .inl (tby tx))), MB mo ma (nI t1) (nI u1961.1) (nI t3) i4 0 u1961.2.2 i7 i8 i42 i49 (nI u1973.1) (nI u1973.2.1) (nI oz) (nI bs) i61 i64 i66 (nI t67) i76 i78, (ma 50, .inl (y 0, 3200, .inl u1973.2.2.1)), (ma 52, .inl (y 0, 1700, .inl (upd g52 (u1973.2.1 - 1) 23)))]) (vp_in_nI (by omega) (by decide)) (by rw [nI_clamp (by omega)]; rfl) d_Model_goesOn_355 ?_
                  have xh1992 : Rch tx t3 (1, (gs, cs, sk, oo)) (0, ((advS tx t3 gz), u1973.2.2.2.1, (23 :: Cq1984), oz)) := hrc_.tr (Rch.st ((stA _ _ _ _).trans ((sA_cm xh1906 xh1913 xh1926 xh1939 xh1952 (by omega)).trans ((if_pos xh1968).trans (by rw [xh1983, xh1972, xh1986] <;> rfl)))) (Rch.rf _))
                  refine j_iconst (pc := 356) C (v := 1) d_Model_goesOn_356 (by decide) ?_
                  exact j_iret (pc := 357) C hr (by decide) (u1961.1, 0, u1961.2.2, u1973.1, u1973.2.1, oz, u1973.2.2.1, (upd g52 (u1973.2.1 - 1) 23), (advS tx t3 gz), u1973.2.2.2.1, (23 :: Cq1984)) ⟨(show t2 ≤ u1961.1 by omega), (show u1961.1 ≤ t3 by omega), (fun _ => ⟨rfl, by omega⟩), (it_up hT (show bs ≤ u1973.2.1 - 1 by omega)), (is_at (is_le hS (show u1973.2.1 ≤ wn by omega)) (by decide)), (show bs ≤ u1973.2.1 by omega), xh1971, (fun j hj => pk_un (show j ≠ u1973.2.1 - 1 by omega)), (show oz ≤ 6 by omega), (Or.inl ⟨rfl, rfl, rs_at (rs_next xh1978 (show u1973.2.1 = u1973.2.1 - 1 + 1 by omega) (by rw [xh1988]; decide) (by decide)) (by omega), xh1992, xh1982, wb_next xh1987 (by decide), opn_nx (by have hq := opn_d2 hoz_ xh1983; rw [xh1986] at hq; exact hq) (by decide)⟩)⟩ [1, 0, 2, 3] rfl (by decide) (by decide) (by decide) d_Model_goesOn_357
                · have xh1993 : ¬ issS tx t3 44 gz = true := fun q => c1967 ((rr_z xh1966).mpr (by rw [show rsS tx t3 44 gz = advS tx t3 gz from if_pos q]; exact adv_ok xh1906))
                  have xh1994 : RR tx t3 (failS 1 (stS tx t3 gz) gz) u1961.1 i4 u1961.2.1 u1961.2.2 := (rr_of xh1966 (if_neg xh1993).symm)
                  have xh1995 : Rch tx t3 (1, (gs, cs, sk, oo)) (2, ((failS 1 (stS tx t3 gz) gz), cz, sz, oz)) := hrc_.tr (Rch.st ((stA _ _ _ _).trans ((sA_cm xh1906 xh1913 xh1926 xh1939 xh1952 (by omega)).trans (if_neg xh1993))) (Rch.rf _))
                  refine j_iconst (pc := 335) C (v := 0) d_Model_goesOn_335 (by decide) ?_
                  have xh1996 : RS kq s0 f0 (xx + 1) u1961.2.1 zf g52 zc zn az := rs_bad hR_ c1967
                  exact j_iret (pc := 336) C hr (by decide) (u1961.1, u1961.2.1, u1961.2.2, zc, zn, oz, zf, g52, (failS 1 (stS tx t3 gz) gz), cz, sz) ⟨(show t2 ≤ u1961.1 by omega), (show u1961.1 ≤ t3 by omega), (fun _ => ⟨rfl, by omega⟩), hT, hS_, (show bs ≤ zn by omega), xh1994, (fun _ _ => rfl), (show oz ≤ 6 by omega), (Or.inr ⟨rfl, (rs_at xh1996 (by omega)), (fun e => absurd e c1967), (fun _ => ⟨_, _, _, xh1995⟩)⟩)⟩ [2, 3, 0, 1] rfl (by decide) (by decide) (by decide) d_Model_goesOn_336
              · refine j_icmp_eqF (pc := 310) C (tgt := 322) d_Model_goesOn_310 (by decide) (show ¬ mkI sz = 21 from fun e => absurd ((mkI_iff (c := 21) (by decide) (by decide)).mp e) (by omega)) ?_
                refine j_aload_n (pc := 313) C d_Model_goesOn_313 rfl 0 rfl ?_
                refine j_callVi (pc := 314) C (c_M_mark l D y mo ma t1 u1947 t3 i4 0 i6 i7 i8 i42 i49 (nI zc) zn (nI oz) bs i61 i64 i66 t67 i76 i78 g52 sz hb_ (by omega) hwz_) kw_Model_356 kv_Model_mark 0 10 rfl rfl ⟨by decide, by decide⟩ ⟨by decide, by decide⟩ (wr := [(ma 50, .inl (y 0, 3200, .inl zf)), (ma 0, .inl (y 0, 1600, .inl (tby tx)))]) [2, 3] [0, 1] rfl rfl (by decide) (by decide) (by decide) (As := []) (rest := []) rfl (nb rfl) rfl d_Model_goesOn_314 (fun r1997 _ hr1997 => ?_)
                obtain rfl := hr1997
                refine j_ws (ws' := [(ma 50, .inl (y 0, 3200, .inl zf)), (ma 0, .inl (y 0, 1600, .inl (tby tx))), MB mo ma (nI t1) (nI u1947) (nI t3) i4 0 i6 i7 i8 i42 i49 (nI zc) (nI zn) (nI oz) (nI bs) i61 i64 i66 (nI t67) i76 i78, (ma 52, .inl (y 0, 1700, .inl g52))]) rfl ?_
                refine j_bipush (pc := 317) C (v := 22) d_Model_goesOn_317 (by decide) ?_
                by_cases c1998 : ¬ mkf sz = 22
                · refine j_icmp_neT (pc := 319) C (tgt := 358) d_Model_goesOn_319 (by decide) (show ¬ mkI sz = 22 from fun e => absurd ((mkI_iff (c := 22) (by decide) (by decide)).mp e) (by omega)) ?_
                  refine j_aload_n (pc := 358) C d_Model_goesOn_358 rfl 0 rfl ?_
                  refine j_callVi (pc := 359) C (c_M_mark l D y mo ma t1 u1947 t3 i4 0 i6 i7 i8 i42 i49 (nI zc) zn (nI oz) bs i61 i64 i66 t67 i76 i78 g52 sz hb_ (by omega) hwz_) kw_Model_356 kv_Model_mark 0 10 rfl rfl ⟨by decide, by decide⟩ ⟨by decide, by decide⟩ (wr := [(ma 50, .inl (y 0, 3200, .inl zf)), (ma 0, .inl (y 0, 1600, .inl (tby tx)))]) [2, 3] [0, 1] rfl rfl (by decide) (by decide) (by decide) (As := []) (rest := []) rfl (nb rfl) rfl d_Model_goesOn_359 (fun r1999 _ hr1999 => ?_)
                  obtain rfl := hr1999
                  refine j_ws (ws' := [(ma 50, .inl (y 0, 3200, .inl zf)), (ma 0, .inl (y 0, 1600, .inl (tby tx))), MB mo ma (nI t1) (nI u1947) (nI t3) i4 0 i6 i7 i8 i42 i49 (nI zc) (nI zn) (nI oz) (nI bs) i61 i64 i66 (nI t67) i76 i78, (ma 52, .inl (y 0, 1700, .inl g52))]) rfl ?_
                  refine j_iconst (pc := 362) C (v := (-1)) d_Model_goesOn_362 (by decide) ?_
                  by_cases c2000 : mkf sz = 0
                  · refine j_icmp_eqT (pc := 363) C (tgt := 382) d_Model_goesOn_363 (by decide) (mkI_m1.mpr (by omega)) ?_
                    have xh2001 : Rch tx t3 (1, (gs, cs, sk, oo)) (2, (gz, cz, sz, oz)) := hrc_.tr (Rch.st ((stA _ _ _ _).trans (sA_en2 xh1906 xh1905 xh1913 xh1926 xh1939 xh1952 (by omega))) (Rch.rf _))
                    refine j_iconst (pc := 382) C (v := 0) d_Model_goesOn_382 (by decide) ?_
                    exact j_iret (pc := 383) C hr (by decide) (u1947, 0, i6, zc, zn, oz, zf, g52, gz, cz, sz) ⟨(show t2 ≤ u1947 by omega), (show u1947 ≤ t3 by omega), (fun _ => ⟨rfl, by omega⟩), hT, hS_, (show bs ≤ zn by omega), xh1951, (fun _ _ => rfl), (show oz ≤ 6 by omega), (Or.inr ⟨rfl, (rs_at hR_ (by omega)), (fun _ => ⟨wb_nm hwz_ (by omega), xh2001, hcz_, hwz_, by omega⟩), (fun e => absurd rfl e)⟩)⟩ [2, 1, 0, 3] rfl (by decide) (by decide) (by decide) d_Model_goesOn_383
                  · refine j_icmp_eqF (pc := 363) C (tgt := 382) d_Model_goesOn_363 (by decide) (fun e => absurd (mkI_m1.mp e) (by omega)) ?_
                    refine j_aload_n (pc := 366) C d_Model_goesOn_366 rfl 0 rfl ?_
                    refine j_get (pc := 367) C gf_Model_201 2 rfl rfl d_Model_goesOn_367 ?_
                    refine j_if_neF (pc := 370) C (tgt := 382) d_Model_goesOn_370 (by decide) (by decide) ?_
                    refine j_aload_n (pc := 373) C d_Model_goesOn_373 rfl 0 rfl ?_
                    refine j_iconst (pc := 374) C (v := 1) d_Model_goesOn_374 (by decide) ?_
                    refine j_aload_n (pc := 375) C d_Model_goesOn_375 rfl 0 rfl ?_
                    refine j_get (pc := 376) C gf_Model_207 2 rfl rfl d_Model_goesOn_376 ?_
                    refine j_callVv (pc := 379) C (c_M_fail_1 l D y mo ma t1 u1947 t3 i4 0 i6 i7 i8 i42 i49 (nI zc) (nI zn) (nI oz) (nI bs) i61 i64 i66 t67 i76 i78 u1947 gz tx ((rr_z xh1951).mp rfl) (by omega) rfl) kw_Model_230 kv_Model_fail 0 10 rfl rfl ⟨by decide, by decide⟩ ⟨by decide, by decide⟩ (wr := [(ma 50, .inl (y 0, 3200, .inl zf)), (ma 0, .inl (y 0, 1600, .inl (tby tx))), (ma 52, .inl (y 0, 1700, .inl g52))]) [2] [0, 1, 3] rfl rfl (by decide) (by decide) (by decide) (As := [.int 1, .int (nI u1947)]) (rest := []) rfl (nb rfl) rfl d_Model_goesOn_379 (fun u2002 hu2003 => ?_)
                    obtain ⟨xh2004, xh2005⟩ := hu2003
                    refine j_ws (ws' := [(ma 50, .inl (y 0, 3200, .inl zf)), (ma 0, .inl (y 0, 1600, .inl (tby tx))), (ma 52, .inl (y 0, 1700, .inl g52)), MB mo ma (nI t1) (nI u1947) (nI t3) i4 u2002.1 u2002.2 i7 i8 i42 i49 (nI zc) (nI zn) (nI oz) (nI bs) i61 i64 i66 (nI t67) i76 i78]) rfl ?_
                    have xh2006 : RR tx t3 (failS 1 (stS tx t3 gz) gz) u1947 i4 u2002.1 u2002.2 := (rr_of xh2005 (by rw [← xh1953 rfl]))
                    have xh2007 : Rch tx t3 (1, (gs, cs, sk, oo)) (2, ((failS 1 (stS tx t3 gz) gz), cz, sz, oz)) := hrc_.tr (Rch.st ((stA _ _ _ _).trans (sA_no2 xh1906 xh1905 xh1913 xh1926 xh1939 xh1952 (by omega) (by omega))) (Rch.rf _))
                    refine j_iconst (pc := 382) C (v := 0) d_Model_goesOn_382 (by decide) ?_
                    have xh2008 : RS kq s0 f0 (xx + 1) u2002.1 zf g52 zc zn az := rs_bad hR_ xh2004
                    exact j_iret (pc := 383) C hr (by decide) (u1947, u2002.1, u2002.2, zc, zn, oz, zf, g52, (failS 1 (stS tx t3 gz) gz), cz, sz) ⟨(show t2 ≤ u1947 by omega), (show u1947 ≤ t3 by omega), (fun _ => ⟨rfl, by omega⟩), hT, hS_, (show bs ≤ zn by omega), xh2006, (fun _ _ => rfl), (show oz ≤ 6 by omega), (Or.inr ⟨rfl, (rs_at xh2008 (by omega)), (fun e => absurd e xh2004), (fun _ => ⟨_, _, _, xh2007⟩)⟩)⟩ [3, 1, 0, 2] rfl (by decide) (by decide) (by decide) d_Model_goesOn_383
                · refine j_icmp_neF (pc := 319) C (tgt := 358) d_Model_goesOn_319 (by decide) (show mkI sz = 22 from (mkI_iff (c := 22) (by decide) (by decide)).mpr (by omega)) ?_
                  refine j_aload_n (pc := 322) C d_Model_goesOn_322 rfl 0 rfl ?_
                  refine j_bipush (pc := 323) C (v := 44) d_Model_goesOn_323 (by decide) ?_
                  refine j_callVv (pc := 325) C (c_M_asksSign l D y mo ma t1 u1947 t3 i4 0 i6 i7 i8 i42 i49 (nI zc) (nI zn) (nI oz) (nI bs) i61 i64 i66 t67 i76 i78 tx 44 gz xh1949 he hB xh1951 (by omega) (by decide)) kw_Model_271 kv_Model_asksSign 0 10 rfl rfl ⟨by decide, by decide⟩ ⟨by decide, by decide⟩ (wr := [(ma 50, .inl (y 0, 3200, .inl zf)), (ma 52, .inl (y 0, 1700, .inl g52))]) [2, 1] [0, 3] rfl rfl (by decide) (by decide) (by decide) (As := [.int 44]) (rest := []) rfl (nb rfl) rfl d_Model_goesOn_325 (fun u2009 hu2010 => ?_)
                  obtain ⟨xh2011, xh2012, xh2013, xh2014⟩ := hu2010
                  refine j_ws (ws' := [(ma 50, .inl (y 0, 3200, .inl zf)), (ma 52, .inl (y 0, 1700, .inl g52)), MB mo ma (nI t1) (nI u2009.1) (nI t3) i4 u2009.2.1 u2009.2.2 i7 i8 i42 i49 (nI zc) (nI zn) (nI oz) (nI bs) i61 i64 i66 (nI t67) i76 i78, (ma 0, .inl (y 0, 1600, .inl (tby tx)))]) rfl ?_
                  refine j_aload_n (pc := 328) C d_Model_goesOn_328 rfl 0 rfl ?_
                  refine j_get (pc := 329) C gf_Model_201 2 rfl rfl d_Model_goesOn_329 ?_
                  refine j_if_eq (pc := 332) C (tgt := 337) d_Model_goesOn_332 (by decide) (fun c2015 => ?_) (fun c2015 => ?_)
                  · have xh2016 : issS tx t3 44 gz = true := (rs_ok ((rr_z xh2014).mp c2015)).1
                    have xh2017 : RR tx t3 (advS tx t3 gz) u2009.1 i4 u2009.2.1 u2009.2.2 := (rr_of xh2014 (if_pos xh2016).symm)
                    have xh2018 : RS kq s0 f0 (xx + 1) u2009.2.1 zf g52 zc zn az := rs_mono hR_ (fun _ => rfl)
                    refine j_ws (ws' := [(ma 50, .inl (y 0, 3200, .inl zf)), (ma 52, .inl (y 0, 1700, .inl g52)), MB mo ma (nI t1) (nI u2009.1) (nI t3) i4 0 u2009.2.2 i7 i8 i42 i49 (nI zc) (nI zn) (nI oz) (nI bs) i61 i64 i66 (nI t67) i76 i78, (ma 0, .inl (y 0, 1600, .inl (tby tx)))]) (by rw [c2015]) ?_
                    have xh2019 : RR tx t3 (advS tx t3 gz) u2009.1 i4 0 u2009.2.2 := by have hq := xh2017; rw [c2015] at hq; exact hq
                    have xh2020 : mkf sz = 22 := by omega
                    refine j_aload_n (pc := 337) C d_Model_goesOn_337 rfl 0 rfl ?_
                    refine j_callVv (pc := 338) C (c_M_dropsToMark l D y mo ma t1 u2009.1 t3 i4 u2009.2.2 i7 i8 i42 i49 zc zn (nI oz) bs i61 i64 i66 t67 i76 i78 zf g52 s0 xx sz cz kq f0 he xh2012 (rs_at hR_ (by omega)) hT hS_ hb_ hwz_ hcz_ hK) kw_Model_359 kv_Model_dropsToMark 0 10 rfl rfl ⟨by decide, by decide⟩ ⟨by decide, by decide⟩ (wr := [(ma 0, .inl (y 0, 1600, .inl (tby tx)))]) [2, 0, 1] [3] rfl rfl (by decide) (by decide) (by decide) (As := []) (rest := []) rfl (nb rfl) rfl d_Model_goesOn_338 (fun u2021 hu2022 => ?_)
                    obtain ⟨xh2023, xh2024, xh2025, xh2026, xh2027, xh2028, xh2029, xh2030, xh2031⟩ := hu2022
                    refine j_ws (ws' := [(ma 0, .inl (y 0, 1600, .inl (tby tx))), MB mo ma (nI t1) (nI u2009.1) (nI t3) i4 0 u2009.2.2 i7 i8 i42 i49 (nI u2021.1) (nI u2021.2.1) (nI oz) (nI bs) i61 i64 i66 (nI t67) i76 i78, (ma 50, .inl (y 0, 3200, .inl u2021.2.2.1)), (ma 52, .inl (y 0, 1700, .inl g52))]) rfl ?_
                    obtain ⟨Cq2032, xh2033⟩ := drp_m (S := sz) (cs := cz) (by omega)
                    have xh2034 : u2021.2.2.2.2 = 22 :: Cq2032 := by rw [xh2031, xh2020] at xh2033; exact xh2033
                    have xh2035 : WB (22 :: Cq2032) g52 bs u2021.2.1 := wb_cast xh2029 xh2034
                    have xh2036 : g52 (u2021.2.1 - 1) = 22 := xh2035.2.1
                    have hb2037 := xh2035.1
                    obtain ⟨xh2038, xh2039⟩ := opn_mk hoz_ (xh2031.trans (by rw [xh2034])) (by decide)
                    refine j_aload_n (pc := 341) C d_Model_goesOn_341 rfl 0 rfl ?_
                    refine j_get (pc := 342) C gf_Model_139 1 rfl rfl d_Model_goesOn_342 ?_
                    refine j_aload_n (pc := 345) C d_Model_goesOn_345 rfl 0 rfl ?_
                    refine j_get (pc := 346) C gf_Model_292 1 rfl rfl d_Model_goesOn_346 ?_
                    refine j_iconst (pc := 349) C (v := 1) d_Model_goesOn_349 (by decide) ?_
                    refine j_isub (pc := 350) C (v := nI (u2021.2.1 - 1)) d_Model_goesOn_350 (pk_sub (a := u2021.2.1) (b := 1) (by omega)) ?_
                    refine j_dup2 (pc := 351) C d_Model_goesOn_351 rfl rfl ?_
                    refine j_iald (pc := 352) C 3 rfl (v := 22) (vp_in_nI (by omega) (by decide)) (by rw [nI_clamp (by omega)]; exact xh2036) d_Model_goesOn_352 ?_
                    refine j_iconst (pc := 353) C (v := 2) d_Model_goesOn_353 (by decide) ?_
                    refine j_iadd (pc := 354) C (v := 24) d_Model_goesOn_354 (by decide) ?_
                    refine j_iast (pc := 355) C 3 rfl (ws' := [(ma 0, .inl (y 0, 1600, .inl (tby tx))), MB mo ma (nI t1) (nI u2009.1) (nI t3) i4 0 u2009.2.2 i7 i8 i42 i49 (nI u2021.1) (nI u2021.2.1) (nI oz) (nI bs) i61 i64 i66 (nI t67) i76 i78, (ma 50, .inl (y 0, 3200, .inl u2021.2.2.1)), (ma 52, .inl (y 0, 1700, .inl (upd g52 (u2021.2.1 - 1) 24)))]) (vp_in_nI (by omega) (by decide)) (by rw [nI_clamp (by omega)]; rfl) d_Model_goesOn_355 ?_
                    have xh2040 : Rch tx t3 (1, (gs, cs, sk, oo)) (0, ((advS tx t3 gz), u2021.2.2.2.1, (24 :: Cq2032), oz)) := hrc_.tr (Rch.st ((stA _ _ _ _).trans ((sA_cm xh1906 xh1913 xh1926 xh1939 xh1952 (by omega)).trans ((if_pos xh2016).trans (by rw [xh2031, xh2020, xh2034] <;> rfl)))) (Rch.rf _))
                    refine j_iconst (pc := 356) C (v := 1) d_Model_goesOn_356 (by decide) ?_
                    exact j_iret (pc := 357) C hr (by decide) (u2009.1, 0, u2009.2.2, u2021.1, u2021.2.1, oz, u2021.2.2.1, (upd g52 (u2021.2.1 - 1) 24), (advS tx t3 gz), u2021.2.2.2.1, (24 :: Cq2032)) ⟨(show t2 ≤ u2009.1 by omega), (show u2009.1 ≤ t3 by omega), (fun _ => ⟨rfl, by omega⟩), (it_up hT (show bs ≤ u2021.2.1 - 1 by omega)), (is_at (is_le hS (show u2021.2.1 ≤ wn by omega)) (by decide)), (show bs ≤ u2021.2.1 by omega), xh2019, (fun j hj => pk_un (show j ≠ u2021.2.1 - 1 by omega)), (show oz ≤ 6 by omega), (Or.inl ⟨rfl, rfl, rs_at (rs_next xh2026 (show u2021.2.1 = u2021.2.1 - 1 + 1 by omega) (by rw [xh2036]; decide) (by decide)) (by omega), xh2040, xh2030, wb_next xh2035 (by decide), opn_nx (by have hq := opn_d2 hoz_ xh2031; rw [xh2034] at hq; exact hq) (by decide)⟩)⟩ [1, 0, 2, 3] rfl (by decide) (by decide) (by decide) d_Model_goesOn_357
                  · have xh2041 : ¬ issS tx t3 44 gz = true := fun q => c2015 ((rr_z xh2014).mpr (by rw [show rsS tx t3 44 gz = advS tx t3 gz from if_pos q]; exact adv_ok xh1906))
                    have xh2042 : RR tx t3 (failS 1 (stS tx t3 gz) gz) u2009.1 i4 u2009.2.1 u2009.2.2 := (rr_of xh2014 (if_neg xh2041).symm)
                    have xh2043 : Rch tx t3 (1, (gs, cs, sk, oo)) (2, ((failS 1 (stS tx t3 gz) gz), cz, sz, oz)) := hrc_.tr (Rch.st ((stA _ _ _ _).trans ((sA_cm xh1906 xh1913 xh1926 xh1939 xh1952 (by omega)).trans (if_neg xh2041))) (Rch.rf _))
                    refine j_iconst (pc := 335) C (v := 0) d_Model_goesOn_335 (by decide) ?_
                    have xh2044 : RS kq s0 f0 (xx + 1) u2009.2.1 zf g52 zc zn az := rs_bad hR_ c2015
                    exact j_iret (pc := 336) C hr (by decide) (u2009.1, u2009.2.1, u2009.2.2, zc, zn, oz, zf, g52, (failS 1 (stS tx t3 gz) gz), cz, sz) ⟨(show t2 ≤ u2009.1 by omega), (show u2009.1 ≤ t3 by omega), (fun _ => ⟨rfl, by omega⟩), hT, hS_, (show bs ≤ zn by omega), xh2042, (fun _ _ => rfl), (show oz ≤ 6 by omega), (Or.inr ⟨rfl, (rs_at xh2044 (by omega)), (fun e => absurd e c2015), (fun _ => ⟨_, _, _, xh2043⟩)⟩)⟩ [2, 3, 0, 1] rfl (by decide) (by decide) (by decide) d_Model_goesOn_336
            · refine j_if_eqF (pc := 218) C (tgt := 304) d_Model_goesOn_218 (by decide) (by decide) ?_
              refine j_aload_n (pc := 221) C d_Model_goesOn_221 rfl 0 rfl ?_
              refine j_get (pc := 222) C gf_Model_7 2 rfl rfl d_Model_goesOn_222 ?_
              refine j_aload_n (pc := 225) C d_Model_goesOn_225 rfl 0 rfl ?_
              refine j_get (pc := 226) C gf_Model_207 2 rfl rfl d_Model_goesOn_226 ?_
              refine j_iconst (pc := 229) C (v := 1) d_Model_goesOn_229 (by decide) ?_
              refine j_isub (pc := 230) C (v := nI (u1947 - 1)) d_Model_goesOn_230 (pk_sub (a := u1947) (b := 1) (by omega)) ?_
              refine j_iald (pc := 231) C 3 rfl (v := 45) (vp_in_nI (by omega) (by decide)) (by rw [nI_clamp (by omega)]; exact congrArg nI xh1958) d_Model_goesOn_231 ?_
              refine j_bipush (pc := 232) C (v := 43) d_Model_goesOn_232 (by decide) ?_
              refine j_icmp_neT (pc := 234) C (tgt := 241) d_Model_goesOn_234 (by decide) (by decide) ?_
              refine j_iconst (pc := 241) C (v := 2) d_Model_goesOn_241 (by decide) ?_
              refine j_istore_n (pc := 242) C (lv' := [(1, .int 2), (0, .ref mo)]) d_Model_goesOn_242 rfl (by decide) rfl ?_
              refine j_loop (α := Nat × Nat × (Nat → Int32) × List Nat × List Nat) (fun a => a.2.1) (fun a => (bs ≤ a.2.1) ∧ (a.2.1 ≤ zn) ∧ (RS kq s0 f0 (xx + 1) 0 a.2.2.1 g52 a.1 a.2.1 az) ∧ (WB a.2.2.2.1 g52 bs a.2.1) ∧ (CD a.2.2.2.2 a.2.2.1 a.1) ∧ (drp isAo a.2.2.2.1 a.2.2.2.2 = drp isAo sz cz) ∧ (opn a.2.2.2.1 ≤ oz)) (fun a => [(ma 50, .inl (y 0, 3200, .inl a.2.2.1)), (ma 52, .inl (y 0, 1700, .inl g52)), MB mo ma (nI t1) (nI u1947) (nI t3) i4 0 i6 i7 i8 i42 i49 (nI a.1) (nI a.2.1) (nI oz) (nI bs) i61 i64 i66 (nI t67) i76 i78, (ma 0, .inl (y 0, 1600, .inl (tby tx)))]) (fun a => [(1, .int 2), (0, .ref mo)]) (zc, zn, zf, sz, cz) rfl rfl ⟨hb_, (show zn ≤ zn by omega), hR_, hwz_, hcz_, rfl, hoz_⟩ ?_
              rintro ⟨yc, yn, yf, sy, cy⟩ hP2095 ih2096
              obtain ⟨hby__, hny__, hRy__, hWy__, hCy__, hDy__, hOy__⟩ := hP2095
              have hby_ : bs ≤ yn := hby__
              have hny_ : yn ≤ zn := hny__
              have hRy_ : RS kq s0 f0 (xx + 1) 0 yf g52 yc yn az := hRy__
              have hWy_ : WB sy g52 bs yn := hWy__
              have hCy_ : CD cy yf yc := hCy__
              have hDy_ : drp isAo sy cy = drp isAo sz cz := hDy__
              have hOy_ : opn sy ≤ oz := hOy__
              refine j_ws (ws' := [(ma 50, .inl (y 0, 3200, .inl yf)), (ma 52, .inl (y 0, 1700, .inl g52)), MB mo ma (nI t1) (nI u1947) (nI t3) i4 0 i6 i7 i8 i42 i49 (nI yc) (nI yn) (nI oz) (nI bs) i61 i64 i66 (nI t67) i76 i78, (ma 0, .inl (y 0, 1600, .inl (tby tx)))]) rfl ?_
              refine j_lv (lv' := [(1, .int 2), (0, .ref mo)]) rfl ?_
              have hacy := rs_ac3 hRy_
              have hSy_ : ISm g52 bs yn := is_le hS (by omega)
              refine j_aload_n (pc := 243) C d_Model_goesOn_243 rfl 1 rfl ?_
              refine j_iconst (pc := 244) C (v := 3) d_Model_goesOn_244 (by decide) ?_
              refine j_callVi (pc := 245) C (c_M_isOn l D y mo ma t1 u1947 t3 i4 0 i6 i7 i8 i42 i49 (nI yc) yn (nI oz) (nI bs) i61 i64 i66 t67 i76 i78 g52 3 (by omega)) kw_Model_362 kv_Model_isOn 0 10 rfl rfl ⟨by decide, by decide⟩ ⟨by decide, by decide⟩ (wr := [(ma 50, .inl (y 0, 3200, .inl yf)), (ma 0, .inl (y 0, 1600, .inl (tby tx)))]) [2, 1] [0, 3] rfl rfl (by decide) (by decide) (by decide) (As := [.int 3]) (rest := []) rfl (nb rfl) rfl d_Model_goesOn_245 (fun r2097 _ hr2097 => ?_)
              refine j_ws (ws' := [(ma 50, .inl (y 0, 3200, .inl yf)), (ma 0, .inl (y 0, 1600, .inl (tby tx))), MB mo ma (nI t1) (nI u1947) (nI t3) i4 0 i6 i7 i8 i42 i49 (nI yc) (nI yn) (nI oz) (nI bs) i61 i64 i66 (nI t67) i76 i78, (ma 52, .inl (y 0, 1700, .inl g52))]) rfl ?_
              rcases hr2097 with ⟨rfl, xh2099⟩ | ⟨rfl, xh2100, e2101⟩
              · refine j_if_neF (pc := 248) C (tgt := 275) d_Model_goesOn_248 (by decide) (by decide) ?_
                refine j_aload_n (pc := 251) C d_Model_goesOn_251 rfl 1 rfl ?_
                refine j_iconst (pc := 252) C (v := 4) d_Model_goesOn_252 (by decide) ?_
                refine j_callVi (pc := 253) C (c_M_isOn l D y mo ma t1 u1947 t3 i4 0 i6 i7 i8 i42 i49 (nI yc) yn (nI oz) (nI bs) i61 i64 i66 t67 i76 i78 g52 4 (by omega)) kw_Model_362 kv_Model_isOn 0 10 rfl rfl ⟨by decide, by decide⟩ ⟨by decide, by decide⟩ (wr := [(ma 50, .inl (y 0, 3200, .inl yf)), (ma 0, .inl (y 0, 1600, .inl (tby tx)))]) [2, 3] [0, 1] rfl rfl (by decide) (by decide) (by decide) (As := [.int 4]) (rest := []) rfl (nb rfl) rfl d_Model_goesOn_253 (fun r2102 _ hr2102 => ?_)
                refine j_ws (ws' := [(ma 50, .inl (y 0, 3200, .inl yf)), (ma 0, .inl (y 0, 1600, .inl (tby tx))), MB mo ma (nI t1) (nI u1947) (nI t3) i4 0 i6 i7 i8 i42 i49 (nI yc) (nI yn) (nI oz) (nI bs) i61 i64 i66 (nI t67) i76 i78, (ma 52, .inl (y 0, 1700, .inl g52))]) rfl ?_
                rcases hr2102 with ⟨rfl, xh2104⟩ | ⟨rfl, xh2105, e2106⟩
                · refine j_if_neF (pc := 256) C (tgt := 275) d_Model_goesOn_256 (by decide) (by decide) ?_
                  refine j_aload_n (pc := 259) C d_Model_goesOn_259 rfl 1 rfl ?_
                  refine j_iconst (pc := 260) C (v := 1) d_Model_goesOn_260 (by decide) ?_
                  refine j_callVi (pc := 261) C (c_M_isOn l D y mo ma t1 u1947 t3 i4 0 i6 i7 i8 i42 i49 (nI yc) yn (nI oz) (nI bs) i61 i64 i66 t67 i76 i78 g52 1 (by omega)) kw_Model_362 kv_Model_isOn 0 10 rfl rfl ⟨by decide, by decide⟩ ⟨by decide, by decide⟩ (wr := [(ma 50, .inl (y 0, 3200, .inl yf)), (ma 0, .inl (y 0, 1600, .inl (tby tx)))]) [2, 3] [0, 1] rfl rfl (by decide) (by decide) (by decide) (As := [.int 1]) (rest := []) rfl (nb rfl) rfl d_Model_goesOn_261 (fun r2107 _ hr2107 => ?_)
                  refine j_ws (ws' := [(ma 50, .inl (y 0, 3200, .inl yf)), (ma 0, .inl (y 0, 1600, .inl (tby tx))), MB mo ma (nI t1) (nI u1947) (nI t3) i4 0 i6 i7 i8 i42 i49 (nI yc) (nI yn) (nI oz) (nI bs) i61 i64 i66 (nI t67) i76 i78, (ma 52, .inl (y 0, 1700, .inl g52))]) rfl ?_
                  rcases hr2107 with ⟨rfl, xh2109⟩ | ⟨rfl, xh2110, e2111⟩
                  · refine j_if_neF (pc := 264) C (tgt := 275) d_Model_goesOn_264 (by decide) (by decide) ?_
                    refine j_aload_n (pc := 267) C d_Model_goesOn_267 rfl 1 rfl ?_
                    refine j_iconst (pc := 268) C (v := 2) d_Model_goesOn_268 (by decide) ?_
                    refine j_callVi (pc := 269) C (c_M_isOn l D y mo ma t1 u1947 t3 i4 0 i6 i7 i8 i42 i49 (nI yc) yn (nI oz) (nI bs) i61 i64 i66 t67 i76 i78 g52 2 (by omega)) kw_Model_362 kv_Model_isOn 0 10 rfl rfl ⟨by decide, by decide⟩ ⟨by decide, by decide⟩ (wr := [(ma 50, .inl (y 0, 3200, .inl yf)), (ma 0, .inl (y 0, 1600, .inl (tby tx)))]) [2, 3] [0, 1] rfl rfl (by decide) (by decide) (by decide) (As := [.int 2]) (rest := []) rfl (nb rfl) rfl d_Model_goesOn_269 (fun r2112 _ hr2112 => ?_)
                    refine j_ws (ws' := [(ma 50, .inl (y 0, 3200, .inl yf)), (ma 0, .inl (y 0, 1600, .inl (tby tx))), MB mo ma (nI t1) (nI u1947) (nI t3) i4 0 i6 i7 i8 i42 i49 (nI yc) (nI yn) (nI oz) (nI bs) i61 i64 i66 (nI t67) i76 i78, (ma 52, .inl (y 0, 1700, .inl g52))]) rfl ?_
                    rcases hr2112 with ⟨rfl, xh2114⟩ | ⟨rfl, xh2115, e2116⟩
                    · refine j_if_eqT (pc := 272) C (tgt := 282) d_Model_goesOn_272 (by decide) (by decide) ?_
                      have xh2117 : drp isAo sz cz = (sy, cy) := hDy_.symm.trans (drp_no (fun v hv => ao_no (on_no (c := 1) hWy_ xh2109 v hv) (on_no (c := 2) hWy_ xh2114 v hv) (on_no (c := 3) hWy_ xh2099 v hv) (on_no (c := 4) hWy_ xh2104 v hv)))
                      have xh2118 : Rch tx t3 (1, (gs, cs, sk, oo)) (0, ((advS tx t3 gz), cy, (2 :: sy), oz)) := hrc_.tr (Rch.st ((stA _ _ _ _).trans ((sA_A (Or.inr xh1955)).trans (by rw [xh2117, if_neg xh1939]))) (Rch.rf _))
                      refine j_aload_n (pc := 282) C d_Model_goesOn_282 rfl 1 rfl ?_
                      refine j_get (pc := 283) C gf_Model_139 2 rfl rfl d_Model_goesOn_283 ?_
                      refine j_aload_n (pc := 286) C d_Model_goesOn_286 rfl 1 rfl ?_
                      refine j_get (pc := 287) C gf_Model_292 2 rfl rfl d_Model_goesOn_287 ?_
                      refine j_iload_n (pc := 290) C d_Model_goesOn_290 rfl 0 rfl ?_
                      refine j_iast (pc := 291) C 3 rfl (ws' := [(ma 50, .inl (y 0, 3200, .inl yf)), (ma 0, .inl (y 0, 1600, .inl (tby tx))), MB mo ma (nI t1) (nI u1947) (nI t3) i4 0 i6 i7 i8 i42 i49 (nI yc) (nI yn) (nI oz) (nI bs) i61 i64 i66 (nI t67) i76 i78, (ma 52, .inl (y 0, 1700, .inl (upd g52 yn 2)))]) (vp_in_nI (by omega) (by decide)) (by rw [nI_clamp (by omega)]; rfl) d_Model_goesOn_291 ?_
                      refine j_aload_n (pc := 292) C d_Model_goesOn_292 rfl 1 rfl ?_
                      refine j_dup (pc := 293) C d_Model_goesOn_293 rfl ?_
                      refine j_get (pc := 294) C gf_Model_292 2 rfl rfl d_Model_goesOn_294 ?_
                      refine j_iconst (pc := 297) C (v := 1) d_Model_goesOn_297 (by decide) ?_
                      refine j_iadd (pc := 298) C (v := nI (yn + 1)) d_Model_goesOn_298 (nI_add _ _) ?_
                      refine j_put (pc := 299) C pf_Model_292 2 (ws' := [(ma 50, .inl (y 0, 3200, .inl yf)), (ma 0, .inl (y 0, 1600, .inl (tby tx))), MB mo ma (nI t1) (nI u1947) (nI t3) i4 0 i6 i7 i8 i42 i49 (nI yc) (nI (yn + 1)) (nI oz) (nI bs) i61 i64 i66 (nI t67) i76 i78, (ma 52, .inl (y 0, 1700, .inl (upd g52 yn 2)))]) rfl rfl rfl (nl rfl) rfl d_Model_goesOn_299 ?_
                      refine j_iconst (pc := 302) C (v := 1) d_Model_goesOn_302 (by decide) ?_
                      exact j_iret (pc := 303) C hr (by decide) (u1947, 0, i6, yc, (yn + 1), oz, yf, (upd g52 yn 2), (advS tx t3 gz), cy, (2 :: sy)) ⟨(show t2 ≤ u1947 by omega), (show u1947 ≤ t3 by omega), (fun _ => ⟨rfl, by omega⟩), (it_up hT (show bs ≤ yn by omega)), (is_up hSy_ (by decide)), (show bs ≤ (yn + 1) by omega), xh1954, (fun j hj => pk_un (show j ≠ yn by omega)), (show oz ≤ 6 by omega), (Or.inl ⟨rfl, rfl, rs_op hRy_ (by decide) (show az < u1947 by omega), xh2118, hCy_, wb_push hWy_ (by decide), opn_op hOy_ (by decide)⟩)⟩ [2, 1, 0, 3] rfl (by decide) (by decide) (by decide) d_Model_goesOn_303
                    · refine j_if_eqF (pc := 272) C (tgt := 282) d_Model_goesOn_272 (by decide) (by decide) ?_
                      have hbz : bs < yn := top_s hT e2116 (by omega) (by omega) (by decide)
                      obtain ⟨vq2119, sq2120, xh2121, xh2122, xh2123, xh2124⟩ := wb_top hWy_ hbz
                      have xh2125 : vq2119 = 2 := on_yes xh2122 xh2123 (by decide) e2116
                      refine j_aload_n (pc := 275) C d_Model_goesOn_275 rfl 1 rfl ?_
                      refine j_callVv (pc := 276) C (c_M_drops l D y mo ma t1 u1947 t3 i4 0 i6 i7 i8 i42 i49 yc yn (nI oz) (nI bs) i61 i64 i66 t67 i76 i78 yf g52 (by omega) (by omega) (by omega)) kw_Model_350 kv_Model_drops 0 10 rfl rfl ⟨by decide, by decide⟩ ⟨by decide, by decide⟩ (wr := [(ma 0, .inl (y 0, 1600, .inl (tby tx)))]) [2, 0, 3] [1] rfl rfl (by decide) (by decide) (by decide) (As := []) (rest := []) rfl (nb rfl) rfl d_Model_goesOn_276 (fun _ _ => ?_)
                      refine j_ws (ws' := [(ma 0, .inl (y 0, 1600, .inl (tby tx))), MB mo ma (nI t1) (nI u1947) (nI t3) i4 0 i6 i7 i8 i42 i49 (nI (yc + 1)) (nI (yn - 1)) (nI oz) (nI bs) i61 i64 i66 (nI t67) i76 i78, (ma 50, .inl (y 0, 3200, .inl (upd yf yc (g52 (yn - 1))))), (ma 52, .inl (y 0, 1700, .inl g52))]) rfl ?_
                      refine j_goto (pc := 279) C (tgt := 243) d_Model_goesOn_279 (by decide) ?_
                      refine j_sub (ws' := [(ma 50, .inl (y 0, 3200, .inl (upd yf yc (g52 (yn - 1))))), (ma 52, .inl (y 0, 1700, .inl g52)), MB mo ma (nI t1) (nI u1947) (nI t3) i4 0 i6 i7 i8 i42 i49 (nI (yc + 1)) (nI (yn - 1)) (nI oz) (nI bs) i61 i64 i66 (nI t67) i76 i78, (ma 0, .inl (y 0, 1600, .inl (tby tx)))]) [2, 3, 1, 0] rfl (by decide) ?_
                      exact ih2096 ((yc + 1), (yn - 1), (upd yf yc (g52 (yn - 1))), sq2120, (putS vq2119 cy)) ⟨(show bs ≤ (yn - 1) by omega), (show (yn - 1) ≤ zn by omega), (show RS kq s0 f0 (xx + 1) 0 (upd yf yc (g52 (yn - 1))) g52 (yc + 1) (yn - 1) az from rs_drop hRy_ (by omega) (show yn = yn - 1 + 1 by omega) (Or.inl (by rw [e2116]; decide))), xh2124, (show CD (putS vq2119 cy) (upd yf yc (g52 (yn - 1))) (yc + 1) from cd_put hCy_ (by omega) xh2122 (by omega)), (show drp isAo sq2120 (putS vq2119 cy) = drp isAo sz cz by rw [← hDy_, xh2121]; exact (drp_go (by rw [xh2125]; decide)).symm), (opn_tl (by have hq := hOy_; rw [xh2121] at hq; exact hq))⟩ (show (yn - 1) < yn by omega)
                  · refine j_if_neT (pc := 264) C (tgt := 275) d_Model_goesOn_264 (by decide) (by decide) ?_
                    have hbz : bs < yn := top_s hT e2111 (by omega) (by omega) (by decide)
                    obtain ⟨vq2126, sq2127, xh2128, xh2129, xh2130, xh2131⟩ := wb_top hWy_ hbz
                    have xh2132 : vq2126 = 1 := on_yes xh2129 xh2130 (by decide) e2111
                    refine j_aload_n (pc := 275) C d_Model_goesOn_275 rfl 1 rfl ?_
                    refine j_callVv (pc := 276) C (c_M_drops l D y mo ma t1 u1947 t3 i4 0 i6 i7 i8 i42 i49 yc yn (nI oz) (nI bs) i61 i64 i66 t67 i76 i78 yf g52 (by omega) (by omega) (by omega)) kw_Model_350 kv_Model_drops 0 10 rfl rfl ⟨by decide, by decide⟩ ⟨by decide, by decide⟩ (wr := [(ma 0, .inl (y 0, 1600, .inl (tby tx)))]) [2, 0, 3] [1] rfl rfl (by decide) (by decide) (by decide) (As := []) (rest := []) rfl (nb rfl) rfl d_Model_goesOn_276 (fun _ _ => ?_)
                    refine j_ws (ws' := [(ma 0, .inl (y 0, 1600, .inl (tby tx))), MB mo ma (nI t1) (nI u1947) (nI t3) i4 0 i6 i7 i8 i42 i49 (nI (yc + 1)) (nI (yn - 1)) (nI oz) (nI bs) i61 i64 i66 (nI t67) i76 i78, (ma 50, .inl (y 0, 3200, .inl (upd yf yc (g52 (yn - 1))))), (ma 52, .inl (y 0, 1700, .inl g52))]) rfl ?_
                    refine j_goto (pc := 279) C (tgt := 243) d_Model_goesOn_279 (by decide) ?_
                    refine j_sub (ws' := [(ma 50, .inl (y 0, 3200, .inl (upd yf yc (g52 (yn - 1))))), (ma 52, .inl (y 0, 1700, .inl g52)), MB mo ma (nI t1) (nI u1947) (nI t3) i4 0 i6 i7 i8 i42 i49 (nI (yc + 1)) (nI (yn - 1)) (nI oz) (nI bs) i61 i64 i66 (nI t67) i76 i78, (ma 0, .inl (y 0, 1600, .inl (tby tx)))]) [2, 3, 1, 0] rfl (by decide) ?_
                    exact ih2096 ((yc + 1), (yn - 1), (upd yf yc (g52 (yn - 1))), sq2127, (putS vq2126 cy)) ⟨(show bs ≤ (yn - 1) by omega), (show (yn - 1) ≤ zn by omega), (show RS kq s0 f0 (xx + 1) 0 (upd yf yc (g52 (yn - 1))) g52 (yc + 1) (yn - 1) az from rs_drop hRy_ (by omega) (show yn = yn - 1 + 1 by omega) (Or.inl (by rw [e2111]; decide))), xh2131, (show CD (putS vq2126 cy) (upd yf yc (g52 (yn - 1))) (yc + 1) from cd_put hCy_ (by omega) xh2129 (by omega)), (show drp isAo sq2127 (putS vq2126 cy) = drp isAo sz cz by rw [← hDy_, xh2128]; exact (drp_go (by rw [xh2132]; decide)).symm), (opn_tl (by have hq := hOy_; rw [xh2128] at hq; exact hq))⟩ (show (yn - 1) < yn by omega)
                · refine j_if_neT (pc := 256) C (tgt := 275) d_Model_goesOn_256 (by decide) (by decide) ?_
                  have hbz : bs < yn := top_s hT e2106 (by omega) (by omega) (by decide)
                  obtain ⟨vq2133, sq2134, xh2135, xh2136, xh2137, xh2138⟩ := wb_top hWy_ hbz
                  have xh2139 : vq2133 = 4 := on_yes xh2136 xh2137 (by decide) e2106
                  refine j_aload_n (pc := 275) C d_Model_goesOn_275 rfl 1 rfl ?_
                  refine j_callVv (pc := 276) C (c_M_drops l D y mo ma t1 u1947 t3 i4 0 i6 i7 i8 i42 i49 yc yn (nI oz) (nI bs) i61 i64 i66 t67 i76 i78 yf g52 (by omega) (by omega) (by omega)) kw_Model_350 kv_Model_drops 0 10 rfl rfl ⟨by decide, by decide⟩ ⟨by decide, by decide⟩ (wr := [(ma 0, .inl (y 0, 1600, .inl (tby tx)))]) [2, 0, 3] [1] rfl rfl (by decide) (by decide) (by decide) (As := []) (rest := []) rfl (nb rfl) rfl d_Model_goesOn_276 (fun _ _ => ?_)
                  refine j_ws (ws' := [(ma 0, .inl (y 0, 1600, .inl (tby tx))), MB mo ma (nI t1) (nI u1947) (nI t3) i4 0 i6 i7 i8 i42 i49 (nI (yc + 1)) (nI (yn - 1)) (nI oz) (nI bs) i61 i64 i66 (nI t67) i76 i78, (ma 50, .inl (y 0, 3200, .inl (upd yf yc (g52 (yn - 1))))), (ma 52, .inl (y 0, 1700, .inl g52))]) rfl ?_
                  refine j_goto (pc := 279) C (tgt := 243) d_Model_goesOn_279 (by decide) ?_
                  refine j_sub (ws' := [(ma 50, .inl (y 0, 3200, .inl (upd yf yc (g52 (yn - 1))))), (ma 52, .inl (y 0, 1700, .inl g52)), MB mo ma (nI t1) (nI u1947) (nI t3) i4 0 i6 i7 i8 i42 i49 (nI (yc + 1)) (nI (yn - 1)) (nI oz) (nI bs) i61 i64 i66 (nI t67) i76 i78, (ma 0, .inl (y 0, 1600, .inl (tby tx)))]) [2, 3, 1, 0] rfl (by decide) ?_
                  exact ih2096 ((yc + 1), (yn - 1), (upd yf yc (g52 (yn - 1))), sq2134, (putS vq2133 cy)) ⟨(show bs ≤ (yn - 1) by omega), (show (yn - 1) ≤ zn by omega), (show RS kq s0 f0 (xx + 1) 0 (upd yf yc (g52 (yn - 1))) g52 (yc + 1) (yn - 1) az from rs_drop hRy_ (by omega) (show yn = yn - 1 + 1 by omega) (Or.inl (by rw [e2106]; decide))), xh2138, (show CD (putS vq2133 cy) (upd yf yc (g52 (yn - 1))) (yc + 1) from cd_put hCy_ (by omega) xh2136 (by omega)), (show drp isAo sq2134 (putS vq2133 cy) = drp isAo sz cz by rw [← hDy_, xh2135]; exact (drp_go (by rw [xh2139]; decide)).symm), (opn_tl (by have hq := hOy_; rw [xh2135] at hq; exact hq))⟩ (show (yn - 1) < yn by omega)
              · refine j_if_neT (pc := 248) C (tgt := 275) d_Model_goesOn_248 (by decide) (by decide) ?_
                have hbz : bs < yn := top_s hT e2101 (by omega) (by omega) (by decide)
                obtain ⟨vq2140, sq2141, xh2142, xh2143, xh2144, xh2145⟩ := wb_top hWy_ hbz
                have xh2146 : vq2140 = 3 := on_yes xh2143 xh2144 (by decide) e2101
                refine j_aload_n (pc := 275) C d_Model_goesOn_275 rfl 1 rfl ?_
                refine j_callVv (pc := 276) C (c_M_drops l D y mo ma t1 u1947 t3 i4 0 i6 i7 i8 i42 i49 yc yn (nI oz) (nI bs) i61 i64 i66 t67 i76 i78 yf g52 (by omega) (by omega) (by omega)) kw_Model_350 kv_Model_drops 0 10 rfl rfl ⟨by decide, by decide⟩ ⟨by decide, by decide⟩ (wr := [(ma 0, .inl (y 0, 1600, .inl (tby tx)))]) [2, 0, 3] [1] rfl rfl (by decide) (by decide) (by decide) (As := []) (rest := []) rfl (nb rfl) rfl d_Model_goesOn_276 (fun _ _ => ?_)
                refine j_ws (ws' := [(ma 0, .inl (y 0, 1600, .inl (tby tx))), MB mo ma (nI t1) (nI u1947) (nI t3) i4 0 i6 i7 i8 i42 i49 (nI (yc + 1)) (nI (yn - 1)) (nI oz) (nI bs) i61 i64 i66 (nI t67) i76 i78, (ma 50, .inl (y 0, 3200, .inl (upd yf yc (g52 (yn - 1))))), (ma 52, .inl (y 0, 1700, .inl g52))]) rfl ?_
                refine j_goto (pc := 279) C (tgt := 243) d_Model_goesOn_279 (by decide) ?_
                refine j_sub (ws' := [(ma 50, .inl (y 0, 3200, .inl (upd yf yc (g52 (yn - 1))))), (ma 52, .inl (y 0, 1700, .inl g52)), MB mo ma (nI t1) (nI u1947) (nI t3) i4 0 i6 i7 i8 i42 i49 (nI (yc + 1)) (nI (yn - 1)) (nI oz) (nI bs) i61 i64 i66 (nI t67) i76 i78, (ma 0, .inl (y 0, 1600, .inl (tby tx)))]) [2, 3, 1, 0] rfl (by decide) ?_
                exact ih2096 ((yc + 1), (yn - 1), (upd yf yc (g52 (yn - 1))), sq2141, (putS vq2140 cy)) ⟨(show bs ≤ (yn - 1) by omega), (show (yn - 1) ≤ zn by omega), (show RS kq s0 f0 (xx + 1) 0 (upd yf yc (g52 (yn - 1))) g52 (yc + 1) (yn - 1) az from rs_drop hRy_ (by omega) (show yn = yn - 1 + 1 by omega) (Or.inl (by rw [e2101]; decide))), xh2145, (show CD (putS vq2140 cy) (upd yf yc (g52 (yn - 1))) (yc + 1) from cd_put hCy_ (by omega) xh2143 (by omega)), (show drp isAo sq2141 (putS vq2140 cy) = drp isAo sz cz by rw [← hDy_, xh2142]; exact (drp_go (by rw [xh2146]; decide)).symm), (opn_tl (by have hq := hOy_; rw [xh2142] at hq; exact hq))⟩ (show (yn - 1) < yn by omega)
          · refine j_if_neT (pc := 209) C (tgt := 221) d_Model_goesOn_209 (by decide) (by decide) ?_
            refine j_aload_n (pc := 221) C d_Model_goesOn_221 rfl 0 rfl ?_
            refine j_get (pc := 222) C gf_Model_7 2 rfl rfl d_Model_goesOn_222 ?_
            refine j_aload_n (pc := 225) C d_Model_goesOn_225 rfl 0 rfl ?_
            refine j_get (pc := 226) C gf_Model_207 2 rfl rfl d_Model_goesOn_226 ?_
            refine j_iconst (pc := 229) C (v := 1) d_Model_goesOn_229 (by decide) ?_
            refine j_isub (pc := 230) C (v := nI (u1934 - 1)) d_Model_goesOn_230 (pk_sub (a := u1934) (b := 1) (by omega)) ?_
            refine j_iald (pc := 231) C 3 rfl (v := 43) (vp_in_nI (by omega) (by decide)) (by rw [nI_clamp (by omega)]; exact congrArg nI xh1945) d_Model_goesOn_231 ?_
            refine j_bipush (pc := 232) C (v := 43) d_Model_goesOn_232 (by decide) ?_
            refine j_icmp_neF (pc := 234) C (tgt := 241) d_Model_goesOn_234 (by decide) (by decide) ?_
            refine j_iconst (pc := 237) C (v := 1) d_Model_goesOn_237 (by decide) ?_
            refine j_goto (pc := 238) C (tgt := 242) d_Model_goesOn_238 (by decide) ?_
            refine j_istore_n (pc := 242) C (lv' := [(1, .int 1), (0, .ref mo)]) d_Model_goesOn_242 rfl (by decide) rfl ?_
            refine j_loop (α := Nat × Nat × (Nat → Int32) × List Nat × List Nat) (fun a => a.2.1) (fun a => (bs ≤ a.2.1) ∧ (a.2.1 ≤ zn) ∧ (RS kq s0 f0 (xx + 1) 0 a.2.2.1 g52 a.1 a.2.1 az) ∧ (WB a.2.2.2.1 g52 bs a.2.1) ∧ (CD a.2.2.2.2 a.2.2.1 a.1) ∧ (drp isAo a.2.2.2.1 a.2.2.2.2 = drp isAo sz cz) ∧ (opn a.2.2.2.1 ≤ oz)) (fun a => [(ma 50, .inl (y 0, 3200, .inl a.2.2.1)), (ma 52, .inl (y 0, 1700, .inl g52)), MB mo ma (nI t1) (nI u1934) (nI t3) i4 0 i6 i7 i8 i42 i49 (nI a.1) (nI a.2.1) (nI oz) (nI bs) i61 i64 i66 (nI t67) i76 i78, (ma 0, .inl (y 0, 1600, .inl (tby tx)))]) (fun a => [(1, .int 1), (0, .ref mo)]) (zc, zn, zf, sz, cz) rfl rfl ⟨hb_, (show zn ≤ zn by omega), hR_, hwz_, hcz_, rfl, hoz_⟩ ?_
            rintro ⟨yc, yn, yf, sy, cy⟩ hP2197 ih2198
            obtain ⟨hby__, hny__, hRy__, hWy__, hCy__, hDy__, hOy__⟩ := hP2197
            have hby_ : bs ≤ yn := hby__
            have hny_ : yn ≤ zn := hny__
            have hRy_ : RS kq s0 f0 (xx + 1) 0 yf g52 yc yn az := hRy__
            have hWy_ : WB sy g52 bs yn := hWy__
            have hCy_ : CD cy yf yc := hCy__
            have hDy_ : drp isAo sy cy = drp isAo sz cz := hDy__
            have hOy_ : opn sy ≤ oz := hOy__
            refine j_ws (ws' := [(ma 50, .inl (y 0, 3200, .inl yf)), (ma 52, .inl (y 0, 1700, .inl g52)), MB mo ma (nI t1) (nI u1934) (nI t3) i4 0 i6 i7 i8 i42 i49 (nI yc) (nI yn) (nI oz) (nI bs) i61 i64 i66 (nI t67) i76 i78, (ma 0, .inl (y 0, 1600, .inl (tby tx)))]) rfl ?_
            refine j_lv (lv' := [(1, .int 1), (0, .ref mo)]) rfl ?_
            have hacy := rs_ac3 hRy_
            have hSy_ : ISm g52 bs yn := is_le hS (by omega)
            refine j_aload_n (pc := 243) C d_Model_goesOn_243 rfl 1 rfl ?_
            refine j_iconst (pc := 244) C (v := 3) d_Model_goesOn_244 (by decide) ?_
            refine j_callVi (pc := 245) C (c_M_isOn l D y mo ma t1 u1934 t3 i4 0 i6 i7 i8 i42 i49 (nI yc) yn (nI oz) (nI bs) i61 i64 i66 t67 i76 i78 g52 3 (by omega)) kw_Model_362 kv_Model_isOn 0 10 rfl rfl ⟨by decide, by decide⟩ ⟨by decide, by decide⟩ (wr := [(ma 50, .inl (y 0, 3200, .inl yf)), (ma 0, .inl (y 0, 1600, .inl (tby tx)))]) [2, 1] [0, 3] rfl rfl (by decide) (by decide) (by decide) (As := [.int 3]) (rest := []) rfl (nb rfl) rfl d_Model_goesOn_245 (fun r2199 _ hr2199 => ?_)
            refine j_ws (ws' := [(ma 50, .inl (y 0, 3200, .inl yf)), (ma 0, .inl (y 0, 1600, .inl (tby tx))), MB mo ma (nI t1) (nI u1934) (nI t3) i4 0 i6 i7 i8 i42 i49 (nI yc) (nI yn) (nI oz) (nI bs) i61 i64 i66 (nI t67) i76 i78, (ma 52, .inl (y 0, 1700, .inl g52))]) rfl ?_
            rcases hr2199 with ⟨rfl, xh2201⟩ | ⟨rfl, xh2202, e2203⟩
            · refine j_if_neF (pc := 248) C (tgt := 275) d_Model_goesOn_248 (by decide) (by decide) ?_
              refine j_aload_n (pc := 251) C d_Model_goesOn_251 rfl 1 rfl ?_
              refine j_iconst (pc := 252) C (v := 4) d_Model_goesOn_252 (by decide) ?_
              refine j_callVi (pc := 253) C (c_M_isOn l D y mo ma t1 u1934 t3 i4 0 i6 i7 i8 i42 i49 (nI yc) yn (nI oz) (nI bs) i61 i64 i66 t67 i76 i78 g52 4 (by omega)) kw_Model_362 kv_Model_isOn 0 10 rfl rfl ⟨by decide, by decide⟩ ⟨by decide, by decide⟩ (wr := [(ma 50, .inl (y 0, 3200, .inl yf)), (ma 0, .inl (y 0, 1600, .inl (tby tx)))]) [2, 3] [0, 1] rfl rfl (by decide) (by decide) (by decide) (As := [.int 4]) (rest := []) rfl (nb rfl) rfl d_Model_goesOn_253 (fun r2204 _ hr2204 => ?_)
              refine j_ws (ws' := [(ma 50, .inl (y 0, 3200, .inl yf)), (ma 0, .inl (y 0, 1600, .inl (tby tx))), MB mo ma (nI t1) (nI u1934) (nI t3) i4 0 i6 i7 i8 i42 i49 (nI yc) (nI yn) (nI oz) (nI bs) i61 i64 i66 (nI t67) i76 i78, (ma 52, .inl (y 0, 1700, .inl g52))]) rfl ?_
              rcases hr2204 with ⟨rfl, xh2206⟩ | ⟨rfl, xh2207, e2208⟩
              · refine j_if_neF (pc := 256) C (tgt := 275) d_Model_goesOn_256 (by decide) (by decide) ?_
                refine j_aload_n (pc := 259) C d_Model_goesOn_259 rfl 1 rfl ?_
                refine j_iconst (pc := 260) C (v := 1) d_Model_goesOn_260 (by decide) ?_
                refine j_callVi (pc := 261) C (c_M_isOn l D y mo ma t1 u1934 t3 i4 0 i6 i7 i8 i42 i49 (nI yc) yn (nI oz) (nI bs) i61 i64 i66 t67 i76 i78 g52 1 (by omega)) kw_Model_362 kv_Model_isOn 0 10 rfl rfl ⟨by decide, by decide⟩ ⟨by decide, by decide⟩ (wr := [(ma 50, .inl (y 0, 3200, .inl yf)), (ma 0, .inl (y 0, 1600, .inl (tby tx)))]) [2, 3] [0, 1] rfl rfl (by decide) (by decide) (by decide) (As := [.int 1]) (rest := []) rfl (nb rfl) rfl d_Model_goesOn_261 (fun r2209 _ hr2209 => ?_)
                refine j_ws (ws' := [(ma 50, .inl (y 0, 3200, .inl yf)), (ma 0, .inl (y 0, 1600, .inl (tby tx))), MB mo ma (nI t1) (nI u1934) (nI t3) i4 0 i6 i7 i8 i42 i49 (nI yc) (nI yn) (nI oz) (nI bs) i61 i64 i66 (nI t67) i76 i78, (ma 52, .inl (y 0, 1700, .inl g52))]) rfl ?_
                rcases hr2209 with ⟨rfl, xh2211⟩ | ⟨rfl, xh2212, e2213⟩
                · refine j_if_neF (pc := 264) C (tgt := 275) d_Model_goesOn_264 (by decide) (by decide) ?_
                  refine j_aload_n (pc := 267) C d_Model_goesOn_267 rfl 1 rfl ?_
                  refine j_iconst (pc := 268) C (v := 2) d_Model_goesOn_268 (by decide) ?_
                  refine j_callVi (pc := 269) C (c_M_isOn l D y mo ma t1 u1934 t3 i4 0 i6 i7 i8 i42 i49 (nI yc) yn (nI oz) (nI bs) i61 i64 i66 t67 i76 i78 g52 2 (by omega)) kw_Model_362 kv_Model_isOn 0 10 rfl rfl ⟨by decide, by decide⟩ ⟨by decide, by decide⟩ (wr := [(ma 50, .inl (y 0, 3200, .inl yf)), (ma 0, .inl (y 0, 1600, .inl (tby tx)))]) [2, 3] [0, 1] rfl rfl (by decide) (by decide) (by decide) (As := [.int 2]) (rest := []) rfl (nb rfl) rfl d_Model_goesOn_269 (fun r2214 _ hr2214 => ?_)
                  refine j_ws (ws' := [(ma 50, .inl (y 0, 3200, .inl yf)), (ma 0, .inl (y 0, 1600, .inl (tby tx))), MB mo ma (nI t1) (nI u1934) (nI t3) i4 0 i6 i7 i8 i42 i49 (nI yc) (nI yn) (nI oz) (nI bs) i61 i64 i66 (nI t67) i76 i78, (ma 52, .inl (y 0, 1700, .inl g52))]) rfl ?_
                  rcases hr2214 with ⟨rfl, xh2216⟩ | ⟨rfl, xh2217, e2218⟩
                  · refine j_if_eqT (pc := 272) C (tgt := 282) d_Model_goesOn_272 (by decide) (by decide) ?_
                    have xh2219 : drp isAo sz cz = (sy, cy) := hDy_.symm.trans (drp_no (fun v hv => ao_no (on_no (c := 1) hWy_ xh2211 v hv) (on_no (c := 2) hWy_ xh2216 v hv) (on_no (c := 3) hWy_ xh2201 v hv) (on_no (c := 4) hWy_ xh2206 v hv)))
                    have xh2220 : Rch tx t3 (1, (gs, cs, sk, oo)) (0, ((advS tx t3 gz), cy, (1 :: sy), oz)) := hrc_.tr (Rch.st ((stA _ _ _ _).trans ((sA_A (Or.inl xh1942)).trans (by rw [xh2219, if_pos xh1942]))) (Rch.rf _))
                    refine j_aload_n (pc := 282) C d_Model_goesOn_282 rfl 1 rfl ?_
                    refine j_get (pc := 283) C gf_Model_139 2 rfl rfl d_Model_goesOn_283 ?_
                    refine j_aload_n (pc := 286) C d_Model_goesOn_286 rfl 1 rfl ?_
                    refine j_get (pc := 287) C gf_Model_292 2 rfl rfl d_Model_goesOn_287 ?_
                    refine j_iload_n (pc := 290) C d_Model_goesOn_290 rfl 0 rfl ?_
                    refine j_iast (pc := 291) C 3 rfl (ws' := [(ma 50, .inl (y 0, 3200, .inl yf)), (ma 0, .inl (y 0, 1600, .inl (tby tx))), MB mo ma (nI t1) (nI u1934) (nI t3) i4 0 i6 i7 i8 i42 i49 (nI yc) (nI yn) (nI oz) (nI bs) i61 i64 i66 (nI t67) i76 i78, (ma 52, .inl (y 0, 1700, .inl (upd g52 yn 1)))]) (vp_in_nI (by omega) (by decide)) (by rw [nI_clamp (by omega)]; rfl) d_Model_goesOn_291 ?_
                    refine j_aload_n (pc := 292) C d_Model_goesOn_292 rfl 1 rfl ?_
                    refine j_dup (pc := 293) C d_Model_goesOn_293 rfl ?_
                    refine j_get (pc := 294) C gf_Model_292 2 rfl rfl d_Model_goesOn_294 ?_
                    refine j_iconst (pc := 297) C (v := 1) d_Model_goesOn_297 (by decide) ?_
                    refine j_iadd (pc := 298) C (v := nI (yn + 1)) d_Model_goesOn_298 (nI_add _ _) ?_
                    refine j_put (pc := 299) C pf_Model_292 2 (ws' := [(ma 50, .inl (y 0, 3200, .inl yf)), (ma 0, .inl (y 0, 1600, .inl (tby tx))), MB mo ma (nI t1) (nI u1934) (nI t3) i4 0 i6 i7 i8 i42 i49 (nI yc) (nI (yn + 1)) (nI oz) (nI bs) i61 i64 i66 (nI t67) i76 i78, (ma 52, .inl (y 0, 1700, .inl (upd g52 yn 1)))]) rfl rfl rfl (nl rfl) rfl d_Model_goesOn_299 ?_
                    refine j_iconst (pc := 302) C (v := 1) d_Model_goesOn_302 (by decide) ?_
                    exact j_iret (pc := 303) C hr (by decide) (u1934, 0, i6, yc, (yn + 1), oz, yf, (upd g52 yn 1), (advS tx t3 gz), cy, (1 :: sy)) ⟨(show t2 ≤ u1934 by omega), (show u1934 ≤ t3 by omega), (fun _ => ⟨rfl, by omega⟩), (it_up hT (show bs ≤ yn by omega)), (is_up hSy_ (by decide)), (show bs ≤ (yn + 1) by omega), xh1941, (fun j hj => pk_un (show j ≠ yn by omega)), (show oz ≤ 6 by omega), (Or.inl ⟨rfl, rfl, rs_op hRy_ (by decide) (show az < u1934 by omega), xh2220, hCy_, wb_push hWy_ (by decide), opn_op hOy_ (by decide)⟩)⟩ [2, 1, 0, 3] rfl (by decide) (by decide) (by decide) d_Model_goesOn_303
                  · refine j_if_eqF (pc := 272) C (tgt := 282) d_Model_goesOn_272 (by decide) (by decide) ?_
                    have hbz : bs < yn := top_s hT e2218 (by omega) (by omega) (by decide)
                    obtain ⟨vq2221, sq2222, xh2223, xh2224, xh2225, xh2226⟩ := wb_top hWy_ hbz
                    have xh2227 : vq2221 = 2 := on_yes xh2224 xh2225 (by decide) e2218
                    refine j_aload_n (pc := 275) C d_Model_goesOn_275 rfl 1 rfl ?_
                    refine j_callVv (pc := 276) C (c_M_drops l D y mo ma t1 u1934 t3 i4 0 i6 i7 i8 i42 i49 yc yn (nI oz) (nI bs) i61 i64 i66 t67 i76 i78 yf g52 (by omega) (by omega) (by omega)) kw_Model_350 kv_Model_drops 0 10 rfl rfl ⟨by decide, by decide⟩ ⟨by decide, by decide⟩ (wr := [(ma 0, .inl (y 0, 1600, .inl (tby tx)))]) [2, 0, 3] [1] rfl rfl (by decide) (by decide) (by decide) (As := []) (rest := []) rfl (nb rfl) rfl d_Model_goesOn_276 (fun _ _ => ?_)
                    refine j_ws (ws' := [(ma 0, .inl (y 0, 1600, .inl (tby tx))), MB mo ma (nI t1) (nI u1934) (nI t3) i4 0 i6 i7 i8 i42 i49 (nI (yc + 1)) (nI (yn - 1)) (nI oz) (nI bs) i61 i64 i66 (nI t67) i76 i78, (ma 50, .inl (y 0, 3200, .inl (upd yf yc (g52 (yn - 1))))), (ma 52, .inl (y 0, 1700, .inl g52))]) rfl ?_
                    refine j_goto (pc := 279) C (tgt := 243) d_Model_goesOn_279 (by decide) ?_
                    refine j_sub (ws' := [(ma 50, .inl (y 0, 3200, .inl (upd yf yc (g52 (yn - 1))))), (ma 52, .inl (y 0, 1700, .inl g52)), MB mo ma (nI t1) (nI u1934) (nI t3) i4 0 i6 i7 i8 i42 i49 (nI (yc + 1)) (nI (yn - 1)) (nI oz) (nI bs) i61 i64 i66 (nI t67) i76 i78, (ma 0, .inl (y 0, 1600, .inl (tby tx)))]) [2, 3, 1, 0] rfl (by decide) ?_
                    exact ih2198 ((yc + 1), (yn - 1), (upd yf yc (g52 (yn - 1))), sq2222, (putS vq2221 cy)) ⟨(show bs ≤ (yn - 1) by omega), (show (yn - 1) ≤ zn by omega), (show RS kq s0 f0 (xx + 1) 0 (upd yf yc (g52 (yn - 1))) g52 (yc + 1) (yn - 1) az from rs_drop hRy_ (by omega) (show yn = yn - 1 + 1 by omega) (Or.inl (by rw [e2218]; decide))), xh2226, (show CD (putS vq2221 cy) (upd yf yc (g52 (yn - 1))) (yc + 1) from cd_put hCy_ (by omega) xh2224 (by omega)), (show drp isAo sq2222 (putS vq2221 cy) = drp isAo sz cz by rw [← hDy_, xh2223]; exact (drp_go (by rw [xh2227]; decide)).symm), (opn_tl (by have hq := hOy_; rw [xh2223] at hq; exact hq))⟩ (show (yn - 1) < yn by omega)
                · refine j_if_neT (pc := 264) C (tgt := 275) d_Model_goesOn_264 (by decide) (by decide) ?_
                  have hbz : bs < yn := top_s hT e2213 (by omega) (by omega) (by decide)
                  obtain ⟨vq2228, sq2229, xh2230, xh2231, xh2232, xh2233⟩ := wb_top hWy_ hbz
                  have xh2234 : vq2228 = 1 := on_yes xh2231 xh2232 (by decide) e2213
                  refine j_aload_n (pc := 275) C d_Model_goesOn_275 rfl 1 rfl ?_
                  refine j_callVv (pc := 276) C (c_M_drops l D y mo ma t1 u1934 t3 i4 0 i6 i7 i8 i42 i49 yc yn (nI oz) (nI bs) i61 i64 i66 t67 i76 i78 yf g52 (by omega) (by omega) (by omega)) kw_Model_350 kv_Model_drops 0 10 rfl rfl ⟨by decide, by decide⟩ ⟨by decide, by decide⟩ (wr := [(ma 0, .inl (y 0, 1600, .inl (tby tx)))]) [2, 0, 3] [1] rfl rfl (by decide) (by decide) (by decide) (As := []) (rest := []) rfl (nb rfl) rfl d_Model_goesOn_276 (fun _ _ => ?_)
                  refine j_ws (ws' := [(ma 0, .inl (y 0, 1600, .inl (tby tx))), MB mo ma (nI t1) (nI u1934) (nI t3) i4 0 i6 i7 i8 i42 i49 (nI (yc + 1)) (nI (yn - 1)) (nI oz) (nI bs) i61 i64 i66 (nI t67) i76 i78, (ma 50, .inl (y 0, 3200, .inl (upd yf yc (g52 (yn - 1))))), (ma 52, .inl (y 0, 1700, .inl g52))]) rfl ?_
                  refine j_goto (pc := 279) C (tgt := 243) d_Model_goesOn_279 (by decide) ?_
                  refine j_sub (ws' := [(ma 50, .inl (y 0, 3200, .inl (upd yf yc (g52 (yn - 1))))), (ma 52, .inl (y 0, 1700, .inl g52)), MB mo ma (nI t1) (nI u1934) (nI t3) i4 0 i6 i7 i8 i42 i49 (nI (yc + 1)) (nI (yn - 1)) (nI oz) (nI bs) i61 i64 i66 (nI t67) i76 i78, (ma 0, .inl (y 0, 1600, .inl (tby tx)))]) [2, 3, 1, 0] rfl (by decide) ?_
                  exact ih2198 ((yc + 1), (yn - 1), (upd yf yc (g52 (yn - 1))), sq2229, (putS vq2228 cy)) ⟨(show bs ≤ (yn - 1) by omega), (show (yn - 1) ≤ zn by omega), (show RS kq s0 f0 (xx + 1) 0 (upd yf yc (g52 (yn - 1))) g52 (yc + 1) (yn - 1) az from rs_drop hRy_ (by omega) (show yn = yn - 1 + 1 by omega) (Or.inl (by rw [e2213]; decide))), xh2233, (show CD (putS vq2228 cy) (upd yf yc (g52 (yn - 1))) (yc + 1) from cd_put hCy_ (by omega) xh2231 (by omega)), (show drp isAo sq2229 (putS vq2228 cy) = drp isAo sz cz by rw [← hDy_, xh2230]; exact (drp_go (by rw [xh2234]; decide)).symm), (opn_tl (by have hq := hOy_; rw [xh2230] at hq; exact hq))⟩ (show (yn - 1) < yn by omega)
              · refine j_if_neT (pc := 256) C (tgt := 275) d_Model_goesOn_256 (by decide) (by decide) ?_
                have hbz : bs < yn := top_s hT e2208 (by omega) (by omega) (by decide)
                obtain ⟨vq2235, sq2236, xh2237, xh2238, xh2239, xh2240⟩ := wb_top hWy_ hbz
                have xh2241 : vq2235 = 4 := on_yes xh2238 xh2239 (by decide) e2208
                refine j_aload_n (pc := 275) C d_Model_goesOn_275 rfl 1 rfl ?_
                refine j_callVv (pc := 276) C (c_M_drops l D y mo ma t1 u1934 t3 i4 0 i6 i7 i8 i42 i49 yc yn (nI oz) (nI bs) i61 i64 i66 t67 i76 i78 yf g52 (by omega) (by omega) (by omega)) kw_Model_350 kv_Model_drops 0 10 rfl rfl ⟨by decide, by decide⟩ ⟨by decide, by decide⟩ (wr := [(ma 0, .inl (y 0, 1600, .inl (tby tx)))]) [2, 0, 3] [1] rfl rfl (by decide) (by decide) (by decide) (As := []) (rest := []) rfl (nb rfl) rfl d_Model_goesOn_276 (fun _ _ => ?_)
                refine j_ws (ws' := [(ma 0, .inl (y 0, 1600, .inl (tby tx))), MB mo ma (nI t1) (nI u1934) (nI t3) i4 0 i6 i7 i8 i42 i49 (nI (yc + 1)) (nI (yn - 1)) (nI oz) (nI bs) i61 i64 i66 (nI t67) i76 i78, (ma 50, .inl (y 0, 3200, .inl (upd yf yc (g52 (yn - 1))))), (ma 52, .inl (y 0, 1700, .inl g52))]) rfl ?_
                refine j_goto (pc := 279) C (tgt := 243) d_Model_goesOn_279 (by decide) ?_
                refine j_sub (ws' := [(ma 50, .inl (y 0, 3200, .inl (upd yf yc (g52 (yn - 1))))), (ma 52, .inl (y 0, 1700, .inl g52)), MB mo ma (nI t1) (nI u1934) (nI t3) i4 0 i6 i7 i8 i42 i49 (nI (yc + 1)) (nI (yn - 1)) (nI oz) (nI bs) i61 i64 i66 (nI t67) i76 i78, (ma 0, .inl (y 0, 1600, .inl (tby tx)))]) [2, 3, 1, 0] rfl (by decide) ?_
                exact ih2198 ((yc + 1), (yn - 1), (upd yf yc (g52 (yn - 1))), sq2236, (putS vq2235 cy)) ⟨(show bs ≤ (yn - 1) by omega), (show (yn - 1) ≤ zn by omega), (show RS kq s0 f0 (xx + 1) 0 (upd yf yc (g52 (yn - 1))) g52 (yc + 1) (yn - 1) az from rs_drop hRy_ (by omega) (show yn = yn - 1 + 1 by omega) (Or.inl (by rw [e2208]; decide))), xh2240, (show CD (putS vq2235 cy) (upd yf yc (g52 (yn - 1))) (yc + 1) from cd_put hCy_ (by omega) xh2238 (by omega)), (show drp isAo sq2236 (putS vq2235 cy) = drp isAo sz cz by rw [← hDy_, xh2237]; exact (drp_go (by rw [xh2241]; decide)).symm), (opn_tl (by have hq := hOy_; rw [xh2237] at hq; exact hq))⟩ (show (yn - 1) < yn by omega)
            · refine j_if_neT (pc := 248) C (tgt := 275) d_Model_goesOn_248 (by decide) (by decide) ?_
              have hbz : bs < yn := top_s hT e2203 (by omega) (by omega) (by decide)
              obtain ⟨vq2242, sq2243, xh2244, xh2245, xh2246, xh2247⟩ := wb_top hWy_ hbz
              have xh2248 : vq2242 = 3 := on_yes xh2245 xh2246 (by decide) e2203
              refine j_aload_n (pc := 275) C d_Model_goesOn_275 rfl 1 rfl ?_
              refine j_callVv (pc := 276) C (c_M_drops l D y mo ma t1 u1934 t3 i4 0 i6 i7 i8 i42 i49 yc yn (nI oz) (nI bs) i61 i64 i66 t67 i76 i78 yf g52 (by omega) (by omega) (by omega)) kw_Model_350 kv_Model_drops 0 10 rfl rfl ⟨by decide, by decide⟩ ⟨by decide, by decide⟩ (wr := [(ma 0, .inl (y 0, 1600, .inl (tby tx)))]) [2, 0, 3] [1] rfl rfl (by decide) (by decide) (by decide) (As := []) (rest := []) rfl (nb rfl) rfl d_Model_goesOn_276 (fun _ _ => ?_)
              refine j_ws (ws' := [(ma 0, .inl (y 0, 1600, .inl (tby tx))), MB mo ma (nI t1) (nI u1934) (nI t3) i4 0 i6 i7 i8 i42 i49 (nI (yc + 1)) (nI (yn - 1)) (nI oz) (nI bs) i61 i64 i66 (nI t67) i76 i78, (ma 50, .inl (y 0, 3200, .inl (upd yf yc (g52 (yn - 1))))), (ma 52, .inl (y 0, 1700, .inl g52))]) rfl ?_
              refine j_goto (pc := 279) C (tgt := 243) d_Model_goesOn_279 (by decide) ?_
              refine j_sub (ws' := [(ma 50, .inl (y 0, 3200, .inl (upd yf yc (g52 (yn - 1))))), (ma 52, .inl (y 0, 1700, .inl g52)), MB mo ma (nI t1) (nI u1934) (nI t3) i4 0 i6 i7 i8 i42 i49 (nI (yc + 1)) (nI (yn - 1)) (nI oz) (nI bs) i61 i64 i66 (nI t67) i76 i78, (ma 0, .inl (y 0, 1600, .inl (tby tx)))]) [2, 3, 1, 0] rfl (by decide) ?_
              exact ih2198 ((yc + 1), (yn - 1), (upd yf yc (g52 (yn - 1))), sq2243, (putS vq2242 cy)) ⟨(show bs ≤ (yn - 1) by omega), (show (yn - 1) ≤ zn by omega), (show RS kq s0 f0 (xx + 1) 0 (upd yf yc (g52 (yn - 1))) g52 (yc + 1) (yn - 1) az from rs_drop hRy_ (by omega) (show yn = yn - 1 + 1 by omega) (Or.inl (by rw [e2203]; decide))), xh2247, (show CD (putS vq2242 cy) (upd yf yc (g52 (yn - 1))) (yc + 1) from cd_put hCy_ (by omega) xh2245 (by omega)), (show drp isAo sq2243 (putS vq2242 cy) = drp isAo sz cz by rw [← hDy_, xh2244]; exact (drp_go (by rw [xh2248]; decide)).symm), (opn_tl (by have hq := hOy_; rw [xh2244] at hq; exact hq))⟩ (show (yn - 1) < yn by omega)
        · refine j_if_eqF (pc := 133) C (tgt := 203) d_Model_goesOn_133 (by decide) (by decide) ?_
          refine j_aload_n (pc := 136) C d_Model_goesOn_136 rfl 0 rfl ?_
          refine j_get (pc := 137) C gf_Model_7 2 rfl rfl d_Model_goesOn_137 ?_
          refine j_aload_n (pc := 140) C d_Model_goesOn_140 rfl 0 rfl ?_
          refine j_get (pc := 141) C gf_Model_207 2 rfl rfl d_Model_goesOn_141 ?_
          refine j_iconst (pc := 144) C (v := 1) d_Model_goesOn_144 (by decide) ?_
          refine j_isub (pc := 145) C (v := nI (u1921 - 1)) d_Model_goesOn_145 (pk_sub (a := u1921) (b := 1) (by omega)) ?_
          refine j_iald (pc := 146) C 3 rfl (v := 47) (vp_in_nI (by omega) (by decide)) (by rw [nI_clamp (by omega)]; exact congrArg nI xh1932) d_Model_goesOn_146 ?_
          refine j_bipush (pc := 147) C (v := 42) d_Model_goesOn_147 (by decide) ?_
          refine j_icmp_neT (pc := 149) C (tgt := 156) d_Model_goesOn_149 (by decide) (by decide) ?_
          refine j_iconst (pc := 156) C (v := 4) d_Model_goesOn_156 (by decide) ?_
          refine j_istore_n (pc := 157) C (lv' := [(1, .int 4), (0, .ref mo)]) d_Model_goesOn_157 rfl (by decide) rfl ?_
          refine j_loop (α := Nat × Nat × (Nat → Int32) × List Nat × List Nat) (fun a => a.2.1) (fun a => (bs ≤ a.2.1) ∧ (a.2.1 ≤ zn) ∧ (RS kq s0 f0 (xx + 1) 0 a.2.2.1 g52 a.1 a.2.1 az) ∧ (WB a.2.2.2.1 g52 bs a.2.1) ∧ (CD a.2.2.2.2 a.2.2.1 a.1) ∧ (drp isMo a.2.2.2.1 a.2.2.2.2 = drp isMo sz cz) ∧ (opn a.2.2.2.1 ≤ oz)) (fun a => [(ma 50, .inl (y 0, 3200, .inl a.2.2.1)), (ma 52, .inl (y 0, 1700, .inl g52)), MB mo ma (nI t1) (nI u1921) (nI t3) i4 0 i6 i7 i8 i42 i49 (nI a.1) (nI a.2.1) (nI oz) (nI bs) i61 i64 i66 (nI t67) i76 i78, (ma 0, .inl (y 0, 1600, .inl (tby tx)))]) (fun a => [(1, .int 4), (0, .ref mo)]) (zc, zn, zf, sz, cz) rfl rfl ⟨hb_, (show zn ≤ zn by omega), hR_, hwz_, hcz_, rfl, hoz_⟩ ?_
          rintro ⟨yc, yn, yf, sy, cy⟩ hP2275 ih2276
          obtain ⟨hby__, hny__, hRy__, hWy__, hCy__, hDy__, hOy__⟩ := hP2275
          have hby_ : bs ≤ yn := hby__
          have hny_ : yn ≤ zn := hny__
          have hRy_ : RS kq s0 f0 (xx + 1) 0 yf g52 yc yn az := hRy__
          have hWy_ : WB sy g52 bs yn := hWy__
          have hCy_ : CD cy yf yc := hCy__
          have hDy_ : drp isMo sy cy = drp isMo sz cz := hDy__
          have hOy_ : opn sy ≤ oz := hOy__
          refine j_ws (ws' := [(ma 50, .inl (y 0, 3200, .inl yf)), (ma 52, .inl (y 0, 1700, .inl g52)), MB mo ma (nI t1) (nI u1921) (nI t3) i4 0 i6 i7 i8 i42 i49 (nI yc) (nI yn) (nI oz) (nI bs) i61 i64 i66 (nI t67) i76 i78, (ma 0, .inl (y 0, 1600, .inl (tby tx)))]) rfl ?_
          refine j_lv (lv' := [(1, .int 4), (0, .ref mo)]) rfl ?_
          have hacy := rs_ac3 hRy_
          have hSy_ : ISm g52 bs yn := is_le hS (by omega)
          refine j_aload_n (pc := 158) C d_Model_goesOn_158 rfl 1 rfl ?_
          refine j_iconst (pc := 159) C (v := 3) d_Model_goesOn_159 (by decide) ?_
          refine j_callVi (pc := 160) C (c_M_isOn l D y mo ma t1 u1921 t3 i4 0 i6 i7 i8 i42 i49 (nI yc) yn (nI oz) (nI bs) i61 i64 i66 t67 i76 i78 g52 3 (by omega)) kw_Model_362 kv_Model_isOn 0 10 rfl rfl ⟨by decide, by decide⟩ ⟨by decide, by decide⟩ (wr := [(ma 50, .inl (y 0, 3200, .inl yf)), (ma 0, .inl (y 0, 1600, .inl (tby tx)))]) [2, 1] [0, 3] rfl rfl (by decide) (by decide) (by decide) (As := [.int 3]) (rest := []) rfl (nb rfl) rfl d_Model_goesOn_160 (fun r2277 _ hr2277 => ?_)
          refine j_ws (ws' := [(ma 50, .inl (y 0, 3200, .inl yf)), (ma 0, .inl (y 0, 1600, .inl (tby tx))), MB mo ma (nI t1) (nI u1921) (nI t3) i4 0 i6 i7 i8 i42 i49 (nI yc) (nI yn) (nI oz) (nI bs) i61 i64 i66 (nI t67) i76 i78, (ma 52, .inl (y 0, 1700, .inl g52))]) rfl ?_
          rcases hr2277 with ⟨rfl, xh2279⟩ | ⟨rfl, xh2280, e2281⟩
          · refine j_if_neF (pc := 163) C (tgt := 174) d_Model_goesOn_163 (by decide) (by decide) ?_
            refine j_aload_n (pc := 166) C d_Model_goesOn_166 rfl 1 rfl ?_
            refine j_iconst (pc := 167) C (v := 4) d_Model_goesOn_167 (by decide) ?_
            refine j_callVi (pc := 168) C (c_M_isOn l D y mo ma t1 u1921 t3 i4 0 i6 i7 i8 i42 i49 (nI yc) yn (nI oz) (nI bs) i61 i64 i66 t67 i76 i78 g52 4 (by omega)) kw_Model_362 kv_Model_isOn 0 10 rfl rfl ⟨by decide, by decide⟩ ⟨by decide, by decide⟩ (wr := [(ma 50, .inl (y 0, 3200, .inl yf)), (ma 0, .inl (y 0, 1600, .inl (tby tx)))]) [2, 3] [0, 1] rfl rfl (by decide) (by decide) (by decide) (As := [.int 4]) (rest := []) rfl (nb rfl) rfl d_Model_goesOn_168 (fun r2282 _ hr2282 => ?_)
            refine j_ws (ws' := [(ma 50, .inl (y 0, 3200, .inl yf)), (ma 0, .inl (y 0, 1600, .inl (tby tx))), MB mo ma (nI t1) (nI u1921) (nI t3) i4 0 i6 i7 i8 i42 i49 (nI yc) (nI yn) (nI oz) (nI bs) i61 i64 i66 (nI t67) i76 i78, (ma 52, .inl (y 0, 1700, .inl g52))]) rfl ?_
            rcases hr2282 with ⟨rfl, xh2284⟩ | ⟨rfl, xh2285, e2286⟩
            · refine j_if_eqT (pc := 171) C (tgt := 181) d_Model_goesOn_171 (by decide) (by decide) ?_
              have xh2287 : drp isMo sz cz = (sy, cy) := hDy_.symm.trans (drp_no (fun v hv => mo_no (on_no (c := 3) hWy_ xh2279 v hv) (on_no (c := 4) hWy_ xh2284 v hv)))
              have xh2288 : Rch tx t3 (1, (gs, cs, sk, oo)) (0, ((advS tx t3 gz), cy, (4 :: sy), oz)) := hrc_.tr (Rch.st ((stA _ _ _ _).trans ((sA_M (Or.inr xh1929)).trans (by rw [xh2287, if_neg xh1913]))) (Rch.rf _))
              refine j_aload_n (pc := 181) C d_Model_goesOn_181 rfl 1 rfl ?_
              refine j_get (pc := 182) C gf_Model_139 2 rfl rfl d_Model_goesOn_182 ?_
              refine j_aload_n (pc := 185) C d_Model_goesOn_185 rfl 1 rfl ?_
              refine j_get (pc := 186) C gf_Model_292 2 rfl rfl d_Model_goesOn_186 ?_
              refine j_iload_n (pc := 189) C d_Model_goesOn_189 rfl 0 rfl ?_
              refine j_iast (pc := 190) C 3 rfl (ws' := [(ma 50, .inl (y 0, 3200, .inl yf)), (ma 0, .inl (y 0, 1600, .inl (tby tx))), MB mo ma (nI t1) (nI u1921) (nI t3) i4 0 i6 i7 i8 i42 i49 (nI yc) (nI yn) (nI oz) (nI bs) i61 i64 i66 (nI t67) i76 i78, (ma 52, .inl (y 0, 1700, .inl (upd g52 yn 4)))]) (vp_in_nI (by omega) (by decide)) (by rw [nI_clamp (by omega)]; rfl) d_Model_goesOn_190 ?_
              refine j_aload_n (pc := 191) C d_Model_goesOn_191 rfl 1 rfl ?_
              refine j_dup (pc := 192) C d_Model_goesOn_192 rfl ?_
              refine j_get (pc := 193) C gf_Model_292 2 rfl rfl d_Model_goesOn_193 ?_
              refine j_iconst (pc := 196) C (v := 1) d_Model_goesOn_196 (by decide) ?_
              refine j_iadd (pc := 197) C (v := nI (yn + 1)) d_Model_goesOn_197 (nI_add _ _) ?_
              refine j_put (pc := 198) C pf_Model_292 2 (ws' := [(ma 50, .inl (y 0, 3200, .inl yf)), (ma 0, .inl (y 0, 1600, .inl (tby tx))), MB mo ma (nI t1) (nI u1921) (nI t3) i4 0 i6 i7 i8 i42 i49 (nI yc) (nI (yn + 1)) (nI oz) (nI bs) i61 i64 i66 (nI t67) i76 i78, (ma 52, .inl (y 0, 1700, .inl (upd g52 yn 4)))]) rfl rfl rfl (nl rfl) rfl d_Model_goesOn_198 ?_
              refine j_iconst (pc := 201) C (v := 1) d_Model_goesOn_201 (by decide) ?_
              exact j_iret (pc := 202) C hr (by decide) (u1921, 0, i6, yc, (yn + 1), oz, yf, (upd g52 yn 4), (advS tx t3 gz), cy, (4 :: sy)) ⟨(show t2 ≤ u1921 by omega), (show u1921 ≤ t3 by omega), (fun _ => ⟨rfl, by omega⟩), (it_up hT (show bs ≤ yn by omega)), (is_up hSy_ (by decide)), (show bs ≤ (yn + 1) by omega), xh1928, (fun j hj => pk_un (show j ≠ yn by omega)), (show oz ≤ 6 by omega), (Or.inl ⟨rfl, rfl, rs_op hRy_ (by decide) (show az < u1921 by omega), xh2288, hCy_, wb_push hWy_ (by decide), opn_op hOy_ (by decide)⟩)⟩ [2, 1, 0, 3] rfl (by decide) (by decide) (by decide) d_Model_goesOn_202
            · refine j_if_eqF (pc := 171) C (tgt := 181) d_Model_goesOn_171 (by decide) (by decide) ?_
              have hbz : bs < yn := top_s hT e2286 (by omega) (by omega) (by decide)
              obtain ⟨vq2289, sq2290, xh2291, xh2292, xh2293, xh2294⟩ := wb_top hWy_ hbz
              have xh2295 : vq2289 = 4 := on_yes xh2292 xh2293 (by decide) e2286
              refine j_aload_n (pc := 174) C d_Model_goesOn_174 rfl 1 rfl ?_
              refine j_callVv (pc := 175) C (c_M_drops l D y mo ma t1 u1921 t3 i4 0 i6 i7 i8 i42 i49 yc yn (nI oz) (nI bs) i61 i64 i66 t67 i76 i78 yf g52 (by omega) (by omega) (by omega)) kw_Model_350 kv_Model_drops 0 10 rfl rfl ⟨by decide, by decide⟩ ⟨by decide, by decide⟩ (wr := [(ma 0, .inl (y 0, 1600, .inl (tby tx)))]) [2, 0, 3] [1] rfl rfl (by decide) (by decide) (by decide) (As := []) (rest := []) rfl (nb rfl) rfl d_Model_goesOn_175 (fun _ _ => ?_)
              refine j_ws (ws' := [(ma 0, .inl (y 0, 1600, .inl (tby tx))), MB mo ma (nI t1) (nI u1921) (nI t3) i4 0 i6 i7 i8 i42 i49 (nI (yc + 1)) (nI (yn - 1)) (nI oz) (nI bs) i61 i64 i66 (nI t67) i76 i78, (ma 50, .inl (y 0, 3200, .inl (upd yf yc (g52 (yn - 1))))), (ma 52, .inl (y 0, 1700, .inl g52))]) rfl ?_
              refine j_goto (pc := 178) C (tgt := 158) d_Model_goesOn_178 (by decide) ?_
              refine j_sub (ws' := [(ma 50, .inl (y 0, 3200, .inl (upd yf yc (g52 (yn - 1))))), (ma 52, .inl (y 0, 1700, .inl g52)), MB mo ma (nI t1) (nI u1921) (nI t3) i4 0 i6 i7 i8 i42 i49 (nI (yc + 1)) (nI (yn - 1)) (nI oz) (nI bs) i61 i64 i66 (nI t67) i76 i78, (ma 0, .inl (y 0, 1600, .inl (tby tx)))]) [2, 3, 1, 0] rfl (by decide) ?_
              exact ih2276 ((yc + 1), (yn - 1), (upd yf yc (g52 (yn - 1))), sq2290, (putS vq2289 cy)) ⟨(show bs ≤ (yn - 1) by omega), (show (yn - 1) ≤ zn by omega), (show RS kq s0 f0 (xx + 1) 0 (upd yf yc (g52 (yn - 1))) g52 (yc + 1) (yn - 1) az from rs_drop hRy_ (by omega) (show yn = yn - 1 + 1 by omega) (Or.inl (by rw [e2286]; decide))), xh2294, (show CD (putS vq2289 cy) (upd yf yc (g52 (yn - 1))) (yc + 1) from cd_put hCy_ (by omega) xh2292 (by omega)), (show drp isMo sq2290 (putS vq2289 cy) = drp isMo sz cz by rw [← hDy_, xh2291]; exact (drp_go (by rw [xh2295]; decide)).symm), (opn_tl (by have hq := hOy_; rw [xh2291] at hq; exact hq))⟩ (show (yn - 1) < yn by omega)
          · refine j_if_neT (pc := 163) C (tgt := 174) d_Model_goesOn_163 (by decide) (by decide) ?_
            have hbz : bs < yn := top_s hT e2281 (by omega) (by omega) (by decide)
            obtain ⟨vq2296, sq2297, xh2298, xh2299, xh2300, xh2301⟩ := wb_top hWy_ hbz
            have xh2302 : vq2296 = 3 := on_yes xh2299 xh2300 (by decide) e2281
            refine j_aload_n (pc := 174) C d_Model_goesOn_174 rfl 1 rfl ?_
            refine j_callVv (pc := 175) C (c_M_drops l D y mo ma t1 u1921 t3 i4 0 i6 i7 i8 i42 i49 yc yn (nI oz) (nI bs) i61 i64 i66 t67 i76 i78 yf g52 (by omega) (by omega) (by omega)) kw_Model_350 kv_Model_drops 0 10 rfl rfl ⟨by decide, by decide⟩ ⟨by decide, by decide⟩ (wr := [(ma 0, .inl (y 0, 1600, .inl (tby tx)))]) [2, 0, 3] [1] rfl rfl (by decide) (by decide) (by decide) (As := []) (rest := []) rfl (nb rfl) rfl d_Model_goesOn_175 (fun _ _ => ?_)
            refine j_ws (ws' := [(ma 0, .inl (y 0, 1600, .inl (tby tx))), MB mo ma (nI t1) (nI u1921) (nI t3) i4 0 i6 i7 i8 i42 i49 (nI (yc + 1)) (nI (yn - 1)) (nI oz) (nI bs) i61 i64 i66 (nI t67) i76 i78, (ma 50, .inl (y 0, 3200, .inl (upd yf yc (g52 (yn - 1))))), (ma 52, .inl (y 0, 1700, .inl g52))]) rfl ?_
            refine j_goto (pc := 178) C (tgt := 158) d_Model_goesOn_178 (by decide) ?_
            refine j_sub (ws' := [(ma 50, .inl (y 0, 3200, .inl (upd yf yc (g52 (yn - 1))))), (ma 52, .inl (y 0, 1700, .inl g52)), MB mo ma (nI t1) (nI u1921) (nI t3) i4 0 i6 i7 i8 i42 i49 (nI (yc + 1)) (nI (yn - 1)) (nI oz) (nI bs) i61 i64 i66 (nI t67) i76 i78, (ma 0, .inl (y 0, 1600, .inl (tby tx)))]) [2, 3, 1, 0] rfl (by decide) ?_
            exact ih2276 ((yc + 1), (yn - 1), (upd yf yc (g52 (yn - 1))), sq2297, (putS vq2296 cy)) ⟨(show bs ≤ (yn - 1) by omega), (show (yn - 1) ≤ zn by omega), (show RS kq s0 f0 (xx + 1) 0 (upd yf yc (g52 (yn - 1))) g52 (yc + 1) (yn - 1) az from rs_drop hRy_ (by omega) (show yn = yn - 1 + 1 by omega) (Or.inl (by rw [e2281]; decide))), xh2301, (show CD (putS vq2296 cy) (upd yf yc (g52 (yn - 1))) (yc + 1) from cd_put hCy_ (by omega) xh2299 (by omega)), (show drp isMo sq2297 (putS vq2296 cy) = drp isMo sz cz by rw [← hDy_, xh2298]; exact (drp_go (by rw [xh2302]; decide)).symm), (opn_tl (by have hq := hOy_; rw [xh2298] at hq; exact hq))⟩ (show (yn - 1) < yn by omega)
      · refine j_if_neT (pc := 124) C (tgt := 136) d_Model_goesOn_124 (by decide) (by decide) ?_
        refine j_aload_n (pc := 136) C d_Model_goesOn_136 rfl 0 rfl ?_
        refine j_get (pc := 137) C gf_Model_7 2 rfl rfl d_Model_goesOn_137 ?_
        refine j_aload_n (pc := 140) C d_Model_goesOn_140 rfl 0 rfl ?_
        refine j_get (pc := 141) C gf_Model_207 2 rfl rfl d_Model_goesOn_141 ?_
        refine j_iconst (pc := 144) C (v := 1) d_Model_goesOn_144 (by decide) ?_
        refine j_isub (pc := 145) C (v := nI (u1908 - 1)) d_Model_goesOn_145 (pk_sub (a := u1908) (b := 1) (by omega)) ?_
        refine j_iald (pc := 146) C 3 rfl (v := 42) (vp_in_nI (by omega) (by decide)) (by rw [nI_clamp (by omega)]; exact congrArg nI xh1919) d_Model_goesOn_146 ?_
        refine j_bipush (pc := 147) C (v := 42) d_Model_goesOn_147 (by decide) ?_
        refine j_icmp_neF (pc := 149) C (tgt := 156) d_Model_goesOn_149 (by decide) (by decide) ?_
        refine j_iconst (pc := 152) C (v := 3) d_Model_goesOn_152 (by decide) ?_
        refine j_goto (pc := 153) C (tgt := 157) d_Model_goesOn_153 (by decide) ?_
        refine j_istore_n (pc := 157) C (lv' := [(1, .int 3), (0, .ref mo)]) d_Model_goesOn_157 rfl (by decide) rfl ?_
        refine j_loop (α := Nat × Nat × (Nat → Int32) × List Nat × List Nat) (fun a => a.2.1) (fun a => (bs ≤ a.2.1) ∧ (a.2.1 ≤ zn) ∧ (RS kq s0 f0 (xx + 1) 0 a.2.2.1 g52 a.1 a.2.1 az) ∧ (WB a.2.2.2.1 g52 bs a.2.1) ∧ (CD a.2.2.2.2 a.2.2.1 a.1) ∧ (drp isMo a.2.2.2.1 a.2.2.2.2 = drp isMo sz cz) ∧ (opn a.2.2.2.1 ≤ oz)) (fun a => [(ma 50, .inl (y 0, 3200, .inl a.2.2.1)), (ma 52, .inl (y 0, 1700, .inl g52)), MB mo ma (nI t1) (nI u1908) (nI t3) i4 0 i6 i7 i8 i42 i49 (nI a.1) (nI a.2.1) (nI oz) (nI bs) i61 i64 i66 (nI t67) i76 i78, (ma 0, .inl (y 0, 1600, .inl (tby tx)))]) (fun a => [(1, .int 3), (0, .ref mo)]) (zc, zn, zf, sz, cz) rfl rfl ⟨hb_, (show zn ≤ zn by omega), hR_, hwz_, hcz_, rfl, hoz_⟩ ?_
        rintro ⟨yc, yn, yf, sy, cy⟩ hP2329 ih2330
        obtain ⟨hby__, hny__, hRy__, hWy__, hCy__, hDy__, hOy__⟩ := hP2329
        have hby_ : bs ≤ yn := hby__
        have hny_ : yn ≤ zn := hny__
        have hRy_ : RS kq s0 f0 (xx + 1) 0 yf g52 yc yn az := hRy__
        have hWy_ : WB sy g52 bs yn := hWy__
        have hCy_ : CD cy yf yc := hCy__
        have hDy_ : drp isMo sy cy = drp isMo sz cz := hDy__
        have hOy_ : opn sy ≤ oz := hOy__
        refine j_ws (ws' := [(ma 50, .inl (y 0, 3200, .inl yf)), (ma 52, .inl (y 0, 1700, .inl g52)), MB mo ma (nI t1) (nI u1908) (nI t3) i4 0 i6 i7 i8 i42 i49 (nI yc) (nI yn) (nI oz) (nI bs) i61 i64 i66 (nI t67) i76 i78, (ma 0, .inl (y 0, 1600, .inl (tby tx)))]) rfl ?_
        refine j_lv (lv' := [(1, .int 3), (0, .ref mo)]) rfl ?_
        have hacy := rs_ac3 hRy_
        have hSy_ : ISm g52 bs yn := is_le hS (by omega)
        refine j_aload_n (pc := 158) C d_Model_goesOn_158 rfl 1 rfl ?_
        refine j_iconst (pc := 159) C (v := 3) d_Model_goesOn_159 (by decide) ?_
        refine j_callVi (pc := 160) C (c_M_isOn l D y mo ma t1 u1908 t3 i4 0 i6 i7 i8 i42 i49 (nI yc) yn (nI oz) (nI bs) i61 i64 i66 t67 i76 i78 g52 3 (by omega)) kw_Model_362 kv_Model_isOn 0 10 rfl rfl ⟨by decide, by decide⟩ ⟨by decide, by decide⟩ (wr := [(ma 50, .inl (y 0, 3200, .inl yf)), (ma 0, .inl (y 0, 1600, .inl (tby tx)))]) [2, 1] [0, 3] rfl rfl (by decide) (by decide) (by decide) (As := [.int 3]) (rest := []) rfl (nb rfl) rfl d_Model_goesOn_160 (fun r2331 _ hr2331 => ?_)
        refine j_ws (ws' := [(ma 50, .inl (y 0, 3200, .inl yf)), (ma 0, .inl (y 0, 1600, .inl (tby tx))), MB mo ma (nI t1) (nI u1908) (nI t3) i4 0 i6 i7 i8 i42 i49 (nI yc) (nI yn) (nI oz) (nI bs) i61 i64 i66 (nI t67) i76 i78, (ma 52, .inl (y 0, 1700, .inl g52))]) rfl ?_
        rcases hr2331 with ⟨rfl, xh2333⟩ | ⟨rfl, xh2334, e2335⟩
        · refine j_if_neF (pc := 163) C (tgt := 174) d_Model_goesOn_163 (by decide) (by decide) ?_
          refine j_aload_n (pc := 166) C d_Model_goesOn_166 rfl 1 rfl ?_
          refine j_iconst (pc := 167) C (v := 4) d_Model_goesOn_167 (by decide) ?_
          refine j_callVi (pc := 168) C (c_M_isOn l D y mo ma t1 u1908 t3 i4 0 i6 i7 i8 i42 i49 (nI yc) yn (nI oz) (nI bs) i61 i64 i66 t67 i76 i78 g52 4 (by omega)) kw_Model_362 kv_Model_isOn 0 10 rfl rfl ⟨by decide, by decide⟩ ⟨by decide, by decide⟩ (wr := [(ma 50, .inl (y 0, 3200, .inl yf)), (ma 0, .inl (y 0, 1600, .inl (tby tx)))]) [2, 3] [0, 1] rfl rfl (by decide) (by decide) (by decide) (As := [.int 4]) (rest := []) rfl (nb rfl) rfl d_Model_goesOn_168 (fun r2336 _ hr2336 => ?_)
          refine j_ws (ws' := [(ma 50, .inl (y 0, 3200, .inl yf)), (ma 0, .inl (y 0, 1600, .inl (tby tx))), MB mo ma (nI t1) (nI u1908) (nI t3) i4 0 i6 i7 i8 i42 i49 (nI yc) (nI yn) (nI oz) (nI bs) i61 i64 i66 (nI t67) i76 i78, (ma 52, .inl (y 0, 1700, .inl g52))]) rfl ?_
          rcases hr2336 with ⟨rfl, xh2338⟩ | ⟨rfl, xh2339, e2340⟩
          · refine j_if_eqT (pc := 171) C (tgt := 181) d_Model_goesOn_171 (by decide) (by decide) ?_
            have xh2341 : drp isMo sz cz = (sy, cy) := hDy_.symm.trans (drp_no (fun v hv => mo_no (on_no (c := 3) hWy_ xh2333 v hv) (on_no (c := 4) hWy_ xh2338 v hv)))
            have xh2342 : Rch tx t3 (1, (gs, cs, sk, oo)) (0, ((advS tx t3 gz), cy, (3 :: sy), oz)) := hrc_.tr (Rch.st ((stA _ _ _ _).trans ((sA_M (Or.inl xh1916)).trans (by rw [xh2341, if_pos xh1916]))) (Rch.rf _))
            refine j_aload_n (pc := 181) C d_Model_goesOn_181 rfl 1 rfl ?_
            refine j_get (pc := 182) C gf_Model_139 2 rfl rfl d_Model_goesOn_182 ?_
            refine j_aload_n (pc := 185) C d_Model_goesOn_185 rfl 1 rfl ?_
            refine j_get (pc := 186) C gf_Model_292 2 rfl rfl d_Model_goesOn_186 ?_
            refine j_iload_n (pc := 189) C d_Model_goesOn_189 rfl 0 rfl ?_
            refine j_iast (pc := 190) C 3 rfl (ws' := [(ma 50, .inl (y 0, 3200, .inl yf)), (ma 0, .inl (y 0, 1600, .inl (tby tx))), MB mo ma (nI t1) (nI u1908) (nI t3) i4 0 i6 i7 i8 i42 i49 (nI yc) (nI yn) (nI oz) (nI bs) i61 i64 i66 (nI t67) i76 i78, (ma 52, .inl (y 0, 1700, .inl (upd g52 yn 3)))]) (vp_in_nI (by omega) (by decide)) (by rw [nI_clamp (by omega)]; rfl) d_Model_goesOn_190 ?_
            refine j_aload_n (pc := 191) C d_Model_goesOn_191 rfl 1 rfl ?_
            refine j_dup (pc := 192) C d_Model_goesOn_192 rfl ?_
            refine j_get (pc := 193) C gf_Model_292 2 rfl rfl d_Model_goesOn_193 ?_
            refine j_iconst (pc := 196) C (v := 1) d_Model_goesOn_196 (by decide) ?_
            refine j_iadd (pc := 197) C (v := nI (yn + 1)) d_Model_goesOn_197 (nI_add _ _) ?_
            refine j_put (pc := 198) C pf_Model_292 2 (ws' := [(ma 50, .inl (y 0, 3200, .inl yf)), (ma 0, .inl (y 0, 1600, .inl (tby tx))), MB mo ma (nI t1) (nI u1908) (nI t3) i4 0 i6 i7 i8 i42 i49 (nI yc) (nI (yn + 1)) (nI oz) (nI bs) i61 i64 i66 (nI t67) i76 i78, (ma 52, .inl (y 0, 1700, .inl (upd g52 yn 3)))]) rfl rfl rfl (nl rfl) rfl d_Model_goesOn_198 ?_
            refine j_iconst (pc := 201) C (v := 1) d_Model_goesOn_201 (by decide) ?_
            exact j_iret (pc := 202) C hr (by decide) (u1908, 0, i6, yc, (yn + 1), oz, yf, (upd g52 yn 3), (advS tx t3 gz), cy, (3 :: sy)) ⟨(show t2 ≤ u1908 by omega), (show u1908 ≤ t3 by omega), (fun _ => ⟨rfl, by omega⟩), (it_up hT (show bs ≤ yn by omega)), (is_up hSy_ (by decide)), (show bs ≤ (yn + 1) by omega), xh1915, (fun j hj => pk_un (show j ≠ yn by omega)), (show oz ≤ 6 by omega), (Or.inl ⟨rfl, rfl, rs_op hRy_ (by decide) (show az < u1908 by omega), xh2342, hCy_, wb_push hWy_ (by decide), opn_op hOy_ (by decide)⟩)⟩ [2, 1, 0, 3] rfl (by decide) (by decide) (by decide) d_Model_goesOn_202
          · refine j_if_eqF (pc := 171) C (tgt := 181) d_Model_goesOn_171 (by decide) (by decide) ?_
            have hbz : bs < yn := top_s hT e2340 (by omega) (by omega) (by decide)
            obtain ⟨vq2343, sq2344, xh2345, xh2346, xh2347, xh2348⟩ := wb_top hWy_ hbz
            have xh2349 : vq2343 = 4 := on_yes xh2346 xh2347 (by decide) e2340
            refine j_aload_n (pc := 174) C d_Model_goesOn_174 rfl 1 rfl ?_
            refine j_callVv (pc := 175) C (c_M_drops l D y mo ma t1 u1908 t3 i4 0 i6 i7 i8 i42 i49 yc yn (nI oz) (nI bs) i61 i64 i66 t67 i76 i78 yf g52 (by omega) (by omega) (by omega)) kw_Model_350 kv_Model_drops 0 10 rfl rfl ⟨by decide, by decide⟩ ⟨by decide, by decide⟩ (wr := [(ma 0, .inl (y 0, 1600, .inl (tby tx)))]) [2, 0, 3] [1] rfl rfl (by decide) (by decide) (by decide) (As := []) (rest := []) rfl (nb rfl) rfl d_Model_goesOn_175 (fun _ _ => ?_)
            refine j_ws (ws' := [(ma 0, .inl (y 0, 1600, .inl (tby tx))), MB mo ma (nI t1) (nI u1908) (nI t3) i4 0 i6 i7 i8 i42 i49 (nI (yc + 1)) (nI (yn - 1)) (nI oz) (nI bs) i61 i64 i66 (nI t67) i76 i78, (ma 50, .inl (y 0, 3200, .inl (upd yf yc (g52 (yn - 1))))), (ma 52, .inl (y 0, 1700, .inl g52))]) rfl ?_
            refine j_goto (pc := 178) C (tgt := 158) d_Model_goesOn_178 (by decide) ?_
            refine j_sub (ws' := [(ma 50, .inl (y 0, 3200, .inl (upd yf yc (g52 (yn - 1))))), (ma 52, .inl (y 0, 1700, .inl g52)), MB mo ma (nI t1) (nI u1908) (nI t3) i4 0 i6 i7 i8 i42 i49 (nI (yc + 1)) (nI (yn - 1)) (nI oz) (nI bs) i61 i64 i66 (nI t67) i76 i78, (ma 0, .inl (y 0, 1600, .inl (tby tx)))]) [2, 3, 1, 0] rfl (by decide) ?_
            exact ih2330 ((yc + 1), (yn - 1), (upd yf yc (g52 (yn - 1))), sq2344, (putS vq2343 cy)) ⟨(show bs ≤ (yn - 1) by omega), (show (yn - 1) ≤ zn by omega), (show RS kq s0 f0 (xx + 1) 0 (upd yf yc (g52 (yn - 1))) g52 (yc + 1) (yn - 1) az from rs_drop hRy_ (by omega) (show yn = yn - 1 + 1 by omega) (Or.inl (by rw [e2340]; decide))), xh2348, (show CD (putS vq2343 cy) (upd yf yc (g52 (yn - 1))) (yc + 1) from cd_put hCy_ (by omega) xh2346 (by omega)), (show drp isMo sq2344 (putS vq2343 cy) = drp isMo sz cz by rw [← hDy_, xh2345]; exact (drp_go (by rw [xh2349]; decide)).symm), (opn_tl (by have hq := hOy_; rw [xh2345] at hq; exact hq))⟩ (show (yn - 1) < yn by omega)
        · refine j_if_neT (pc := 163) C (tgt := 174) d_Model_goesOn_163 (by decide) (by decide) ?_
          have hbz : bs < yn := top_s hT e2335 (by omega) (by omega) (by decide)
          obtain ⟨vq2350, sq2351, xh2352, xh2353, xh2354, xh2355⟩ := wb_top hWy_ hbz
          have xh2356 : vq2350 = 3 := on_yes xh2353 xh2354 (by decide) e2335
          refine j_aload_n (pc := 174) C d_Model_goesOn_174 rfl 1 rfl ?_
          refine j_callVv (pc := 175) C (c_M_drops l D y mo ma t1 u1908 t3 i4 0 i6 i7 i8 i42 i49 yc yn (nI oz) (nI bs) i61 i64 i66 t67 i76 i78 yf g52 (by omega) (by omega) (by omega)) kw_Model_350 kv_Model_drops 0 10 rfl rfl ⟨by decide, by decide⟩ ⟨by decide, by decide⟩ (wr := [(ma 0, .inl (y 0, 1600, .inl (tby tx)))]) [2, 0, 3] [1] rfl rfl (by decide) (by decide) (by decide) (As := []) (rest := []) rfl (nb rfl) rfl d_Model_goesOn_175 (fun _ _ => ?_)
          refine j_ws (ws' := [(ma 0, .inl (y 0, 1600, .inl (tby tx))), MB mo ma (nI t1) (nI u1908) (nI t3) i4 0 i6 i7 i8 i42 i49 (nI (yc + 1)) (nI (yn - 1)) (nI oz) (nI bs) i61 i64 i66 (nI t67) i76 i78, (ma 50, .inl (y 0, 3200, .inl (upd yf yc (g52 (yn - 1))))), (ma 52, .inl (y 0, 1700, .inl g52))]) rfl ?_
          refine j_goto (pc := 178) C (tgt := 158) d_Model_goesOn_178 (by decide) ?_
          refine j_sub (ws' := [(ma 50, .inl (y 0, 3200, .inl (upd yf yc (g52 (yn - 1))))), (ma 52, .inl (y 0, 1700, .inl g52)), MB mo ma (nI t1) (nI u1908) (nI t3) i4 0 i6 i7 i8 i42 i49 (nI (yc + 1)) (nI (yn - 1)) (nI oz) (nI bs) i61 i64 i66 (nI t67) i76 i78, (ma 0, .inl (y 0, 1600, .inl (tby tx)))]) [2, 3, 1, 0] rfl (by decide) ?_
          exact ih2330 ((yc + 1), (yn - 1), (upd yf yc (g52 (yn - 1))), sq2351, (putS vq2350 cy)) ⟨(show bs ≤ (yn - 1) by omega), (show (yn - 1) ≤ zn by omega), (show RS kq s0 f0 (xx + 1) 0 (upd yf yc (g52 (yn - 1))) g52 (yc + 1) (yn - 1) az from rs_drop hRy_ (by omega) (show yn = yn - 1 + 1 by omega) (Or.inl (by rw [e2335]; decide))), xh2355, (show CD (putS vq2350 cy) (upd yf yc (g52 (yn - 1))) (yc + 1) from cd_put hCy_ (by omega) xh2353 (by omega)), (show drp isMo sq2351 (putS vq2350 cy) = drp isMo sz cz by rw [← hDy_, xh2352]; exact (drp_go (by rw [xh2356]; decide)).symm), (opn_tl (by have hq := hOy_; rw [xh2352] at hq; exact hq))⟩ (show (yn - 1) < yn by omega)
    · refine j_icmp_neF (pc := 13) C (tgt := 118) d_Model_goesOn_13 (by decide) (show nI (tx u1443) = nI 41 from (nI_eq (by omega) (by omega)).mpr (by omega)) ?_
      refine j_aload_n (pc := 16) C d_Model_goesOn_16 rfl 0 rfl ?_
      refine j_callVi (pc := 17) C (c_M_mark l D y mo ma t1 u1443 t3 i4 0 i6 i7 i8 i42 i49 (nI zc) zn (nI oz) bs i61 i64 i66 t67 i76 i78 g52 sz hb_ (by omega) hwz_) kw_Model_356 kv_Model_mark 0 10 rfl rfl ⟨by decide, by decide⟩ ⟨by decide, by decide⟩ (wr := [(ma 50, .inl (y 0, 3200, .inl zf)), (ma 0, .inl (y 0, 1600, .inl (tby tx)))]) [2, 1] [0, 3] rfl rfl (by decide) (by decide) (by decide) (As := []) (rest := []) rfl (nb rfl) rfl d_Model_goesOn_17 (fun r2357 _ hr2357 => ?_)
      obtain rfl := hr2357
      refine j_ws (ws' := [(ma 50, .inl (y 0, 3200, .inl zf)), (ma 0, .inl (y 0, 1600, .inl (tby tx))), MB mo ma (nI t1) (nI u1443) (nI t3) i4 0 i6 i7 i8 i42 i49 (nI zc) (nI zn) (nI oz) (nI bs) i61 i64 i66 (nI t67) i76 i78, (ma 52, .inl (y 0, 1700, .inl g52))]) rfl ?_
      refine j_bipush (pc := 20) C (v := 20) d_Model_goesOn_20 (by decide) ?_
      by_cases c2358 : mkf sz = 20
      · refine j_icmp_eqT (pc := 22) C (tgt := 43) d_Model_goesOn_22 (by decide) (show mkI sz = 20 from (mkI_iff (c := 20) (by decide) (by decide)).mpr (by omega)) ?_
        have hb2359 : u1443 < t3 := xh1450
        have xh2360 : issS tx t3 41 gz = true := (sg_yes ((rr_z xh1447).mp rfl) xh1446 xh1450 (show tx u1443 = 41 by omega) (by decide)).1
        have xh2361 : mkf sz = 20 := by omega
        refine j_aload_n (pc := 43) C d_Model_goesOn_43 rfl 0 rfl ?_
        refine j_dup (pc := 44) C d_Model_goesOn_44 rfl ?_
        refine j_get (pc := 45) C gf_Model_207 2 rfl rfl d_Model_goesOn_45 ?_
        refine j_iconst (pc := 48) C (v := 1) d_Model_goesOn_48 (by decide) ?_
        refine j_iadd (pc := 49) C (v := nI (u1443 + 1)) d_Model_goesOn_49 (nI_add _ _) ?_
        refine j_put (pc := 50) C pf_Model_207 2 (ws' := [(ma 50, .inl (y 0, 3200, .inl zf)), (ma 0, .inl (y 0, 1600, .inl (tby tx))), MB mo ma (nI t1) (nI (u1443 + 1)) (nI t3) i4 0 i6 i7 i8 i42 i49 (nI zc) (nI zn) (nI oz) (nI bs) i61 i64 i66 (nI t67) i76 i78, (ma 52, .inl (y 0, 1700, .inl g52))]) rfl rfl rfl (nl rfl) rfl d_Model_goesOn_50 ?_
        refine j_aload_n (pc := 53) C d_Model_goesOn_53 rfl 0 rfl ?_
        refine j_callVv (pc := 54) C (c_M_dropsToMark l D y mo ma t1 (u1443 + 1) t3 i4 i6 i7 i8 i42 i49 zc zn (nI oz) bs i61 i64 i66 t67 i76 i78 zf g52 s0 xx sz cz kq f0 he (by omega) (rs_at hR_ (by omega)) hT hS_ hb_ hwz_ hcz_ hK) kw_Model_359 kv_Model_dropsToMark 0 10 rfl rfl ⟨by decide, by decide⟩ ⟨by decide, by decide⟩ (wr := [(ma 0, .inl (y 0, 1600, .inl (tby tx)))]) [2, 0, 3] [1] rfl rfl (by decide) (by decide) (by decide) (As := []) (rest := []) rfl (nb rfl) rfl d_Model_goesOn_54 (fun u2362 hu2363 => ?_)
        obtain ⟨xh2364, xh2365, xh2366, xh2367, xh2368, xh2369, xh2370, xh2371, xh2372⟩ := hu2363
        refine j_ws (ws' := [(ma 0, .inl (y 0, 1600, .inl (tby tx))), MB mo ma (nI t1) (nI (u1443 + 1)) (nI t3) i4 0 i6 i7 i8 i42 i49 (nI u2362.1) (nI u2362.2.1) (nI oz) (nI bs) i61 i64 i66 (nI t67) i76 i78, (ma 50, .inl (y 0, 3200, .inl u2362.2.2.1)), (ma 52, .inl (y 0, 1700, .inl g52))]) rfl ?_
        obtain ⟨Cq2373, xh2374⟩ := drp_m (S := sz) (cs := cz) (by omega)
        have xh2375 : u2362.2.2.2.2 = 20 :: Cq2373 := by rw [xh2372, xh2361] at xh2374; exact xh2374
        have xh2376 : WB (20 :: Cq2373) g52 bs u2362.2.1 := wb_cast xh2370 xh2375
        have xh2377 : g52 (u2362.2.1 - 1) = 20 := xh2376.2.1
        have hb2378 := xh2376.1
        obtain ⟨xh2379, xh2380⟩ := opn_mk hoz_ (xh2372.trans (by rw [xh2375])) (by decide)
        refine j_aload_n (pc := 57) C d_Model_goesOn_57 rfl 0 rfl ?_
        refine j_dup (pc := 58) C d_Model_goesOn_58 rfl ?_
        refine j_get (pc := 59) C gf_Model_292 1 rfl rfl d_Model_goesOn_59 ?_
        refine j_iconst (pc := 62) C (v := 1) d_Model_goesOn_62 (by decide) ?_
        refine j_isub (pc := 63) C (v := nI (u2362.2.1 - 1)) d_Model_goesOn_63 (pk_sub (a := u2362.2.1) (b := 1) (by omega)) ?_
        refine j_put (pc := 64) C pf_Model_292 1 (ws' := [(ma 0, .inl (y 0, 1600, .inl (tby tx))), MB mo ma (nI t1) (nI (u1443 + 1)) (nI t3) i4 0 i6 i7 i8 i42 i49 (nI u2362.1) (nI (u2362.2.1 - 1)) (nI oz) (nI bs) i61 i64 i66 (nI t67) i76 i78, (ma 50, .inl (y 0, 3200, .inl u2362.2.2.1)), (ma 52, .inl (y 0, 1700, .inl g52))]) rfl rfl rfl (nl rfl) rfl d_Model_goesOn_64 ?_
        refine j_aload_n (pc := 67) C d_Model_goesOn_67 rfl 0 rfl ?_
        refine j_dup (pc := 68) C d_Model_goesOn_68 rfl ?_
        refine j_get (pc := 69) C gf_Model_295 1 rfl rfl d_Model_goesOn_69 ?_
        refine j_iconst (pc := 72) C (v := 1) d_Model_goesOn_72 (by decide) ?_
        refine j_isub (pc := 73) C (v := nI (oz - 1)) d_Model_goesOn_73 (pk_sub (a := oz) (b := 1) (by omega)) ?_
        refine j_put (pc := 74) C pf_Model_295 1 (ws' := [(ma 0, .inl (y 0, 1600, .inl (tby tx))), MB mo ma (nI t1) (nI (u1443 + 1)) (nI t3) i4 0 i6 i7 i8 i42 i49 (nI u2362.1) (nI (u2362.2.1 - 1)) (nI (oz - 1)) (nI bs) i61 i64 i66 (nI t67) i76 i78, (ma 50, .inl (y 0, 3200, .inl u2362.2.2.1)), (ma 52, .inl (y 0, 1700, .inl g52))]) rfl rfl rfl (nl rfl) rfl d_Model_goesOn_74 ?_
        refine j_aload_n (pc := 77) C d_Model_goesOn_77 rfl 0 rfl ?_
        refine j_get (pc := 78) C gf_Model_139 1 rfl rfl d_Model_goesOn_78 ?_
        refine j_aload_n (pc := 81) C d_Model_goesOn_81 rfl 0 rfl ?_
        refine j_get (pc := 82) C gf_Model_292 1 rfl rfl d_Model_goesOn_82 ?_
        refine j_iald (pc := 85) C 3 rfl (v := 20) (vp_in_nI (by omega) (by decide)) (by rw [nI_clamp (by omega)]; exact xh2377) d_Model_goesOn_85 ?_
        refine j_bipush (pc := 86) C (v := 20) d_Model_goesOn_86 (by decide) ?_
        refine j_icmp_eqT (pc := 88) C (tgt := 0) d_Model_goesOn_88 (by decide) (by decide) ?_
        refine j_sub (ws' := [MB mo ma (nI t1) (nI (u1443 + 1)) (nI t3) i4 0 i6 i7 i8 i42 i49 (nI u2362.1) (nI (u2362.2.1 - 1)) (nI (oz - 1)) (nI bs) i61 i64 i66 (nI t67) i76 i78, (ma 0, .inl (y 0, 1600, .inl (tby tx))), (ma 50, .inl (y 0, 3200, .inl u2362.2.2.1)), (ma 52, .inl (y 0, 1700, .inl g52))]) [1, 0, 2, 3] rfl (by decide) ?_
        have xh2381 : Rch tx t3 (1, (gs, cs, sk, oo)) (1, ((advS tx t3 gz), u2362.2.2.2.1, Cq2373, (oz - 1))) := hrc_.tr (Rch.st ((stA _ _ _ _).trans ((sA_41 xh2360 (by omega)).trans (by rw [xh2372, xh2361, xh2375] <;> rfl))) (Rch.rf _))
        exact ih1441 ((u1443 + 1), u2362.1, (u2362.2.1 - 1), u2362.2.2.1, (oz - 1), (advS tx t3 gz), u2362.2.2.2.1, Cq2373) ⟨(show (u1443 + 1) ≤ t3 by omega), (show t2 ≤ (u1443 + 1) by omega), (show bs ≤ (u2362.2.1 - 1) by omega), (show (u2362.2.1 - 1) ≤ wn by omega), (show RS kq s0 f0 (xx + 1) 0 u2362.2.2.1 g52 u2362.1 (u2362.2.1 - 1) (u1443 + 1) from rs_at (rs_pop xh2367 (show u2362.2.1 = u2362.2.1 - 1 + 1 by omega) (by rw [xh2377]; decide)) (by omega)), (show RR tx t3 (advS tx t3 gz) (u1443 + 1) i4 0 i6 from (rr_adv xh1447 he (sg_yes ((rr_z xh1447).mp rfl) xh1446 xh1450 (show tx u1443 = 41 by omega) (by decide)).2.2 (by decide) (show (u1443 + 1) = enS tx t3 gz by have := (sg_yes ((rr_z xh1447).mp rfl) xh1446 xh1450 (show tx u1443 = 41 by omega) (by decide)).2.1; omega) (Or.inl ⟨rfl, rfl⟩))), (show Rch tx t3 (1, (gs, cs, sk, oo)) (1, ((advS tx t3 gz), u2362.2.2.2.1, Cq2373, (oz - 1))) from xh2381), (show WB Cq2373 g52 bs (u2362.2.1 - 1) from wb_pop xh2376), (show CD u2362.2.2.2.1 u2362.2.2.1 u2362.1 from xh2371), (show opn Cq2373 ≤ (oz - 1) from xh2380), (show (oz - 1) ≤ 6 by omega)⟩ (show t3 - (u1443 + 1) < t3 - az by omega)
      · refine j_icmp_eqF (pc := 22) C (tgt := 43) d_Model_goesOn_22 (by decide) (show ¬ mkI sz = 20 from fun e => absurd ((mkI_iff (c := 20) (by decide) (by decide)).mp e) (by omega)) ?_
        refine j_aload_n (pc := 25) C d_Model_goesOn_25 rfl 0 rfl ?_
        refine j_callVi (pc := 26) C (c_M_mark l D y mo ma t1 u1443 t3 i4 0 i6 i7 i8 i42 i49 (nI zc) zn (nI oz) bs i61 i64 i66 t67 i76 i78 g52 sz hb_ (by omega) hwz_) kw_Model_356 kv_Model_mark 0 10 rfl rfl ⟨by decide, by decide⟩ ⟨by decide, by decide⟩ (wr := [(ma 50, .inl (y 0, 3200, .inl zf)), (ma 0, .inl (y 0, 1600, .inl (tby tx)))]) [2, 3] [0, 1] rfl rfl (by decide) (by decide) (by decide) (As := []) (rest := []) rfl (nb rfl) rfl d_Model_goesOn_26 (fun r2382 _ hr2382 => ?_)
        obtain rfl := hr2382
        refine j_ws (ws' := [(ma 50, .inl (y 0, 3200, .inl zf)), (ma 0, .inl (y 0, 1600, .inl (tby tx))), MB mo ma (nI t1) (nI u1443) (nI t3) i4 0 i6 i7 i8 i42 i49 (nI zc) (nI zn) (nI oz) (nI bs) i61 i64 i66 (nI t67) i76 i78, (ma 52, .inl (y 0, 1700, .inl g52))]) rfl ?_
        refine j_bipush (pc := 29) C (v := 23) d_Model_goesOn_29 (by decide) ?_
        by_cases c2383 : mkf sz = 23
        · refine j_icmp_eqT (pc := 31) C (tgt := 43) d_Model_goesOn_31 (by decide) (show mkI sz = 23 from (mkI_iff (c := 23) (by decide) (by decide)).mpr (by omega)) ?_
          have hb2384 : u1443 < t3 := xh1450
          have xh2385 : issS tx t3 41 gz = true := (sg_yes ((rr_z xh1447).mp rfl) xh1446 xh1450 (show tx u1443 = 41 by omega) (by decide)).1
          have xh2386 : mkf sz = 23 := by omega
          refine j_aload_n (pc := 43) C d_Model_goesOn_43 rfl 0 rfl ?_
          refine j_dup (pc := 44) C d_Model_goesOn_44 rfl ?_
          refine j_get (pc := 45) C gf_Model_207 2 rfl rfl d_Model_goesOn_45 ?_
          refine j_iconst (pc := 48) C (v := 1) d_Model_goesOn_48 (by decide) ?_
          refine j_iadd (pc := 49) C (v := nI (u1443 + 1)) d_Model_goesOn_49 (nI_add _ _) ?_
          refine j_put (pc := 50) C pf_Model_207 2 (ws' := [(ma 50, .inl (y 0, 3200, .inl zf)), (ma 0, .inl (y 0, 1600, .inl (tby tx))), MB mo ma (nI t1) (nI (u1443 + 1)) (nI t3) i4 0 i6 i7 i8 i42 i49 (nI zc) (nI zn) (nI oz) (nI bs) i61 i64 i66 (nI t67) i76 i78, (ma 52, .inl (y 0, 1700, .inl g52))]) rfl rfl rfl (nl rfl) rfl d_Model_goesOn_50 ?_
          refine j_aload_n (pc := 53) C d_Model_goesOn_53 rfl 0 rfl ?_
          refine j_callVv (pc := 54) C (c_M_dropsToMark l D y mo ma t1 (u1443 + 1) t3 i4 i6 i7 i8 i42 i49 zc zn (nI oz) bs i61 i64 i66 t67 i76 i78 zf g52 s0 xx sz cz kq f0 he (by omega) (rs_at hR_ (by omega)) hT hS_ hb_ hwz_ hcz_ hK) kw_Model_359 kv_Model_dropsToMark 0 10 rfl rfl ⟨by decide, by decide⟩ ⟨by decide, by decide⟩ (wr := [(ma 0, .inl (y 0, 1600, .inl (tby tx)))]) [2, 0, 3] [1] rfl rfl (by decide) (by decide) (by decide) (As := []) (rest := []) rfl (nb rfl) rfl d_Model_goesOn_54 (fun u2387 hu2388 => ?_)
          obtain ⟨xh2389, xh2390, xh2391, xh2392, xh2393, xh2394, xh2395, xh2396, xh2397⟩ := hu2388
          refine j_ws (ws' := [(ma 0, .inl (y 0, 1600, .inl (tby tx))), MB mo ma (nI t1) (nI (u1443 + 1)) (nI t3) i4 0 i6 i7 i8 i42 i49 (nI u2387.1) (nI u2387.2.1) (nI oz) (nI bs) i61 i64 i66 (nI t67) i76 i78, (ma 50, .inl (y 0, 3200, .inl u2387.2.2.1)), (ma 52, .inl (y 0, 1700, .inl g52))]) rfl ?_
          obtain ⟨Cq2398, xh2399⟩ := drp_m (S := sz) (cs := cz) (by omega)
          have xh2400 : u2387.2.2.2.2 = 23 :: Cq2398 := by rw [xh2397, xh2386] at xh2399; exact xh2399
          have xh2401 : WB (23 :: Cq2398) g52 bs u2387.2.1 := wb_cast xh2395 xh2400
          have xh2402 : g52 (u2387.2.1 - 1) = 23 := xh2401.2.1
          have hb2403 := xh2401.1
          obtain ⟨xh2404, xh2405⟩ := opn_mk hoz_ (xh2397.trans (by rw [xh2400])) (by decide)
          refine j_aload_n (pc := 57) C d_Model_goesOn_57 rfl 0 rfl ?_
          refine j_dup (pc := 58) C d_Model_goesOn_58 rfl ?_
          refine j_get (pc := 59) C gf_Model_292 1 rfl rfl d_Model_goesOn_59 ?_
          refine j_iconst (pc := 62) C (v := 1) d_Model_goesOn_62 (by decide) ?_
          refine j_isub (pc := 63) C (v := nI (u2387.2.1 - 1)) d_Model_goesOn_63 (pk_sub (a := u2387.2.1) (b := 1) (by omega)) ?_
          refine j_put (pc := 64) C pf_Model_292 1 (ws' := [(ma 0, .inl (y 0, 1600, .inl (tby tx))), MB mo ma (nI t1) (nI (u1443 + 1)) (nI t3) i4 0 i6 i7 i8 i42 i49 (nI u2387.1) (nI (u2387.2.1 - 1)) (nI oz) (nI bs) i61 i64 i66 (nI t67) i76 i78, (ma 50, .inl (y 0, 3200, .inl u2387.2.2.1)), (ma 52, .inl (y 0, 1700, .inl g52))]) rfl rfl rfl (nl rfl) rfl d_Model_goesOn_64 ?_
          refine j_aload_n (pc := 67) C d_Model_goesOn_67 rfl 0 rfl ?_
          refine j_dup (pc := 68) C d_Model_goesOn_68 rfl ?_
          refine j_get (pc := 69) C gf_Model_295 1 rfl rfl d_Model_goesOn_69 ?_
          refine j_iconst (pc := 72) C (v := 1) d_Model_goesOn_72 (by decide) ?_
          refine j_isub (pc := 73) C (v := nI (oz - 1)) d_Model_goesOn_73 (pk_sub (a := oz) (b := 1) (by omega)) ?_
          refine j_put (pc := 74) C pf_Model_295 1 (ws' := [(ma 0, .inl (y 0, 1600, .inl (tby tx))), MB mo ma (nI t1) (nI (u1443 + 1)) (nI t3) i4 0 i6 i7 i8 i42 i49 (nI u2387.1) (nI (u2387.2.1 - 1)) (nI (oz - 1)) (nI bs) i61 i64 i66 (nI t67) i76 i78, (ma 50, .inl (y 0, 3200, .inl u2387.2.2.1)), (ma 52, .inl (y 0, 1700, .inl g52))]) rfl rfl rfl (nl rfl) rfl d_Model_goesOn_74 ?_
          refine j_aload_n (pc := 77) C d_Model_goesOn_77 rfl 0 rfl ?_
          refine j_get (pc := 78) C gf_Model_139 1 rfl rfl d_Model_goesOn_78 ?_
          refine j_aload_n (pc := 81) C d_Model_goesOn_81 rfl 0 rfl ?_
          refine j_get (pc := 82) C gf_Model_292 1 rfl rfl d_Model_goesOn_82 ?_
          refine j_iald (pc := 85) C 3 rfl (v := 23) (vp_in_nI (by omega) (by decide)) (by rw [nI_clamp (by omega)]; exact xh2402) d_Model_goesOn_85 ?_
          refine j_bipush (pc := 86) C (v := 20) d_Model_goesOn_86 (by decide) ?_
          refine j_icmp_eqF (pc := 88) C (tgt := 0) d_Model_goesOn_88 (by decide) (by decide) ?_
          refine j_aload_n (pc := 91) C d_Model_goesOn_91 rfl 0 rfl ?_
          refine j_aload_n (pc := 92) C d_Model_goesOn_92 rfl 0 rfl ?_
          refine j_get (pc := 93) C gf_Model_139 1 rfl rfl d_Model_goesOn_93 ?_
          refine j_aload_n (pc := 96) C d_Model_goesOn_96 rfl 0 rfl ?_
          refine j_get (pc := 97) C gf_Model_292 1 rfl rfl d_Model_goesOn_97 ?_
          refine j_iald (pc := 100) C 3 rfl (v := 23) (vp_in_nI (by omega) (by decide)) (by rw [nI_clamp (by omega)]; exact xh2402) d_Model_goesOn_100 ?_
          refine j_bipush (pc := 101) C (v := 23) d_Model_goesOn_101 (by decide) ?_
          refine j_icmp_neF (pc := 103) C (tgt := 110) d_Model_goesOn_103 (by decide) (by decide) ?_
          refine j_iconst (pc := 106) C (v := 5) d_Model_goesOn_106 (by decide) ?_
          refine j_goto (pc := 107) C (tgt := 112) d_Model_goesOn_107 (by decide) ?_
          refine j_callVv (pc := 112) C (c_M_code l D y mo ma t1 (u1443 + 1) t3 i4 0 i6 i7 i8 i42 i49 u2387.1 (u2387.2.1 - 1) (nI (oz - 1)) (nI bs) i61 i64 i66 t67 i76 i78 u2387.2.2.1 5 (by omega)) kw_Model_344 kv_Model_code 0 10 rfl rfl ⟨by decide, by decide⟩ ⟨by decide, by decide⟩ (wr := [(ma 0, .inl (y 0, 1600, .inl (tby tx))), (ma 52, .inl (y 0, 1700, .inl g52))]) [1, 2] [0, 3] rfl rfl (by decide) (by decide) (by decide) (As := [.int 5]) (rest := []) rfl (nb rfl) rfl d_Model_goesOn_112 (fun _ _ => ?_)
          refine j_ws (ws' := [(ma 0, .inl (y 0, 1600, .inl (tby tx))), (ma 52, .inl (y 0, 1700, .inl g52)), MB mo ma (nI t1) (nI (u1443 + 1)) (nI t3) i4 0 i6 i7 i8 i42 i49 (nI (u2387.1 + 1)) (nI (u2387.2.1 - 1)) (nI (oz - 1)) (nI bs) i61 i64 i66 (nI t67) i76 i78, (ma 50, .inl (y 0, 3200, .inl (upd u2387.2.2.1 u2387.1 5)))]) rfl ?_
          refine j_goto (pc := 115) C (tgt := 0) d_Model_goesOn_115 (by decide) ?_
          refine j_sub (ws' := [MB mo ma (nI t1) (nI (u1443 + 1)) (nI t3) i4 0 i6 i7 i8 i42 i49 (nI (u2387.1 + 1)) (nI (u2387.2.1 - 1)) (nI (oz - 1)) (nI bs) i61 i64 i66 (nI t67) i76 i78, (ma 0, .inl (y 0, 1600, .inl (tby tx))), (ma 50, .inl (y 0, 3200, .inl (upd u2387.2.2.1 u2387.1 5))), (ma 52, .inl (y 0, 1700, .inl g52))]) [2, 0, 3, 1] rfl (by decide) ?_
          have xh2406 : Rch tx t3 (1, (gs, cs, sk, oo)) (1, ((advS tx t3 gz), (putS 5 u2387.2.2.2.1), Cq2398, (oz - 1))) := hrc_.tr (Rch.st ((stA _ _ _ _).trans ((sA_41 xh2385 (by omega)).trans (by rw [xh2397, xh2386, xh2400] <;> rfl))) (Rch.rf _))
          exact ih1441 ((u1443 + 1), (u2387.1 + 1), (u2387.2.1 - 1), (upd u2387.2.2.1 u2387.1 5), (oz - 1), (advS tx t3 gz), (putS 5 u2387.2.2.2.1), Cq2398) ⟨(show (u1443 + 1) ≤ t3 by omega), (show t2 ≤ (u1443 + 1) by omega), (show bs ≤ (u2387.2.1 - 1) by omega), (show (u2387.2.1 - 1) ≤ wn by omega), (show RS kq s0 f0 (xx + 1) 0 (upd u2387.2.2.1 u2387.1 5) g52 (u2387.1 + 1) (u2387.2.1 - 1) (u1443 + 1) from rs_at (rs_shut xh2392 (by omega) (show u2387.2.1 = u2387.2.1 - 1 + 1 by omega) (by rw [xh2402]; decide) (by decide)) (by omega)), (show RR tx t3 (advS tx t3 gz) (u1443 + 1) i4 0 i6 from (rr_adv xh1447 he (sg_yes ((rr_z xh1447).mp rfl) xh1446 xh1450 (show tx u1443 = 41 by omega) (by decide)).2.2 (by decide) (show (u1443 + 1) = enS tx t3 gz by have := (sg_yes ((rr_z xh1447).mp rfl) xh1446 xh1450 (show tx u1443 = 41 by omega) (by decide)).2.1; omega) (Or.inl ⟨rfl, rfl⟩))), (show Rch tx t3 (1, (gs, cs, sk, oo)) (1, ((advS tx t3 gz), (putS 5 u2387.2.2.2.1), Cq2398, (oz - 1))) from xh2406), (show WB Cq2398 g52 bs (u2387.2.1 - 1) from wb_pop xh2401), (show CD (putS 5 u2387.2.2.2.1) (upd u2387.2.2.1 u2387.1 5) (u2387.1 + 1) from (cd_put xh2396 (by omega) rfl (by decide))), (show opn Cq2398 ≤ (oz - 1) from xh2405), (show (oz - 1) ≤ 6 by omega)⟩ (show t3 - (u1443 + 1) < t3 - az by omega)
        · refine j_icmp_eqF (pc := 31) C (tgt := 43) d_Model_goesOn_31 (by decide) (show ¬ mkI sz = 23 from fun e => absurd ((mkI_iff (c := 23) (by decide) (by decide)).mp e) (by omega)) ?_
          refine j_aload_n (pc := 34) C d_Model_goesOn_34 rfl 0 rfl ?_
          refine j_callVi (pc := 35) C (c_M_mark l D y mo ma t1 u1443 t3 i4 0 i6 i7 i8 i42 i49 (nI zc) zn (nI oz) bs i61 i64 i66 t67 i76 i78 g52 sz hb_ (by omega) hwz_) kw_Model_356 kv_Model_mark 0 10 rfl rfl ⟨by decide, by decide⟩ ⟨by decide, by decide⟩ (wr := [(ma 50, .inl (y 0, 3200, .inl zf)), (ma 0, .inl (y 0, 1600, .inl (tby tx)))]) [2, 3] [0, 1] rfl rfl (by decide) (by decide) (by decide) (As := []) (rest := []) rfl (nb rfl) rfl d_Model_goesOn_35 (fun r2407 _ hr2407 => ?_)
          obtain rfl := hr2407
          refine j_ws (ws' := [(ma 50, .inl (y 0, 3200, .inl zf)), (ma 0, .inl (y 0, 1600, .inl (tby tx))), MB mo ma (nI t1) (nI u1443) (nI t3) i4 0 i6 i7 i8 i42 i49 (nI zc) (nI zn) (nI oz) (nI bs) i61 i64 i66 (nI t67) i76 i78, (ma 52, .inl (y 0, 1700, .inl g52))]) rfl ?_
          refine j_bipush (pc := 38) C (v := 24) d_Model_goesOn_38 (by decide) ?_
          by_cases c2408 : ¬ mkf sz = 24
          · refine j_icmp_neT (pc := 40) C (tgt := 118) d_Model_goesOn_40 (by decide) (show ¬ mkI sz = 24 from fun e => absurd ((mkI_iff (c := 24) (by decide) (by decide)).mp e) (by omega)) ?_
            have xh2409 : ¬ (issS tx t3 41 gz = true ∧ (mkf sz = 20 ∨ mkf sz = 23 ∨ mkf sz = 24)) := (fun q => absurd q.2 (by omega))
            have xh2410 : gz.1 = 0 := ((rr_z xh1447).mp rfl)
            refine j_aload_n (pc := 118) C d_Model_goesOn_118 rfl 0 rfl ?_
            refine j_bipush (pc := 119) C (v := 42) d_Model_goesOn_119 (by decide) ?_
            refine j_callVi (pc := 121) C (c_M_takesSign l D y mo ma t1 u1443 t3 i4 0 i6 i7 i8 i42 i49 (nI zc) (nI zn) (nI oz) (nI bs) i61 i64 i66 t67 i76 i78 tx 42 gz xh1445 he hB xh1447 (by omega) (by decide)) kw_Model_234 kv_Model_takesSign 0 10 rfl rfl ⟨by decide, by decide⟩ ⟨by decide, by decide⟩ (wr := [(ma 50, .inl (y 0, 3200, .inl zf)), (ma 52, .inl (y 0, 1700, .inl g52))]) [2, 1] [0, 3] rfl rfl (by decide) (by decide) (by decide) (As := [.int 42]) (rest := []) rfl (nb rfl) rfl d_Model_goesOn_121 (fun r2411 u2412 hr2411 => ?_)
            refine j_ws (ws' := [(ma 50, .inl (y 0, 3200, .inl zf)), (ma 52, .inl (y 0, 1700, .inl g52)), MB mo ma (nI t1) (nI u2412) (nI t3) i4 0 i6 i7 i8 i42 i49 (nI zc) (nI zn) (nI oz) (nI bs) i61 i64 i66 (nI t67) i76 i78, (ma 0, .inl (y 0, 1600, .inl (tby tx)))]) rfl ?_
            obtain ⟨xh2413, xh2414, xh2415⟩ := hr2411
            rcases xh2415 with ⟨rfl, xh2416, xh2417, xh2418⟩ | ⟨rfl, xh2419, xh2420, xh2421, xh2422, xh2423⟩
            · refine j_if_neF (pc := 124) C (tgt := 136) d_Model_goesOn_124 (by decide) (by decide) ?_
              refine j_aload_n (pc := 127) C d_Model_goesOn_127 rfl 0 rfl ?_
              refine j_bipush (pc := 128) C (v := 47) d_Model_goesOn_128 (by decide) ?_
              refine j_callVi (pc := 130) C (c_M_takesSign l D y mo ma t1 u2412 t3 i4 0 i6 i7 i8 i42 i49 (nI zc) (nI zn) (nI oz) (nI bs) i61 i64 i66 t67 i76 i78 tx 47 gz xh2414 he hB xh2416 (by omega) (by decide)) kw_Model_234 kv_Model_takesSign 0 10 rfl rfl ⟨by decide, by decide⟩ ⟨by decide, by decide⟩ (wr := [(ma 50, .inl (y 0, 3200, .inl zf)), (ma 52, .inl (y 0, 1700, .inl g52))]) [2, 3] [0, 1] rfl rfl (by decide) (by decide) (by decide) (As := [.int 47]) (rest := []) rfl (nb rfl) rfl d_Model_goesOn_130 (fun r2424 u2425 hr2424 => ?_)
              refine j_ws (ws' := [(ma 50, .inl (y 0, 3200, .inl zf)), (ma 52, .inl (y 0, 1700, .inl g52)), MB mo ma (nI t1) (nI u2425) (nI t3) i4 0 i6 i7 i8 i42 i49 (nI zc) (nI zn) (nI oz) (nI bs) i61 i64 i66 (nI t67) i76 i78, (ma 0, .inl (y 0, 1600, .inl (tby tx)))]) rfl ?_
              obtain ⟨xh2426, xh2427, xh2428⟩ := hr2424
              rcases xh2428 with ⟨rfl, xh2429, xh2430, xh2431⟩ | ⟨rfl, xh2432, xh2433, xh2434, xh2435, xh2436⟩
              · refine j_if_eqT (pc := 133) C (tgt := 203) d_Model_goesOn_133 (by decide) (by decide) ?_
                refine j_aload_n (pc := 203) C d_Model_goesOn_203 rfl 0 rfl ?_
                refine j_bipush (pc := 204) C (v := 43) d_Model_goesOn_204 (by decide) ?_
                refine j_callVi (pc := 206) C (c_M_takesSign l D y mo ma t1 u2425 t3 i4 0 i6 i7 i8 i42 i49 (nI zc) (nI zn) (nI oz) (nI bs) i61 i64 i66 t67 i76 i78 tx 43 gz xh2427 he hB xh2429 (by omega) (by decide)) kw_Model_234 kv_Model_takesSign 0 10 rfl rfl ⟨by decide, by decide⟩ ⟨by decide, by decide⟩ (wr := [(ma 50, .inl (y 0, 3200, .inl zf)), (ma 52, .inl (y 0, 1700, .inl g52))]) [2, 3] [0, 1] rfl rfl (by decide) (by decide) (by decide) (As := [.int 43]) (rest := []) rfl (nb rfl) rfl d_Model_goesOn_206 (fun r2437 u2438 hr2437 => ?_)
                refine j_ws (ws' := [(ma 50, .inl (y 0, 3200, .inl zf)), (ma 52, .inl (y 0, 1700, .inl g52)), MB mo ma (nI t1) (nI u2438) (nI t3) i4 0 i6 i7 i8 i42 i49 (nI zc) (nI zn) (nI oz) (nI bs) i61 i64 i66 (nI t67) i76 i78, (ma 0, .inl (y 0, 1600, .inl (tby tx)))]) rfl ?_
                obtain ⟨xh2439, xh2440, xh2441⟩ := hr2437
                rcases xh2441 with ⟨rfl, xh2442, xh2443, xh2444⟩ | ⟨rfl, xh2445, xh2446, xh2447, xh2448, xh2449⟩
                · refine j_if_neF (pc := 209) C (tgt := 221) d_Model_goesOn_209 (by decide) (by decide) ?_
                  refine j_aload_n (pc := 212) C d_Model_goesOn_212 rfl 0 rfl ?_
                  refine j_bipush (pc := 213) C (v := 45) d_Model_goesOn_213 (by decide) ?_
                  refine j_callVi (pc := 215) C (c_M_takesSign l D y mo ma t1 u2438 t3 i4 0 i6 i7 i8 i42 i49 (nI zc) (nI zn) (nI oz) (nI bs) i61 i64 i66 t67 i76 i78 tx 45 gz xh2440 he hB xh2442 (by omega) (by decide)) kw_Model_234 kv_Model_takesSign 0 10 rfl rfl ⟨by decide, by decide⟩ ⟨by decide, by decide⟩ (wr := [(ma 50, .inl (y 0, 3200, .inl zf)), (ma 52, .inl (y 0, 1700, .inl g52))]) [2, 3] [0, 1] rfl rfl (by decide) (by decide) (by decide) (As := [.int 45]) (rest := []) rfl (nb rfl) rfl d_Model_goesOn_215 (fun r2450 u2451 hr2450 => ?_)
                  refine j_ws (ws' := [(ma 50, .inl (y 0, 3200, .inl zf)), (ma 52, .inl (y 0, 1700, .inl g52)), MB mo ma (nI t1) (nI u2451) (nI t3) i4 0 i6 i7 i8 i42 i49 (nI zc) (nI zn) (nI oz) (nI bs) i61 i64 i66 (nI t67) i76 i78, (ma 0, .inl (y 0, 1600, .inl (tby tx)))]) rfl ?_
                  obtain ⟨xh2452, xh2453, xh2454⟩ := hr2450
                  rcases xh2454 with ⟨rfl, xh2455, xh2456, xh2457⟩ | ⟨rfl, xh2458, xh2459, xh2460, xh2461, xh2462⟩
                  · refine j_if_eqT (pc := 218) C (tgt := 304) d_Model_goesOn_218 (by decide) (by decide) ?_
                    refine j_aload_n (pc := 304) C d_Model_goesOn_304 rfl 0 rfl ?_
                    refine j_callVi (pc := 305) C (c_M_mark l D y mo ma t1 u2451 t3 i4 0 i6 i7 i8 i42 i49 (nI zc) zn (nI oz) bs i61 i64 i66 t67 i76 i78 g52 sz hb_ (by omega) hwz_) kw_Model_356 kv_Model_mark 0 10 rfl rfl ⟨by decide, by decide⟩ ⟨by decide, by decide⟩ (wr := [(ma 50, .inl (y 0, 3200, .inl zf)), (ma 0, .inl (y 0, 1600, .inl (tby tx)))]) [2, 1] [0, 3] rfl rfl (by decide) (by decide) (by decide) (As := []) (rest := []) rfl (nb rfl) rfl d_Model_goesOn_305 (fun r2463 _ hr2463 => ?_)
                    obtain rfl := hr2463
                    refine j_ws (ws' := [(ma 50, .inl (y 0, 3200, .inl zf)), (ma 0, .inl (y 0, 1600, .inl (tby tx))), MB mo ma (nI t1) (nI u2451) (nI t3) i4 0 i6 i7 i8 i42 i49 (nI zc) (nI zn) (nI oz) (nI bs) i61 i64 i66 (nI t67) i76 i78, (ma 52, .inl (y 0, 1700, .inl g52))]) rfl ?_
                    refine j_bipush (pc := 308) C (v := 21) d_Model_goesOn_308 (by decide) ?_
                    by_cases c2464 : mkf sz = 21
                    · refine j_icmp_eqT (pc := 310) C (tgt := 322) d_Model_goesOn_310 (by decide) (show mkI sz = 21 from (mkI_iff (c := 21) (by decide) (by decide)).mpr (by omega)) ?_
                      refine j_aload_n (pc := 322) C d_Model_goesOn_322 rfl 0 rfl ?_
                      refine j_bipush (pc := 323) C (v := 44) d_Model_goesOn_323 (by decide) ?_
                      refine j_callVv (pc := 325) C (c_M_asksSign l D y mo ma t1 u2451 t3 i4 0 i6 i7 i8 i42 i49 (nI zc) (nI zn) (nI oz) (nI bs) i61 i64 i66 t67 i76 i78 tx 44 gz xh2453 he hB xh2455 (by omega) (by decide)) kw_Model_271 kv_Model_asksSign 0 10 rfl rfl ⟨by decide, by decide⟩ ⟨by decide, by decide⟩ (wr := [(ma 50, .inl (y 0, 3200, .inl zf)), (ma 52, .inl (y 0, 1700, .inl g52))]) [2, 1] [0, 3] rfl rfl (by decide) (by decide) (by decide) (As := [.int 44]) (rest := []) rfl (nb rfl) rfl d_Model_goesOn_325 (fun u2465 hu2466 => ?_)
                      obtain ⟨xh2467, xh2468, xh2469, xh2470⟩ := hu2466
                      refine j_ws (ws' := [(ma 50, .inl (y 0, 3200, .inl zf)), (ma 52, .inl (y 0, 1700, .inl g52)), MB mo ma (nI t1) (nI u2465.1) (nI t3) i4 u2465.2.1 u2465.2.2 i7 i8 i42 i49 (nI zc) (nI zn) (nI oz) (nI bs) i61 i64 i66 (nI t67) i76 i78, (ma 0, .inl (y 0, 1600, .inl (tby tx)))]) rfl ?_
                      refine j_aload_n (pc := 328) C d_Model_goesOn_328 rfl 0 rfl ?_
                      refine j_get (pc := 329) C gf_Model_201 2 rfl rfl d_Model_goesOn_329 ?_
                      refine j_if_eq (pc := 332) C (tgt := 337) d_Model_goesOn_332 (by decide) (fun c2471 => ?_) (fun c2471 => ?_)
                      · have xh2472 : issS tx t3 44 gz = true := (rs_ok ((rr_z xh2470).mp c2471)).1
                        have xh2473 : RR tx t3 (advS tx t3 gz) u2465.1 i4 u2465.2.1 u2465.2.2 := (rr_of xh2470 (if_pos xh2472).symm)
                        have xh2474 : RS kq s0 f0 (xx + 1) u2465.2.1 zf g52 zc zn az := rs_mono hR_ (fun _ => rfl)
                        refine j_ws (ws' := [(ma 50, .inl (y 0, 3200, .inl zf)), (ma 52, .inl (y 0, 1700, .inl g52)), MB mo ma (nI t1) (nI u2465.1) (nI t3) i4 0 u2465.2.2 i7 i8 i42 i49 (nI zc) (nI zn) (nI oz) (nI bs) i61 i64 i66 (nI t67) i76 i78, (ma 0, .inl (y 0, 1600, .inl (tby tx)))]) (by rw [c2471]) ?_
                        have xh2475 : RR tx t3 (advS tx t3 gz) u2465.1 i4 0 u2465.2.2 := by have hq := xh2473; rw [c2471] at hq; exact hq
                        have xh2476 : mkf sz = 21 := by omega
                        refine j_aload_n (pc := 337) C d_Model_goesOn_337 rfl 0 rfl ?_
                        refine j_callVv (pc := 338) C (c_M_dropsToMark l D y mo ma t1 u2465.1 t3 i4 u2465.2.2 i7 i8 i42 i49 zc zn (nI oz) bs i61 i64 i66 t67 i76 i78 zf g52 s0 xx sz cz kq f0 he xh2468 (rs_at hR_ (by omega)) hT hS_ hb_ hwz_ hcz_ hK) kw_Model_359 kv_Model_dropsToMark 0 10 rfl rfl ⟨by decide, by decide⟩ ⟨by decide, by decide⟩ (wr := [(ma 0, .inl (y 0, 1600, .inl (tby tx)))]) [2, 0, 1] [3] rfl rfl (by decide) (by decide) (by decide) (As := []) (rest := []) rfl (nb rfl) rfl d_Model_goesOn_338 (fun u2477 hu2478 => ?_)
                        obtain ⟨xh2479, xh2480, xh2481, xh2482, xh2483, xh2484, xh2485, xh2486, xh2487⟩ := hu2478
                        refine j_ws (ws' := [(ma 0, .inl (y 0, 1600, .inl (tby tx))), MB mo ma (nI t1) (nI u2465.1) (nI t3) i4 0 u2465.2.2 i7 i8 i42 i49 (nI u2477.1) (nI u2477.2.1) (nI oz) (nI bs) i61 i64 i66 (nI t67) i76 i78, (ma 50, .inl (y 0, 3200, .inl u2477.2.2.1)), (ma 52, .inl (y 0, 1700, .inl g52))]) rfl ?_
                        obtain ⟨Cq2488, xh2489⟩ := drp_m (S := sz) (cs := cz) (by omega)
                        have xh2490 : u2477.2.2.2.2 = 21 :: Cq2488 := by rw [xh2487, xh2476] at xh2489; exact xh2489
                        have xh2491 : WB (21 :: Cq2488) g52 bs u2477.2.1 := wb_cast xh2485 xh2490
                        have xh2492 : g52 (u2477.2.1 - 1) = 21 := xh2491.2.1
                        have hb2493 := xh2491.1
                        obtain ⟨xh2494, xh2495⟩ := opn_mk hoz_ (xh2487.trans (by rw [xh2490])) (by decide)
                        refine j_aload_n (pc := 341) C d_Model_goesOn_341 rfl 0 rfl ?_
                        refine j_get (pc := 342) C gf_Model_139 1 rfl rfl d_Model_goesOn_342 ?_
                        refine j_aload_n (pc := 345) C d_Model_goesOn_345 rfl 0 rfl ?_
                        refine j_get (pc := 346) C gf_Model_292 1 rfl rfl d_Model_goesOn_346 ?_
                        refine j_iconst (pc := 349) C (v := 1) d_Model_goesOn_349 (by decide) ?_
                        refine j_isub (pc := 350) C (v := nI (u2477.2.1 - 1)) d_Model_goesOn_350 (pk_sub (a := u2477.2.1) (b := 1) (by omega)) ?_
                        refine j_dup2 (pc := 351) C d_Model_goesOn_351 rfl rfl ?_
                        refine j_iald (pc := 352) C 3 rfl (v := 21) (vp_in_nI (by omega) (by decide)) (by rw [nI_clamp (by omega)]; exact xh2492) d_Model_goesOn_352 ?_
                        refine j_iconst (pc := 353) C (v := 2) d_Model_goesOn_353 (by decide) ?_
                        refine j_iadd (pc := 354) C (v := 23) d_Model_goesOn_354 (by decide) ?_
                        refine j_iast (pc := 355) C 3 rfl (ws' := [(ma 0, .inl (y 0, 1600, .inl (tby tx))), MB mo ma (nI t1) (nI u2465.1) (nI t3) i4 0 u2465.2.2 i7 i8 i42 i49 (nI u2477.1) (nI u2477.2.1) (nI oz) (nI bs) i61 i64 i66 (nI t67) i76 i78, (ma 50, .inl (y 0, 3200, .inl u2477.2.2.1)), (ma 52, .inl (y 0, 1700, .inl (upd g52 (u2477.2.1 - 1) 23)))]) (vp_in_nI (by omega) (by decide)) (by rw [nI_clamp (by omega)]; rfl) d_Model_goesOn_355 ?_
                        have xh2496 : Rch tx t3 (1, (gs, cs, sk, oo)) (0, ((advS tx t3 gz), u2477.2.2.2.1, (23 :: Cq2488), oz)) := hrc_.tr (Rch.st ((stA _ _ _ _).trans ((sA_cm xh2410 xh2417 xh2430 xh2443 xh2456 (by omega)).trans ((if_pos xh2472).trans (by rw [xh2487, xh2476, xh2490] <;> rfl)))) (Rch.rf _))
                        refine j_iconst (pc := 356) C (v := 1) d_Model_goesOn_356 (by decide) ?_
                        exact j_iret (pc := 357) C hr (by decide) (u2465.1, 0, u2465.2.2, u2477.1, u2477.2.1, oz, u2477.2.2.1, (upd g52 (u2477.2.1 - 1) 23), (advS tx t3 gz), u2477.2.2.2.1, (23 :: Cq2488)) ⟨(show t2 ≤ u2465.1 by omega), (show u2465.1 ≤ t3 by omega), (fun _ => ⟨rfl, by omega⟩), (it_up hT (show bs ≤ u2477.2.1 - 1 by omega)), (is_at (is_le hS (show u2477.2.1 ≤ wn by omega)) (by decide)), (show bs ≤ u2477.2.1 by omega), xh2475, (fun j hj => pk_un (show j ≠ u2477.2.1 - 1 by omega)), (show oz ≤ 6 by omega), (Or.inl ⟨rfl, rfl, rs_at (rs_next xh2482 (show u2477.2.1 = u2477.2.1 - 1 + 1 by omega) (by rw [xh2492]; decide) (by decide)) (by omega), xh2496, xh2486, wb_next xh2491 (by decide), opn_nx (by have hq := opn_d2 hoz_ xh2487; rw [xh2490] at hq; exact hq) (by decide)⟩)⟩ [1, 0, 2, 3] rfl (by decide) (by decide) (by decide) d_Model_goesOn_357
                      · have xh2497 : ¬ issS tx t3 44 gz = true := fun q => c2471 ((rr_z xh2470).mpr (by rw [show rsS tx t3 44 gz = advS tx t3 gz from if_pos q]; exact adv_ok xh2410))
                        have xh2498 : RR tx t3 (failS 1 (stS tx t3 gz) gz) u2465.1 i4 u2465.2.1 u2465.2.2 := (rr_of xh2470 (if_neg xh2497).symm)
                        have xh2499 : Rch tx t3 (1, (gs, cs, sk, oo)) (2, ((failS 1 (stS tx t3 gz) gz), cz, sz, oz)) := hrc_.tr (Rch.st ((stA _ _ _ _).trans ((sA_cm xh2410 xh2417 xh2430 xh2443 xh2456 (by omega)).trans (if_neg xh2497))) (Rch.rf _))
                        refine j_iconst (pc := 335) C (v := 0) d_Model_goesOn_335 (by decide) ?_
                        have xh2500 : RS kq s0 f0 (xx + 1) u2465.2.1 zf g52 zc zn az := rs_bad hR_ c2471
                        exact j_iret (pc := 336) C hr (by decide) (u2465.1, u2465.2.1, u2465.2.2, zc, zn, oz, zf, g52, (failS 1 (stS tx t3 gz) gz), cz, sz) ⟨(show t2 ≤ u2465.1 by omega), (show u2465.1 ≤ t3 by omega), (fun _ => ⟨rfl, by omega⟩), hT, hS_, (show bs ≤ zn by omega), xh2498, (fun _ _ => rfl), (show oz ≤ 6 by omega), (Or.inr ⟨rfl, (rs_at xh2500 (by omega)), (fun e => absurd e c2471), (fun _ => ⟨_, _, _, xh2499⟩)⟩)⟩ [2, 3, 0, 1] rfl (by decide) (by decide) (by decide) d_Model_goesOn_336
                    · refine j_icmp_eqF (pc := 310) C (tgt := 322) d_Model_goesOn_310 (by decide) (show ¬ mkI sz = 21 from fun e => absurd ((mkI_iff (c := 21) (by decide) (by decide)).mp e) (by omega)) ?_
                      refine j_aload_n (pc := 313) C d_Model_goesOn_313 rfl 0 rfl ?_
                      refine j_callVi (pc := 314) C (c_M_mark l D y mo ma t1 u2451 t3 i4 0 i6 i7 i8 i42 i49 (nI zc) zn (nI oz) bs i61 i64 i66 t67 i76 i78 g52 sz hb_ (by omega) hwz_) kw_Model_356 kv_Model_mark 0 10 rfl rfl ⟨by decide, by decide⟩ ⟨by decide, by decide⟩ (wr := [(ma 50, .inl (y 0, 3200, .inl zf)), (ma 0, .inl (y 0, 1600, .inl (tby tx)))]) [2, 3] [0, 1] rfl rfl (by decide) (by decide) (by decide) (As := []) (rest := []) rfl (nb rfl) rfl d_Model_goesOn_314 (fun r2501 _ hr2501 => ?_)
                      obtain rfl := hr2501
                      refine j_ws (ws' := [(ma 50, .inl (y 0, 3200, .inl zf)), (ma 0, .inl (y 0, 1600, .inl (tby tx))), MB mo ma (nI t1) (nI u2451) (nI t3) i4 0 i6 i7 i8 i42 i49 (nI zc) (nI zn) (nI oz) (nI bs) i61 i64 i66 (nI t67) i76 i78, (ma 52, .inl (y 0, 1700, .inl g52))]) rfl ?_
                      refine j_bipush (pc := 317) C (v := 22) d_Model_goesOn_317 (by decide) ?_
                      by_cases c2502 : ¬ mkf sz = 22
                      · refine j_icmp_neT (pc := 319) C (tgt := 358) d_Model_goesOn_319 (by decide) (show ¬ mkI sz = 22 from fun e => absurd ((mkI_iff (c := 22) (by decide) (by decide)).mp e) (by omega)) ?_
                        refine j_aload_n (pc := 358) C d_Model_goesOn_358 rfl 0 rfl ?_
                        refine j_callVi (pc := 359) C (c_M_mark l D y mo ma t1 u2451 t3 i4 0 i6 i7 i8 i42 i49 (nI zc) zn (nI oz) bs i61 i64 i66 t67 i76 i78 g52 sz hb_ (by omega) hwz_) kw_Model_356 kv_Model_mark 0 10 rfl rfl ⟨by decide, by decide⟩ ⟨by decide, by decide⟩ (wr := [(ma 50, .inl (y 0, 3200, .inl zf)), (ma 0, .inl (y 0, 1600, .inl (tby tx)))]) [2, 3] [0, 1] rfl rfl (by decide) (by decide) (by decide) (As := []) (rest := []) rfl (nb rfl) rfl d_Model_goesOn_359 (fun r2503 _ hr2503 => ?_)
                        obtain rfl := hr2503
                        refine j_ws (ws' := [(ma 50, .inl (y 0, 3200, .inl zf)), (ma 0, .inl (y 0, 1600, .inl (tby tx))), MB mo ma (nI t1) (nI u2451) (nI t3) i4 0 i6 i7 i8 i42 i49 (nI zc) (nI zn) (nI oz) (nI bs) i61 i64 i66 (nI t67) i76 i78, (ma 52, .inl (y 0, 1700, .inl g52))]) rfl ?_
                        refine j_iconst (pc := 362) C (v := (-1)) d_Model_goesOn_362 (by decide) ?_
                        by_cases c2504 : mkf sz = 0
                        · refine j_icmp_eqT (pc := 363) C (tgt := 382) d_Model_goesOn_363 (by decide) (mkI_m1.mpr (by omega)) ?_
                          have xh2505 : Rch tx t3 (1, (gs, cs, sk, oo)) (2, (gz, cz, sz, oz)) := hrc_.tr (Rch.st ((stA _ _ _ _).trans (sA_en2 xh2410 xh2409 xh2417 xh2430 xh2443 xh2456 (by omega))) (Rch.rf _))
                          refine j_iconst (pc := 382) C (v := 0) d_Model_goesOn_382 (by decide) ?_
                          exact j_iret (pc := 383) C hr (by decide) (u2451, 0, i6, zc, zn, oz, zf, g52, gz, cz, sz) ⟨(show t2 ≤ u2451 by omega), (show u2451 ≤ t3 by omega), (fun _ => ⟨rfl, by omega⟩), hT, hS_, (show bs ≤ zn by omega), xh2455, (fun _ _ => rfl), (show oz ≤ 6 by omega), (Or.inr ⟨rfl, (rs_at hR_ (by omega)), (fun _ => ⟨wb_nm hwz_ (by omega), xh2505, hcz_, hwz_, by omega⟩), (fun e => absurd rfl e)⟩)⟩ [2, 1, 0, 3] rfl (by decide) (by decide) (by decide) d_Model_goesOn_383
                        · refine j_icmp_eqF (pc := 363) C (tgt := 382) d_Model_goesOn_363 (by decide) (fun e => absurd (mkI_m1.mp e) (by omega)) ?_
                          refine j_aload_n (pc := 366) C d_Model_goesOn_366 rfl 0 rfl ?_
                          refine j_get (pc := 367) C gf_Model_201 2 rfl rfl d_Model_goesOn_367 ?_
                          refine j_if_neF (pc := 370) C (tgt := 382) d_Model_goesOn_370 (by decide) (by decide) ?_
                          refine j_aload_n (pc := 373) C d_Model_goesOn_373 rfl 0 rfl ?_
                          refine j_iconst (pc := 374) C (v := 1) d_Model_goesOn_374 (by decide) ?_
                          refine j_aload_n (pc := 375) C d_Model_goesOn_375 rfl 0 rfl ?_
                          refine j_get (pc := 376) C gf_Model_207 2 rfl rfl d_Model_goesOn_376 ?_
                          refine j_callVv (pc := 379) C (c_M_fail_1 l D y mo ma t1 u2451 t3 i4 0 i6 i7 i8 i42 i49 (nI zc) (nI zn) (nI oz) (nI bs) i61 i64 i66 t67 i76 i78 u2451 gz tx ((rr_z xh2455).mp rfl) (by omega) rfl) kw_Model_230 kv_Model_fail 0 10 rfl rfl ⟨by decide, by decide⟩ ⟨by decide, by decide⟩ (wr := [(ma 50, .inl (y 0, 3200, .inl zf)), (ma 0, .inl (y 0, 1600, .inl (tby tx))), (ma 52, .inl (y 0, 1700, .inl g52))]) [2] [0, 1, 3] rfl rfl (by decide) (by decide) (by decide) (As := [.int 1, .int (nI u2451)]) (rest := []) rfl (nb rfl) rfl d_Model_goesOn_379 (fun u2506 hu2507 => ?_)
                          obtain ⟨xh2508, xh2509⟩ := hu2507
                          refine j_ws (ws' := [(ma 50, .inl (y 0, 3200, .inl zf)), (ma 0, .inl (y 0, 1600, .inl (tby tx))), (ma 52, .inl (y 0, 1700, .inl g52)), MB mo ma (nI t1) (nI u2451) (nI t3) i4 u2506.1 u2506.2 i7 i8 i42 i49 (nI zc) (nI zn) (nI oz) (nI bs) i61 i64 i66 (nI t67) i76 i78]) rfl ?_
                          have xh2510 : RR tx t3 (failS 1 (stS tx t3 gz) gz) u2451 i4 u2506.1 u2506.2 := (rr_of xh2509 (by rw [← xh2457 rfl]))
                          have xh2511 : Rch tx t3 (1, (gs, cs, sk, oo)) (2, ((failS 1 (stS tx t3 gz) gz), cz, sz, oz)) := hrc_.tr (Rch.st ((stA _ _ _ _).trans (sA_no2 xh2410 xh2409 xh2417 xh2430 xh2443 xh2456 (by omega) (by omega))) (Rch.rf _))
                          refine j_iconst (pc := 382) C (v := 0) d_Model_goesOn_382 (by decide) ?_
                          have xh2512 : RS kq s0 f0 (xx + 1) u2506.1 zf g52 zc zn az := rs_bad hR_ xh2508
                          exact j_iret (pc := 383) C hr (by decide) (u2451, u2506.1, u2506.2, zc, zn, oz, zf, g52, (failS 1 (stS tx t3 gz) gz), cz, sz) ⟨(show t2 ≤ u2451 by omega), (show u2451 ≤ t3 by omega), (fun _ => ⟨rfl, by omega⟩), hT, hS_, (show bs ≤ zn by omega), xh2510, (fun _ _ => rfl), (show oz ≤ 6 by omega), (Or.inr ⟨rfl, (rs_at xh2512 (by omega)), (fun e => absurd e xh2508), (fun _ => ⟨_, _, _, xh2511⟩)⟩)⟩ [3, 1, 0, 2] rfl (by decide) (by decide) (by decide) d_Model_goesOn_383
                      · refine j_icmp_neF (pc := 319) C (tgt := 358) d_Model_goesOn_319 (by decide) (show mkI sz = 22 from (mkI_iff (c := 22) (by decide) (by decide)).mpr (by omega)) ?_
                        refine j_aload_n (pc := 322) C d_Model_goesOn_322 rfl 0 rfl ?_
                        refine j_bipush (pc := 323) C (v := 44) d_Model_goesOn_323 (by decide) ?_
                        refine j_callVv (pc := 325) C (c_M_asksSign l D y mo ma t1 u2451 t3 i4 0 i6 i7 i8 i42 i49 (nI zc) (nI zn) (nI oz) (nI bs) i61 i64 i66 t67 i76 i78 tx 44 gz xh2453 he hB xh2455 (by omega) (by decide)) kw_Model_271 kv_Model_asksSign 0 10 rfl rfl ⟨by decide, by decide⟩ ⟨by decide, by decide⟩ (wr := [(ma 50, .inl (y 0, 3200, .inl zf)), (ma 52, .inl (y 0, 1700, .inl g52))]) [2, 1] [0, 3] rfl rfl (by decide) (by decide) (by decide) (As := [.int 44]) (rest := []) rfl (nb rfl) rfl d_Model_goesOn_325 (fun u2513 hu2514 => ?_)
                        obtain ⟨xh2515, xh2516, xh2517, xh2518⟩ := hu2514
                        refine j_ws (ws' := [(ma 50, .inl (y 0, 3200, .inl zf)), (ma 52, .inl (y 0, 1700, .inl g52)), MB mo ma (nI t1) (nI u2513.1) (nI t3) i4 u2513.2.1 u2513.2.2 i7 i8 i42 i49 (nI zc) (nI zn) (nI oz) (nI bs) i61 i64 i66 (nI t67) i76 i78, (ma 0, .inl (y 0, 1600, .inl (tby tx)))]) rfl ?_
                        refine j_aload_n (pc := 328) C d_Model_goesOn_328 rfl 0 rfl ?_
                        refine j_get (pc := 329) C gf_Model_201 2 rfl rfl d_Model_goesOn_329 ?_
                        refine j_if_eq (pc := 332) C (tgt := 337) d_Model_goesOn_332 (by decide) (fun c2519 => ?_) (fun c2519 => ?_)
                        · have xh2520 : issS tx t3 44 gz = true := (rs_ok ((rr_z xh2518).mp c2519)).1
                          have xh2521 : RR tx t3 (advS tx t3 gz) u2513.1 i4 u2513.2.1 u2513.2.2 := (rr_of xh2518 (if_pos xh2520).symm)
                          have xh2522 : RS kq s0 f0 (xx + 1) u2513.2.1 zf g52 zc zn az := rs_mono hR_ (fun _ => rfl)
                          refine j_ws (ws' := [(ma 50, .inl (y 0, 3200, .inl zf)), (ma 52, .inl (y 0, 1700, .inl g52)), MB mo ma (nI t1) (nI u2513.1) (nI t3) i4 0 u2513.2.2 i7 i8 i42 i49 (nI zc) (nI zn) (nI oz) (nI bs) i61 i64 i66 (nI t67) i76 i78, (ma 0, .inl (y 0, 1600, .inl (tby tx)))]) (by rw [c2519]) ?_
                          have xh2523 : RR tx t3 (advS tx t3 gz) u2513.1 i4 0 u2513.2.2 := by have hq := xh2521; rw [c2519] at hq; exact hq
                          have xh2524 : mkf sz = 22 := by omega
                          refine j_aload_n (pc := 337) C d_Model_goesOn_337 rfl 0 rfl ?_
                          refine j_callVv (pc := 338) C (c_M_dropsToMark l D y mo ma t1 u2513.1 t3 i4 u2513.2.2 i7 i8 i42 i49 zc zn (nI oz) bs i61 i64 i66 t67 i76 i78 zf g52 s0 xx sz cz kq f0 he xh2516 (rs_at hR_ (by omega)) hT hS_ hb_ hwz_ hcz_ hK) kw_Model_359 kv_Model_dropsToMark 0 10 rfl rfl ⟨by decide, by decide⟩ ⟨by decide, by decide⟩ (wr := [(ma 0, .inl (y 0, 1600, .inl (tby tx)))]) [2, 0, 1] [3] rfl rfl (by decide) (by decide) (by decide) (As := []) (rest := []) rfl (nb rfl) rfl d_Model_goesOn_338 (fun u2525 hu2526 => ?_)
                          obtain ⟨xh2527, xh2528, xh2529, xh2530, xh2531, xh2532, xh2533, xh2534, xh2535⟩ := hu2526
                          refine j_ws (ws' := [(ma 0, .inl (y 0, 1600, .inl (tby tx))), MB mo ma (nI t1) (nI u2513.1) (nI t3) i4 0 u2513.2.2 i7 i8 i42 i49 (nI u2525.1) (nI u2525.2.1) (nI oz) (nI bs) i61 i64 i66 (nI t67) i76 i78, (ma 50, .inl (y 0, 3200, .inl u2525.2.2.1)), (ma 52, .inl (y 0, 1700, .inl g52))]) rfl ?_
                          obtain ⟨Cq2536, xh2537⟩ := drp_m (S := sz) (cs := cz) (by omega)
                          have xh2538 : u2525.2.2.2.2 = 22 :: Cq2536 := by rw [xh2535, xh2524] at xh2537; exact xh2537
                          have xh2539 : WB (22 :: Cq2536) g52 bs u2525.2.1 := wb_cast xh2533 xh2538
                          have xh2540 : g52 (u2525.2.1 - 1) = 22 := xh2539.2.1
                          have hb2541 := xh2539.1
                          obtain ⟨xh2542, xh2543⟩ := opn_mk hoz_ (xh2535.trans (by rw [xh2538])) (by decide)
                          refine j_aload_n (pc := 341) C d_Model_goesOn_341 rfl 0 rfl ?_
                          refine j_get (pc := 342) C gf_Model_139 1 rfl rfl d_Model_goesOn_342 ?_
                          refine j_aload_n (pc := 345) C d_Model_goesOn_345 rfl 0 rfl ?_
                          refine j_get (pc := 346) C gf_Model_292 1 rfl rfl d_Model_goesOn_346 ?_
                          refine j_iconst (pc := 349) C (v := 1) d_Model_goesOn_349 (by decide) ?_
                          refine j_isub (pc := 350) C (v := nI (u2525.2.1 - 1)) d_Model_goesOn_350 (pk_sub (a := u2525.2.1) (b := 1) (by omega)) ?_
                          refine j_dup2 (pc := 351) C d_Model_goesOn_351 rfl rfl ?_
                          refine j_iald (pc := 352) C 3 rfl (v := 22) (vp_in_nI (by omega) (by decide)) (by rw [nI_clamp (by omega)]; exact xh2540) d_Model_goesOn_352 ?_
                          refine j_iconst (pc := 353) C (v := 2) d_Model_goesOn_353 (by decide) ?_
                          refine j_iadd (pc := 354) C (v := 24) d_Model_goesOn_354 (by decide) ?_
                          refine j_iast (pc := 355) C 3 rfl (ws' := [(ma 0, .inl (y 0, 1600, .inl (tby tx))), MB mo ma (nI t1) (nI u2513.1) (nI t3) i4 0 u2513.2.2 i7 i8 i42 i49 (nI u2525.1) (nI u2525.2.1) (nI oz) (nI bs) i61 i64 i66 (nI t67) i76 i78, (ma 50, .inl (y 0, 3200, .inl u2525.2.2.1)), (ma 52, .inl (y 0, 1700, .inl (upd g52 (u2525.2.1 - 1) 24)))]) (vp_in_nI (by omega) (by decide)) (by rw [nI_clamp (by omega)]; rfl) d_Model_goesOn_355 ?_
                          have xh2544 : Rch tx t3 (1, (gs, cs, sk, oo)) (0, ((advS tx t3 gz), u2525.2.2.2.1, (24 :: Cq2536), oz)) := hrc_.tr (Rch.st ((stA _ _ _ _).trans ((sA_cm xh2410 xh2417 xh2430 xh2443 xh2456 (by omega)).trans ((if_pos xh2520).trans (by rw [xh2535, xh2524, xh2538] <;> rfl)))) (Rch.rf _))
                          refine j_iconst (pc := 356) C (v := 1) d_Model_goesOn_356 (by decide) ?_
                          exact j_iret (pc := 357) C hr (by decide) (u2513.1, 0, u2513.2.2, u2525.1, u2525.2.1, oz, u2525.2.2.1, (upd g52 (u2525.2.1 - 1) 24), (advS tx t3 gz), u2525.2.2.2.1, (24 :: Cq2536)) ⟨(show t2 ≤ u2513.1 by omega), (show u2513.1 ≤ t3 by omega), (fun _ => ⟨rfl, by omega⟩), (it_up hT (show bs ≤ u2525.2.1 - 1 by omega)), (is_at (is_le hS (show u2525.2.1 ≤ wn by omega)) (by decide)), (show bs ≤ u2525.2.1 by omega), xh2523, (fun j hj => pk_un (show j ≠ u2525.2.1 - 1 by omega)), (show oz ≤ 6 by omega), (Or.inl ⟨rfl, rfl, rs_at (rs_next xh2530 (show u2525.2.1 = u2525.2.1 - 1 + 1 by omega) (by rw [xh2540]; decide) (by decide)) (by omega), xh2544, xh2534, wb_next xh2539 (by decide), opn_nx (by have hq := opn_d2 hoz_ xh2535; rw [xh2538] at hq; exact hq) (by decide)⟩)⟩ [1, 0, 2, 3] rfl (by decide) (by decide) (by decide) d_Model_goesOn_357
                        · have xh2545 : ¬ issS tx t3 44 gz = true := fun q => c2519 ((rr_z xh2518).mpr (by rw [show rsS tx t3 44 gz = advS tx t3 gz from if_pos q]; exact adv_ok xh2410))
                          have xh2546 : RR tx t3 (failS 1 (stS tx t3 gz) gz) u2513.1 i4 u2513.2.1 u2513.2.2 := (rr_of xh2518 (if_neg xh2545).symm)
                          have xh2547 : Rch tx t3 (1, (gs, cs, sk, oo)) (2, ((failS 1 (stS tx t3 gz) gz), cz, sz, oz)) := hrc_.tr (Rch.st ((stA _ _ _ _).trans ((sA_cm xh2410 xh2417 xh2430 xh2443 xh2456 (by omega)).trans (if_neg xh2545))) (Rch.rf _))
                          refine j_iconst (pc := 335) C (v := 0) d_Model_goesOn_335 (by decide) ?_
                          have xh2548 : RS kq s0 f0 (xx + 1) u2513.2.1 zf g52 zc zn az := rs_bad hR_ c2519
                          exact j_iret (pc := 336) C hr (by decide) (u2513.1, u2513.2.1, u2513.2.2, zc, zn, oz, zf, g52, (failS 1 (stS tx t3 gz) gz), cz, sz) ⟨(show t2 ≤ u2513.1 by omega), (show u2513.1 ≤ t3 by omega), (fun _ => ⟨rfl, by omega⟩), hT, hS_, (show bs ≤ zn by omega), xh2546, (fun _ _ => rfl), (show oz ≤ 6 by omega), (Or.inr ⟨rfl, (rs_at xh2548 (by omega)), (fun e => absurd e c2519), (fun _ => ⟨_, _, _, xh2547⟩)⟩)⟩ [2, 3, 0, 1] rfl (by decide) (by decide) (by decide) d_Model_goesOn_336
                  · refine j_if_eqF (pc := 218) C (tgt := 304) d_Model_goesOn_218 (by decide) (by decide) ?_
                    refine j_aload_n (pc := 221) C d_Model_goesOn_221 rfl 0 rfl ?_
                    refine j_get (pc := 222) C gf_Model_7 2 rfl rfl d_Model_goesOn_222 ?_
                    refine j_aload_n (pc := 225) C d_Model_goesOn_225 rfl 0 rfl ?_
                    refine j_get (pc := 226) C gf_Model_207 2 rfl rfl d_Model_goesOn_226 ?_
                    refine j_iconst (pc := 229) C (v := 1) d_Model_goesOn_229 (by decide) ?_
                    refine j_isub (pc := 230) C (v := nI (u2451 - 1)) d_Model_goesOn_230 (pk_sub (a := u2451) (b := 1) (by omega)) ?_
                    refine j_iald (pc := 231) C 3 rfl (v := 45) (vp_in_nI (by omega) (by decide)) (by rw [nI_clamp (by omega)]; exact congrArg nI xh2462) d_Model_goesOn_231 ?_
                    refine j_bipush (pc := 232) C (v := 43) d_Model_goesOn_232 (by decide) ?_
                    refine j_icmp_neT (pc := 234) C (tgt := 241) d_Model_goesOn_234 (by decide) (by decide) ?_
                    refine j_iconst (pc := 241) C (v := 2) d_Model_goesOn_241 (by decide) ?_
                    refine j_istore_n (pc := 242) C (lv' := [(1, .int 2), (0, .ref mo)]) d_Model_goesOn_242 rfl (by decide) rfl ?_
                    refine j_loop (α := Nat × Nat × (Nat → Int32) × List Nat × List Nat) (fun a => a.2.1) (fun a => (bs ≤ a.2.1) ∧ (a.2.1 ≤ zn) ∧ (RS kq s0 f0 (xx + 1) 0 a.2.2.1 g52 a.1 a.2.1 az) ∧ (WB a.2.2.2.1 g52 bs a.2.1) ∧ (CD a.2.2.2.2 a.2.2.1 a.1) ∧ (drp isAo a.2.2.2.1 a.2.2.2.2 = drp isAo sz cz) ∧ (opn a.2.2.2.1 ≤ oz)) (fun a => [(ma 50, .inl (y 0, 3200, .inl a.2.2.1)), (ma 52, .inl (y 0, 1700, .inl g52)), MB mo ma (nI t1) (nI u2451) (nI t3) i4 0 i6 i7 i8 i42 i49 (nI a.1) (nI a.2.1) (nI oz) (nI bs) i61 i64 i66 (nI t67) i76 i78, (ma 0, .inl (y 0, 1600, .inl (tby tx)))]) (fun a => [(1, .int 2), (0, .ref mo)]) (zc, zn, zf, sz, cz) rfl rfl ⟨hb_, (show zn ≤ zn by omega), hR_, hwz_, hcz_, rfl, hoz_⟩ ?_
                    rintro ⟨yc, yn, yf, sy, cy⟩ hP2599 ih2600
                    obtain ⟨hby__, hny__, hRy__, hWy__, hCy__, hDy__, hOy__⟩ := hP2599
                    have hby_ : bs ≤ yn := hby__
                    have hny_ : yn ≤ zn := hny__
                    have hRy_ : RS kq s0 f0 (xx + 1) 0 yf g52 yc yn az := hRy__
                    have hWy_ : WB sy g52 bs yn := hWy__
                    have hCy_ : CD cy yf yc := hCy__
                    have hDy_ : drp isAo sy cy = drp isAo sz cz := hDy__
                    have hOy_ : opn sy ≤ oz := hOy__
                    refine j_ws (ws' := [(ma 50, .inl (y 0, 3200, .inl yf)), (ma 52, .inl (y 0, 1700, .inl g52)), MB mo ma (nI t1) (nI u2451) (nI t3) i4 0 i6 i7 i8 i42 i49 (nI yc) (nI yn) (nI oz) (nI bs) i61 i64 i66 (nI t67) i76 i78, (ma 0, .inl (y 0, 1600, .inl (tby tx)))]) rfl ?_
                    refine j_lv (lv' := [(1, .int 2), (0, .ref mo)]) rfl ?_
                    have hacy := rs_ac3 hRy_
                    have hSy_ : ISm g52 bs yn := is_le hS (by omega)
                    refine j_aload_n (pc := 243) C d_Model_goesOn_243 rfl 1 rfl ?_
                    refine j_iconst (pc := 244) C (v := 3) d_Model_goesOn_244 (by decide) ?_
                    refine j_callVi (pc := 245) C (c_M_isOn l D y mo ma t1 u2451 t3 i4 0 i6 i7 i8 i42 i49 (nI yc) yn (nI oz) (nI bs) i61 i64 i66 t67 i76 i78 g52 3 (by omega)) kw_Model_362 kv_Model_isOn 0 10 rfl rfl ⟨by decide, by decide⟩ ⟨by decide, by decide⟩ (wr := [(ma 50, .inl (y 0, 3200, .inl yf)), (ma 0, .inl (y 0, 1600, .inl (tby tx)))]) [2, 1] [0, 3] rfl rfl (by decide) (by decide) (by decide) (As := [.int 3]) (rest := []) rfl (nb rfl) rfl d_Model_goesOn_245 (fun r2601 _ hr2601 => ?_)
                    refine j_ws (ws' := [(ma 50, .inl (y 0, 3200, .inl yf)), (ma 0, .inl (y 0, 1600, .inl (tby tx))), MB mo ma (nI t1) (nI u2451) (nI t3) i4 0 i6 i7 i8 i42 i49 (nI yc) (nI yn) (nI oz) (nI bs) i61 i64 i66 (nI t67) i76 i78, (ma 52, .inl (y 0, 1700, .inl g52))]) rfl ?_
                    rcases hr2601 with ⟨rfl, xh2603⟩ | ⟨rfl, xh2604, e2605⟩
                    · refine j_if_neF (pc := 248) C (tgt := 275) d_Model_goesOn_248 (by decide) (by decide) ?_
                      refine j_aload_n (pc := 251) C d_Model_goesOn_251 rfl 1 rfl ?_
                      refine j_iconst (pc := 252) C (v := 4) d_Model_goesOn_252 (by decide) ?_
                      refine j_callVi (pc := 253) C (c_M_isOn l D y mo ma t1 u2451 t3 i4 0 i6 i7 i8 i42 i49 (nI yc) yn (nI oz) (nI bs) i61 i64 i66 t67 i76 i78 g52 4 (by omega)) kw_Model_362 kv_Model_isOn 0 10 rfl rfl ⟨by decide, by decide⟩ ⟨by decide, by decide⟩ (wr := [(ma 50, .inl (y 0, 3200, .inl yf)), (ma 0, .inl (y 0, 1600, .inl (tby tx)))]) [2, 3] [0, 1] rfl rfl (by decide) (by decide) (by decide) (As := [.int 4]) (rest := []) rfl (nb rfl) rfl d_Model_goesOn_253 (fun r2606 _ hr2606 => ?_)
                      refine j_ws (ws' := [(ma 50, .inl (y 0, 3200, .inl yf)), (ma 0, .inl (y 0, 1600, .inl (tby tx))), MB mo ma (nI t1) (nI u2451) (nI t3) i4 0 i6 i7 i8 i42 i49 (nI yc) (nI yn) (nI oz) (nI bs) i61 i64 i66 (nI t67) i76 i78, (ma 52, .inl (y 0, 1700, .inl g52))]) rfl ?_
                      rcases hr2606 with ⟨rfl, xh2608⟩ | ⟨rfl, xh2609, e2610⟩
                      · refine j_if_neF (pc := 256) C (tgt := 275) d_Model_goesOn_256 (by decide) (by decide) ?_
                        refine j_aload_n (pc := 259) C d_Model_goesOn_259 rfl 1 rfl ?_
                        refine j_iconst (pc := 260) C (v := 1) d_Model_goesOn_260 (by decide) ?_
                        refine j_callVi (pc := 261) C (c_M_isOn l D y mo ma t1 u2451 t3 i4 0 i6 i7 i8 i42 i49 (nI yc) yn (nI oz) (nI bs) i61 i64 i66 t67 i76 i78 g52 1 (by omega)) kw_Model_362 kv_Model_isOn 0 10 rfl rfl ⟨by decide, by decide⟩ ⟨by decide, by decide⟩ (wr := [(ma 50, .inl (y 0, 3200, .inl yf)), (ma 0, .inl (y 0, 1600, .inl (tby tx)))]) [2, 3] [0, 1] rfl rfl (by decide) (by decide) (by decide) (As := [.int 1]) (rest := []) rfl (nb rfl) rfl d_Model_goesOn_261 (fun r2611 _ hr2611 => ?_)
                        refine j_ws (ws' := [(ma 50, .inl (y 0, 3200, .inl yf)), (ma 0, .inl (y 0, 1600, .inl (tby tx))), MB mo ma (nI t1) (nI u2451) (nI t3) i4 0 i6 i7 i8 i42 i49 (nI yc) (nI yn) (nI oz) (nI bs) i61 i64 i66 (nI t67) i76 i78, (ma 52, .inl (y 0, 1700, .inl g52))]) rfl ?_
                        rcases hr2611 with ⟨rfl, xh2613⟩ | ⟨rfl, xh2614, e2615⟩
                        · refine j_if_neF (pc := 264) C (tgt := 275) d_Model_goesOn_264 (by decide) (by decide) ?_
                          refine j_aload_n (pc := 267) C d_Model_goesOn_267 rfl 1 rfl ?_
                          refine j_iconst (pc := 268) C (v := 2) d_Model_goesOn_268 (by decide) ?_
                          refine j_callVi (pc := 269) C (c_M_isOn l D y mo ma t1 u2451 t3 i4 0 i6 i7 i8 i42 i49 (nI yc) yn (nI oz) (nI bs) i61 i64 i66 t67 i76 i78 g52 2 (by omega)) kw_Model_362 kv_Model_isOn 0 10 rfl rfl ⟨by decide, by decide⟩ ⟨by decide, by decide⟩ (wr := [(ma 50, .inl (y 0, 3200, .inl yf)), (ma 0, .inl (y 0, 1600, .inl (tby tx)))]) [2, 3] [0, 1] rfl rfl (by decide) (by decide) (by decide) (As := [.int 2]) (rest := []) rfl (nb rfl) rfl d_Model_goesOn_269 (fun r2616 _ hr2616 => ?_)
                          refine j_ws (ws' := [(ma 50, .inl (y 0, 3200, .inl yf)), (ma 0, .inl (y 0, 1600, .inl (tby tx))), MB mo ma (nI t1) (nI u2451) (nI t3) i4 0 i6 i7 i8 i42 i49 (nI yc) (nI yn) (nI oz) (nI bs) i61 i64 i66 (nI t67) i76 i78, (ma 52, .inl (y 0, 1700, .inl g52))]) rfl ?_
                          rcases hr2616 with ⟨rfl, xh2618⟩ | ⟨rfl, xh2619, e2620⟩
                          · refine j_if_eqT (pc := 272) C (tgt := 282) d_Model_goesOn_272 (by decide) (by decide) ?_
                            have xh2621 : drp isAo sz cz = (sy, cy) := hDy_.symm.trans (drp_no (fun v hv => ao_no (on_no (c := 1) hWy_ xh2613 v hv) (on_no (c := 2) hWy_ xh2618 v hv) (on_no (c := 3) hWy_ xh2603 v hv) (on_no (c := 4) hWy_ xh2608 v hv)))
                            have xh2622 : Rch tx t3 (1, (gs, cs, sk, oo)) (0, ((advS tx t3 gz), cy, (2 :: sy), oz)) := hrc_.tr (Rch.st ((stA _ _ _ _).trans ((sA_A (Or.inr xh2459)).trans (by rw [xh2621, if_neg xh2443]))) (Rch.rf _))
                            refine j_aload_n (pc := 282) C d_Model_goesOn_282 rfl 1 rfl ?_
                            refine j_get (pc := 283) C gf_Model_139 2 rfl rfl d_Model_goesOn_283 ?_
                            refine j_aload_n (pc := 286) C d_Model_goesOn_286 rfl 1 rfl ?_
                            refine j_get (pc := 287) C gf_Model_292 2 rfl rfl d_Model_goesOn_287 ?_
                            refine j_iload_n (pc := 290) C d_Model_goesOn_290 rfl 0 rfl ?_
                            refine j_iast (pc := 291) C 3 rfl (ws' := [(ma 50, .inl (y 0, 3200, .inl yf)), (ma 0, .inl (y 0, 1600, .inl (tby tx))), MB mo ma (nI t1) (nI u2451) (nI t3) i4 0 i6 i7 i8 i42 i49 (nI yc) (nI yn) (nI oz) (nI bs) i61 i64 i66 (nI t67) i76 i78, (ma 52, .inl (y 0, 1700, .inl (upd g52 yn 2)))]) (vp_in_nI (by omega) (by decide)) (by rw [nI_clamp (by omega)]; rfl) d_Model_goesOn_291 ?_
                            refine j_aload_n (pc := 292) C d_Model_goesOn_292 rfl 1 rfl ?_
                            refine j_dup (pc := 293) C d_Model_goesOn_293 rfl ?_
                            refine j_get (pc := 294) C gf_Model_292 2 rfl rfl d_Model_goesOn_294 ?_
                            refine j_iconst (pc := 297) C (v := 1) d_Model_goesOn_297 (by decide) ?_
                            refine j_iadd (pc := 298) C (v := nI (yn + 1)) d_Model_goesOn_298 (nI_add _ _) ?_
                            refine j_put (pc := 299) C pf_Model_292 2 (ws' := [(ma 50, .inl (y 0, 3200, .inl yf)), (ma 0, .inl (y 0, 1600, .inl (tby tx))), MB mo ma (nI t1) (nI u2451) (nI t3) i4 0 i6 i7 i8 i42 i49 (nI yc) (nI (yn + 1)) (nI oz) (nI bs) i61 i64 i66 (nI t67) i76 i78, (ma 52, .inl (y 0, 1700, .inl (upd g52 yn 2)))]) rfl rfl rfl (nl rfl) rfl d_Model_goesOn_299 ?_
                            refine j_iconst (pc := 302) C (v := 1) d_Model_goesOn_302 (by decide) ?_
                            exact j_iret (pc := 303) C hr (by decide) (u2451, 0, i6, yc, (yn + 1), oz, yf, (upd g52 yn 2), (advS tx t3 gz), cy, (2 :: sy)) ⟨(show t2 ≤ u2451 by omega), (show u2451 ≤ t3 by omega), (fun _ => ⟨rfl, by omega⟩), (it_up hT (show bs ≤ yn by omega)), (is_up hSy_ (by decide)), (show bs ≤ (yn + 1) by omega), xh2458, (fun j hj => pk_un (show j ≠ yn by omega)), (show oz ≤ 6 by omega), (Or.inl ⟨rfl, rfl, rs_op hRy_ (by decide) (show az < u2451 by omega), xh2622, hCy_, wb_push hWy_ (by decide), opn_op hOy_ (by decide)⟩)⟩ [2, 1, 0, 3] rfl (by decide) (by decide) (by decide) d_Model_goesOn_303
                          · refine j_if_eqF (pc := 272) C (tgt := 282) d_Model_goesOn_272 (by decide) (by decide) ?_
                            have hbz : bs < yn := top_s hT e2620 (by omega) (by omega) (by decide)
                            obtain ⟨vq2623, sq2624, xh2625, xh2626, xh2627, xh2628⟩ := wb_top hWy_ hbz
                            have xh2629 : vq2623 = 2 := on_yes xh2626 xh2627 (by decide) e2620
                            refine j_aload_n (pc := 275) C d_Model_goesOn_275 rfl 1 rfl ?_
                            refine j_callVv (pc := 276) C (c_M_drops l D y mo ma t1 u2451 t3 i4 0 i6 i7 i8 i42 i49 yc yn (nI oz) (nI bs) i61 i64 i66 t67 i76 i78 yf g52 (by omega) (by omega) (by omega)) kw_Model_350 kv_Model_drops 0 10 rfl rfl ⟨by decide, by decide⟩ ⟨by decide, by decide⟩ (wr := [(ma 0, .inl (y 0, 1600, .inl (tby tx)))]) [2, 0, 3] [1] rfl rfl (by decide) (by decide) (by decide) (As := []) (rest := []) rfl (nb rfl) rfl d_Model_goesOn_276 (fun _ _ => ?_)
                            refine j_ws (ws' := [(ma 0, .inl (y 0, 1600, .inl (tby tx))), MB mo ma (nI t1) (nI u2451) (nI t3) i4 0 i6 i7 i8 i42 i49 (nI (yc + 1)) (nI (yn - 1)) (nI oz) (nI bs) i61 i64 i66 (nI t67) i76 i78, (ma 50, .inl (y 0, 3200, .inl (upd yf yc (g52 (yn - 1))))), (ma 52, .inl (y 0, 1700, .inl g52))]) rfl ?_
                            refine j_goto (pc := 279) C (tgt := 243) d_Model_goesOn_279 (by decide) ?_
                            refine j_sub (ws' := [(ma 50, .inl (y 0, 3200, .inl (upd yf yc (g52 (yn - 1))))), (ma 52, .inl (y 0, 1700, .inl g52)), MB mo ma (nI t1) (nI u2451) (nI t3) i4 0 i6 i7 i8 i42 i49 (nI (yc + 1)) (nI (yn - 1)) (nI oz) (nI bs) i61 i64 i66 (nI t67) i76 i78, (ma 0, .inl (y 0, 1600, .inl (tby tx)))]) [2, 3, 1, 0] rfl (by decide) ?_
                            exact ih2600 ((yc + 1), (yn - 1), (upd yf yc (g52 (yn - 1))), sq2624, (putS vq2623 cy)) ⟨(show bs ≤ (yn - 1) by omega), (show (yn - 1) ≤ zn by omega), (show RS kq s0 f0 (xx + 1) 0 (upd yf yc (g52 (yn - 1))) g52 (yc + 1) (yn - 1) az from rs_drop hRy_ (by omega) (show yn = yn - 1 + 1 by omega) (Or.inl (by rw [e2620]; decide))), xh2628, (show CD (putS vq2623 cy) (upd yf yc (g52 (yn - 1))) (yc + 1) from cd_put hCy_ (by omega) xh2626 (by omega)), (show drp isAo sq2624 (putS vq2623 cy) = drp isAo sz cz by rw [← hDy_, xh2625]; exact (drp_go (by rw [xh2629]; decide)).symm), (opn_tl (by have hq := hOy_; rw [xh2625] at hq; exact hq))⟩ (show (yn - 1) < yn by omega)
                        · refine j_if_neT (pc := 264) C (tgt := 275) d_Model_goesOn_264 (by decide) (by decide) ?_
                          have hbz : bs < yn := top_s hT e2615 (by omega) (by omega) (by decide)
                          obtain ⟨vq2630, sq2631, xh2632, xh2633, xh2634, xh2635⟩ := wb_top hWy_ hbz
                          have xh2636 : vq2630 = 1 := on_yes xh2633 xh2634 (by decide) e2615
                          refine j_aload_n (pc := 275) C d_Model_goesOn_275 rfl 1 rfl ?_
                          refine j_callVv (pc := 276) C (c_M_drops l D y mo ma t1 u2451 t3 i4 0 i6 i7 i8 i42 i49 yc yn (nI oz) (nI bs) i61 i64 i66 t67 i76 i78 yf g52 (by omega) (by omega) (by omega)) kw_Model_350 kv_Model_drops 0 10 rfl rfl ⟨by decide, by decide⟩ ⟨by decide, by decide⟩ (wr := [(ma 0, .inl (y 0, 1600, .inl (tby tx)))]) [2, 0, 3] [1] rfl rfl (by decide) (by decide) (by decide) (As := []) (rest := []) rfl (nb rfl) rfl d_Model_goesOn_276 (fun _ _ => ?_)
                          refine j_ws (ws' := [(ma 0, .inl (y 0, 1600, .inl (tby tx))), MB mo ma (nI t1) (nI u2451) (nI t3) i4 0 i6 i7 i8 i42 i49 (nI (yc + 1)) (nI (yn - 1)) (nI oz) (nI bs) i61 i64 i66 (nI t67) i76 i78, (ma 50, .inl (y 0, 3200, .inl (upd yf yc (g52 (yn - 1))))), (ma 52, .inl (y 0, 1700, .inl g52))]) rfl ?_
                          refine j_goto (pc := 279) C (tgt := 243) d_Model_goesOn_279 (by decide) ?_
                          refine j_sub (ws' := [(ma 50, .inl (y 0, 3200, .inl (upd yf yc (g52 (yn - 1))))), (ma 52, .inl (y 0, 1700, .inl g52)), MB mo ma (nI t1) (nI u2451) (nI t3) i4 0 i6 i7 i8 i42 i49 (nI (yc + 1)) (nI (yn - 1)) (nI oz) (nI bs) i61 i64 i66 (nI t67) i76 i78, (ma 0, .inl (y 0, 1600, .inl (tby tx)))]) [2, 3, 1, 0] rfl (by decide) ?_
                          exact ih2600 ((yc + 1), (yn - 1), (upd yf yc (g52 (yn - 1))), sq2631, (putS vq2630 cy)) ⟨(show bs ≤ (yn - 1) by omega), (show (yn - 1) ≤ zn by omega), (show RS kq s0 f0 (xx + 1) 0 (upd yf yc (g52 (yn - 1))) g52 (yc + 1) (yn - 1) az from rs_drop hRy_ (by omega) (show yn = yn - 1 + 1 by omega) (Or.inl (by rw [e2615]; decide))), xh2635, (show CD (putS vq2630 cy) (upd yf yc (g52 (yn - 1))) (yc + 1) from cd_put hCy_ (by omega) xh2633 (by omega)), (show drp isAo sq2631 (putS vq2630 cy) = drp isAo sz cz by rw [← hDy_, xh2632]; exact (drp_go (by rw [xh2636]; decide)).symm), (opn_tl (by have hq := hOy_; rw [xh2632] at hq; exact hq))⟩ (show (yn - 1) < yn by omega)
                      · refine j_if_neT (pc := 256) C (tgt := 275) d_Model_goesOn_256 (by decide) (by decide) ?_
                        have hbz : bs < yn := top_s hT e2610 (by omega) (by omega) (by decide)
                        obtain ⟨vq2637, sq2638, xh2639, xh2640, xh2641, xh2642⟩ := wb_top hWy_ hbz
                        have xh2643 : vq2637 = 4 := on_yes xh2640 xh2641 (by decide) e2610
                        refine j_aload_n (pc := 275) C d_Model_goesOn_275 rfl 1 rfl ?_
                        refine j_callVv (pc := 276) C (c_M_drops l D y mo ma t1 u2451 t3 i4 0 i6 i7 i8 i42 i49 yc yn (nI oz) (nI bs) i61 i64 i66 t67 i76 i78 yf g52 (by omega) (by omega) (by omega)) kw_Model_350 kv_Model_drops 0 10 rfl rfl ⟨by decide, by decide⟩ ⟨by decide, by decide⟩ (wr := [(ma 0, .inl (y 0, 1600, .inl (tby tx)))]) [2, 0, 3] [1] rfl rfl (by decide) (by decide) (by decide) (As := []) (rest := []) rfl (nb rfl) rfl d_Model_goesOn_276 (fun _ _ => ?_)
                        refine j_ws (ws' := [(ma 0, .inl (y 0, 1600, .inl (tby tx))), MB mo ma (nI t1) (nI u2451) (nI t3) i4 0 i6 i7 i8 i42 i49 (nI (yc + 1)) (nI (yn - 1)) (nI oz) (nI bs) i61 i64 i66 (nI t67) i76 i78, (ma 50, .inl (y 0, 3200, .inl (upd yf yc (g52 (yn - 1))))), (ma 52, .inl (y 0, 1700, .inl g52))]) rfl ?_
                        refine j_goto (pc := 279) C (tgt := 243) d_Model_goesOn_279 (by decide) ?_
                        refine j_sub (ws' := [(ma 50, .inl (y 0, 3200, .inl (upd yf yc (g52 (yn - 1))))), (ma 52, .inl (y 0, 1700, .inl g52)), MB mo ma (nI t1) (nI u2451) (nI t3) i4 0 i6 i7 i8 i42 i49 (nI (yc + 1)) (nI (yn - 1)) (nI oz) (nI bs) i61 i64 i66 (nI t67) i76 i78, (ma 0, .inl (y 0, 1600, .inl (tby tx)))]) [2, 3, 1, 0] rfl (by decide) ?_
                        exact ih2600 ((yc + 1), (yn - 1), (upd yf yc (g52 (yn - 1))), sq2638, (putS vq2637 cy)) ⟨(show bs ≤ (yn - 1) by omega), (show (yn - 1) ≤ zn by omega), (show RS kq s0 f0 (xx + 1) 0 (upd yf yc (g52 (yn - 1))) g52 (yc + 1) (yn - 1) az from rs_drop hRy_ (by omega) (show yn = yn - 1 + 1 by omega) (Or.inl (by rw [e2610]; decide))), xh2642, (show CD (putS vq2637 cy) (upd yf yc (g52 (yn - 1))) (yc + 1) from cd_put hCy_ (by omega) xh2640 (by omega)), (show drp isAo sq2638 (putS vq2637 cy) = drp isAo sz cz by rw [← hDy_, xh2639]; exact (drp_go (by rw [xh2643]; decide)).symm), (opn_tl (by have hq := hOy_; rw [xh2639] at hq; exact hq))⟩ (show (yn - 1) < yn by omega)
                    · refine j_if_neT (pc := 248) C (tgt := 275) d_Model_goesOn_248 (by decide) (by decide) ?_
                      have hbz : bs < yn := top_s hT e2605 (by omega) (by omega) (by decide)
                      obtain ⟨vq2644, sq2645, xh2646, xh2647, xh2648, xh2649⟩ := wb_top hWy_ hbz
                      have xh2650 : vq2644 = 3 := on_yes xh2647 xh2648 (by decide) e2605
                      refine j_aload_n (pc := 275) C d_Model_goesOn_275 rfl 1 rfl ?_
                      refine j_callVv (pc := 276) C (c_M_drops l D y mo ma t1 u2451 t3 i4 0 i6 i7 i8 i42 i49 yc yn (nI oz) (nI bs) i61 i64 i66 t67 i76 i78 yf g52 (by omega) (by omega) (by omega)) kw_Model_350 kv_Model_drops 0 10 rfl rfl ⟨by decide, by decide⟩ ⟨by decide, by decide⟩ (wr := [(ma 0, .inl (y 0, 1600, .inl (tby tx)))]) [2, 0, 3] [1] rfl rfl (by decide) (by decide) (by decide) (As := []) (rest := []) rfl (nb rfl) rfl d_Model_goesOn_276 (fun _ _ => ?_)
                      refine j_ws (ws' := [(ma 0, .inl (y 0, 1600, .inl (tby tx))), MB mo ma (nI t1) (nI u2451) (nI t3) i4 0 i6 i7 i8 i42 i49 (nI (yc + 1)) (nI (yn - 1)) (nI oz) (nI bs) i61 i64 i66 (nI t67) i76 i78, (ma 50, .inl (y 0, 3200, .inl (upd yf yc (g52 (yn - 1))))), (ma 52, .inl (y 0, 1700, .inl g52))]) rfl ?_
                      refine j_goto (pc := 279) C (tgt := 243) d_Model_goesOn_279 (by decide) ?_
                      refine j_sub (ws' := [(ma 50, .inl (y 0, 3200, .inl (upd yf yc (g52 (yn - 1))))), (ma 52, .inl (y 0, 1700, .inl g52)), MB mo ma (nI t1) (nI u2451) (nI t3) i4 0 i6 i7 i8 i42 i49 (nI (yc + 1)) (nI (yn - 1)) (nI oz) (nI bs) i61 i64 i66 (nI t67) i76 i78, (ma 0, .inl (y 0, 1600, .inl (tby tx)))]) [2, 3, 1, 0] rfl (by decide) ?_
                      exact ih2600 ((yc + 1), (yn - 1), (upd yf yc (g52 (yn - 1))), sq2645, (putS vq2644 cy)) ⟨(show bs ≤ (yn - 1) by omega), (show (yn - 1) ≤ zn by omega), (show RS kq s0 f0 (xx + 1) 0 (upd yf yc (g52 (yn - 1))) g52 (yc + 1) (yn - 1) az from rs_drop hRy_ (by omega) (show yn = yn - 1 + 1 by omega) (Or.inl (by rw [e2605]; decide))), xh2649, (show CD (putS vq2644 cy) (upd yf yc (g52 (yn - 1))) (yc + 1) from cd_put hCy_ (by omega) xh2647 (by omega)), (show drp isAo sq2645 (putS vq2644 cy) = drp isAo sz cz by rw [← hDy_, xh2646]; exact (drp_go (by rw [xh2650]; decide)).symm), (opn_tl (by have hq := hOy_; rw [xh2646] at hq; exact hq))⟩ (show (yn - 1) < yn by omega)
                · refine j_if_neT (pc := 209) C (tgt := 221) d_Model_goesOn_209 (by decide) (by decide) ?_
                  refine j_aload_n (pc := 221) C d_Model_goesOn_221 rfl 0 rfl ?_
                  refine j_get (pc := 222) C gf_Model_7 2 rfl rfl d_Model_goesOn_222 ?_
                  refine j_aload_n (pc := 225) C d_Model_goesOn_225 rfl 0 rfl ?_
                  refine j_get (pc := 226) C gf_Model_207 2 rfl rfl d_Model_goesOn_226 ?_
                  refine j_iconst (pc := 229) C (v := 1) d_Model_goesOn_229 (by decide) ?_
                  refine j_isub (pc := 230) C (v := nI (u2438 - 1)) d_Model_goesOn_230 (pk_sub (a := u2438) (b := 1) (by omega)) ?_
                  refine j_iald (pc := 231) C 3 rfl (v := 43) (vp_in_nI (by omega) (by decide)) (by rw [nI_clamp (by omega)]; exact congrArg nI xh2449) d_Model_goesOn_231 ?_
                  refine j_bipush (pc := 232) C (v := 43) d_Model_goesOn_232 (by decide) ?_
                  refine j_icmp_neF (pc := 234) C (tgt := 241) d_Model_goesOn_234 (by decide) (by decide) ?_
                  refine j_iconst (pc := 237) C (v := 1) d_Model_goesOn_237 (by decide) ?_
                  refine j_goto (pc := 238) C (tgt := 242) d_Model_goesOn_238 (by decide) ?_
                  refine j_istore_n (pc := 242) C (lv' := [(1, .int 1), (0, .ref mo)]) d_Model_goesOn_242 rfl (by decide) rfl ?_
                  refine j_loop (α := Nat × Nat × (Nat → Int32) × List Nat × List Nat) (fun a => a.2.1) (fun a => (bs ≤ a.2.1) ∧ (a.2.1 ≤ zn) ∧ (RS kq s0 f0 (xx + 1) 0 a.2.2.1 g52 a.1 a.2.1 az) ∧ (WB a.2.2.2.1 g52 bs a.2.1) ∧ (CD a.2.2.2.2 a.2.2.1 a.1) ∧ (drp isAo a.2.2.2.1 a.2.2.2.2 = drp isAo sz cz) ∧ (opn a.2.2.2.1 ≤ oz)) (fun a => [(ma 50, .inl (y 0, 3200, .inl a.2.2.1)), (ma 52, .inl (y 0, 1700, .inl g52)), MB mo ma (nI t1) (nI u2438) (nI t3) i4 0 i6 i7 i8 i42 i49 (nI a.1) (nI a.2.1) (nI oz) (nI bs) i61 i64 i66 (nI t67) i76 i78, (ma 0, .inl (y 0, 1600, .inl (tby tx)))]) (fun a => [(1, .int 1), (0, .ref mo)]) (zc, zn, zf, sz, cz) rfl rfl ⟨hb_, (show zn ≤ zn by omega), hR_, hwz_, hcz_, rfl, hoz_⟩ ?_
                  rintro ⟨yc, yn, yf, sy, cy⟩ hP2701 ih2702
                  obtain ⟨hby__, hny__, hRy__, hWy__, hCy__, hDy__, hOy__⟩ := hP2701
                  have hby_ : bs ≤ yn := hby__
                  have hny_ : yn ≤ zn := hny__
                  have hRy_ : RS kq s0 f0 (xx + 1) 0 yf g52 yc yn az := hRy__
                  have hWy_ : WB sy g52 bs yn := hWy__
                  have hCy_ : CD cy yf yc := hCy__
                  have hDy_ : drp isAo sy cy = drp isAo sz cz := hDy__
                  have hOy_ : opn sy ≤ oz := hOy__
                  refine j_ws (ws' := [(ma 50, .inl (y 0, 3200, .inl yf)), (ma 52, .inl (y 0, 1700, .inl g52)), MB mo ma (nI t1) (nI u2438) (nI t3) i4 0 i6 i7 i8 i42 i49 (nI yc) (nI yn) (nI oz) (nI bs) i61 i64 i66 (nI t67) i76 i78, (ma 0, .inl (y 0, 1600, .inl (tby tx)))]) rfl ?_
                  refine j_lv (lv' := [(1, .int 1), (0, .ref mo)]) rfl ?_
                  have hacy := rs_ac3 hRy_
                  have hSy_ : ISm g52 bs yn := is_le hS (by omega)
                  refine j_aload_n (pc := 243) C d_Model_goesOn_243 rfl 1 rfl ?_
                  refine j_iconst (pc := 244) C (v := 3) d_Model_goesOn_244 (by decide) ?_
                  refine j_callVi (pc := 245) C (c_M_isOn l D y mo ma t1 u2438 t3 i4 0 i6 i7 i8 i42 i49 (nI yc) yn (nI oz) (nI bs) i61 i64 i66 t67 i76 i78 g52 3 (by omega)) kw_Model_362 kv_Model_isOn 0 10 rfl rfl ⟨by decide, by decide⟩ ⟨by decide, by decide⟩ (wr := [(ma 50, .inl (y 0, 3200, .inl yf)), (ma 0, .inl (y 0, 1600, .inl (tby tx)))]) [2, 1] [0, 3] rfl rfl (by decide) (by decide) (by decide) (As := [.int 3]) (rest := []) rfl (nb rfl) rfl d_Model_goesOn_245 (fun r2703 _ hr2703 => ?_)
                  refine j_ws (ws' := [(ma 50, .inl (y 0, 3200, .inl yf)), (ma 0, .inl (y 0, 1600, .inl (tby tx))), MB mo ma (nI t1) (nI u2438) (nI t3) i4 0 i6 i7 i8 i42 i49 (nI yc) (nI yn) (nI oz) (nI bs) i61 i64 i66 (nI t67) i76 i78, (ma 52, .inl (y 0, 1700, .inl g52))]) rfl ?_
                  rcases hr2703 with ⟨rfl, xh2705⟩ | ⟨rfl, xh2706, e2707⟩
                  · refine j_if_neF (pc := 248) C (tgt := 275) d_Model_goesOn_248 (by decide) (by decide) ?_
                    refine j_aload_n (pc := 251) C d_Model_goesOn_251 rfl 1 rfl ?_
                    refine j_iconst (pc := 252) C (v := 4) d_Model_goesOn_252 (by decide) ?_
                    refine j_callVi (pc := 253) C (c_M_isOn l D y mo ma t1 u2438 t3 i4 0 i6 i7 i8 i42 i49 (nI yc) yn (nI oz) (nI bs) i61 i64 i66 t67 i76 i78 g52 4 (by omega)) kw_Model_362 kv_Model_isOn 0 10 rfl rfl ⟨by decide, by decide⟩ ⟨by decide, by decide⟩ (wr := [(ma 50, .inl (y 0, 3200, .inl yf)), (ma 0, .inl (y 0, 1600, .inl (tby tx)))]) [2, 3] [0, 1] rfl rfl (by decide) (by decide) (by decide) (As := [.int 4]) (rest := []) rfl (nb rfl) rfl d_Model_goesOn_253 (fun r2708 _ hr2708 => ?_)
                    refine j_ws (ws' := [(ma 50, .inl (y 0, 3200, .inl yf)), (ma 0, .inl (y 0, 1600, .inl (tby tx))), MB mo ma (nI t1) (nI u2438) (nI t3) i4 0 i6 i7 i8 i42 i49 (nI yc) (nI yn) (nI oz) (nI bs) i61 i64 i66 (nI t67) i76 i78, (ma 52, .inl (y 0, 1700, .inl g52))]) rfl ?_
                    rcases hr2708 with ⟨rfl, xh2710⟩ | ⟨rfl, xh2711, e2712⟩
                    · refine j_if_neF (pc := 256) C (tgt := 275) d_Model_goesOn_256 (by decide) (by decide) ?_
                      refine j_aload_n (pc := 259) C d_Model_goesOn_259 rfl 1 rfl ?_
                      refine j_iconst (pc := 260) C (v := 1) d_Model_goesOn_260 (by decide) ?_
                      refine j_callVi (pc := 261) C (c_M_isOn l D y mo ma t1 u2438 t3 i4 0 i6 i7 i8 i42 i49 (nI yc) yn (nI oz) (nI bs) i61 i64 i66 t67 i76 i78 g52 1 (by omega)) kw_Model_362 kv_Model_isOn 0 10 rfl rfl ⟨by decide, by decide⟩ ⟨by decide, by decide⟩ (wr := [(ma 50, .inl (y 0, 3200, .inl yf)), (ma 0, .inl (y 0, 1600, .inl (tby tx)))]) [2, 3] [0, 1] rfl rfl (by decide) (by decide) (by decide) (As := [.int 1]) (rest := []) rfl (nb rfl) rfl d_Model_goesOn_261 (fun r2713 _ hr2713 => ?_)
                      refine j_ws (ws' := [(ma 50, .inl (y 0, 3200, .inl yf)), (ma 0, .inl (y 0, 1600, .inl (tby tx))), MB mo ma (nI t1) (nI u2438) (nI t3) i4 0 i6 i7 i8 i42 i49 (nI yc) (nI yn) (nI oz) (nI bs) i61 i64 i66 (nI t67) i76 i78, (ma 52, .inl (y 0, 1700, .inl g52))]) rfl ?_
                      rcases hr2713 with ⟨rfl, xh2715⟩ | ⟨rfl, xh2716, e2717⟩
                      · refine j_if_neF (pc := 264) C (tgt := 275) d_Model_goesOn_264 (by decide) (by decide) ?_
                        refine j_aload_n (pc := 267) C d_Model_goesOn_267 rfl 1 rfl ?_
                        refine j_iconst (pc := 268) C (v := 2) d_Model_goesOn_268 (by decide) ?_
                        refine j_callVi (pc := 269) C (c_M_isOn l D y mo ma t1 u2438 t3 i4 0 i6 i7 i8 i42 i49 (nI yc) yn (nI oz) (nI bs) i61 i64 i66 t67 i76 i78 g52 2 (by omega)) kw_Model_362 kv_Model_isOn 0 10 rfl rfl ⟨by decide, by decide⟩ ⟨by decide, by decide⟩ (wr := [(ma 50, .inl (y 0, 3200, .inl yf)), (ma 0, .inl (y 0, 1600, .inl (tby tx)))]) [2, 3] [0, 1] rfl rfl (by decide) (by decide) (by decide) (As := [.int 2]) (rest := []) rfl (nb rfl) rfl d_Model_goesOn_269 (fun r2718 _ hr2718 => ?_)
                        refine j_ws (ws' := [(ma 50, .inl (y 0, 3200, .inl yf)), (ma 0, .inl (y 0, 1600, .inl (tby tx))), MB mo ma (nI t1) (nI u2438) (nI t3) i4 0 i6 i7 i8 i42 i49 (nI yc) (nI yn) (nI oz) (nI bs) i61 i64 i66 (nI t67) i76 i78, (ma 52, .inl (y 0, 1700, .inl g52))]) rfl ?_
                        rcases hr2718 with ⟨rfl, xh2720⟩ | ⟨rfl, xh2721, e2722⟩
                        · refine j_if_eqT (pc := 272) C (tgt := 282) d_Model_goesOn_272 (by decide) (by decide) ?_
                          have xh2723 : drp isAo sz cz = (sy, cy) := hDy_.symm.trans (drp_no (fun v hv => ao_no (on_no (c := 1) hWy_ xh2715 v hv) (on_no (c := 2) hWy_ xh2720 v hv) (on_no (c := 3) hWy_ xh2705 v hv) (on_no (c := 4) hWy_ xh2710 v hv)))
                          have xh2724 : Rch tx t3 (1, (gs, cs, sk, oo)) (0, ((advS tx t3 gz), cy, (1 :: sy), oz)) := hrc_.tr (Rch.st ((stA _ _ _ _).trans ((sA_A (Or.inl xh2446)).trans (by rw [xh2723, if_pos xh2446]))) (Rch.rf _))
                          refine j_aload_n (pc := 282) C d_Model_goesOn_282 rfl 1 rfl ?_
                          refine j_get (pc := 283) C gf_Model_139 2 rfl rfl d_Model_goesOn_283 ?_
                          refine j_aload_n (pc := 286) C d_Model_goesOn_286 rfl 1 rfl ?_
                          refine j_get (pc := 287) C gf_Model_292 2 rfl rfl d_Model_goesOn_287 ?_
                          refine j_iload_n (pc := 290) C d_Model_goesOn_290 rfl 0 rfl ?_
                          refine j_iast (pc := 291) C 3 rfl (ws' := [(ma 50, .inl (y 0, 3200, .inl yf)), (ma 0, .inl (y 0, 1600, .inl (tby tx))), MB mo ma (nI t1) (nI u2438) (nI t3) i4 0 i6 i7 i8 i42 i49 (nI yc) (nI yn) (nI oz) (nI bs) i61 i64 i66 (nI t67) i76 i78, (ma 52, .inl (y 0, 1700, .inl (upd g52 yn 1)))]) (vp_in_nI (by omega) (by decide)) (by rw [nI_clamp (by omega)]; rfl) d_Model_goesOn_291 ?_
                          refine j_aload_n (pc := 292) C d_Model_goesOn_292 rfl 1 rfl ?_
                          refine j_dup (pc := 293) C d_Model_goesOn_293 rfl ?_
                          refine j_get (pc := 294) C gf_Model_292 2 rfl rfl d_Model_goesOn_294 ?_
                          refine j_iconst (pc := 297) C (v := 1) d_Model_goesOn_297 (by decide) ?_
                          refine j_iadd (pc := 298) C (v := nI (yn + 1)) d_Model_goesOn_298 (nI_add _ _) ?_
                          refine j_put (pc := 299) C pf_Model_292 2 (ws' := [(ma 50, .inl (y 0, 3200, .inl yf)), (ma 0, .inl (y 0, 1600, .inl (tby tx))), MB mo ma (nI t1) (nI u2438) (nI t3) i4 0 i6 i7 i8 i42 i49 (nI yc) (nI (yn + 1)) (nI oz) (nI bs) i61 i64 i66 (nI t67) i76 i78, (ma 52, .inl (y 0, 1700, .inl (upd g52 yn 1)))]) rfl rfl rfl (nl rfl) rfl d_Model_goesOn_299 ?_
                          refine j_iconst (pc := 302) C (v := 1) d_Model_goesOn_302 (by decide) ?_
                          exact j_iret (pc := 303) C hr (by decide) (u2438, 0, i6, yc, (yn + 1), oz, yf, (upd g52 yn 1), (advS tx t3 gz), cy, (1 :: sy)) ⟨(show t2 ≤ u2438 by omega), (show u2438 ≤ t3 by omega), (fun _ => ⟨rfl, by omega⟩), (it_up hT (show bs ≤ yn by omega)), (is_up hSy_ (by decide)), (show bs ≤ (yn + 1) by omega), xh2445, (fun j hj => pk_un (show j ≠ yn by omega)), (show oz ≤ 6 by omega), (Or.inl ⟨rfl, rfl, rs_op hRy_ (by decide) (show az < u2438 by omega), xh2724, hCy_, wb_push hWy_ (by decide), opn_op hOy_ (by decide)⟩)⟩ [2, 1, 0, 3] rfl (by decide) (by decide) (by decide) d_Model_goesOn_303
                        · refine j_if_eqF (pc := 272) C (tgt := 282) d_Model_goesOn_272 (by decide) (by decide) ?_
                          have hbz : bs < yn := top_s hT e2722 (by omega) (by omega) (by decide)
                          obtain ⟨vq2725, sq2726, xh2727, xh2728, xh2729, xh2730⟩ := wb_top hWy_ hbz
                          have xh2731 : vq2725 = 2 := on_yes xh2728 xh2729 (by decide) e2722
                          refine j_aload_n (pc := 275) C d_Model_goesOn_275 rfl 1 rfl ?_
                          refine j_callVv (pc := 276) C (c_M_drops l D y mo ma t1 u2438 t3 i4 0 i6 i7 i8 i42 i49 yc yn (nI oz) (nI bs) i61 i64 i66 t67 i76 i78 yf g52 (by omega) (by omega) (by omega)) kw_Model_350 kv_Model_drops 0 10 rfl rfl ⟨by decide, by decide⟩ ⟨by decide, by decide⟩ (wr := [(ma 0, .inl (y 0, 1600, .inl (tby tx)))]) [2, 0, 3] [1] rfl rfl (by decide) (by decide) (by decide) (As := []) (rest := []) rfl (nb rfl) rfl d_Model_goesOn_276 (fun _ _ => ?_)
                          refine j_ws (ws' := [(ma 0, .inl (y 0, 1600, .inl (tby tx))), MB mo ma (nI t1) (nI u2438) (nI t3) i4 0 i6 i7 i8 i42 i49 (nI (yc + 1)) (nI (yn - 1)) (nI oz) (nI bs) i61 i64 i66 (nI t67) i76 i78, (ma 50, .inl (y 0, 3200, .inl (upd yf yc (g52 (yn - 1))))), (ma 52, .inl (y 0, 1700, .inl g52))]) rfl ?_
                          refine j_goto (pc := 279) C (tgt := 243) d_Model_goesOn_279 (by decide) ?_
                          refine j_sub (ws' := [(ma 50, .inl (y 0, 3200, .inl (upd yf yc (g52 (yn - 1))))), (ma 52, .inl (y 0, 1700, .inl g52)), MB mo ma (nI t1) (nI u2438) (nI t3) i4 0 i6 i7 i8 i42 i49 (nI (yc + 1)) (nI (yn - 1)) (nI oz) (nI bs) i61 i64 i66 (nI t67) i76 i78, (ma 0, .inl (y 0, 1600, .inl (tby tx)))]) [2, 3, 1, 0] rfl (by decide) ?_
                          exact ih2702 ((yc + 1), (yn - 1), (upd yf yc (g52 (yn - 1))), sq2726, (putS vq2725 cy)) ⟨(show bs ≤ (yn - 1) by omega), (show (yn - 1) ≤ zn by omega), (show RS kq s0 f0 (xx + 1) 0 (upd yf yc (g52 (yn - 1))) g52 (yc + 1) (yn - 1) az from rs_drop hRy_ (by omega) (show yn = yn - 1 + 1 by omega) (Or.inl (by rw [e2722]; decide))), xh2730, (show CD (putS vq2725 cy) (upd yf yc (g52 (yn - 1))) (yc + 1) from cd_put hCy_ (by omega) xh2728 (by omega)), (show drp isAo sq2726 (putS vq2725 cy) = drp isAo sz cz by rw [← hDy_, xh2727]; exact (drp_go (by rw [xh2731]; decide)).symm), (opn_tl (by have hq := hOy_; rw [xh2727] at hq; exact hq))⟩ (show (yn - 1) < yn by omega)
                      · refine j_if_neT (pc := 264) C (tgt := 275) d_Model_goesOn_264 (by decide) (by decide) ?_
                        have hbz : bs < yn := top_s hT e2717 (by omega) (by omega) (by decide)
                        obtain ⟨vq2732, sq2733, xh2734, xh2735, xh2736, xh2737⟩ := wb_top hWy_ hbz
                        have xh2738 : vq2732 = 1 := on_yes xh2735 xh2736 (by decide) e2717
                        refine j_aload_n (pc := 275) C d_Model_goesOn_275 rfl 1 rfl ?_
                        refine j_callVv (pc := 276) C (c_M_drops l D y mo ma t1 u2438 t3 i4 0 i6 i7 i8 i42 i49 yc yn (nI oz) (nI bs) i61 i64 i66 t67 i76 i78 yf g52 (by omega) (by omega) (by omega)) kw_Model_350 kv_Model_drops 0 10 rfl rfl ⟨by decide, by decide⟩ ⟨by decide, by decide⟩ (wr := [(ma 0, .inl (y 0, 1600, .inl (tby tx)))]) [2, 0, 3] [1] rfl rfl (by decide) (by decide) (by decide) (As := []) (rest := []) rfl (nb rfl) rfl d_Model_goesOn_276 (fun _ _ => ?_)
                        refine j_ws (ws' := [(ma 0, .inl (y 0, 1600, .inl (tby tx))), MB mo ma (nI t1) (nI u2438) (nI t3) i4 0 i6 i7 i8 i42 i49 (nI (yc + 1)) (nI (yn - 1)) (nI oz) (nI bs) i61 i64 i66 (nI t67) i76 i78, (ma 50, .inl (y 0, 3200, .inl (upd yf yc (g52 (yn - 1))))), (ma 52, .inl (y 0, 1700, .inl g52))]) rfl ?_
                        refine j_goto (pc := 279) C (tgt := 243) d_Model_goesOn_279 (by decide) ?_
                        refine j_sub (ws' := [(ma 50, .inl (y 0, 3200, .inl (upd yf yc (g52 (yn - 1))))), (ma 52, .inl (y 0, 1700, .inl g52)), MB mo ma (nI t1) (nI u2438) (nI t3) i4 0 i6 i7 i8 i42 i49 (nI (yc + 1)) (nI (yn - 1)) (nI oz) (nI bs) i61 i64 i66 (nI t67) i76 i78, (ma 0, .inl (y 0, 1600, .inl (tby tx)))]) [2, 3, 1, 0] rfl (by decide) ?_
                        exact ih2702 ((yc + 1), (yn - 1), (upd yf yc (g52 (yn - 1))), sq2733, (putS vq2732 cy)) ⟨(show bs ≤ (yn - 1) by omega), (show (yn - 1) ≤ zn by omega), (show RS kq s0 f0 (xx + 1) 0 (upd yf yc (g52 (yn - 1))) g52 (yc + 1) (yn - 1) az from rs_drop hRy_ (by omega) (show yn = yn - 1 + 1 by omega) (Or.inl (by rw [e2717]; decide))), xh2737, (show CD (putS vq2732 cy) (upd yf yc (g52 (yn - 1))) (yc + 1) from cd_put hCy_ (by omega) xh2735 (by omega)), (show drp isAo sq2733 (putS vq2732 cy) = drp isAo sz cz by rw [← hDy_, xh2734]; exact (drp_go (by rw [xh2738]; decide)).symm), (opn_tl (by have hq := hOy_; rw [xh2734] at hq; exact hq))⟩ (show (yn - 1) < yn by omega)
                    · refine j_if_neT (pc := 256) C (tgt := 275) d_Model_goesOn_256 (by decide) (by decide) ?_
                      have hbz : bs < yn := top_s hT e2712 (by omega) (by omega) (by decide)
                      obtain ⟨vq2739, sq2740, xh2741, xh2742, xh2743, xh2744⟩ := wb_top hWy_ hbz
                      have xh2745 : vq2739 = 4 := on_yes xh2742 xh2743 (by decide) e2712
                      refine j_aload_n (pc := 275) C d_Model_goesOn_275 rfl 1 rfl ?_
                      refine j_callVv (pc := 276) C (c_M_drops l D y mo ma t1 u2438 t3 i4 0 i6 i7 i8 i42 i49 yc yn (nI oz) (nI bs) i61 i64 i66 t67 i76 i78 yf g52 (by omega) (by omega) (by omega)) kw_Model_350 kv_Model_drops 0 10 rfl rfl ⟨by decide, by decide⟩ ⟨by decide, by decide⟩ (wr := [(ma 0, .inl (y 0, 1600, .inl (tby tx)))]) [2, 0, 3] [1] rfl rfl (by decide) (by decide) (by decide) (As := []) (rest := []) rfl (nb rfl) rfl d_Model_goesOn_276 (fun _ _ => ?_)
                      refine j_ws (ws' := [(ma 0, .inl (y 0, 1600, .inl (tby tx))), MB mo ma (nI t1) (nI u2438) (nI t3) i4 0 i6 i7 i8 i42 i49 (nI (yc + 1)) (nI (yn - 1)) (nI oz) (nI bs) i61 i64 i66 (nI t67) i76 i78, (ma 50, .inl (y 0, 3200, .inl (upd yf yc (g52 (yn - 1))))), (ma 52, .inl (y 0, 1700, .inl g52))]) rfl ?_
                      refine j_goto (pc := 279) C (tgt := 243) d_Model_goesOn_279 (by decide) ?_
                      refine j_sub (ws' := [(ma 50, .inl (y 0, 3200, .inl (upd yf yc (g52 (yn - 1))))), (ma 52, .inl (y 0, 1700, .inl g52)), MB mo ma (nI t1) (nI u2438) (nI t3) i4 0 i6 i7 i8 i42 i49 (nI (yc + 1)) (nI (yn - 1)) (nI oz) (nI bs) i61 i64 i66 (nI t67) i76 i78, (ma 0, .inl (y 0, 1600, .inl (tby tx)))]) [2, 3, 1, 0] rfl (by decide) ?_
                      exact ih2702 ((yc + 1), (yn - 1), (upd yf yc (g52 (yn - 1))), sq2740, (putS vq2739 cy)) ⟨(show bs ≤ (yn - 1) by omega), (show (yn - 1) ≤ zn by omega), (show RS kq s0 f0 (xx + 1) 0 (upd yf yc (g52 (yn - 1))) g52 (yc + 1) (yn - 1) az from rs_drop hRy_ (by omega) (show yn = yn - 1 + 1 by omega) (Or.inl (by rw [e2712]; decide))), xh2744, (show CD (putS vq2739 cy) (upd yf yc (g52 (yn - 1))) (yc + 1) from cd_put hCy_ (by omega) xh2742 (by omega)), (show drp isAo sq2740 (putS vq2739 cy) = drp isAo sz cz by rw [← hDy_, xh2741]; exact (drp_go (by rw [xh2745]; decide)).symm), (opn_tl (by have hq := hOy_; rw [xh2741] at hq; exact hq))⟩ (show (yn - 1) < yn by omega)
                  · refine j_if_neT (pc := 248) C (tgt := 275) d_Model_goesOn_248 (by decide) (by decide) ?_
                    have hbz : bs < yn := top_s hT e2707 (by omega) (by omega) (by decide)
                    obtain ⟨vq2746, sq2747, xh2748, xh2749, xh2750, xh2751⟩ := wb_top hWy_ hbz
                    have xh2752 : vq2746 = 3 := on_yes xh2749 xh2750 (by decide) e2707
                    refine j_aload_n (pc := 275) C d_Model_goesOn_275 rfl 1 rfl ?_
                    refine j_callVv (pc := 276) C (c_M_drops l D y mo ma t1 u2438 t3 i4 0 i6 i7 i8 i42 i49 yc yn (nI oz) (nI bs) i61 i64 i66 t67 i76 i78 yf g52 (by omega) (by omega) (by omega)) kw_Model_350 kv_Model_drops 0 10 rfl rfl ⟨by decide, by decide⟩ ⟨by decide, by decide⟩ (wr := [(ma 0, .inl (y 0, 1600, .inl (tby tx)))]) [2, 0, 3] [1] rfl rfl (by decide) (by decide) (by decide) (As := []) (rest := []) rfl (nb rfl) rfl d_Model_goesOn_276 (fun _ _ => ?_)
                    refine j_ws (ws' := [(ma 0, .inl (y 0, 1600, .inl (tby tx))), MB mo ma (nI t1) (nI u2438) (nI t3) i4 0 i6 i7 i8 i42 i49 (nI (yc + 1)) (nI (yn - 1)) (nI oz) (nI bs) i61 i64 i66 (nI t67) i76 i78, (ma 50, .inl (y 0, 3200, .inl (upd yf yc (g52 (yn - 1))))), (ma 52, .inl (y 0, 1700, .inl g52))]) rfl ?_
                    refine j_goto (pc := 279) C (tgt := 243) d_Model_goesOn_279 (by decide) ?_
                    refine j_sub (ws' := [(ma 50, .inl (y 0, 3200, .inl (upd yf yc (g52 (yn - 1))))), (ma 52, .inl (y 0, 1700, .inl g52)), MB mo ma (nI t1) (nI u2438) (nI t3) i4 0 i6 i7 i8 i42 i49 (nI (yc + 1)) (nI (yn - 1)) (nI oz) (nI bs) i61 i64 i66 (nI t67) i76 i78, (ma 0, .inl (y 0, 1600, .inl (tby tx)))]) [2, 3, 1, 0] rfl (by decide) ?_
                    exact ih2702 ((yc + 1), (yn - 1), (upd yf yc (g52 (yn - 1))), sq2747, (putS vq2746 cy)) ⟨(show bs ≤ (yn - 1) by omega), (show (yn - 1) ≤ zn by omega), (show RS kq s0 f0 (xx + 1) 0 (upd yf yc (g52 (yn - 1))) g52 (yc + 1) (yn - 1) az from rs_drop hRy_ (by omega) (show yn = yn - 1 + 1 by omega) (Or.inl (by rw [e2707]; decide))), xh2751, (show CD (putS vq2746 cy) (upd yf yc (g52 (yn - 1))) (yc + 1) from cd_put hCy_ (by omega) xh2749 (by omega)), (show drp isAo sq2747 (putS vq2746 cy) = drp isAo sz cz by rw [← hDy_, xh2748]; exact (drp_go (by rw [xh2752]; decide)).symm), (opn_tl (by have hq := hOy_; rw [xh2748] at hq; exact hq))⟩ (show (yn - 1) < yn by omega)
              · refine j_if_eqF (pc := 133) C (tgt := 203) d_Model_goesOn_133 (by decide) (by decide) ?_
                refine j_aload_n (pc := 136) C d_Model_goesOn_136 rfl 0 rfl ?_
                refine j_get (pc := 137) C gf_Model_7 2 rfl rfl d_Model_goesOn_137 ?_
                refine j_aload_n (pc := 140) C d_Model_goesOn_140 rfl 0 rfl ?_
                refine j_get (pc := 141) C gf_Model_207 2 rfl rfl d_Model_goesOn_141 ?_
                refine j_iconst (pc := 144) C (v := 1) d_Model_goesOn_144 (by decide) ?_
                refine j_isub (pc := 145) C (v := nI (u2425 - 1)) d_Model_goesOn_145 (pk_sub (a := u2425) (b := 1) (by omega)) ?_
                refine j_iald (pc := 146) C 3 rfl (v := 47) (vp_in_nI (by omega) (by decide)) (by rw [nI_clamp (by omega)]; exact congrArg nI xh2436) d_Model_goesOn_146 ?_
                refine j_bipush (pc := 147) C (v := 42) d_Model_goesOn_147 (by decide) ?_
                refine j_icmp_neT (pc := 149) C (tgt := 156) d_Model_goesOn_149 (by decide) (by decide) ?_
                refine j_iconst (pc := 156) C (v := 4) d_Model_goesOn_156 (by decide) ?_
                refine j_istore_n (pc := 157) C (lv' := [(1, .int 4), (0, .ref mo)]) d_Model_goesOn_157 rfl (by decide) rfl ?_
                refine j_loop (α := Nat × Nat × (Nat → Int32) × List Nat × List Nat) (fun a => a.2.1) (fun a => (bs ≤ a.2.1) ∧ (a.2.1 ≤ zn) ∧ (RS kq s0 f0 (xx + 1) 0 a.2.2.1 g52 a.1 a.2.1 az) ∧ (WB a.2.2.2.1 g52 bs a.2.1) ∧ (CD a.2.2.2.2 a.2.2.1 a.1) ∧ (drp isMo a.2.2.2.1 a.2.2.2.2 = drp isMo sz cz) ∧ (opn a.2.2.2.1 ≤ oz)) (fun a => [(ma 50, .inl (y 0, 3200, .inl a.2.2.1)), (ma 52, .inl (y 0, 1700, .inl g52)), MB mo ma (nI t1) (nI u2425) (nI t3) i4 0 i6 i7 i8 i42 i49 (nI a.1) (nI a.2.1) (nI oz) (nI bs) i61 i64 i66 (nI t67) i76 i78, (ma 0, .inl (y 0, 1600, .inl (tby tx)))]) (fun a => [(1, .int 4), (0, .ref mo)]) (zc, zn, zf, sz, cz) rfl rfl ⟨hb_, (show zn ≤ zn by omega), hR_, hwz_, hcz_, rfl, hoz_⟩ ?_
                rintro ⟨yc, yn, yf, sy, cy⟩ hP2779 ih2780
                obtain ⟨hby__, hny__, hRy__, hWy__, hCy__, hDy__, hOy__⟩ := hP2779
                have hby_ : bs ≤ yn := hby__
                have hny_ : yn ≤ zn := hny__
                have hRy_ : RS kq s0 f0 (xx + 1) 0 yf g52 yc yn az := hRy__
                have hWy_ : WB sy g52 bs yn := hWy__
                have hCy_ : CD cy yf yc := hCy__
                have hDy_ : drp isMo sy cy = drp isMo sz cz := hDy__
                have hOy_ : opn sy ≤ oz := hOy__
                refine j_ws (ws' := [(ma 50, .inl (y 0, 3200, .inl yf)), (ma 52, .inl (y 0, 1700, .inl g52)), MB mo ma (nI t1) (nI u2425) (nI t3) i4 0 i6 i7 i8 i42 i49 (nI yc) (nI yn) (nI oz) (nI bs) i61 i64 i66 (nI t67) i76 i78, (ma 0, .inl (y 0, 1600, .inl (tby tx)))]) rfl ?_
                refine j_lv (lv' := [(1, .int 4), (0, .ref mo)]) rfl ?_
                have hacy := rs_ac3 hRy_
                have hSy_ : ISm g52 bs yn := is_le hS (by omega)
                refine j_aload_n (pc := 158) C d_Model_goesOn_158 rfl 1 rfl ?_
                refine j_iconst (pc := 159) C (v := 3) d_Model_goesOn_159 (by decide) ?_
                refine j_callVi (pc := 160) C (c_M_isOn l D y mo ma t1 u2425 t3 i4 0 i6 i7 i8 i42 i49 (nI yc) yn (nI oz) (nI bs) i61 i64 i66 t67 i76 i78 g52 3 (by omega)) kw_Model_362 kv_Model_isOn 0 10 rfl rfl ⟨by decide, by decide⟩ ⟨by decide, by decide⟩ (wr := [(ma 50, .inl (y 0, 3200, .inl yf)), (ma 0, .inl (y 0, 1600, .inl (tby tx)))]) [2, 1] [0, 3] rfl rfl (by decide) (by decide) (by decide) (As := [.int 3]) (rest := []) rfl (nb rfl) rfl d_Model_goesOn_160 (fun r2781 _ hr2781 => ?_)
                refine j_ws (ws' := [(ma 50, .inl (y 0, 3200, .inl yf)), (ma 0, .inl (y 0, 1600, .inl (tby tx))), MB mo ma (nI t1) (nI u2425) (nI t3) i4 0 i6 i7 i8 i42 i49 (nI yc) (nI yn) (nI oz) (nI bs) i61 i64 i66 (nI t67) i76 i78, (ma 52, .inl (y 0, 1700, .inl g52))]) rfl ?_
                rcases hr2781 with ⟨rfl, xh2783⟩ | ⟨rfl, xh2784, e2785⟩
                · refine j_if_neF (pc := 163) C (tgt := 174) d_Model_goesOn_163 (by decide) (by decide) ?_
                  refine j_aload_n (pc := 166) C d_Model_goesOn_166 rfl 1 rfl ?_
                  refine j_iconst (pc := 167) C (v := 4) d_Model_goesOn_167 (by decide) ?_
                  refine j_callVi (pc := 168) C (c_M_isOn l D y mo ma t1 u2425 t3 i4 0 i6 i7 i8 i42 i49 (nI yc) yn (nI oz) (nI bs) i61 i64 i66 t67 i76 i78 g52 4 (by omega)) kw_Model_362 kv_Model_isOn 0 10 rfl rfl ⟨by decide, by decide⟩ ⟨by decide, by decide⟩ (wr := [(ma 50, .inl (y 0, 3200, .inl yf)), (ma 0, .inl (y 0, 1600, .inl (tby tx)))]) [2, 3] [0, 1] rfl rfl (by decide) (by decide) (by decide) (As := [.int 4]) (rest := []) rfl (nb rfl) rfl d_Model_goesOn_168 (fun r2786 _ hr2786 => ?_)
                  refine j_ws (ws' := [(ma 50, .inl (y 0, 3200, .inl yf)), (ma 0, .inl (y 0, 1600, .inl (tby tx))), MB mo ma (nI t1) (nI u2425) (nI t3) i4 0 i6 i7 i8 i42 i49 (nI yc) (nI yn) (nI oz) (nI bs) i61 i64 i66 (nI t67) i76 i78, (ma 52, .inl (y 0, 1700, .inl g52))]) rfl ?_
                  rcases hr2786 with ⟨rfl, xh2788⟩ | ⟨rfl, xh2789, e2790⟩
                  · refine j_if_eqT (pc := 171) C (tgt := 181) d_Model_goesOn_171 (by decide) (by decide) ?_
                    have xh2791 : drp isMo sz cz = (sy, cy) := hDy_.symm.trans (drp_no (fun v hv => mo_no (on_no (c := 3) hWy_ xh2783 v hv) (on_no (c := 4) hWy_ xh2788 v hv)))
                    have xh2792 : Rch tx t3 (1, (gs, cs, sk, oo)) (0, ((advS tx t3 gz), cy, (4 :: sy), oz)) := hrc_.tr (Rch.st ((stA _ _ _ _).trans ((sA_M (Or.inr xh2433)).trans (by rw [xh2791, if_neg xh2417]))) (Rch.rf _))
                    refine j_aload_n (pc := 181) C d_Model_goesOn_181 rfl 1 rfl ?_
                    refine j_get (pc := 182) C gf_Model_139 2 rfl rfl d_Model_goesOn_182 ?_
                    refine j_aload_n (pc := 185) C d_Model_goesOn_185 rfl 1 rfl ?_
                    refine j_get (pc := 186) C gf_Model_292 2 rfl rfl d_Model_goesOn_186 ?_
                    refine j_iload_n (pc := 189) C d_Model_goesOn_189 rfl 0 rfl ?_
                    refine j_iast (pc := 190) C 3 rfl (ws' := [(ma 50, .inl (y 0, 3200, .inl yf)), (ma 0, .inl (y 0, 1600, .inl (tby tx))), MB mo ma (nI t1) (nI u2425) (nI t3) i4 0 i6 i7 i8 i42 i49 (nI yc) (nI yn) (nI oz) (nI bs) i61 i64 i66 (nI t67) i76 i78, (ma 52, .inl (y 0, 1700, .inl (upd g52 yn 4)))]) (vp_in_nI (by omega) (by decide)) (by rw [nI_clamp (by omega)]; rfl) d_Model_goesOn_190 ?_
                    refine j_aload_n (pc := 191) C d_Model_goesOn_191 rfl 1 rfl ?_
                    refine j_dup (pc := 192) C d_Model_goesOn_192 rfl ?_
                    refine j_get (pc := 193) C gf_Model_292 2 rfl rfl d_Model_goesOn_193 ?_
                    refine j_iconst (pc := 196) C (v := 1) d_Model_goesOn_196 (by decide) ?_
                    refine j_iadd (pc := 197) C (v := nI (yn + 1)) d_Model_goesOn_197 (nI_add _ _) ?_
                    refine j_put (pc := 198) C pf_Model_292 2 (ws' := [(ma 50, .inl (y 0, 3200, .inl yf)), (ma 0, .inl (y 0, 1600, .inl (tby tx))), MB mo ma (nI t1) (nI u2425) (nI t3) i4 0 i6 i7 i8 i42 i49 (nI yc) (nI (yn + 1)) (nI oz) (nI bs) i61 i64 i66 (nI t67) i76 i78, (ma 52, .inl (y 0, 1700, .inl (upd g52 yn 4)))]) rfl rfl rfl (nl rfl) rfl d_Model_goesOn_198 ?_
                    refine j_iconst (pc := 201) C (v := 1) d_Model_goesOn_201 (by decide) ?_
                    exact j_iret (pc := 202) C hr (by decide) (u2425, 0, i6, yc, (yn + 1), oz, yf, (upd g52 yn 4), (advS tx t3 gz), cy, (4 :: sy)) ⟨(show t2 ≤ u2425 by omega), (show u2425 ≤ t3 by omega), (fun _ => ⟨rfl, by omega⟩), (it_up hT (show bs ≤ yn by omega)), (is_up hSy_ (by decide)), (show bs ≤ (yn + 1) by omega), xh2432, (fun j hj => pk_un (show j ≠ yn by omega)), (show oz ≤ 6 by omega), (Or.inl ⟨rfl, rfl, rs_op hRy_ (by decide) (show az < u2425 by omega), xh2792, hCy_, wb_push hWy_ (by decide), opn_op hOy_ (by decide)⟩)⟩ [2, 1, 0, 3] rfl (by decide) (by decide) (by decide) d_Model_goesOn_202
                  · refine j_if_eqF (pc := 171) C (tgt := 181) d_Model_goesOn_171 (by decide) (by decide) ?_
                    have hbz : bs < yn := top_s hT e2790 (by omega) (by omega) (by decide)
                    obtain ⟨vq2793, sq2794, xh2795, xh2796, xh2797, xh2798⟩ := wb_top hWy_ hbz
                    have xh2799 : vq2793 = 4 := on_yes xh2796 xh2797 (by decide) e2790
                    refine j_aload_n (pc := 174) C d_Model_goesOn_174 rfl 1 rfl ?_
                    refine j_callVv (pc := 175) C (c_M_drops l D y mo ma t1 u2425 t3 i4 0 i6 i7 i8 i42 i49 yc yn (nI oz) (nI bs) i61 i64 i66 t67 i76 i78 yf g52 (by omega) (by omega) (by omega)) kw_Model_350 kv_Model_drops 0 10 rfl rfl ⟨by decide, by decide⟩ ⟨by decide, by decide⟩ (wr := [(ma 0, .inl (y 0, 1600, .inl (tby tx)))]) [2, 0, 3] [1] rfl rfl (by decide) (by decide) (by decide) (As := []) (rest := []) rfl (nb rfl) rfl d_Model_goesOn_175 (fun _ _ => ?_)
                    refine j_ws (ws' := [(ma 0, .inl (y 0, 1600, .inl (tby tx))), MB mo ma (nI t1) (nI u2425) (nI t3) i4 0 i6 i7 i8 i42 i49 (nI (yc + 1)) (nI (yn - 1)) (nI oz) (nI bs) i61 i64 i66 (nI t67) i76 i78, (ma 50, .inl (y 0, 3200, .inl (upd yf yc (g52 (yn - 1))))), (ma 52, .inl (y 0, 1700, .inl g52))]) rfl ?_
                    refine j_goto (pc := 178) C (tgt := 158) d_Model_goesOn_178 (by decide) ?_
                    refine j_sub (ws' := [(ma 50, .inl (y 0, 3200, .inl (upd yf yc (g52 (yn - 1))))), (ma 52, .inl (y 0, 1700, .inl g52)), MB mo ma (nI t1) (nI u2425) (nI t3) i4 0 i6 i7 i8 i42 i49 (nI (yc + 1)) (nI (yn - 1)) (nI oz) (nI bs) i61 i64 i66 (nI t67) i76 i78, (ma 0, .inl (y 0, 1600, .inl (tby tx)))]) [2, 3, 1, 0] rfl (by decide) ?_
                    exact ih2780 ((yc + 1), (yn - 1), (upd yf yc (g52 (yn - 1))), sq2794, (putS vq2793 cy)) ⟨(show bs ≤ (yn - 1) by omega), (show (yn - 1) ≤ zn by omega), (show RS kq s0 f0 (xx + 1) 0 (upd yf yc (g52 (yn - 1))) g52 (yc + 1) (yn - 1) az from rs_drop hRy_ (by omega) (show yn = yn - 1 + 1 by omega) (Or.inl (by rw [e2790]; decide))), xh2798, (show CD (putS vq2793 cy) (upd yf yc (g52 (yn - 1))) (yc + 1) from cd_put hCy_ (by omega) xh2796 (by omega)), (show drp isMo sq2794 (putS vq2793 cy) = drp isMo sz cz by rw [← hDy_, xh2795]; exact (drp_go (by rw [xh2799]; decide)).symm), (opn_tl (by have hq := hOy_; rw [xh2795] at hq; exact hq))⟩ (show (yn - 1) < yn by omega)
                · refine j_if_neT (pc := 163) C (tgt := 174) d_Model_goesOn_163 (by decide) (by decide) ?_
                  have hbz : bs < yn := top_s hT e2785 (by omega) (by omega) (by decide)
                  obtain ⟨vq2800, sq2801, xh2802, xh2803, xh2804, xh2805⟩ := wb_top hWy_ hbz
                  have xh2806 : vq2800 = 3 := on_yes xh2803 xh2804 (by decide) e2785
                  refine j_aload_n (pc := 174) C d_Model_goesOn_174 rfl 1 rfl ?_
                  refine j_callVv (pc := 175) C (c_M_drops l D y mo ma t1 u2425 t3 i4 0 i6 i7 i8 i42 i49 yc yn (nI oz) (nI bs) i61 i64 i66 t67 i76 i78 yf g52 (by omega) (by omega) (by omega)) kw_Model_350 kv_Model_drops 0 10 rfl rfl ⟨by decide, by decide⟩ ⟨by decide, by decide⟩ (wr := [(ma 0, .inl (y 0, 1600, .inl (tby tx)))]) [2, 0, 3] [1] rfl rfl (by decide) (by decide) (by decide) (As := []) (rest := []) rfl (nb rfl) rfl d_Model_goesOn_175 (fun _ _ => ?_)
                  refine j_ws (ws' := [(ma 0, .inl (y 0, 1600, .inl (tby tx))), MB mo ma (nI t1) (nI u2425) (nI t3) i4 0 i6 i7 i8 i42 i49 (nI (yc + 1)) (nI (yn - 1)) (nI oz) (nI bs) i61 i64 i66 (nI t67) i76 i78, (ma 50, .inl (y 0, 3200, .inl (upd yf yc (g52 (yn - 1))))), (ma 52, .inl (y 0, 1700, .inl g52))]) rfl ?_
                  refine j_goto (pc := 178) C (tgt := 158) d_Model_goesOn_178 (by decide) ?_
                  refine j_sub (ws' := [(ma 50, .inl (y 0, 3200, .inl (upd yf yc (g52 (yn - 1))))), (ma 52, .inl (y 0, 1700, .inl g52)), MB mo ma (nI t1) (nI u2425) (nI t3) i4 0 i6 i7 i8 i42 i49 (nI (yc + 1)) (nI (yn - 1)) (nI oz) (nI bs) i61 i64 i66 (nI t67) i76 i78, (ma 0, .inl (y 0, 1600, .inl (tby tx)))]) [2, 3, 1, 0] rfl (by decide) ?_
                  exact ih2780 ((yc + 1), (yn - 1), (upd yf yc (g52 (yn - 1))), sq2801, (putS vq2800 cy)) ⟨(show bs ≤ (yn - 1) by omega), (show (yn - 1) ≤ zn by omega), (show RS kq s0 f0 (xx + 1) 0 (upd yf yc (g52 (yn - 1))) g52 (yc + 1) (yn - 1) az from rs_drop hRy_ (by omega) (show yn = yn - 1 + 1 by omega) (Or.inl (by rw [e2785]; decide))), xh2805, (show CD (putS vq2800 cy) (upd yf yc (g52 (yn - 1))) (yc + 1) from cd_put hCy_ (by omega) xh2803 (by omega)), (show drp isMo sq2801 (putS vq2800 cy) = drp isMo sz cz by rw [← hDy_, xh2802]; exact (drp_go (by rw [xh2806]; decide)).symm), (opn_tl (by have hq := hOy_; rw [xh2802] at hq; exact hq))⟩ (show (yn - 1) < yn by omega)
            · refine j_if_neT (pc := 124) C (tgt := 136) d_Model_goesOn_124 (by decide) (by decide) ?_
              refine j_aload_n (pc := 136) C d_Model_goesOn_136 rfl 0 rfl ?_
              refine j_get (pc := 137) C gf_Model_7 2 rfl rfl d_Model_goesOn_137 ?_
              refine j_aload_n (pc := 140) C d_Model_goesOn_140 rfl 0 rfl ?_
              refine j_get (pc := 141) C gf_Model_207 2 rfl rfl d_Model_goesOn_141 ?_
              refine j_iconst (pc := 144) C (v := 1) d_Model_goesOn_144 (by decide) ?_
              refine j_isub (pc := 145) C (v := nI (u2412 - 1)) d_Model_goesOn_145 (pk_sub (a := u2412) (b := 1) (by omega)) ?_
              refine j_iald (pc := 146) C 3 rfl (v := 42) (vp_in_nI (by omega) (by decide)) (by rw [nI_clamp (by omega)]; exact congrArg nI xh2423) d_Model_goesOn_146 ?_
              refine j_bipush (pc := 147) C (v := 42) d_Model_goesOn_147 (by decide) ?_
              refine j_icmp_neF (pc := 149) C (tgt := 156) d_Model_goesOn_149 (by decide) (by decide) ?_
              refine j_iconst (pc := 152) C (v := 3) d_Model_goesOn_152 (by decide) ?_
              refine j_goto (pc := 153) C (tgt := 157) d_Model_goesOn_153 (by decide) ?_
              refine j_istore_n (pc := 157) C (lv' := [(1, .int 3), (0, .ref mo)]) d_Model_goesOn_157 rfl (by decide) rfl ?_
              refine j_loop (α := Nat × Nat × (Nat → Int32) × List Nat × List Nat) (fun a => a.2.1) (fun a => (bs ≤ a.2.1) ∧ (a.2.1 ≤ zn) ∧ (RS kq s0 f0 (xx + 1) 0 a.2.2.1 g52 a.1 a.2.1 az) ∧ (WB a.2.2.2.1 g52 bs a.2.1) ∧ (CD a.2.2.2.2 a.2.2.1 a.1) ∧ (drp isMo a.2.2.2.1 a.2.2.2.2 = drp isMo sz cz) ∧ (opn a.2.2.2.1 ≤ oz)) (fun a => [(ma 50, .inl (y 0, 3200, .inl a.2.2.1)), (ma 52, .inl (y 0, 1700, .inl g52)), MB mo ma (nI t1) (nI u2412) (nI t3) i4 0 i6 i7 i8 i42 i49 (nI a.1) (nI a.2.1) (nI oz) (nI bs) i61 i64 i66 (nI t67) i76 i78, (ma 0, .inl (y 0, 1600, .inl (tby tx)))]) (fun a => [(1, .int 3), (0, .ref mo)]) (zc, zn, zf, sz, cz) rfl rfl ⟨hb_, (show zn ≤ zn by omega), hR_, hwz_, hcz_, rfl, hoz_⟩ ?_
              rintro ⟨yc, yn, yf, sy, cy⟩ hP2833 ih2834
              obtain ⟨hby__, hny__, hRy__, hWy__, hCy__, hDy__, hOy__⟩ := hP2833
              have hby_ : bs ≤ yn := hby__
              have hny_ : yn ≤ zn := hny__
              have hRy_ : RS kq s0 f0 (xx + 1) 0 yf g52 yc yn az := hRy__
              have hWy_ : WB sy g52 bs yn := hWy__
              have hCy_ : CD cy yf yc := hCy__
              have hDy_ : drp isMo sy cy = drp isMo sz cz := hDy__
              have hOy_ : opn sy ≤ oz := hOy__
              refine j_ws (ws' := [(ma 50, .inl (y 0, 3200, .inl yf)), (ma 52, .inl (y 0, 1700, .inl g52)), MB mo ma (nI t1) (nI u2412) (nI t3) i4 0 i6 i7 i8 i42 i49 (nI yc) (nI yn) (nI oz) (nI bs) i61 i64 i66 (nI t67) i76 i78, (ma 0, .inl (y 0, 1600, .inl (tby tx)))]) rfl ?_
              refine j_lv (lv' := [(1, .int 3), (0, .ref mo)]) rfl ?_
              have hacy := rs_ac3 hRy_
              have hSy_ : ISm g52 bs yn := is_le hS (by omega)
              refine j_aload_n (pc := 158) C d_Model_goesOn_158 rfl 1 rfl ?_
              refine j_iconst (pc := 159) C (v := 3) d_Model_goesOn_159 (by decide) ?_
              refine j_callVi (pc := 160) C (c_M_isOn l D y mo ma t1 u2412 t3 i4 0 i6 i7 i8 i42 i49 (nI yc) yn (nI oz) (nI bs) i61 i64 i66 t67 i76 i78 g52 3 (by omega)) kw_Model_362 kv_Model_isOn 0 10 rfl rfl ⟨by decide, by decide⟩ ⟨by decide, by decide⟩ (wr := [(ma 50, .inl (y 0, 3200, .inl yf)), (ma 0, .inl (y 0, 1600, .inl (tby tx)))]) [2, 1] [0, 3] rfl rfl (by decide) (by decide) (by decide) (As := [.int 3]) (rest := []) rfl (nb rfl) rfl d_Model_goesOn_160 (fun r2835 _ hr2835 => ?_)
              refine j_ws (ws' := [(ma 50, .inl (y 0, 3200, .inl yf)), (ma 0, .inl (y 0, 1600, .inl (tby tx))), MB mo ma (nI t1) (nI u2412) (nI t3) i4 0 i6 i7 i8 i42 i49 (nI yc) (nI yn) (nI oz) (nI bs) i61 i64 i66 (nI t67) i76 i78, (ma 52, .inl (y 0, 1700, .inl g52))]) rfl ?_
              rcases hr2835 with ⟨rfl, xh2837⟩ | ⟨rfl, xh2838, e2839⟩
              · refine j_if_neF (pc := 163) C (tgt := 174) d_Model_goesOn_163 (by decide) (by decide) ?_
                refine j_aload_n (pc := 166) C d_Model_goesOn_166 rfl 1 rfl ?_
                refine j_iconst (pc := 167) C (v := 4) d_Model_goesOn_167 (by decide) ?_
                refine j_callVi (pc := 168) C (c_M_isOn l D y mo ma t1 u2412 t3 i4 0 i6 i7 i8 i42 i49 (nI yc) yn (nI oz) (nI bs) i61 i64 i66 t67 i76 i78 g52 4 (by omega)) kw_Model_362 kv_Model_isOn 0 10 rfl rfl ⟨by decide, by decide⟩ ⟨by decide, by decide⟩ (wr := [(ma 50, .inl (y 0, 3200, .inl yf)), (ma 0, .inl (y 0, 1600, .inl (tby tx)))]) [2, 3] [0, 1] rfl rfl (by decide) (by decide) (by decide) (As := [.int 4]) (rest := []) rfl (nb rfl) rfl d_Model_goesOn_168 (fun r2840 _ hr2840 => ?_)
                refine j_ws (ws' := [(ma 50, .inl (y 0, 3200, .inl yf)), (ma 0, .inl (y 0, 1600, .inl (tby tx))), MB mo ma (nI t1) (nI u2412) (nI t3) i4 0 i6 i7 i8 i42 i49 (nI yc) (nI yn) (nI oz) (nI bs) i61 i64 i66 (nI t67) i76 i78, (ma 52, .inl (y 0, 1700, .inl g52))]) rfl ?_
                rcases hr2840 with ⟨rfl, xh2842⟩ | ⟨rfl, xh2843, e2844⟩
                · refine j_if_eqT (pc := 171) C (tgt := 181) d_Model_goesOn_171 (by decide) (by decide) ?_
                  have xh2845 : drp isMo sz cz = (sy, cy) := hDy_.symm.trans (drp_no (fun v hv => mo_no (on_no (c := 3) hWy_ xh2837 v hv) (on_no (c := 4) hWy_ xh2842 v hv)))
                  have xh2846 : Rch tx t3 (1, (gs, cs, sk, oo)) (0, ((advS tx t3 gz), cy, (3 :: sy), oz)) := hrc_.tr (Rch.st ((stA _ _ _ _).trans ((sA_M (Or.inl xh2420)).trans (by rw [xh2845, if_pos xh2420]))) (Rch.rf _))
                  refine j_aload_n (pc := 181) C d_Model_goesOn_181 rfl 1 rfl ?_
                  refine j_get (pc := 182) C gf_Model_139 2 rfl rfl d_Model_goesOn_182 ?_
                  refine j_aload_n (pc := 185) C d_Model_goesOn_185 rfl 1 rfl ?_
                  refine j_get (pc := 186) C gf_Model_292 2 rfl rfl d_Model_goesOn_186 ?_
                  refine j_iload_n (pc := 189) C d_Model_goesOn_189 rfl 0 rfl ?_
                  refine j_iast (pc := 190) C 3 rfl (ws' := [(ma 50, .inl (y 0, 3200, .inl yf)), (ma 0, .inl (y 0, 1600, .inl (tby tx))), MB mo ma (nI t1) (nI u2412) (nI t3) i4 0 i6 i7 i8 i42 i49 (nI yc) (nI yn) (nI oz) (nI bs) i61 i64 i66 (nI t67) i76 i78, (ma 52, .inl (y 0, 1700, .inl (upd g52 yn 3)))]) (vp_in_nI (by omega) (by decide)) (by rw [nI_clamp (by omega)]; rfl) d_Model_goesOn_190 ?_
                  refine j_aload_n (pc := 191) C d_Model_goesOn_191 rfl 1 rfl ?_
                  refine j_dup (pc := 192) C d_Model_goesOn_192 rfl ?_
                  refine j_get (pc := 193) C gf_Model_292 2 rfl rfl d_Model_goesOn_193 ?_
                  refine j_iconst (pc := 196) C (v := 1) d_Model_goesOn_196 (by decide) ?_
                  refine j_iadd (pc := 197) C (v := nI (yn + 1)) d_Model_goesOn_197 (nI_add _ _) ?_
                  refine j_put (pc := 198) C pf_Model_292 2 (ws' := [(ma 50, .inl (y 0, 3200, .inl yf)), (ma 0, .inl (y 0, 1600, .inl (tby tx))), MB mo ma (nI t1) (nI u2412) (nI t3) i4 0 i6 i7 i8 i42 i49 (nI yc) (nI (yn + 1)) (nI oz) (nI bs) i61 i64 i66 (nI t67) i76 i78, (ma 52, .inl (y 0, 1700, .inl (upd g52 yn 3)))]) rfl rfl rfl (nl rfl) rfl d_Model_goesOn_198 ?_
                  refine j_iconst (pc := 201) C (v := 1) d_Model_goesOn_201 (by decide) ?_
                  exact j_iret (pc := 202) C hr (by decide) (u2412, 0, i6, yc, (yn + 1), oz, yf, (upd g52 yn 3), (advS tx t3 gz), cy, (3 :: sy)) ⟨(show t2 ≤ u2412 by omega), (show u2412 ≤ t3 by omega), (fun _ => ⟨rfl, by omega⟩), (it_up hT (show bs ≤ yn by omega)), (is_up hSy_ (by decide)), (show bs ≤ (yn + 1) by omega), xh2419, (fun j hj => pk_un (show j ≠ yn by omega)), (show oz ≤ 6 by omega), (Or.inl ⟨rfl, rfl, rs_op hRy_ (by decide) (show az < u2412 by omega), xh2846, hCy_, wb_push hWy_ (by decide), opn_op hOy_ (by decide)⟩)⟩ [2, 1, 0, 3] rfl (by decide) (by decide) (by decide) d_Model_goesOn_202
                · refine j_if_eqF (pc := 171) C (tgt := 181) d_Model_goesOn_171 (by decide) (by decide) ?_
                  have hbz : bs < yn := top_s hT e2844 (by omega) (by omega) (by decide)
                  obtain ⟨vq2847, sq2848, xh2849, xh2850, xh2851, xh2852⟩ := wb_top hWy_ hbz
                  have xh2853 : vq2847 = 4 := on_yes xh2850 xh2851 (by decide) e2844
                  refine j_aload_n (pc := 174) C d_Model_goesOn_174 rfl 1 rfl ?_
                  refine j_callVv (pc := 175) C (c_M_drops l D y mo ma t1 u2412 t3 i4 0 i6 i7 i8 i42 i49 yc yn (nI oz) (nI bs) i61 i64 i66 t67 i76 i78 yf g52 (by omega) (by omega) (by omega)) kw_Model_350 kv_Model_drops 0 10 rfl rfl ⟨by decide, by decide⟩ ⟨by decide, by decide⟩ (wr := [(ma 0, .inl (y 0, 1600, .inl (tby tx)))]) [2, 0, 3] [1] rfl rfl (by decide) (by decide) (by decide) (As := []) (rest := []) rfl (nb rfl) rfl d_Model_goesOn_175 (fun _ _ => ?_)
                  refine j_ws (ws' := [(ma 0, .inl (y 0, 1600, .inl (tby tx))), MB mo ma (nI t1) (nI u2412) (nI t3) i4 0 i6 i7 i8 i42 i49 (nI (yc + 1)) (nI (yn - 1)) (nI oz) (nI bs) i61 i64 i66 (nI t67) i76 i78, (ma 50, .inl (y 0, 3200, .inl (upd yf yc (g52 (yn - 1))))), (ma 52, .inl (y 0, 1700, .inl g52))]) rfl ?_
                  refine j_goto (pc := 178) C (tgt := 158) d_Model_goesOn_178 (by decide) ?_
                  refine j_sub (ws' := [(ma 50, .inl (y 0, 3200, .inl (upd yf yc (g52 (yn - 1))))), (ma 52, .inl (y 0, 1700, .inl g52)), MB mo ma (nI t1) (nI u2412) (nI t3) i4 0 i6 i7 i8 i42 i49 (nI (yc + 1)) (nI (yn - 1)) (nI oz) (nI bs) i61 i64 i66 (nI t67) i76 i78, (ma 0, .inl (y 0, 1600, .inl (tby tx)))]) [2, 3, 1, 0] rfl (by decide) ?_
                  exact ih2834 ((yc + 1), (yn - 1), (upd yf yc (g52 (yn - 1))), sq2848, (putS vq2847 cy)) ⟨(show bs ≤ (yn - 1) by omega), (show (yn - 1) ≤ zn by omega), (show RS kq s0 f0 (xx + 1) 0 (upd yf yc (g52 (yn - 1))) g52 (yc + 1) (yn - 1) az from rs_drop hRy_ (by omega) (show yn = yn - 1 + 1 by omega) (Or.inl (by rw [e2844]; decide))), xh2852, (show CD (putS vq2847 cy) (upd yf yc (g52 (yn - 1))) (yc + 1) from cd_put hCy_ (by omega) xh2850 (by omega)), (show drp isMo sq2848 (putS vq2847 cy) = drp isMo sz cz by rw [← hDy_, xh2849]; exact (drp_go (by rw [xh2853]; decide)).symm), (opn_tl (by have hq := hOy_; rw [xh2849] at hq; exact hq))⟩ (show (yn - 1) < yn by omega)
              · refine j_if_neT (pc := 163) C (tgt := 174) d_Model_goesOn_163 (by decide) (by decide) ?_
                have hbz : bs < yn := top_s hT e2839 (by omega) (by omega) (by decide)
                obtain ⟨vq2854, sq2855, xh2856, xh2857, xh2858, xh2859⟩ := wb_top hWy_ hbz
                have xh2860 : vq2854 = 3 := on_yes xh2857 xh2858 (by decide) e2839
                refine j_aload_n (pc := 174) C d_Model_goesOn_174 rfl 1 rfl ?_
                refine j_callVv (pc := 175) C (c_M_drops l D y mo ma t1 u2412 t3 i4 0 i6 i7 i8 i42 i49 yc yn (nI oz) (nI bs) i61 i64 i66 t67 i76 i78 yf g52 (by omega) (by omega) (by omega)) kw_Model_350 kv_Model_drops 0 10 rfl rfl ⟨by decide, by decide⟩ ⟨by decide, by decide⟩ (wr := [(ma 0, .inl (y 0, 1600, .inl (tby tx)))]) [2, 0, 3] [1] rfl rfl (by decide) (by decide) (by decide) (As := []) (rest := []) rfl (nb rfl) rfl d_Model_goesOn_175 (fun _ _ => ?_)
                refine j_ws (ws' := [(ma 0, .inl (y 0, 1600, .inl (tby tx))), MB mo ma (nI t1) (nI u2412) (nI t3) i4 0 i6 i7 i8 i42 i49 (nI (yc + 1)) (nI (yn - 1)) (nI oz) (nI bs) i61 i64 i66 (nI t67) i76 i78, (ma 50, .inl (y 0, 3200, .inl (upd yf yc (g52 (yn - 1))))), (ma 52, .inl (y 0, 1700, .inl g52))]) rfl ?_
                refine j_goto (pc := 178) C (tgt := 158) d_Model_goesOn_178 (by decide) ?_
                refine j_sub (ws' := [(ma 50, .inl (y 0, 3200, .inl (upd yf yc (g52 (yn - 1))))), (ma 52, .inl (y 0, 1700, .inl g52)), MB mo ma (nI t1) (nI u2412) (nI t3) i4 0 i6 i7 i8 i42 i49 (nI (yc + 1)) (nI (yn - 1)) (nI oz) (nI bs) i61 i64 i66 (nI t67) i76 i78, (ma 0, .inl (y 0, 1600, .inl (tby tx)))]) [2, 3, 1, 0] rfl (by decide) ?_
                exact ih2834 ((yc + 1), (yn - 1), (upd yf yc (g52 (yn - 1))), sq2855, (putS vq2854 cy)) ⟨(show bs ≤ (yn - 1) by omega), (show (yn - 1) ≤ zn by omega), (show RS kq s0 f0 (xx + 1) 0 (upd yf yc (g52 (yn - 1))) g52 (yc + 1) (yn - 1) az from rs_drop hRy_ (by omega) (show yn = yn - 1 + 1 by omega) (Or.inl (by rw [e2839]; decide))), xh2859, (show CD (putS vq2854 cy) (upd yf yc (g52 (yn - 1))) (yc + 1) from cd_put hCy_ (by omega) xh2857 (by omega)), (show drp isMo sq2855 (putS vq2854 cy) = drp isMo sz cz by rw [← hDy_, xh2856]; exact (drp_go (by rw [xh2860]; decide)).symm), (opn_tl (by have hq := hOy_; rw [xh2856] at hq; exact hq))⟩ (show (yn - 1) < yn by omega)
          · refine j_icmp_neF (pc := 40) C (tgt := 118) d_Model_goesOn_40 (by decide) (show mkI sz = 24 from (mkI_iff (c := 24) (by decide) (by decide)).mpr (by omega)) ?_
            have hb2861 : u1443 < t3 := xh1450
            have xh2862 : issS tx t3 41 gz = true := (sg_yes ((rr_z xh1447).mp rfl) xh1446 xh1450 (show tx u1443 = 41 by omega) (by decide)).1
            have xh2863 : mkf sz = 24 := by omega
            refine j_aload_n (pc := 43) C d_Model_goesOn_43 rfl 0 rfl ?_
            refine j_dup (pc := 44) C d_Model_goesOn_44 rfl ?_
            refine j_get (pc := 45) C gf_Model_207 2 rfl rfl d_Model_goesOn_45 ?_
            refine j_iconst (pc := 48) C (v := 1) d_Model_goesOn_48 (by decide) ?_
            refine j_iadd (pc := 49) C (v := nI (u1443 + 1)) d_Model_goesOn_49 (nI_add _ _) ?_
            refine j_put (pc := 50) C pf_Model_207 2 (ws' := [(ma 50, .inl (y 0, 3200, .inl zf)), (ma 0, .inl (y 0, 1600, .inl (tby tx))), MB mo ma (nI t1) (nI (u1443 + 1)) (nI t3) i4 0 i6 i7 i8 i42 i49 (nI zc) (nI zn) (nI oz) (nI bs) i61 i64 i66 (nI t67) i76 i78, (ma 52, .inl (y 0, 1700, .inl g52))]) rfl rfl rfl (nl rfl) rfl d_Model_goesOn_50 ?_
            refine j_aload_n (pc := 53) C d_Model_goesOn_53 rfl 0 rfl ?_
            refine j_callVv (pc := 54) C (c_M_dropsToMark l D y mo ma t1 (u1443 + 1) t3 i4 i6 i7 i8 i42 i49 zc zn (nI oz) bs i61 i64 i66 t67 i76 i78 zf g52 s0 xx sz cz kq f0 he (by omega) (rs_at hR_ (by omega)) hT hS_ hb_ hwz_ hcz_ hK) kw_Model_359 kv_Model_dropsToMark 0 10 rfl rfl ⟨by decide, by decide⟩ ⟨by decide, by decide⟩ (wr := [(ma 0, .inl (y 0, 1600, .inl (tby tx)))]) [2, 0, 3] [1] rfl rfl (by decide) (by decide) (by decide) (As := []) (rest := []) rfl (nb rfl) rfl d_Model_goesOn_54 (fun u2864 hu2865 => ?_)
            obtain ⟨xh2866, xh2867, xh2868, xh2869, xh2870, xh2871, xh2872, xh2873, xh2874⟩ := hu2865
            refine j_ws (ws' := [(ma 0, .inl (y 0, 1600, .inl (tby tx))), MB mo ma (nI t1) (nI (u1443 + 1)) (nI t3) i4 0 i6 i7 i8 i42 i49 (nI u2864.1) (nI u2864.2.1) (nI oz) (nI bs) i61 i64 i66 (nI t67) i76 i78, (ma 50, .inl (y 0, 3200, .inl u2864.2.2.1)), (ma 52, .inl (y 0, 1700, .inl g52))]) rfl ?_
            obtain ⟨Cq2875, xh2876⟩ := drp_m (S := sz) (cs := cz) (by omega)
            have xh2877 : u2864.2.2.2.2 = 24 :: Cq2875 := by rw [xh2874, xh2863] at xh2876; exact xh2876
            have xh2878 : WB (24 :: Cq2875) g52 bs u2864.2.1 := wb_cast xh2872 xh2877
            have xh2879 : g52 (u2864.2.1 - 1) = 24 := xh2878.2.1
            have hb2880 := xh2878.1
            obtain ⟨xh2881, xh2882⟩ := opn_mk hoz_ (xh2874.trans (by rw [xh2877])) (by decide)
            refine j_aload_n (pc := 57) C d_Model_goesOn_57 rfl 0 rfl ?_
            refine j_dup (pc := 58) C d_Model_goesOn_58 rfl ?_
            refine j_get (pc := 59) C gf_Model_292 1 rfl rfl d_Model_goesOn_59 ?_
            refine j_iconst (pc := 62) C (v := 1) d_Model_goesOn_62 (by decide) ?_
            refine j_isub (pc := 63) C (v := nI (u2864.2.1 - 1)) d_Model_goesOn_63 (pk_sub (a := u2864.2.1) (b := 1) (by omega)) ?_
            refine j_put (pc := 64) C pf_Model_292 1 (ws' := [(ma 0, .inl (y 0, 1600, .inl (tby tx))), MB mo ma (nI t1) (nI (u1443 + 1)) (nI t3) i4 0 i6 i7 i8 i42 i49 (nI u2864.1) (nI (u2864.2.1 - 1)) (nI oz) (nI bs) i61 i64 i66 (nI t67) i76 i78, (ma 50, .inl (y 0, 3200, .inl u2864.2.2.1)), (ma 52, .inl (y 0, 1700, .inl g52))]) rfl rfl rfl (nl rfl) rfl d_Model_goesOn_64 ?_
            refine j_aload_n (pc := 67) C d_Model_goesOn_67 rfl 0 rfl ?_
            refine j_dup (pc := 68) C d_Model_goesOn_68 rfl ?_
            refine j_get (pc := 69) C gf_Model_295 1 rfl rfl d_Model_goesOn_69 ?_
            refine j_iconst (pc := 72) C (v := 1) d_Model_goesOn_72 (by decide) ?_
            refine j_isub (pc := 73) C (v := nI (oz - 1)) d_Model_goesOn_73 (pk_sub (a := oz) (b := 1) (by omega)) ?_
            refine j_put (pc := 74) C pf_Model_295 1 (ws' := [(ma 0, .inl (y 0, 1600, .inl (tby tx))), MB mo ma (nI t1) (nI (u1443 + 1)) (nI t3) i4 0 i6 i7 i8 i42 i49 (nI u2864.1) (nI (u2864.2.1 - 1)) (nI (oz - 1)) (nI bs) i61 i64 i66 (nI t67) i76 i78, (ma 50, .inl (y 0, 3200, .inl u2864.2.2.1)), (ma 52, .inl (y 0, 1700, .inl g52))]) rfl rfl rfl (nl rfl) rfl d_Model_goesOn_74 ?_
            refine j_aload_n (pc := 77) C d_Model_goesOn_77 rfl 0 rfl ?_
            refine j_get (pc := 78) C gf_Model_139 1 rfl rfl d_Model_goesOn_78 ?_
            refine j_aload_n (pc := 81) C d_Model_goesOn_81 rfl 0 rfl ?_
            refine j_get (pc := 82) C gf_Model_292 1 rfl rfl d_Model_goesOn_82 ?_
            refine j_iald (pc := 85) C 3 rfl (v := 24) (vp_in_nI (by omega) (by decide)) (by rw [nI_clamp (by omega)]; exact xh2879) d_Model_goesOn_85 ?_
            refine j_bipush (pc := 86) C (v := 20) d_Model_goesOn_86 (by decide) ?_
            refine j_icmp_eqF (pc := 88) C (tgt := 0) d_Model_goesOn_88 (by decide) (by decide) ?_
            refine j_aload_n (pc := 91) C d_Model_goesOn_91 rfl 0 rfl ?_
            refine j_aload_n (pc := 92) C d_Model_goesOn_92 rfl 0 rfl ?_
            refine j_get (pc := 93) C gf_Model_139 1 rfl rfl d_Model_goesOn_93 ?_
            refine j_aload_n (pc := 96) C d_Model_goesOn_96 rfl 0 rfl ?_
            refine j_get (pc := 97) C gf_Model_292 1 rfl rfl d_Model_goesOn_97 ?_
            refine j_iald (pc := 100) C 3 rfl (v := 24) (vp_in_nI (by omega) (by decide)) (by rw [nI_clamp (by omega)]; exact xh2879) d_Model_goesOn_100 ?_
            refine j_bipush (pc := 101) C (v := 23) d_Model_goesOn_101 (by decide) ?_
            refine j_icmp_neT (pc := 103) C (tgt := 110) d_Model_goesOn_103 (by decide) (by decide) ?_
            refine j_bipush (pc := 110) C (v := 6) d_Model_goesOn_110 (by decide) ?_
            refine j_callVv (pc := 112) C (c_M_code l D y mo ma t1 (u1443 + 1) t3 i4 0 i6 i7 i8 i42 i49 u2864.1 (u2864.2.1 - 1) (nI (oz - 1)) (nI bs) i61 i64 i66 t67 i76 i78 u2864.2.2.1 6 (by omega)) kw_Model_344 kv_Model_code 0 10 rfl rfl ⟨by decide, by decide⟩ ⟨by decide, by decide⟩ (wr := [(ma 0, .inl (y 0, 1600, .inl (tby tx))), (ma 52, .inl (y 0, 1700, .inl g52))]) [1, 2] [0, 3] rfl rfl (by decide) (by decide) (by decide) (As := [.int 6]) (rest := []) rfl (nb rfl) rfl d_Model_goesOn_112 (fun _ _ => ?_)
            refine j_ws (ws' := [(ma 0, .inl (y 0, 1600, .inl (tby tx))), (ma 52, .inl (y 0, 1700, .inl g52)), MB mo ma (nI t1) (nI (u1443 + 1)) (nI t3) i4 0 i6 i7 i8 i42 i49 (nI (u2864.1 + 1)) (nI (u2864.2.1 - 1)) (nI (oz - 1)) (nI bs) i61 i64 i66 (nI t67) i76 i78, (ma 50, .inl (y 0, 3200, .inl (upd u2864.2.2.1 u2864.1 6)))]) rfl ?_
            refine j_goto (pc := 115) C (tgt := 0) d_Model_goesOn_115 (by decide) ?_
            refine j_sub (ws' := [MB mo ma (nI t1) (nI (u1443 + 1)) (nI t3) i4 0 i6 i7 i8 i42 i49 (nI (u2864.1 + 1)) (nI (u2864.2.1 - 1)) (nI (oz - 1)) (nI bs) i61 i64 i66 (nI t67) i76 i78, (ma 0, .inl (y 0, 1600, .inl (tby tx))), (ma 50, .inl (y 0, 3200, .inl (upd u2864.2.2.1 u2864.1 6))), (ma 52, .inl (y 0, 1700, .inl g52))]) [2, 0, 3, 1] rfl (by decide) ?_
            have xh2883 : Rch tx t3 (1, (gs, cs, sk, oo)) (1, ((advS tx t3 gz), (putS 6 u2864.2.2.2.1), Cq2875, (oz - 1))) := hrc_.tr (Rch.st ((stA _ _ _ _).trans ((sA_41 xh2862 (by omega)).trans (by rw [xh2874, xh2863, xh2877] <;> rfl))) (Rch.rf _))
            exact ih1441 ((u1443 + 1), (u2864.1 + 1), (u2864.2.1 - 1), (upd u2864.2.2.1 u2864.1 6), (oz - 1), (advS tx t3 gz), (putS 6 u2864.2.2.2.1), Cq2875) ⟨(show (u1443 + 1) ≤ t3 by omega), (show t2 ≤ (u1443 + 1) by omega), (show bs ≤ (u2864.2.1 - 1) by omega), (show (u2864.2.1 - 1) ≤ wn by omega), (show RS kq s0 f0 (xx + 1) 0 (upd u2864.2.2.1 u2864.1 6) g52 (u2864.1 + 1) (u2864.2.1 - 1) (u1443 + 1) from rs_at (rs_shut xh2869 (by omega) (show u2864.2.1 = u2864.2.1 - 1 + 1 by omega) (by rw [xh2879]; decide) (by decide)) (by omega)), (show RR tx t3 (advS tx t3 gz) (u1443 + 1) i4 0 i6 from (rr_adv xh1447 he (sg_yes ((rr_z xh1447).mp rfl) xh1446 xh1450 (show tx u1443 = 41 by omega) (by decide)).2.2 (by decide) (show (u1443 + 1) = enS tx t3 gz by have := (sg_yes ((rr_z xh1447).mp rfl) xh1446 xh1450 (show tx u1443 = 41 by omega) (by decide)).2.1; omega) (Or.inl ⟨rfl, rfl⟩))), (show Rch tx t3 (1, (gs, cs, sk, oo)) (1, ((advS tx t3 gz), (putS 6 u2864.2.2.2.1), Cq2875, (oz - 1))) from xh2883), (show WB Cq2875 g52 bs (u2864.2.1 - 1) from wb_pop xh2878), (show CD (putS 6 u2864.2.2.2.1) (upd u2864.2.2.1 u2864.1 6) (u2864.1 + 1) from (cd_put xh2873 (by omega) rfl (by decide))), (show opn Cq2875 ≤ (oz - 1) from xh2882), (show (oz - 1) ≤ 6 by omega)⟩ (show t3 - (u1443 + 1) < t3 - az by omega)
