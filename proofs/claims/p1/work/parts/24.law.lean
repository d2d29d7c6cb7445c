abbrev LW (y : Nat → ClassId) (x : Nat) (mo : Nat) (u1 : Nat → Nat) (r1 : Nat → Nat) (r2 : Nat → Nat → Nat) (h1 : Nat → Nat) (a1 : Nat → Nat → Nat) (g1 : Nat → Nat) (c1 : Nat → Nat) (v1 : Nat → Nat) : va_W := (([(x, .inr (9, [.ref (u1 0), .ref (u1 1), .ref (u1 2), .ref (u1 3), .ref (u1 4), .ref (u1 5), .ref (u1 6), .ref (u1 7), .ref (u1 8), .int 1])), (u1 0, .inr (0, [.ref (u1 9), .int 0])), (u1 9, .inl (y 0, 1600, .inl (fun _ => 0))), (u1 1, .inr (0, [.ref (u1 10), .int 0])), (u1 10, .inl (y 0, 15, .inl (fun _ => 0))), (u1 2, .inr (7, [.int 0, .int 0, .int 0, .ref (u1 11), .ref (u1 12), .ref (u1 13), .ref (u1 14), .ref (u1 15), .ref (u1 16), .ref (u1 17)])), (u1 11, .inl (y 0, 9, .inl (fun _ => 0))), (u1 12, .inl (y 0, 9, .inl (fun _ => 0))), (u1 13, .inl (y 1, 9, .inr (.inl (fun _ => 0)))), (u1 14, .inl (y 0, 6, .inl (fun _ => 0))), (u1 15, .inl (y 0, 6, .inl (fun _ => 0))), (u1 16, .inl (y 0, 16, .inl (fun _ => 0))), (u1 17, .inl (y 1, 5, .inr (.inl (fun _ => 0)))), (u1 3, .inr (7, [.int 0, .int 0, .int 0, .ref (u1 18), .ref (u1 19), .ref (u1 20), .ref (u1 21), .ref (u1 22), .ref (u1 23), .ref (u1 24)])), (u1 18, .inl (y 0, 9, .inl (fun _ => 0))), (u1 19, .inl (y 0, 9, .inl (fun _ => 0))), (u1 20, .inl (y 1, 9, .inr (.inl (fun _ => 0)))), (u1 21, .inl (y 0, 6, .inl (fun _ => 0))), (u1 22, .inl (y 0, 6, .inl (fun _ => 0))), (u1 23, .inl (y 0, 16, .inl (fun _ => 0))), (u1 24, .inl (y 1, 5, .inr (.inl (fun _ => 0)))), (u1 4, .inr (3, [.int 0, .int 0, .ref (u1 25)])), (u1 25, .inl (y 4, 30, .inr (.inr (.inr (.inr (fun j => some (r1 j))))))), (u1 5, .inr (2, [.int 0, .int 1, .int 1, .int 0, .ref (u1 26), .int 0, .ref (u1 27), .ref (u1 28), .ref (u1 29), .ref (u1 30), .int 0, .int 0, .int 9999, .int 0])), (u1 26, .inr (1, [.int 0, .ref (u1 31), .ref (u1 32), .ref (u1 33), .ref (u1 34), .ref (u1 35), .ref (u1 36), .ref (u1 37)])), (u1 29, .inr (8, [.int 0, .ref (u1 38), .ref (u1 39), .ref (u1 40), .ref (u1 41), .ref (u1 42), .ref (u1 43), .ref (u1 44)])), (u1 30, .inr (6, [.int 0, .int 0, .ref (u1 45), .ref (u1 46), .ref (u1 47), .ref (u1 48), .ref (u1 49), .ref (u1 50)])), (u1 6, .inr (2, [.int 0, .int 1, .int 1, .int 0, .ref (u1 51), .int 0, .ref (u1 52), .ref (u1 53), .ref (u1 54), .ref (u1 55), .int 0, .int 0, .int 9999, .int 0])), (u1 51, .inr (1, [.int 0, .ref (u1 56), .ref (u1 57), .ref (u1 58), .ref (u1 59), .ref (u1 60), .ref (u1 61), .ref (u1 62)])), (u1 54, .inr (8, [.int 0, .ref (u1 63), .ref (u1 64), .ref (u1 65), .ref (u1 66), .ref (u1 67), .ref (u1 68), .ref (u1 69)])), (u1 55, .inr (6, [.int 0, .int 0, .ref (u1 70), .ref (u1 71), .ref (u1 72), .ref (u1 73), .ref (u1 74), .ref (u1 75)])), (u1 7, .inr (5, [.int 0, .int (-1), .ref (u1 76), .ref (u1 0), .ref (u1 6), .int 0, .int 0, .int 0, .long 0, .int 0, .int 0, .int 0])), (u1 8, .inr (4, [.ref (u1 77), .ref (u1 78), .ref (u1 79), .ref (u1 5), .int 0, .int 0])), (u1 77, .inl (y 4, 7, .inr (.inr (.inr (.inr (fun j => some (h1 j))))))), (u1 78, .inl (y 5, 7, .inr (.inr (.inr (.inr (fun j => some (g1 j))))))), (u1 79, .inl (y 5, 7, .inr (.inr (.inr (.inr (fun j => some (c1 j))))))), MB mo v1 0 0 0 0 0 0 0 (-1) 0 0 0 0 0 0 0 0 0 0 1 0, (v1 0, .inl (y 0, 1600, .inl (fun _ => 0))), (v1 43, .inl (y 0, 8, .inl (fun _ => 0))), (v1 45, .inl (y 0, 14, .inl lakeF)), (v1 62, .inl (y 0, 63, .inl (dayF 0))), (v1 65, .inl (y 0, 1890, .inl (fun _ => 0))), (v1 68, .inl (y 0, 63, .inl (fun _ => 0))), (v1 70, .inl (y 0, 6558, .inl (fun _ => 0))), (v1 71, .inl (y 0, 1093, .inl (fun _ => 0))), (v1 72, .inl (y 0, 7, .inl powF)), (v1 74, .inl (y 0, 13, .inl (fun _ => 0))), (v1 75, .inl (y 0, 13, .inl (fun _ => 0))), (v1 77, .inl (y 0, 15, .inl (fun _ => 0)))] : va_W) ++ (FG (PW y h1 a1 (fun _ => 0) g1 c1) (List.range 7) ++ RG y r1 r2 (fun _ => 0) (List.range 30)))
theorem d_L_law_180 : decode code 180 = .ok (.aload_n 1, 1) := by decide +kernel
theorem d_L_law_181 : decode code 181 = .ok (.aload_n 0, 1) := by decide +kernel
theorem d_L_law_182 : decode code 182 = .ok (.iload_n 3, 1) := by decide +kernel
theorem d_L_law_183 : decode code 183 = .ok (.iconst 1, 1) := by decide +kernel
theorem d_L_law_184 : decode code 184 = .ok (.iadd, 1) := by decide +kernel
theorem d_L_law_185 : decode code 185 = .ok (.iaload, 1) := by decide +kernel
theorem d_L_law_186 : decode code 186 = .ok (.aload_n 0, 1) := by decide +kernel
theorem d_L_law_187 : decode code 187 = .ok (.iload_n 3, 1) := by decide +kernel
theorem d_L_law_188 : decode code 188 = .ok (.iconst 2, 1) := by decide +kernel
theorem d_L_law_189 : decode code 189 = .ok (.iadd, 1) := by decide +kernel
theorem d_L_law_190 : decode code 190 = .ok (.iaload, 1) := by decide +kernel
theorem d_L_law_191 : decode code 191 = .ok (.aload_n 0, 1) := by decide +kernel
theorem d_L_law_192 : decode code 192 = .ok (.iload_n 3, 1) := by decide +kernel
theorem d_L_law_193 : decode code 193 = .ok (.iconst 3, 1) := by decide +kernel
theorem d_L_law_194 : decode code 194 = .ok (.iadd, 1) := by decide +kernel
theorem d_L_law_195 : decode code 195 = .ok (.iaload, 1) := by decide +kernel
theorem d_L_law_196 : decode code 196 = .ok (.aload_n 0, 1) := by decide +kernel
theorem d_L_law_197 : decode code 197 = .ok (.iload_n 3, 1) := by decide +kernel
theorem d_L_law_198 : decode code 198 = .ok (.iconst 4, 1) := by decide +kernel
theorem d_L_law_199 : decode code 199 = .ok (.iadd, 1) := by decide +kernel
theorem d_L_law_200 : decode code 200 = .ok (.iaload, 1) := by decide +kernel
theorem d_L_law_201 : decode code 201 = .ok (.aload_n 0, 1) := by decide +kernel
theorem d_L_law_202 : decode code 202 = .ok (.iload_n 3, 1) := by decide +kernel
theorem d_L_law_203 : decode code 203 = .ok (.iconst 5, 1) := by decide +kernel
theorem d_L_law_204 : decode code 204 = .ok (.iadd, 1) := by decide +kernel
theorem d_L_law_205 : decode code 205 = .ok (.iaload, 1) := by decide +kernel
theorem d_L_law_206 : decode code 206 = .ok (.invokevirtual 13, 3) := by decide +kernel
theorem kw_L_13 : KW "NineBoardsLaw" 13 ⟨"NineBoards", "feed", "(IIIII)I"⟩ prog_1_method_2_code 6 (some .int) 5 := ⟨(mt_3 (List.mem_of_getElem? (i := 22) rfl) rfl), (mt_1 (List.mem_of_getElem? (i := 1) rfl) rfl), (mt_3 (List.mem_of_getElem? (i := 25) rfl) rfl), by decide +kernel⟩
theorem kv_Nine_feed : Cond.instanceMethod ⟨"NineBoards", "feed", "(IIIII)I"⟩ ∈ TB ∧ Cond.selects "NineBoards" ⟨"NineBoards", "feed", "(IIIII)I"⟩ ⟨"NineBoards", "feed", "(IIIII)I"⟩ ∈ TB := ⟨(mt_3 (List.mem_of_getElem? (i := 23) rfl) rfl), (mt_3 (List.mem_of_getElem? (i := 24) rfl) rfl)⟩
theorem d_L_law_209 : decode code 209 = .ok (.aload_n 2, 1) := by decide +kernel
theorem d_L_law_210 : decode code 210 = .ok (.aload_n 0, 1) := by decide +kernel
theorem d_L_law_211 : decode code 211 = .ok (.iload_n 3, 1) := by decide +kernel
theorem d_L_law_212 : decode code 212 = .ok (.iconst 1, 1) := by decide +kernel
theorem d_L_law_213 : decode code 213 = .ok (.iadd, 1) := by decide +kernel
theorem d_L_law_214 : decode code 214 = .ok (.iaload, 1) := by decide +kernel
theorem d_L_law_215 : decode code 215 = .ok (.aload_n 0, 1) := by decide +kernel
theorem d_L_law_216 : decode code 216 = .ok (.iload_n 3, 1) := by decide +kernel
theorem d_L_law_217 : decode code 217 = .ok (.iconst 2, 1) := by decide +kernel
theorem d_L_law_218 : decode code 218 = .ok (.iadd, 1) := by decide +kernel
theorem d_L_law_219 : decode code 219 = .ok (.iaload, 1) := by decide +kernel
theorem d_L_law_220 : decode code 220 = .ok (.aload_n 0, 1) := by decide +kernel
theorem d_L_law_221 : decode code 221 = .ok (.iload_n 3, 1) := by decide +kernel
theorem d_L_law_222 : decode code 222 = .ok (.iconst 3, 1) := by decide +kernel
theorem d_L_law_223 : decode code 223 = .ok (.iadd, 1) := by decide +kernel
theorem d_L_law_224 : decode code 224 = .ok (.iaload, 1) := by decide +kernel
theorem d_L_law_225 : decode code 225 = .ok (.aload_n 0, 1) := by decide +kernel
theorem d_L_law_226 : decode code 226 = .ok (.iload_n 3, 1) := by decide +kernel
theorem d_L_law_227 : decode code 227 = .ok (.iconst 4, 1) := by decide +kernel
theorem d_L_law_228 : decode code 228 = .ok (.iadd, 1) := by decide +kernel
theorem d_L_law_229 : decode code 229 = .ok (.iaload, 1) := by decide +kernel
theorem d_L_law_230 : decode code 230 = .ok (.aload_n 0, 1) := by decide +kernel
theorem d_L_law_231 : decode code 231 = .ok (.iload_n 3, 1) := by decide +kernel
theorem d_L_law_232 : decode code 232 = .ok (.iconst 5, 1) := by decide +kernel
theorem d_L_law_233 : decode code 233 = .ok (.iadd, 1) := by decide +kernel
theorem d_L_law_234 : decode code 234 = .ok (.iaload, 1) := by decide +kernel
theorem d_L_law_235 : decode code 235 = .ok (.invokevirtual 17, 3) := by decide +kernel
theorem kw_L_17 : KW "NineBoardsLaw" 17 ⟨"NineBoardsModel", "feed", "(IIIII)I"⟩ prog_13_method_3_code 8 (some .int) 5 := ⟨(mt_6 (List.mem_of_getElem? (i := 88) rfl) rfl), (mt_1 (List.mem_of_getElem? (i := 16) rfl) rfl), (mt_6 (List.mem_of_getElem? (i := 91) rfl) rfl), by decide +kernel⟩
theorem kv_Model_feed : Cond.instanceMethod ⟨"NineBoardsModel", "feed", "(IIIII)I"⟩ ∈ TB ∧ Cond.selects "NineBoardsModel" ⟨"NineBoardsModel", "feed", "(IIIII)I"⟩ ⟨"NineBoardsModel", "feed", "(IIIII)I"⟩ ∈ TB := ⟨(mt_6 (List.mem_of_getElem? (i := 89) rfl) rfl), (mt_6 (List.mem_of_getElem? (i := 90) rfl) rfl)⟩
theorem d_L_law_238 : decode code 238 = .ok (.if_icmp .eq 886, 3) := by decide +kernel
set_option maxHeartbeats 4000000 in
set_option maxRecDepth 100000 in
theorem lc_0 {p : Program} {l : Launch} {e : Env} {s : State} {m : MethodId} {below : List Frame} {meth : Method} {c : Code} {Q : State → Prop} {D : va_G} {y : Nat → ClassId} {nm : String} {b : Nat} {xs : Nat → Int32} (C : Cx p s m #[Value.ref b] meth c D y (LA s) code 4 "NineBoardsLaw" nm) (hX : va_X b 6 xs s s.heap) (hbl : b < s.heap.size) (x : Nat) (mo : Nat) (u1 : Nat → Nat) (r1 : Nat → Nat) (r2 : Nat → Nat → Nat) (h1 : Nat → Nat) (a1 : Nat → Nat → Nat) (g1 : Nat → Nat) (c1 : Nat → Nat) (v1 : Nat → Nat) (kx : J p l e room_1 s m #[Value.ref b] below meth c Q D (LA s) 4 [] [(3, .int 0), (0, .ref b)] 451 27020 1124 []) : J p l e room_1 s m #[Value.ref b] below meth c Q D (LA s) 4 (LW y x mo u1 r1 r2 h1 a1 g1 c1 v1) [(3, .int 0), (2, .ref mo), (1, .ref x), (0, .ref b)] 451 27020 180 [] := by
  refine j_aload_n (pc := 180) C d_L_law_180 rfl 2 rfl ?_
  refine j_aload_n (pc := 181) C d_L_law_181 rfl 3 rfl ?_
  refine j_iload_n (pc := 182) C d_L_law_182 rfl 0 rfl ?_
  refine j_iconst (pc := 183) C (v := 1) d_L_law_183 (by decide) ?_
  refine j_iadd (pc := 184) C (v := 1) d_L_law_184 (by decide) ?_
  refine j_sld (pc := 185) C hX hbl (v := xs 1) (vin (by decide)) rfl d_L_law_185 ?_
  refine j_aload_n (pc := 186) C d_L_law_186 rfl 3 rfl ?_
  refine j_iload_n (pc := 187) C d_L_law_187 rfl 0 rfl ?_
  refine j_iconst (pc := 188) C (v := 2) d_L_law_188 (by decide) ?_
  refine j_iadd (pc := 189) C (v := 2) d_L_law_189 (by decide) ?_
  refine j_sld (pc := 190) C hX hbl (v := xs 2) (vin (by decide)) rfl d_L_law_190 ?_
  refine j_aload_n (pc := 191) C d_L_law_191 rfl 3 rfl ?_
  refine j_iload_n (pc := 192) C d_L_law_192 rfl 0 rfl ?_
  refine j_iconst (pc := 193) C (v := 3) d_L_law_193 (by decide) ?_
  refine j_iadd (pc := 194) C (v := 3) d_L_law_194 (by decide) ?_
  refine j_sld (pc := 195) C hX hbl (v := xs 3) (vin (by decide)) rfl d_L_law_195 ?_
  refine j_aload_n (pc := 196) C d_L_law_196 rfl 3 rfl ?_
  refine j_iload_n (pc := 197) C d_L_law_197 rfl 0 rfl ?_
  refine j_iconst (pc := 198) C (v := 4) d_L_law_198 (by decide) ?_
  refine j_iadd (pc := 199) C (v := 4) d_L_law_199 (by decide) ?_
  refine j_sld (pc := 200) C hX hbl (v := xs 4) (vin (by decide)) rfl d_L_law_200 ?_
  refine j_aload_n (pc := 201) C d_L_law_201 rfl 3 rfl ?_
  refine j_iload_n (pc := 202) C d_L_law_202 rfl 0 rfl ?_
  refine j_iconst (pc := 203) C (v := 5) d_L_law_203 (by decide) ?_
  refine j_iadd (pc := 204) C (v := 5) d_L_law_204 (by decide) ?_
  refine j_sld (pc := 205) C hX hbl (v := xs 5) (vin (by decide)) rfl d_L_law_205 ?_
  refine j_drop ?_
  refine j_sub (ws' := [(x, .inr (9, [.ref (u1 0), .ref (u1 1), .ref (u1 2), .ref (u1 3), .ref (u1 4), .ref (u1 5), .ref (u1 6), .ref (u1 7), .ref (u1 8), .int 1])), (u1 0, .inr (0, [.ref (u1 9), .int 0])), (u1 9, .inl (y 0, 1600, .inl (fun _ => 0))), MB mo v1 0 0 0 0 0 0 0 (-1) 0 0 0 0 0 0 0 0 0 0 1 0, (v1 0, .inl (y 0, 1600, .inl (fun _ => 0))), (v1 43, .inl (y 0, 8, .inl (fun _ => 0))), (v1 45, .inl (y 0, 14, .inl lakeF)), (v1 62, .inl (y 0, 63, .inl (dayF 0))), (v1 65, .inl (y 0, 1890, .inl (fun _ => 0))), (v1 68, .inl (y 0, 63, .inl (fun _ => 0))), (v1 70, .inl (y 0, 6558, .inl (fun _ => 0))), (v1 71, .inl (y 0, 1093, .inl (fun _ => 0))), (v1 72, .inl (y 0, 7, .inl powF)), (v1 74, .inl (y 0, 13, .inl (fun _ => 0))), (v1 75, .inl (y 0, 13, .inl (fun _ => 0))), (v1 77, .inl (y 0, 15, .inl (fun _ => 0)))]) [0, 1, 2, 36, 37, 38, 39, 40, 41, 42, 43, 44, 45, 46, 47, 48] rfl (by decide) ?_
  refine j_callVi (pc := 206) C (c_N_feed l D y x (u1 0) (u1 1) (u1 2) (u1 3) (u1 4) (u1 5) (u1 6) (u1 7) (u1 8) (u1 9) (xs 1) (xs 2) (xs 3) (xs 4) (xs 5)) kw_L_13 kv_Nine_feed 0 9 rfl rfl ⟨by decide, by decide⟩ ⟨by decide, by decide⟩ (wr := [MB mo v1 0 0 0 0 0 0 0 (-1) 0 0 0 0 0 0 0 0 0 0 1 0, (v1 0, .inl (y 0, 1600, .inl (fun _ => 0))), (v1 43, .inl (y 0, 8, .inl (fun _ => 0))), (v1 45, .inl (y 0, 14, .inl lakeF)), (v1 62, .inl (y 0, 63, .inl (dayF 0))), (v1 65, .inl (y 0, 1890, .inl (fun _ => 0))), (v1 68, .inl (y 0, 63, .inl (fun _ => 0))), (v1 70, .inl (y 0, 6558, .inl (fun _ => 0))), (v1 71, .inl (y 0, 1093, .inl (fun _ => 0))), (v1 72, .inl (y 0, 7, .inl powF)), (v1 74, .inl (y 0, 13, .inl (fun _ => 0))), (v1 75, .inl (y 0, 13, .inl (fun _ => 0))), (v1 77, .inl (y 0, 15, .inl (fun _ => 0)))]) [0, 1, 2] [3, 4, 5, 6, 7, 8, 9, 10, 11, 12, 13, 14, 15] rfl rfl (by decide) (by decide) (by decide) (As := [.int (xs 1), .int (xs 2), .int (xs 3), .int (xs 4), .int (xs 5)]) (rest := []) rfl (nb rfl) rfl d_L_law_206 (fun r1 _ hr1 => ?_)
  subst hr1
  refine j_ws (ws' := [MB mo v1 0 0 0 0 0 0 0 (-1) 0 0 0 0 0 0 0 0 0 0 1 0, (v1 0, .inl (y 0, 1600, .inl (fun _ => 0))), (v1 43, .inl (y 0, 8, .inl (fun _ => 0))), (v1 45, .inl (y 0, 14, .inl lakeF)), (v1 62, .inl (y 0, 63, .inl (dayF 0))), (v1 65, .inl (y 0, 1890, .inl (fun _ => 0))), (v1 68, .inl (y 0, 63, .inl (fun _ => 0))), (v1 70, .inl (y 0, 6558, .inl (fun _ => 0))), (v1 71, .inl (y 0, 1093, .inl (fun _ => 0))), (v1 72, .inl (y 0, 7, .inl powF)), (v1 74, .inl (y 0, 13, .inl (fun _ => 0))), (v1 75, .inl (y 0, 13, .inl (fun _ => 0))), (v1 77, .inl (y 0, 15, .inl (fun _ => 0)))]) rfl ?_
  refine j_st (st' := [.int 20]) rfl ?_
  refine j_aload_n (pc := 209) C d_L_law_209 rfl 1 rfl ?_
  refine j_aload_n (pc := 210) C d_L_law_210 rfl 3 rfl ?_
  refine j_iload_n (pc := 211) C d_L_law_211 rfl 0 rfl ?_
  refine j_iconst (pc := 212) C (v := 1) d_L_law_212 (by decide) ?_
  refine j_iadd (pc := 213) C (v := 1) d_L_law_213 (by decide) ?_
  refine j_sld (pc := 214) C hX hbl (v := xs 1) (vin (by decide)) rfl d_L_law_214 ?_
  refine j_aload_n (pc := 215) C d_L_law_215 rfl 3 rfl ?_
  refine j_iload_n (pc := 216) C d_L_law_216 rfl 0 rfl ?_
  refine j_iconst (pc := 217) C (v := 2) d_L_law_217 (by decide) ?_
  refine j_iadd (pc := 218) C (v := 2) d_L_law_218 (by decide) ?_
  refine j_sld (pc := 219) C hX hbl (v := xs 2) (vin (by decide)) rfl d_L_law_219 ?_
  refine j_aload_n (pc := 220) C d_L_law_220 rfl 3 rfl ?_
  refine j_iload_n (pc := 221) C d_L_law_221 rfl 0 rfl ?_
  refine j_iconst (pc := 222) C (v := 3) d_L_law_222 (by decide) ?_
  refine j_iadd (pc := 223) C (v := 3) d_L_law_223 (by decide) ?_
  refine j_sld (pc := 224) C hX hbl (v := xs 3) (vin (by decide)) rfl d_L_law_224 ?_
  refine j_aload_n (pc := 225) C d_L_law_225 rfl 3 rfl ?_
  refine j_iload_n (pc := 226) C d_L_law_226 rfl 0 rfl ?_
  refine j_iconst (pc := 227) C (v := 4) d_L_law_227 (by decide) ?_
  refine j_iadd (pc := 228) C (v := 4) d_L_law_228 (by decide) ?_
  refine j_sld (pc := 229) C hX hbl (v := xs 4) (vin (by decide)) rfl d_L_law_229 ?_
  refine j_aload_n (pc := 230) C d_L_law_230 rfl 3 rfl ?_
  refine j_iload_n (pc := 231) C d_L_law_231 rfl 0 rfl ?_
  refine j_iconst (pc := 232) C (v := 5) d_L_law_232 (by decide) ?_
  refine j_iadd (pc := 233) C (v := 5) d_L_law_233 (by decide) ?_
  refine j_sld (pc := 234) C hX hbl (v := xs 5) (vin (by decide)) rfl d_L_law_234 ?_
  refine j_sub (ws' := [MB mo v1 0 0 0 0 0 0 0 (-1) 0 0 0 0 0 0 0 0 0 0 1 0, (v1 0, .inl (y 0, 1600, .inl (fun _ => 0)))]) [0, 1] rfl (by decide) ?_
  refine j_callVi (pc := 235) C (c_M_feed l D y mo v1 (xs 1) (xs 2) (xs 3) (xs 4) (xs 5)) kw_L_17 kv_Model_feed 0 10 rfl rfl ⟨by decide, by decide⟩ ⟨by decide, by decide⟩ (wr := []) [0, 1] [] rfl rfl (by decide) (by decide) (by decide) (As := [.int (xs 1), .int (xs 2), .int (xs 3), .int (xs 4), .int (xs 5)]) (rest := [.int 20]) rfl (nb rfl) rfl d_L_law_235 (fun r2 _ hr2 => ?_)
  subst hr2
  refine j_ws (ws' := []) rfl ?_
  refine j_st (st' := [.int 20, .int 20]) rfl ?_
  refine j_icmp_eqT (pc := 238) C (tgt := 1124) d_L_law_238 (by decide) (by decide) ?_
  refine j_sub (ws' := []) [] rfl (by decide) ?_
  refine j_locs (lv' := [(3, .int 0), (0, .ref b)]) [0, 3] rfl ?_
  exact kx
theorem d_L_law_243 : decode code 243 = .ok (.aload_n 1, 1) := by decide +kernel
theorem d_L_law_244 : decode code 244 = .ok (.aload_n 0, 1) := by decide +kernel
theorem d_L_law_245 : decode code 245 = .ok (.iload_n 3, 1) := by decide +kernel
theorem d_L_law_246 : decode code 246 = .ok (.iconst 1, 1) := by decide +kernel
theorem d_L_law_247 : decode code 247 = .ok (.iadd, 1) := by decide +kernel
theorem d_L_law_248 : decode code 248 = .ok (.iaload, 1) := by decide +kernel
theorem d_L_law_249 : decode code 249 = .ok (.invokevirtual 18, 3) := by decide +kernel
theorem kw_L_18 : KW "NineBoardsLaw" 18 ⟨"NineBoards", "end", "(I)Z"⟩ prog_1_method_3_code 2 (some .boolean) 1 := ⟨(mt_3 (List.mem_of_getElem? (i := 38) rfl) rfl), (mt_1 (List.mem_of_getElem? (i := 1) rfl) rfl), (mt_3 (List.mem_of_getElem? (i := 41) rfl) rfl), by decide +kernel⟩
theorem kv_Nine_end : Cond.instanceMethod ⟨"NineBoards", "end", "(I)Z"⟩ ∈ TB ∧ Cond.selects "NineBoards" ⟨"NineBoards", "end", "(I)Z"⟩ ⟨"NineBoards", "end", "(I)Z"⟩ ∈ TB := ⟨(mt_3 (List.mem_of_getElem? (i := 39) rfl) rfl), (mt_3 (List.mem_of_getElem? (i := 40) rfl) rfl)⟩
theorem d_L_law_252 : decode code 252 = .ok (.aload_n 2, 1) := by decide +kernel
theorem d_L_law_253 : decode code 253 = .ok (.aload_n 0, 1) := by decide +kernel
theorem d_L_law_254 : decode code 254 = .ok (.iload_n 3, 1) := by decide +kernel
theorem d_L_law_255 : decode code 255 = .ok (.iconst 1, 1) := by decide +kernel
theorem d_L_law_256 : decode code 256 = .ok (.iadd, 1) := by decide +kernel
theorem d_L_law_257 : decode code 257 = .ok (.iaload, 1) := by decide +kernel
theorem d_L_law_258 : decode code 258 = .ok (.invokevirtual 22, 3) := by decide +kernel
theorem kw_L_22 : KW "NineBoardsLaw" 22 ⟨"NineBoardsModel", "end", "(I)Z"⟩ prog_13_method_4_code 2 (some .boolean) 1 := ⟨(mt_6 (List.mem_of_getElem? (i := 92) rfl) rfl), (mt_1 (List.mem_of_getElem? (i := 16) rfl) rfl), (mt_6 (List.mem_of_getElem? (i := 95) rfl) rfl), by decide +kernel⟩
theorem kv_Model_end : Cond.instanceMethod ⟨"NineBoardsModel", "end", "(I)Z"⟩ ∈ TB ∧ Cond.selects "NineBoardsModel" ⟨"NineBoardsModel", "end", "(I)Z"⟩ ⟨"NineBoardsModel", "end", "(I)Z"⟩ ∈ TB := ⟨(mt_6 (List.mem_of_getElem? (i := 93) rfl) rfl), (mt_6 (List.mem_of_getElem? (i := 94) rfl) rfl)⟩
theorem d_L_law_261 : decode code 261 = .ok (.if_icmp .eq 863, 3) := by decide +kernel
set_option maxHeartbeats 4000000 in
set_option maxRecDepth 100000 in
theorem lc_1 {p : Program} {l : Launch} {e : Env} {s : State} {m : MethodId} {below : List Frame} {meth : Method} {c : Code} {Q : State → Prop} {D : va_G} {y : Nat → ClassId} {nm : String} {b : Nat} {xs : Nat → Int32} (C : Cx p s m #[Value.ref b] meth c D y (LA s) code 4 "NineBoardsLaw" nm) (hX : va_X b 6 xs s s.heap) (hbl : b < s.heap.size) (x : Nat) (mo : Nat) (u1 : Nat → Nat) (r1 : Nat → Nat) (r2 : Nat → Nat → Nat) (h1 : Nat → Nat) (a1 : Nat → Nat → Nat) (g1 : Nat → Nat) (c1 : Nat → Nat) (v1 : Nat → Nat) (kx : J p l e room_1 s m #[Value.ref b] below meth c Q D (LA s) 4 [] [(3, .int 0), (0, .ref b)] 451 27020 1124 []) : J p l e room_1 s m #[Value.ref b] below meth c Q D (LA s) 4 (LW y x mo u1 r1 r2 h1 a1 g1 c1 v1) [(3, .int 0), (2, .ref mo), (1, .ref x), (0, .ref b)] 451 27020 243 [] := by
  refine j_aload_n (pc := 243) C d_L_law_243 rfl 2 rfl ?_
  refine j_aload_n (pc := 244) C d_L_law_244 rfl 3 rfl ?_
  refine j_iload_n (pc := 245) C d_L_law_245 rfl 0 rfl ?_
  refine j_iconst (pc := 246) C (v := 1) d_L_law_246 (by decide) ?_
  refine j_iadd (pc := 247) C (v := 1) d_L_law_247 (by decide) ?_
  refine j_sld (pc := 248) C hX hbl (v := xs 1) (vin (by decide)) rfl d_L_law_248 ?_
  refine j_drop ?_
  refine j_sub (ws' := [(x, .inr (9, [.ref (u1 0), .ref (u1 1), .ref (u1 2), .ref (u1 3), .ref (u1 4), .ref (u1 5), .ref (u1 6), .ref (u1 7), .ref (u1 8), .int 1])), (u1 0, .inr (0, [.ref (u1 9), .int 0])), MB mo v1 0 0 0 0 0 0 0 (-1) 0 0 0 0 0 0 0 0 0 0 1 0, (v1 0, .inl (y 0, 1600, .inl (fun _ => 0))), (v1 43, .inl (y 0, 8, .inl (fun _ => 0))), (v1 45, .inl (y 0, 14, .inl lakeF)), (v1 62, .inl (y 0, 63, .inl (dayF 0))), (v1 65, .inl (y 0, 1890, .inl (fun _ => 0))), (v1 68, .inl (y 0, 63, .inl (fun _ => 0))), (v1 70, .inl (y 0, 6558, .inl (fun _ => 0))), (v1 71, .inl (y 0, 1093, .inl (fun _ => 0))), (v1 72, .inl (y 0, 7, .inl powF)), (v1 74, .inl (y 0, 13, .inl (fun _ => 0))), (v1 75, .inl (y 0, 13, .inl (fun _ => 0))), (v1 77, .inl (y 0, 15, .inl (fun _ => 0)))]) [0, 1, 36, 37, 38, 39, 40, 41, 42, 43, 44, 45, 46, 47, 48] rfl (by decide) ?_
  refine j_callVi (pc := 249) C (c_N_end l D y x (u1 0) (u1 1) (u1 2) (u1 3) (u1 4) (u1 5) (u1 6) (u1 7) (u1 8) (u1 9) (xs 1)) kw_L_18 kv_Nine_end 0 9 rfl rfl ⟨by decide, by decide⟩ ⟨by decide, by decide⟩ (wr := [MB mo v1 0 0 0 0 0 0 0 (-1) 0 0 0 0 0 0 0 0 0 0 1 0, (v1 0, .inl (y 0, 1600, .inl (fun _ => 0))), (v1 43, .inl (y 0, 8, .inl (fun _ => 0))), (v1 45, .inl (y 0, 14, .inl lakeF)), (v1 62, .inl (y 0, 63, .inl (dayF 0))), (v1 65, .inl (y 0, 1890, .inl (fun _ => 0))), (v1 68, .inl (y 0, 63, .inl (fun _ => 0))), (v1 70, .inl (y 0, 6558, .inl (fun _ => 0))), (v1 71, .inl (y 0, 1093, .inl (fun _ => 0))), (v1 72, .inl (y 0, 7, .inl powF)), (v1 74, .inl (y 0, 13, .inl (fun _ => 0))), (v1 75, .inl (y 0, 13, .inl (fun _ => 0))), (v1 77, .inl (y 0, 15, .inl (fun _ => 0)))]) [0, 1] [2, 3, 4, 5, 6, 7, 8, 9, 10, 11, 12, 13, 14] rfl rfl (by decide) (by decide) (by decide) (As := [.int (xs 1)]) (rest := []) rfl (nb rfl) rfl d_L_law_249 (fun r1 _ hr1 => ?_)
  subst hr1
  refine j_ws (ws' := [MB mo v1 0 0 0 0 0 0 0 (-1) 0 0 0 0 0 0 0 0 0 0 1 0, (v1 0, .inl (y 0, 1600, .inl (fun _ => 0))), (v1 43, .inl (y 0, 8, .inl (fun _ => 0))), (v1 45, .inl (y 0, 14, .inl lakeF)), (v1 62, .inl (y 0, 63, .inl (dayF 0))), (v1 65, .inl (y 0, 1890, .inl (fun _ => 0))), (v1 68, .inl (y 0, 63, .inl (fun _ => 0))), (v1 70, .inl (y 0, 6558, .inl (fun _ => 0))), (v1 71, .inl (y 0, 1093, .inl (fun _ => 0))), (v1 72, .inl (y 0, 7, .inl powF)), (v1 74, .inl (y 0, 13, .inl (fun _ => 0))), (v1 75, .inl (y 0, 13, .inl (fun _ => 0))), (v1 77, .inl (y 0, 15, .inl (fun _ => 0)))]) rfl ?_
  refine j_st (st' := [.int (if (xs 1).toInt = 0 then 1 else 0)]) rfl ?_
  refine j_aload_n (pc := 252) C d_L_law_252 rfl 1 rfl ?_
  refine j_aload_n (pc := 253) C d_L_law_253 rfl 3 rfl ?_
  refine j_iload_n (pc := 254) C d_L_law_254 rfl 0 rfl ?_
  refine j_iconst (pc := 255) C (v := 1) d_L_law_255 (by decide) ?_
  refine j_iadd (pc := 256) C (v := 1) d_L_law_256 (by decide) ?_
  refine j_sld (pc := 257) C hX hbl (v := xs 1) (vin (by decide)) rfl d_L_law_257 ?_
  refine j_sub (ws' := [MB mo v1 0 0 0 0 0 0 0 (-1) 0 0 0 0 0 0 0 0 0 0 1 0]) [0] rfl (by decide) ?_
  refine j_callVi (pc := 258) C (c_M_end l D y mo v1 (xs 1)) kw_L_22 kv_Model_end 0 10 rfl rfl ⟨by decide, by decide⟩ ⟨by decide, by decide⟩ (wr := []) [0] [] rfl rfl (by decide) (by decide) (by decide) (As := [.int (xs 1)]) (rest := [.int (if (xs 1).toInt = 0 then 1 else 0)]) rfl (nb rfl) rfl d_L_law_258 (fun r2 _ hr2 => ?_)
  subst hr2
  refine j_ws (ws' := []) rfl ?_
  refine j_st (st' := [.int (if (xs 1).toInt = 0 then 1 else 0), .int (if (xs 1).toInt = 0 then 1 else 0)]) rfl ?_
  refine j_icmp_eqT (pc := 261) C (tgt := 1124) d_L_law_261 (by decide) rfl ?_
  refine j_sub (ws' := []) [] rfl (by decide) ?_
  refine j_locs (lv' := [(3, .int 0), (0, .ref b)]) [0, 3] rfl ?_
  exact kx
theorem d_L_law_266 : decode code 266 = .ok (.aload_n 1, 1) := by decide +kernel
theorem d_L_law_267 : decode code 267 = .ok (.invokevirtual 23, 3) := by decide +kernel
theorem kw_L_23 : KW "NineBoardsLaw" 23 ⟨"NineBoards", "lake", "()I"⟩ prog_1_method_4_code 3 (some .int) 0 := ⟨(mt_3 (List.mem_of_getElem? (i := 42) rfl) rfl), (mt_1 (List.mem_of_getElem? (i := 1) rfl) rfl), (mt_3 (List.mem_of_getElem? (i := 45) rfl) rfl), by decide +kernel⟩
theorem kv_Nine_lake : Cond.instanceMethod ⟨"NineBoards", "lake", "()I"⟩ ∈ TB ∧ Cond.selects "NineBoards" ⟨"NineBoards", "lake", "()I"⟩ ⟨"NineBoards", "lake", "()I"⟩ ∈ TB := ⟨(mt_3 (List.mem_of_getElem? (i := 43) rfl) rfl), (mt_3 (List.mem_of_getElem? (i := 44) rfl) rfl)⟩
theorem d_L_law_270 : decode code 270 = .ok (.aload_n 2, 1) := by decide +kernel
theorem d_L_law_271 : decode code 271 = .ok (.invokevirtual 27, 3) := by decide +kernel
theorem kw_L_27 : KW "NineBoardsLaw" 27 ⟨"NineBoardsModel", "lake", "()I"⟩ prog_13_method_29_code 2 (some .int) 0 := ⟨(mt_6 (List.mem_of_getElem? (i := 96) rfl) rfl), (mt_1 (List.mem_of_getElem? (i := 16) rfl) rfl), (mt_6 (List.mem_of_getElem? (i := 99) rfl) rfl), by decide +kernel⟩
theorem kv_Model_lake : Cond.instanceMethod ⟨"NineBoardsModel", "lake", "()I"⟩ ∈ TB ∧ Cond.selects "NineBoardsModel" ⟨"NineBoardsModel", "lake", "()I"⟩ ⟨"NineBoardsModel", "lake", "()I"⟩ ∈ TB := ⟨(mt_6 (List.mem_of_getElem? (i := 97) rfl) rfl), (mt_6 (List.mem_of_getElem? (i := 98) rfl) rfl)⟩
theorem d_L_law_274 : decode code 274 = .ok (.if_icmp .eq 850, 3) := by decide +kernel
set_option maxHeartbeats 4000000 in
set_option maxRecDepth 100000 in
theorem lc_2 {p : Program} {l : Launch} {e : Env} {s : State} {m : MethodId} {below : List Frame} {meth : Method} {c : Code} {Q : State → Prop} {D : va_G} {y : Nat → ClassId} {nm : String} {b : Nat} {xs : Nat → Int32} (C : Cx p s m #[Value.ref b] meth c D y (LA s) code 4 "NineBoardsLaw" nm) (hX : va_X b 6 xs s s.heap) (hbl : b < s.heap.size) (x : Nat) (mo : Nat) (u1 : Nat → Nat) (r1 : Nat → Nat) (r2 : Nat → Nat → Nat) (h1 : Nat → Nat) (a1 : Nat → Nat → Nat) (g1 : Nat → Nat) (c1 : Nat → Nat) (v1 : Nat → Nat) (kx : J p l e room_1 s m #[Value.ref b] below meth c Q D (LA s) 4 [] [(3, .int 0), (0, .ref b)] 451 27020 1124 []) : J p l e room_1 s m #[Value.ref b] below meth c Q D (LA s) 4 (LW y x mo u1 r1 r2 h1 a1 g1 c1 v1) [(3, .int 0), (2, .ref mo), (1, .ref x), (0, .ref b)] 451 27020 266 [] := by
  refine j_aload_n (pc := 266) C d_L_law_266 rfl 2 rfl ?_
  refine j_drop ?_
  refine j_sub (ws' := [(x, .inr (9, [.ref (u1 0), .ref (u1 1), .ref (u1 2), .ref (u1 3), .ref (u1 4), .ref (u1 5), .ref (u1 6), .ref (u1 7), .ref (u1 8), .int 1])), (u1 7, .inr (5, [.int 0, .int (-1), .ref (u1 76), .ref (u1 0), .ref (u1 6), .int 0, .int 0, .int 0, .long 0, .int 0, .int 0, .int 0])), (u1 0, .inr (0, [.ref (u1 9), .int 0])), (u1 9, .inl (y 0, 1600, .inl (fun _ => 0))), (u1 6, .inr (2, [.int 0, .int 1, .int 1, .int 0, .ref (u1 51), .int 0, .ref (u1 52), .ref (u1 53), .ref (u1 54), .ref (u1 55), .int 0, .int 0, .int 9999, .int 0])), (u1 51, .inr (1, [.int 0, .ref (u1 56), .ref (u1 57), .ref (u1 58), .ref (u1 59), .ref (u1 60), .ref (u1 61), .ref (u1 62)])), (u1 54, .inr (8, [.int 0, .ref (u1 63), .ref (u1 64), .ref (u1 65), .ref (u1 66), .ref (u1 67), .ref (u1 68), .ref (u1 69)])), (u1 55, .inr (6, [.int 0, .int 0, .ref (u1 70), .ref (u1 71), .ref (u1 72), .ref (u1 73), .ref (u1 74), .ref (u1 75)])), MB mo v1 0 0 0 0 0 0 0 (-1) 0 0 0 0 0 0 0 0 0 0 1 0, (v1 0, .inl (y 0, 1600, .inl (fun _ => 0))), (v1 43, .inl (y 0, 8, .inl (fun _ => 0))), (v1 45, .inl (y 0, 14, .inl lakeF)), (v1 62, .inl (y 0, 63, .inl (dayF 0))), (v1 65, .inl (y 0, 1890, .inl (fun _ => 0))), (v1 68, .inl (y 0, 63, .inl (fun _ => 0))), (v1 70, .inl (y 0, 6558, .inl (fun _ => 0))), (v1 71, .inl (y 0, 1093, .inl (fun _ => 0))), (v1 72, .inl (y 0, 7, .inl powF)), (v1 74, .inl (y 0, 13, .inl (fun _ => 0))), (v1 75, .inl (y 0, 13, .inl (fun _ => 0))), (v1 77, .inl (y 0, 15, .inl (fun _ => 0)))]) [0, 31, 1, 2, 27, 28, 29, 30, 36, 37, 38, 39, 40, 41, 42, 43, 44, 45, 46, 47, 48] rfl (by decide) ?_
  refine j_callVi (pc := 267) C (c_N_lake l D y x (u1 0) (u1 1) (u1 2) (u1 3) (u1 4) (u1 5) (u1 6) (u1 7) (u1 8) (u1 76) (u1 9) (u1 51) (u1 52) (u1 53) (u1 54) (u1 55) (u1 56) (u1 57) (u1 58) (u1 59) (u1 60) (u1 61) (u1 62) (u1 63) (u1 64) (u1 65) (u1 66) (u1 67) (u1 68) (u1 69) (u1 70) (u1 71) (u1 72) (u1 73) (u1 74) (u1 75)) kw_L_23 kv_Nine_lake 0 9 rfl rfl ⟨by decide, by decide⟩ ⟨by decide, by decide⟩ (wr := [MB mo v1 0 0 0 0 0 0 0 (-1) 0 0 0 0 0 0 0 0 0 0 1 0, (v1 0, .inl (y 0, 1600, .inl (fun _ => 0))), (v1 43, .inl (y 0, 8, .inl (fun _ => 0))), (v1 45, .inl (y 0, 14, .inl lakeF)), (v1 62, .inl (y 0, 63, .inl (dayF 0))), (v1 65, .inl (y 0, 1890, .inl (fun _ => 0))), (v1 68, .inl (y 0, 63, .inl (fun _ => 0))), (v1 70, .inl (y 0, 6558, .inl (fun _ => 0))), (v1 71, .inl (y 0, 1093, .inl (fun _ => 0))), (v1 72, .inl (y 0, 7, .inl powF)), (v1 74, .inl (y 0, 13, .inl (fun _ => 0))), (v1 75, .inl (y 0, 13, .inl (fun _ => 0))), (v1 77, .inl (y 0, 15, .inl (fun _ => 0)))]) [0, 1, 2, 3, 4, 5, 6, 7] [8, 9, 10, 11, 12, 13, 14, 15, 16, 17, 18, 19, 20] rfl rfl (by decide) (by decide) (by decide) (As := []) (rest := []) rfl (nb rfl) rfl d_L_law_267 (fun r1 _ hr1 => ?_)
  subst hr1
  refine j_ws (ws' := [MB mo v1 0 0 0 0 0 0 0 (-1) 0 0 0 0 0 0 0 0 0 0 1 0, (v1 0, .inl (y 0, 1600, .inl (fun _ => 0))), (v1 43, .inl (y 0, 8, .inl (fun _ => 0))), (v1 45, .inl (y 0, 14, .inl lakeF)), (v1 62, .inl (y 0, 63, .inl (dayF 0))), (v1 65, .inl (y 0, 1890, .inl (fun _ => 0))), (v1 68, .inl (y 0, 63, .inl (fun _ => 0))), (v1 70, .inl (y 0, 6558, .inl (fun _ => 0))), (v1 71, .inl (y 0, 1093, .inl (fun _ => 0))), (v1 72, .inl (y 0, 7, .inl powF)), (v1 74, .inl (y 0, 13, .inl (fun _ => 0))), (v1 75, .inl (y 0, 13, .inl (fun _ => 0))), (v1 77, .inl (y 0, 15, .inl (fun _ => 0)))]) rfl ?_
  refine j_st (st' := [.int (-1)]) rfl ?_
  refine j_aload_n (pc := 270) C d_L_law_270 rfl 1 rfl ?_
  refine j_sub (ws' := [MB mo v1 0 0 0 0 0 0 0 (-1) 0 0 0 0 0 0 0 0 0 0 1 0, (v1 43, .inl (y 0, 8, .inl (fun _ => 0))), (v1 45, .inl (y 0, 14, .inl lakeF))]) [0, 2, 3] rfl (by decide) ?_
  refine j_callVi (pc := 271) C (c_M_lake l D y mo v1) kw_L_27 kv_Model_lake 0 10 rfl rfl ⟨by decide, by decide⟩ ⟨by decide, by decide⟩ (wr := []) [0, 1, 2] [] rfl rfl (by decide) (by decide) (by decide) (As := []) (rest := [.int (-1)]) rfl (nb rfl) rfl d_L_law_271 (fun r2 _ hr2 => ?_)
  subst hr2
  refine j_ws (ws' := []) rfl ?_
  refine j_st (st' := [.int (-1), .int (-1)]) rfl ?_
  refine j_icmp_eqT (pc := 274) C (tgt := 1124) d_L_law_274 (by decide) (by decide) ?_
  refine j_sub (ws' := []) [] rfl (by decide) ?_
  refine j_locs (lv' := [(3, .int 0), (0, .ref b)]) [0, 3] rfl ?_
  exact kx
theorem d_L_law_279 : decode code 279 = .ok (.aload_n 1, 1) := by decide +kernel
theorem d_L_law_280 : decode code 280 = .ok (.aload_n 0, 1) := by decide +kernel
theorem d_L_law_281 : decode code 281 = .ok (.iload_n 3, 1) := by decide +kernel
theorem d_L_law_282 : decode code 282 = .ok (.iconst 1, 1) := by decide +kernel
theorem d_L_law_283 : decode code 283 = .ok (.iadd, 1) := by decide +kernel
theorem d_L_law_284 : decode code 284 = .ok (.iaload, 1) := by decide +kernel
theorem d_L_law_285 : decode code 285 = .ok (.invokevirtual 28, 3) := by decide +kernel
theorem kw_L_28 : KW "NineBoardsLaw" 28 ⟨"NineBoards", "fault", "(I)I"⟩ prog_1_method_5_code 2 (some .int) 1 := ⟨(mt_3 (List.mem_of_getElem? (i := 205) rfl) rfl), (mt_1 (List.mem_of_getElem? (i := 1) rfl) rfl), (mt_3 (List.mem_of_getElem? (i := 208) rfl) rfl), by decide +kernel⟩
theorem kv_Nine_fault : Cond.instanceMethod ⟨"NineBoards", "fault", "(I)I"⟩ ∈ TB ∧ Cond.selects "NineBoards" ⟨"NineBoards", "fault", "(I)I"⟩ ⟨"NineBoards", "fault", "(I)I"⟩ ∈ TB := ⟨(mt_3 (List.mem_of_getElem? (i := 206) rfl) rfl), (mt_3 (List.mem_of_getElem? (i := 207) rfl) rfl)⟩
theorem d_L_law_288 : decode code 288 = .ok (.aload_n 2, 1) := by decide +kernel
theorem d_L_law_289 : decode code 289 = .ok (.aload_n 0, 1) := by decide +kernel
theorem d_L_law_290 : decode code 290 = .ok (.iload_n 3, 1) := by decide +kernel
theorem d_L_law_291 : decode code 291 = .ok (.iconst 1, 1) := by decide +kernel
theorem d_L_law_292 : decode code 292 = .ok (.iadd, 1) := by decide +kernel
theorem d_L_law_293 : decode code 293 = .ok (.iaload, 1) := by decide +kernel
theorem d_L_law_294 : decode code 294 = .ok (.invokevirtual 32, 3) := by decide +kernel
theorem kw_L_32 : KW "NineBoardsLaw" 32 ⟨"NineBoardsModel", "fault", "(I)I"⟩ prog_13_method_46_code 2 (some .int) 1 := ⟨(mt_7 (List.mem_of_getElem? (i := 31) rfl) rfl), (mt_1 (List.mem_of_getElem? (i := 16) rfl) rfl), (mt_7 (List.mem_of_getElem? (i := 34) rfl) rfl), by decide +kernel⟩
theorem kv_Model_fault : Cond.instanceMethod ⟨"NineBoardsModel", "fault", "(I)I"⟩ ∈ TB ∧ Cond.selects "NineBoardsModel" ⟨"NineBoardsModel", "fault", "(I)I"⟩ ⟨"NineBoardsModel", "fault", "(I)I"⟩ ∈ TB := ⟨(mt_7 (List.mem_of_getElem? (i := 32) rfl) rfl), (mt_7 (List.mem_of_getElem? (i := 33) rfl) rfl)⟩
theorem d_L_law_297 : decode code 297 = .ok (.if_icmp .eq 827, 3) := by decide +kernel
set_option maxHeartbeats 4000000 in
set_option maxRecDepth 100000 in
theorem lc_3 {p : Program} {l : Launch} {e : Env} {s : State} {m : MethodId} {below : List Frame} {meth : Method} {c : Code} {Q : State → Prop} {D : va_G} {y : Nat → ClassId} {nm : String} {b : Nat} {xs : Nat → Int32} (C : Cx p s m #[Value.ref b] meth c D y (LA s) code 4 "NineBoardsLaw" nm) (hX : va_X b 6 xs s s.heap) (hbl : b < s.heap.size) (x : Nat) (mo : Nat) (u1 : Nat → Nat) (r1 : Nat → Nat) (r2 : Nat → Nat → Nat) (h1 : Nat → Nat) (a1 : Nat → Nat → Nat) (g1 : Nat → Nat) (c1 : Nat → Nat) (v1 : Nat → Nat) (kx : J p l e room_1 s m #[Value.ref b] below meth c Q D (LA s) 4 [] [(3, .int 0), (0, .ref b)] 451 27020 1124 []) : J p l e room_1 s m #[Value.ref b] below meth c Q D (LA s) 4 (LW y x mo u1 r1 r2 h1 a1 g1 c1 v1) [(3, .int 0), (2, .ref mo), (1, .ref x), (0, .ref b)] 451 27020 279 [] := by
  refine j_aload_n (pc := 279) C d_L_law_279 rfl 2 rfl ?_
  refine j_aload_n (pc := 280) C d_L_law_280 rfl 3 rfl ?_
  refine j_iload_n (pc := 281) C d_L_law_281 rfl 0 rfl ?_
  refine j_iconst (pc := 282) C (v := 1) d_L_law_282 (by decide) ?_
  refine j_iadd (pc := 283) C (v := 1) d_L_law_283 (by decide) ?_
  refine j_sld (pc := 284) C hX hbl (v := xs 1) (vin (by decide)) rfl d_L_law_284 ?_
  refine j_drop ?_
  refine j_sub (ws' := [(x, .inr (9, [.ref (u1 0), .ref (u1 1), .ref (u1 2), .ref (u1 3), .ref (u1 4), .ref (u1 5), .ref (u1 6), .ref (u1 7), .ref (u1 8), .int 1])), (u1 7, .inr (5, [.int 0, .int (-1), .ref (u1 76), .ref (u1 0), .ref (u1 6), .int 0, .int 0, .int 0, .long 0, .int 0, .int 0, .int 0])), MB mo v1 0 0 0 0 0 0 0 (-1) 0 0 0 0 0 0 0 0 0 0 1 0, (v1 0, .inl (y 0, 1600, .inl (fun _ => 0))), (v1 43, .inl (y 0, 8, .inl (fun _ => 0))), (v1 45, .inl (y 0, 14, .inl lakeF)), (v1 62, .inl (y 0, 63, .inl (dayF 0))), (v1 65, .inl (y 0, 1890, .inl (fun _ => 0))), (v1 68, .inl (y 0, 63, .inl (fun _ => 0))), (v1 70, .inl (y 0, 6558, .inl (fun _ => 0))), (v1 71, .inl (y 0, 1093, .inl (fun _ => 0))), (v1 72, .inl (y 0, 7, .inl powF)), (v1 74, .inl (y 0, 13, .inl (fun _ => 0))), (v1 75, .inl (y 0, 13, .inl (fun _ => 0))), (v1 77, .inl (y 0, 15, .inl (fun _ => 0)))]) [0, 31, 36, 37, 38, 39, 40, 41, 42, 43, 44, 45, 46, 47, 48] rfl (by decide) ?_
  refine j_callVi (pc := 285) C (c_N_fault l D y x (u1 0) (u1 1) (u1 2) (u1 3) (u1 4) (u1 5) (u1 6) (u1 7) (u1 8) (u1 76) (xs 1)) kw_L_28 kv_Nine_fault 0 9 rfl rfl ⟨by decide, by decide⟩ ⟨by decide, by decide⟩ (wr := [MB mo v1 0 0 0 0 0 0 0 (-1) 0 0 0 0 0 0 0 0 0 0 1 0, (v1 0, .inl (y 0, 1600, .inl (fun _ => 0))), (v1 43, .inl (y 0, 8, .inl (fun _ => 0))), (v1 45, .inl (y 0, 14, .inl lakeF)), (v1 62, .inl (y 0, 63, .inl (dayF 0))), (v1 65, .inl (y 0, 1890, .inl (fun _ => 0))), (v1 68, .inl (y 0, 63, .inl (fun _ => 0))), (v1 70, .inl (y 0, 6558, .inl (fun _ => 0))), (v1 71, .inl (y 0, 1093, .inl (fun _ => 0))), (v1 72, .inl (y 0, 7, .inl powF)), (v1 74, .inl (y 0, 13, .inl (fun _ => 0))), (v1 75, .inl (y 0, 13, .inl (fun _ => 0))), (v1 77, .inl (y 0, 15, .inl (fun _ => 0)))]) [0, 1] [2, 3, 4, 5, 6, 7, 8, 9, 10, 11, 12, 13, 14] rfl rfl (by decide) (by decide) (by decide) (As := [.int (xs 1)]) (rest := []) rfl (nb rfl) rfl d_L_law_285 (fun r1 _ hr1 => ?_)
  subst hr1
  refine j_ws (ws' := [MB mo v1 0 0 0 0 0 0 0 (-1) 0 0 0 0 0 0 0 0 0 0 1 0, (v1 0, .inl (y 0, 1600, .inl (fun _ => 0))), (v1 43, .inl (y 0, 8, .inl (fun _ => 0))), (v1 45, .inl (y 0, 14, .inl lakeF)), (v1 62, .inl (y 0, 63, .inl (dayF 0))), (v1 65, .inl (y 0, 1890, .inl (fun _ => 0))), (v1 68, .inl (y 0, 63, .inl (fun _ => 0))), (v1 70, .inl (y 0, 6558, .inl (fun _ => 0))), (v1 71, .inl (y 0, 1093, .inl (fun _ => 0))), (v1 72, .inl (y 0, 7, .inl powF)), (v1 74, .inl (y 0, 13, .inl (fun _ => 0))), (v1 75, .inl (y 0, 13, .inl (fun _ => 0))), (v1 77, .inl (y 0, 15, .inl (fun _ => 0)))]) rfl ?_
  refine j_st (st' := [.int (if (xs 1).toInt = 0 then 0 else -1)]) rfl ?_
  refine j_aload_n (pc := 288) C d_L_law_288 rfl 1 rfl ?_
  refine j_aload_n (pc := 289) C d_L_law_289 rfl 3 rfl ?_
  refine j_iload_n (pc := 290) C d_L_law_290 rfl 0 rfl ?_
  refine j_iconst (pc := 291) C (v := 1) d_L_law_291 (by decide) ?_
  refine j_iadd (pc := 292) C (v := 1) d_L_law_292 (by decide) ?_
  refine j_sld (pc := 293) C hX hbl (v := xs 1) (vin (by decide)) rfl d_L_law_293 ?_
  refine j_sub (ws' := [MB mo v1 0 0 0 0 0 0 0 (-1) 0 0 0 0 0 0 0 0 0 0 1 0]) [0] rfl (by decide) ?_
  refine j_callVi (pc := 294) C (c_M_fault l D y mo v1 (xs 1)) kw_L_32 kv_Model_fault 0 10 rfl rfl ⟨by decide, by decide⟩ ⟨by decide, by decide⟩ (wr := []) [0] [] rfl rfl (by decide) (by decide) (by decide) (As := [.int (xs 1)]) (rest := [.int (if (xs 1).toInt = 0 then 0 else -1)]) rfl (nb rfl) rfl d_L_law_294 (fun r2 _ hr2 => ?_)
  subst hr2
  refine j_ws (ws' := []) rfl ?_
  refine j_st (st' := [.int (if (xs 1).toInt = 0 then 0 else -1), .int (if (xs 1).toInt = 0 then 0 else -1)]) rfl ?_
  refine j_icmp_eqT (pc := 297) C (tgt := 1124) d_L_law_297 (by decide) rfl ?_
  refine j_sub (ws' := []) [] rfl (by decide) ?_
  refine j_locs (lv' := [(3, .int 0), (0, .ref b)]) [0, 3] rfl ?_
  exact kx
theorem d_L_law_302 : decode code 302 = .ok (.aload_n 1, 1) := by decide +kernel
theorem d_L_law_303 : decode code 303 = .ok (.aload_n 0, 1) := by decide +kernel
theorem d_L_law_304 : decode code 304 = .ok (.iload_n 3, 1) := by decide +kernel
theorem d_L_law_305 : decode code 305 = .ok (.iconst 1, 1) := by decide +kernel
theorem d_L_law_306 : decode code 306 = .ok (.iadd, 1) := by decide +kernel
theorem d_L_law_307 : decode code 307 = .ok (.iaload, 1) := by decide +kernel
theorem d_L_law_308 : decode code 308 = .ok (.invokevirtual 33, 3) := by decide +kernel
theorem kw_L_33 : KW "NineBoardsLaw" 33 ⟨"NineBoards", "has", "(I)I"⟩ prog_1_method_6_code 2 (some .int) 1 := ⟨(mt_3 (List.mem_of_getElem? (i := 209) rfl) rfl), (mt_1 (List.mem_of_getElem? (i := 1) rfl) rfl), (mt_3 (List.mem_of_getElem? (i := 212) rfl) rfl), by decide +kernel⟩
theorem kv_Nine_has : Cond.instanceMethod ⟨"NineBoards", "has", "(I)I"⟩ ∈ TB ∧ Cond.selects "NineBoards" ⟨"NineBoards", "has", "(I)I"⟩ ⟨"NineBoards", "has", "(I)I"⟩ ∈ TB := ⟨(mt_3 (List.mem_of_getElem? (i := 210) rfl) rfl), (mt_3 (List.mem_of_getElem? (i := 211) rfl) rfl)⟩
theorem d_L_law_311 : decode code 311 = .ok (.aload_n 2, 1) := by decide +kernel
theorem d_L_law_312 : decode code 312 = .ok (.aload_n 0, 1) := by decide +kernel
theorem d_L_law_313 : decode code 313 = .ok (.iload_n 3, 1) := by decide +kernel
theorem d_L_law_314 : decode code 314 = .ok (.iconst 1, 1) := by decide +kernel
theorem d_L_law_315 : decode code 315 = .ok (.iadd, 1) := by decide +kernel
theorem d_L_law_316 : decode code 316 = .ok (.iaload, 1) := by decide +kernel
theorem d_L_law_317 : decode code 317 = .ok (.invokevirtual 36, 3) := by decide +kernel
theorem kw_L_36 : KW "NineBoardsLaw" 36 ⟨"NineBoardsModel", "has", "(I)I"⟩ prog_13_method_72_code 2 (some .int) 1 := ⟨(mt_7 (List.mem_of_getElem? (i := 35) rfl) rfl), (mt_1 (List.mem_of_getElem? (i := 16) rfl) rfl), (mt_7 (List.mem_of_getElem? (i := 38) rfl) rfl), by decide +kernel⟩
theorem kv_Model_has : Cond.instanceMethod ⟨"NineBoardsModel", "has", "(I)I"⟩ ∈ TB ∧ Cond.selects "NineBoardsModel" ⟨"NineBoardsModel", "has", "(I)I"⟩ ⟨"NineBoardsModel", "has", "(I)I"⟩ ∈ TB := ⟨(mt_7 (List.mem_of_getElem? (i := 36) rfl) rfl), (mt_7 (List.mem_of_getElem? (i := 37) rfl) rfl)⟩
theorem d_L_law_320 : decode code 320 = .ok (.if_icmp .eq 804, 3) := by decide +kernel
set_option maxHeartbeats 4000000 in
set_option maxRecDepth 100000 in
theorem lc_4 {p : Program} {l : Launch} {e : Env} {s : State} {m : MethodId} {below : List Frame} {meth : Method} {c : Code} {Q : State → Prop} {D : va_G} {y : Nat → ClassId} {nm : String} {b : Nat} {xs : Nat → Int32} (C : Cx p s m #[Value.ref b] meth c D y (LA s) code 4 "NineBoardsLaw" nm) (hX : va_X b 6 xs s s.heap) (hbl : b < s.heap.size) (x : Nat) (mo : Nat) (u1 : Nat → Nat) (r1 : Nat → Nat) (r2 : Nat → Nat → Nat) (h1 : Nat → Nat) (a1 : Nat → Nat → Nat) (g1 : Nat → Nat) (c1 : Nat → Nat) (v1 : Nat → Nat) (kx : J p l e room_1 s m #[Value.ref b] below meth c Q D (LA s) 4 [] [(3, .int 0), (0, .ref b)] 451 27020 1124 []) : J p l e room_1 s m #[Value.ref b] below meth c Q D (LA s) 4 (LW y x mo u1 r1 r2 h1 a1 g1 c1 v1) [(3, .int 0), (2, .ref mo), (1, .ref x), (0, .ref b)] 451 27020 302 [] := by
  refine j_aload_n (pc := 302) C d_L_law_302 rfl 2 rfl ?_
  refine j_aload_n (pc := 303) C d_L_law_303 rfl 3 rfl ?_
  refine j_iload_n (pc := 304) C d_L_law_304 rfl 0 rfl ?_
  refine j_iconst (pc := 305) C (v := 1) d_L_law_305 (by decide) ?_
  refine j_iadd (pc := 306) C (v := 1) d_L_law_306 (by decide) ?_
  refine j_sld (pc := 307) C hX hbl (v := xs 1) (vin (by decide)) rfl d_L_law_307 ?_
  refine j_drop ?_
  refine j_sub (ws' := [(x, .inr (9, [.ref (u1 0), .ref (u1 1), .ref (u1 2), .ref (u1 3), .ref (u1 4), .ref (u1 5), .ref (u1 6), .ref (u1 7), .ref (u1 8), .int 1])), (u1 5, .inr (2, [.int 0, .int 1, .int 1, .int 0, .ref (u1 26), .int 0, .ref (u1 27), .ref (u1 28), .ref (u1 29), .ref (u1 30), .int 0, .int 0, .int 9999, .int 0])), (u1 26, .inr (1, [.int 0, .ref (u1 31), .ref (u1 32), .ref (u1 33), .ref (u1 34), .ref (u1 35), .ref (u1 36), .ref (u1 37)])), (u1 29, .inr (8, [.int 0, .ref (u1 38), .ref (u1 39), .ref (u1 40), .ref (u1 41), .ref (u1 42), .ref (u1 43), .ref (u1 44)])), (u1 30, .inr (6, [.int 0, .int 0, .ref (u1 45), .ref (u1 46), .ref (u1 47), .ref (u1 48), .ref (u1 49), .ref (u1 50)])), (u1 2, .inr (7, [.int 0, .int 0, .int 0, .ref (u1 11), .ref (u1 12), .ref (u1 13), .ref (u1 14), .ref (u1 15), .ref (u1 16), .ref (u1 17)])), (u1 4, .inr (3, [.int 0, .int 0, .ref (u1 25)])), MB mo v1 0 0 0 0 0 0 0 (-1) 0 0 0 0 0 0 0 0 0 0 1 0, (v1 0, .inl (y 0, 1600, .inl (fun _ => 0))), (v1 43, .inl (y 0, 8, .inl (fun _ => 0))), (v1 45, .inl (y 0, 14, .inl lakeF)), (v1 62, .inl (y 0, 63, .inl (dayF 0))), (v1 65, .inl (y 0, 1890, .inl (fun _ => 0))), (v1 68, .inl (y 0, 63, .inl (fun _ => 0))), (v1 70, .inl (y 0, 6558, .inl (fun _ => 0))), (v1 71, .inl (y 0, 1093, .inl (fun _ => 0))), (v1 72, .inl (y 0, 7, .inl powF)), (v1 74, .inl (y 0, 13, .inl (fun _ => 0))), (v1 75, .inl (y 0, 13, .inl (fun _ => 0))), (v1 77, .inl (y 0, 15, .inl (fun _ => 0)))]) [0, 23, 24, 25, 26, 5, 21, 36, 37, 38, 39, 40, 41, 42, 43, 44, 45, 46, 47, 48] rfl (by decide) ?_
  refine j_callVi (pc := 308) C (c_N_has l D y x (u1 0) (u1 1) (u1 2) (u1 3) (u1 4) (u1 5) (u1 6) (u1 7) (u1 8) (u1 26) (u1 27) (u1 28) (u1 29) (u1 30) (u1 31) (u1 32) (u1 33) (u1 34) (u1 35) (u1 36) (u1 37) (u1 38) (u1 39) (u1 40) (u1 41) (u1 42) (u1 43) (u1 44) (u1 45) (u1 46) (u1 47) (u1 48) (u1 49) (u1 50) (u1 11) (u1 12) (u1 13) (u1 14) (u1 15) (u1 16) (u1 17) (u1 25) (xs 1)) kw_L_33 kv_Nine_has 0 9 rfl rfl ⟨by decide, by decide⟩ ⟨by decide, by decide⟩ (wr := [MB mo v1 0 0 0 0 0 0 0 (-1) 0 0 0 0 0 0 0 0 0 0 1 0, (v1 0, .inl (y 0, 1600, .inl (fun _ => 0))), (v1 43, .inl (y 0, 8, .inl (fun _ => 0))), (v1 45, .inl (y 0, 14, .inl lakeF)), (v1 62, .inl (y 0, 63, .inl (dayF 0))), (v1 65, .inl (y 0, 1890, .inl (fun _ => 0))), (v1 68, .inl (y 0, 63, .inl (fun _ => 0))), (v1 70, .inl (y 0, 6558, .inl (fun _ => 0))), (v1 71, .inl (y 0, 1093, .inl (fun _ => 0))), (v1 72, .inl (y 0, 7, .inl powF)), (v1 74, .inl (y 0, 13, .inl (fun _ => 0))), (v1 75, .inl (y 0, 13, .inl (fun _ => 0))), (v1 77, .inl (y 0, 15, .inl (fun _ => 0)))]) [0, 1, 2, 3, 4, 5, 6] [7, 8, 9, 10, 11, 12, 13, 14, 15, 16, 17, 18, 19] rfl rfl (by decide) (by decide) (by decide) (As := [.int (xs 1)]) (rest := []) rfl (nb rfl) rfl d_L_law_308 (fun r1 _ hr1 => ?_)
  subst hr1
  refine j_ws (ws' := [MB mo v1 0 0 0 0 0 0 0 (-1) 0 0 0 0 0 0 0 0 0 0 1 0, (v1 0, .inl (y 0, 1600, .inl (fun _ => 0))), (v1 43, .inl (y 0, 8, .inl (fun _ => 0))), (v1 45, .inl (y 0, 14, .inl lakeF)), (v1 62, .inl (y 0, 63, .inl (dayF 0))), (v1 65, .inl (y 0, 1890, .inl (fun _ => 0))), (v1 68, .inl (y 0, 63, .inl (fun _ => 0))), (v1 70, .inl (y 0, 6558, .inl (fun _ => 0))), (v1 71, .inl (y 0, 1093, .inl (fun _ => 0))), (v1 72, .inl (y 0, 7, .inl powF)), (v1 74, .inl (y 0, 13, .inl (fun _ => 0))), (v1 75, .inl (y 0, 13, .inl (fun _ => 0))), (v1 77, .inl (y 0, 15, .inl (fun _ => 0)))]) rfl ?_
  refine j_st (st' := [.int (if 0 ≤ (xs 1).toInt ∧ (xs 1).toInt ≤ 8 then 0 else -1)]) rfl ?_
  refine j_aload_n (pc := 311) C d_L_law_311 rfl 1 rfl ?_
  refine j_aload_n (pc := 312) C d_L_law_312 rfl 3 rfl ?_
  refine j_iload_n (pc := 313) C d_L_law_313 rfl 0 rfl ?_
  refine j_iconst (pc := 314) C (v := 1) d_L_law_314 (by decide) ?_
  refine j_iadd (pc := 315) C (v := 1) d_L_law_315 (by decide) ?_
  refine j_sld (pc := 316) C hX hbl (v := xs 1) (vin (by decide)) rfl d_L_law_316 ?_
  refine j_sub (ws' := [MB mo v1 0 0 0 0 0 0 0 (-1) 0 0 0 0 0 0 0 0 0 0 1 0, (v1 43, .inl (y 0, 8, .inl (fun _ => 0))), (v1 62, .inl (y 0, 63, .inl (dayF 0))), (v1 45, .inl (y 0, 14, .inl lakeF))]) [0, 2, 4, 3] rfl (by decide) ?_
  refine j_callVi (pc := 317) C (c_M_has l D y mo v1 (xs 1)) kw_L_36 kv_Model_has 0 10 rfl rfl ⟨by decide, by decide⟩ ⟨by decide, by decide⟩ (wr := []) [0, 1, 2, 3] [] rfl rfl (by decide) (by decide) (by decide) (As := [.int (xs 1)]) (rest := [.int (if 0 ≤ (xs 1).toInt ∧ (xs 1).toInt ≤ 8 then 0 else -1)]) rfl (nb rfl) rfl d_L_law_317 (fun r2 _ hr2 => ?_)
  subst hr2
  refine j_ws (ws' := []) rfl ?_
  refine j_st (st' := [.int (if 0 ≤ (xs 1).toInt ∧ (xs 1).toInt ≤ 8 then 0 else -1), .int (if 0 ≤ (xs 1).toInt ∧ (xs 1).toInt ≤ 8 then 0 else -1)]) rfl ?_
  refine j_icmp_eqT (pc := 320) C (tgt := 1124) d_L_law_320 (by decide) rfl ?_
  refine j_sub (ws' := []) [] rfl (by decide) ?_
  refine j_locs (lv' := [(3, .int 0), (0, .ref b)]) [0, 3] rfl ?_
  exact kx
theorem d_L_law_325 : decode code 325 = .ok (.aload_n 1, 1) := by decide +kernel
theorem d_L_law_326 : decode code 326 = .ok (.aload_n 0, 1) := by decide +kernel
theorem d_L_law_327 : decode code 327 = .ok (.iload_n 3, 1) := by decide +kernel
theorem d_L_law_328 : decode code 328 = .ok (.iconst 1, 1) := by decide +kernel
theorem d_L_law_329 : decode code 329 = .ok (.iadd, 1) := by decide +kernel
theorem d_L_law_330 : decode code 330 = .ok (.iaload, 1) := by decide +kernel
theorem d_L_law_331 : decode code 331 = .ok (.aload_n 0, 1) := by decide +kernel
theorem d_L_law_332 : decode code 332 = .ok (.iload_n 3, 1) := by decide +kernel
theorem d_L_law_333 : decode code 333 = .ok (.iconst 2, 1) := by decide +kernel
theorem d_L_law_334 : decode code 334 = .ok (.iadd, 1) := by decide +kernel
theorem d_L_law_335 : decode code 335 = .ok (.iaload, 1) := by decide +kernel
theorem d_L_law_336 : decode code 336 = .ok (.aload_n 0, 1) := by decide +kernel
theorem d_L_law_337 : decode code 337 = .ok (.iload_n 3, 1) := by decide +kernel
theorem d_L_law_338 : decode code 338 = .ok (.iconst 3, 1) := by decide +kernel
theorem d_L_law_339 : decode code 339 = .ok (.iadd, 1) := by decide +kernel
theorem d_L_law_340 : decode code 340 = .ok (.iaload, 1) := by decide +kernel
theorem d_L_law_341 : decode code 341 = .ok (.invokevirtual 37, 3) := by decide +kernel
theorem kw_L_37 : KW "NineBoardsLaw" 37 ⟨"NineBoards", "letter", "(III)I"⟩ prog_1_method_7_code 4 (some .int) 3 := ⟨(mt_3 (List.mem_of_getElem? (i := 220) rfl) rfl), (mt_1 (List.mem_of_getElem? (i := 1) rfl) rfl), (mt_3 (List.mem_of_getElem? (i := 223) rfl) rfl), by decide +kernel⟩
theorem kv_Nine_letter : Cond.instanceMethod ⟨"NineBoards", "letter", "(III)I"⟩ ∈ TB ∧ Cond.selects "NineBoards" ⟨"NineBoards", "letter", "(III)I"⟩ ⟨"NineBoards", "letter", "(III)I"⟩ ∈ TB := ⟨(mt_3 (List.mem_of_getElem? (i := 221) rfl) rfl), (mt_3 (List.mem_of_getElem? (i := 222) rfl) rfl)⟩
theorem d_L_law_344 : decode code 344 = .ok (.aload_n 2, 1) := by decide +kernel
theorem d_L_law_345 : decode code 345 = .ok (.aload_n 0, 1) := by decide +kernel
theorem d_L_law_346 : decode code 346 = .ok (.iload_n 3, 1) := by decide +kernel
theorem d_L_law_347 : decode code 347 = .ok (.iconst 1, 1) := by decide +kernel
theorem d_L_law_348 : decode code 348 = .ok (.iadd, 1) := by decide +kernel
theorem d_L_law_349 : decode code 349 = .ok (.iaload, 1) := by decide +kernel
theorem d_L_law_350 : decode code 350 = .ok (.aload_n 0, 1) := by decide +kernel
theorem d_L_law_351 : decode code 351 = .ok (.iload_n 3, 1) := by decide +kernel
theorem d_L_law_352 : decode code 352 = .ok (.iconst 2, 1) := by decide +kernel
theorem d_L_law_353 : decode code 353 = .ok (.iadd, 1) := by decide +kernel
theorem d_L_law_354 : decode code 354 = .ok (.iaload, 1) := by decide +kernel
theorem d_L_law_355 : decode code 355 = .ok (.aload_n 0, 1) := by decide +kernel
theorem d_L_law_356 : decode code 356 = .ok (.iload_n 3, 1) := by decide +kernel
theorem d_L_law_357 : decode code 357 = .ok (.iconst 3, 1) := by decide +kernel
theorem d_L_law_358 : decode code 358 = .ok (.iadd, 1) := by decide +kernel
theorem d_L_law_359 : decode code 359 = .ok (.iaload, 1) := by decide +kernel
theorem d_L_law_360 : decode code 360 = .ok (.invokevirtual 41, 3) := by decide +kernel
theorem kw_L_41 : KW "NineBoardsLaw" 41 ⟨"NineBoardsModel", "letter", "(III)I"⟩ prog_13_method_73_code 9 (some .int) 3 := ⟨(mt_7 (List.mem_of_getElem? (i := 47) rfl) rfl), (mt_1 (List.mem_of_getElem? (i := 16) rfl) rfl), (mt_7 (List.mem_of_getElem? (i := 50) rfl) rfl), by decide +kernel⟩
theorem kv_Model_letter : Cond.instanceMethod ⟨"NineBoardsModel", "letter", "(III)I"⟩ ∈ TB ∧ Cond.selects "NineBoardsModel" ⟨"NineBoardsModel", "letter", "(III)I"⟩ ⟨"NineBoardsModel", "letter", "(III)I"⟩ ∈ TB := ⟨(mt_7 (List.mem_of_getElem? (i := 48) rfl) rfl), (mt_7 (List.mem_of_getElem? (i := 49) rfl) rfl)⟩
theorem d_L_law_363 : decode code 363 = .ok (.if_icmp .eq 761, 3) := by decide +kernel
set_option maxHeartbeats 4000000 in
set_option maxRecDepth 100000 in
theorem lc_5 {p : Program} {l : Launch} {e : Env} {s : State} {m : MethodId} {below : List Frame} {meth : Method} {c : Code} {Q : State → Prop} {D : va_G} {y : Nat → ClassId} {nm : String} {b : Nat} {xs : Nat → Int32} (C : Cx p s m #[Value.ref b] meth c D y (LA s) code 4 "NineBoardsLaw" nm) (hX : va_X b 6 xs s s.heap) (hbl : b < s.heap.size) (x : Nat) (mo : Nat) (u1 : Nat → Nat) (r1 : Nat → Nat) (r2 : Nat → Nat → Nat) (h1 : Nat → Nat) (a1 : Nat → Nat → Nat) (g1 : Nat → Nat) (c1 : Nat → Nat) (v1 : Nat → Nat) (kx : J p l e room_1 s m #[Value.ref b] below meth c Q D (LA s) 4 [] [(3, .int 0), (0, .ref b)] 451 27020 1124 []) : J p l e room_1 s m #[Value.ref b] below meth c Q D (LA s) 4 (LW y x mo u1 r1 r2 h1 a1 g1 c1 v1) [(3, .int 0), (2, .ref mo), (1, .ref x), (0, .ref b)] 451 27020 325 [] := by
  refine j_aload_n (pc := 325) C d_L_law_325 rfl 2 rfl ?_
  refine j_aload_n (pc := 326) C d_L_law_326 rfl 3 rfl ?_
  refine j_iload_n (pc := 327) C d_L_law_327 rfl 0 rfl ?_
  refine j_iconst (pc := 328) C (v := 1) d_L_law_328 (by decide) ?_
  refine j_iadd (pc := 329) C (v := 1) d_L_law_329 (by decide) ?_
  refine j_sld (pc := 330) C hX hbl (v := xs 1) (vin (by decide)) rfl d_L_law_330 ?_
  refine j_aload_n (pc := 331) C d_L_law_331 rfl 3 rfl ?_
  refine j_iload_n (pc := 332) C d_L_law_332 rfl 0 rfl ?_
  refine j_iconst (pc := 333) C (v := 2) d_L_law_333 (by decide) ?_
  refine j_iadd (pc := 334) C (v := 2) d_L_law_334 (by decide) ?_
  refine j_sld (pc := 335) C hX hbl (v := xs 2) (vin (by decide)) rfl d_L_law_335 ?_
  refine j_aload_n (pc := 336) C d_L_law_336 rfl 3 rfl ?_
  refine j_iload_n (pc := 337) C d_L_law_337 rfl 0 rfl ?_
  refine j_iconst (pc := 338) C (v := 3) d_L_law_338 (by decide) ?_
  refine j_iadd (pc := 339) C (v := 3) d_L_law_339 (by decide) ?_
  refine j_sld (pc := 340) C hX hbl (v := xs 3) (vin (by decide)) rfl d_L_law_340 ?_
  refine j_drop ?_
  refine j_sub (ws' := [(x, .inr (9, [.ref (u1 0), .ref (u1 1), .ref (u1 2), .ref (u1 3), .ref (u1 4), .ref (u1 5), .ref (u1 6), .ref (u1 7), .ref (u1 8), .int 1])), (u1 5, .inr (2, [.int 0, .int 1, .int 1, .int 0, .ref (u1 26), .int 0, .ref (u1 27), .ref (u1 28), .ref (u1 29), .ref (u1 30), .int 0, .int 0, .int 9999, .int 0])), (u1 26, .inr (1, [.int 0, .ref (u1 31), .ref (u1 32), .ref (u1 33), .ref (u1 34), .ref (u1 35), .ref (u1 36), .ref (u1 37)])), MB mo v1 0 0 0 0 0 0 0 (-1) 0 0 0 0 0 0 0 0 0 0 1 0, (v1 0, .inl (y 0, 1600, .inl (fun _ => 0))), (v1 43, .inl (y 0, 8, .inl (fun _ => 0))), (v1 45, .inl (y 0, 14, .inl lakeF)), (v1 62, .inl (y 0, 63, .inl (dayF 0))), (v1 65, .inl (y 0, 1890, .inl (fun _ => 0))), (v1 68, .inl (y 0, 63, .inl (fun _ => 0))), (v1 70, .inl (y 0, 6558, .inl (fun _ => 0))), (v1 71, .inl (y 0, 1093, .inl (fun _ => 0))), (v1 72, .inl (y 0, 7, .inl powF)), (v1 74, .inl (y 0, 13, .inl (fun _ => 0))), (v1 75, .inl (y 0, 13, .inl (fun _ => 0))), (v1 77, .inl (y 0, 15, .inl (fun _ => 0)))]) [0, 23, 24, 36, 37, 38, 39, 40, 41, 42, 43, 44, 45, 46, 47, 48] rfl (by decide) ?_
  refine j_callVi (pc := 341) C (c_N_letter l D y x (u1 0) (u1 1) (u1 2) (u1 3) (u1 4) (u1 5) (u1 6) (u1 7) (u1 8) (u1 26) (u1 27) (u1 28) (u1 29) (u1 30) (u1 31) (u1 32) (u1 33) (u1 34) (u1 35) (u1 36) (u1 37) (xs 1) (xs 2) (xs 3)) kw_L_37 kv_Nine_letter 0 9 rfl rfl ⟨by decide, by decide⟩ ⟨by decide, by decide⟩ (wr := [MB mo v1 0 0 0 0 0 0 0 (-1) 0 0 0 0 0 0 0 0 0 0 1 0, (v1 0, .inl (y 0, 1600, .inl (fun _ => 0))), (v1 43, .inl (y 0, 8, .inl (fun _ => 0))), (v1 45, .inl (y 0, 14, .inl lakeF)), (v1 62, .inl (y 0, 63, .inl (dayF 0))), (v1 65, .inl (y 0, 1890, .inl (fun _ => 0))), (v1 68, .inl (y 0, 63, .inl (fun _ => 0))), (v1 70, .inl (y 0, 6558, .inl (fun _ => 0))), (v1 71, .inl (y 0, 1093, .inl (fun _ => 0))), (v1 72, .inl (y 0, 7, .inl powF)), (v1 74, .inl (y 0, 13, .inl (fun _ => 0))), (v1 75, .inl (y 0, 13, .inl (fun _ => 0))), (v1 77, .inl (y 0, 15, .inl (fun _ => 0)))]) [0, 1, 2] [3, 4, 5, 6, 7, 8, 9, 10, 11, 12, 13, 14, 15] rfl rfl (by decide) (by decide) (by decide) (As := [.int (xs 1), .int (xs 2), .int (xs 3)]) (rest := []) rfl (nb rfl) rfl d_L_law_341 (fun r1 _ hr1 => ?_)
  subst hr1
  refine j_ws (ws' := [MB mo v1 0 0 0 0 0 0 0 (-1) 0 0 0 0 0 0 0 0 0 0 1 0, (v1 0, .inl (y 0, 1600, .inl (fun _ => 0))), (v1 43, .inl (y 0, 8, .inl (fun _ => 0))), (v1 45, .inl (y 0, 14, .inl lakeF)), (v1 62, .inl (y 0, 63, .inl (dayF 0))), (v1 65, .inl (y 0, 1890, .inl (fun _ => 0))), (v1 68, .inl (y 0, 63, .inl (fun _ => 0))), (v1 70, .inl (y 0, 6558, .inl (fun _ => 0))), (v1 71, .inl (y 0, 1093, .inl (fun _ => 0))), (v1 72, .inl (y 0, 7, .inl powF)), (v1 74, .inl (y 0, 13, .inl (fun _ => 0))), (v1 75, .inl (y 0, 13, .inl (fun _ => 0))), (v1 77, .inl (y 0, 15, .inl (fun _ => 0)))]) rfl ?_
  refine j_st (st' := [.int (-1)]) rfl ?_
  refine j_aload_n (pc := 344) C d_L_law_344 rfl 1 rfl ?_
  refine j_aload_n (pc := 345) C d_L_law_345 rfl 3 rfl ?_
  refine j_iload_n (pc := 346) C d_L_law_346 rfl 0 rfl ?_
  refine j_iconst (pc := 347) C (v := 1) d_L_law_347 (by decide) ?_
  refine j_iadd (pc := 348) C (v := 1) d_L_law_348 (by decide) ?_
  refine j_sld (pc := 349) C hX hbl (v := xs 1) (vin (by decide)) rfl d_L_law_349 ?_
  refine j_aload_n (pc := 350) C d_L_law_350 rfl 3 rfl ?_
  refine j_iload_n (pc := 351) C d_L_law_351 rfl 0 rfl ?_
  refine j_iconst (pc := 352) C (v := 2) d_L_law_352 (by decide) ?_
  refine j_iadd (pc := 353) C (v := 2) d_L_law_353 (by decide) ?_
  refine j_sld (pc := 354) C hX hbl (v := xs 2) (vin (by decide)) rfl d_L_law_354 ?_
  refine j_aload_n (pc := 355) C d_L_law_355 rfl 3 rfl ?_
  refine j_iload_n (pc := 356) C d_L_law_356 rfl 0 rfl ?_
  refine j_iconst (pc := 357) C (v := 3) d_L_law_357 (by decide) ?_
  refine j_iadd (pc := 358) C (v := 3) d_L_law_358 (by decide) ?_
  refine j_sld (pc := 359) C hX hbl (v := xs 3) (vin (by decide)) rfl d_L_law_359 ?_
  refine j_sub (ws' := [MB mo v1 0 0 0 0 0 0 0 (-1) 0 0 0 0 0 0 0 0 0 0 1 0, (v1 43, .inl (y 0, 8, .inl (fun _ => 0)))]) [0, 2] rfl (by decide) ?_
  refine j_callVi (pc := 360) C (c_M_letter l D y mo v1 (xs 1) (xs 2) (xs 3)) kw_L_41 kv_Model_letter 0 10 rfl rfl ⟨by decide, by decide⟩ ⟨by decide, by decide⟩ (wr := []) [0, 1] [] rfl rfl (by decide) (by decide) (by decide) (As := [.int (xs 1), .int (xs 2), .int (xs 3)]) (rest := [.int (-1)]) rfl (nb rfl) rfl d_L_law_360 (fun r2 _ hr2 => ?_)
  subst hr2
  refine j_ws (ws' := []) rfl ?_
  refine j_st (st' := [.int (-1), .int (-1)]) rfl ?_
  refine j_icmp_eqT (pc := 363) C (tgt := 1124) d_L_law_363 (by decide) (by decide) ?_
  refine j_sub (ws' := []) [] rfl (by decide) ?_
  refine j_locs (lv' := [(3, .int 0), (0, .ref b)]) [0, 3] rfl ?_
  exact kx
theorem d_L_law_368 : decode code 368 = .ok (.aload_n 1, 1) := by decide +kernel
theorem d_L_law_369 : decode code 369 = .ok (.aload_n 0, 1) := by decide +kernel
theorem d_L_law_370 : decode code 370 = .ok (.iload_n 3, 1) := by decide +kernel
theorem d_L_law_371 : decode code 371 = .ok (.iconst 1, 1) := by decide +kernel
theorem d_L_law_372 : decode code 372 = .ok (.iadd, 1) := by decide +kernel
theorem d_L_law_373 : decode code 373 = .ok (.iaload, 1) := by decide +kernel
theorem d_L_law_374 : decode code 374 = .ok (.aload_n 0, 1) := by decide +kernel
theorem d_L_law_375 : decode code 375 = .ok (.iload_n 3, 1) := by decide +kernel
theorem d_L_law_376 : decode code 376 = .ok (.iconst 2, 1) := by decide +kernel
theorem d_L_law_377 : decode code 377 = .ok (.iadd, 1) := by decide +kernel
theorem d_L_law_378 : decode code 378 = .ok (.iaload, 1) := by decide +kernel
theorem d_L_law_379 : decode code 379 = .ok (.invokevirtual 42, 3) := by decide +kernel
theorem kw_L_42 : KW "NineBoardsLaw" 42 ⟨"NineBoards", "gate", "(II)I"⟩ prog_1_method_8_code 3 (some .int) 2 := ⟨(mt_3 (List.mem_of_getElem? (i := 232) rfl) rfl), (mt_1 (List.mem_of_getElem? (i := 1) rfl) rfl), (mt_3 (List.mem_of_getElem? (i := 235) rfl) rfl), by decide +kernel⟩
theorem kv_Nine_gate : Cond.instanceMethod ⟨"NineBoards", "gate", "(II)I"⟩ ∈ TB ∧ Cond.selects "NineBoards" ⟨"NineBoards", "gate", "(II)I"⟩ ⟨"NineBoards", "gate", "(II)I"⟩ ∈ TB := ⟨(mt_3 (List.mem_of_getElem? (i := 233) rfl) rfl), (mt_3 (List.mem_of_getElem? (i := 234) rfl) rfl)⟩
theorem d_L_law_382 : decode code 382 = .ok (.aload_n 2, 1) := by decide +kernel
theorem d_L_law_383 : decode code 383 = .ok (.aload_n 0, 1) := by decide +kernel
theorem d_L_law_384 : decode code 384 = .ok (.iload_n 3, 1) := by decide +kernel
theorem d_L_law_385 : decode code 385 = .ok (.iconst 1, 1) := by decide +kernel
theorem d_L_law_386 : decode code 386 = .ok (.iadd, 1) := by decide +kernel
theorem d_L_law_387 : decode code 387 = .ok (.iaload, 1) := by decide +kernel
theorem d_L_law_388 : decode code 388 = .ok (.aload_n 0, 1) := by decide +kernel
theorem d_L_law_389 : decode code 389 = .ok (.iload_n 3, 1) := by decide +kernel
theorem d_L_law_390 : decode code 390 = .ok (.iconst 2, 1) := by decide +kernel
theorem d_L_law_391 : decode code 391 = .ok (.iadd, 1) := by decide +kernel
theorem d_L_law_392 : decode code 392 = .ok (.iaload, 1) := by decide +kernel
theorem d_L_law_393 : decode code 393 = .ok (.invokevirtual 46, 3) := by decide +kernel
theorem kw_L_46 : KW "NineBoardsLaw" 46 ⟨"NineBoardsModel", "gate", "(II)I"⟩ prog_13_method_76_code 4 (some .int) 2 := ⟨(mt_7 (List.mem_of_getElem? (i := 52) rfl) rfl), (mt_1 (List.mem_of_getElem? (i := 16) rfl) rfl), (mt_7 (List.mem_of_getElem? (i := 55) rfl) rfl), by decide +kernel⟩
theorem kv_Model_gate : Cond.instanceMethod ⟨"NineBoardsModel", "gate", "(II)I"⟩ ∈ TB ∧ Cond.selects "NineBoardsModel" ⟨"NineBoardsModel", "gate", "(II)I"⟩ ⟨"NineBoardsModel", "gate", "(II)I"⟩ ∈ TB := ⟨(mt_7 (List.mem_of_getElem? (i := 53) rfl) rfl), (mt_7 (List.mem_of_getElem? (i := 54) rfl) rfl)⟩
theorem d_L_law_396 : decode code 396 = .ok (.if_icmp .eq 728, 3) := by decide +kernel
set_option maxHeartbeats 4000000 in
set_option maxRecDepth 100000 in
theorem lc_6 {p : Program} {l : Launch} {e : Env} {s : State} {m : MethodId} {below : List Frame} {meth : Method} {c : Code} {Q : State → Prop} {D : va_G} {y : Nat → ClassId} {nm : String} {b : Nat} {xs : Nat → Int32} (C : Cx p s m #[Value.ref b] meth c D y (LA s) code 4 "NineBoardsLaw" nm) (hX : va_X b 6 xs s s.heap) (hbl : b < s.heap.size) (x : Nat) (mo : Nat) (u1 : Nat → Nat) (r1 : Nat → Nat) (r2 : Nat → Nat → Nat) (h1 : Nat → Nat) (a1 : Nat → Nat → Nat) (g1 : Nat → Nat) (c1 : Nat → Nat) (v1 : Nat → Nat) (kx : J p l e room_1 s m #[Value.ref b] below meth c Q D (LA s) 4 [] [(3, .int 0), (0, .ref b)] 451 27020 1124 []) : J p l e room_1 s m #[Value.ref b] below meth c Q D (LA s) 4 (LW y x mo u1 r1 r2 h1 a1 g1 c1 v1) [(3, .int 0), (2, .ref mo), (1, .ref x), (0, .ref b)] 451 27020 368 [] := by
  refine j_aload_n (pc := 368) C d_L_law_368 rfl 2 rfl ?_
  refine j_aload_n (pc := 369) C d_L_law_369 rfl 3 rfl ?_
  refine j_iload_n (pc := 370) C d_L_law_370 rfl 0 rfl ?_
  refine j_iconst (pc := 371) C (v := 1) d_L_law_371 (by decide) ?_
  refine j_iadd (pc := 372) C (v := 1) d_L_law_372 (by decide) ?_
  refine j_sld (pc := 373) C hX hbl (v := xs 1) (vin (by decide)) rfl d_L_law_373 ?_
  refine j_aload_n (pc := 374) C d_L_law_374 rfl 3 rfl ?_
  refine j_iload_n (pc := 375) C d_L_law_375 rfl 0 rfl ?_
  refine j_iconst (pc := 376) C (v := 2) d_L_law_376 (by decide) ?_
  refine j_iadd (pc := 377) C (v := 2) d_L_law_377 (by decide) ?_
  refine j_sld (pc := 378) C hX hbl (v := xs 2) (vin (by decide)) rfl d_L_law_378 ?_
  refine j_drop ?_
  refine j_sub (ws' := [(x, .inr (9, [.ref (u1 0), .ref (u1 1), .ref (u1 2), .ref (u1 3), .ref (u1 4), .ref (u1 5), .ref (u1 6), .ref (u1 7), .ref (u1 8), .int 1])), (u1 5, .inr (2, [.int 0, .int 1, .int 1, .int 0, .ref (u1 26), .int 0, .ref (u1 27), .ref (u1 28), .ref (u1 29), .ref (u1 30), .int 0, .int 0, .int 9999, .int 0])), (u1 26, .inr (1, [.int 0, .ref (u1 31), .ref (u1 32), .ref (u1 33), .ref (u1 34), .ref (u1 35), .ref (u1 36), .ref (u1 37)])), MB mo v1 0 0 0 0 0 0 0 (-1) 0 0 0 0 0 0 0 0 0 0 1 0, (v1 0, .inl (y 0, 1600, .inl (fun _ => 0))), (v1 43, .inl (y 0, 8, .inl (fun _ => 0))), (v1 45, .inl (y 0, 14, .inl lakeF)), (v1 62, .inl (y 0, 63, .inl (dayF 0))), (v1 65, .inl (y 0, 1890, .inl (fun _ => 0))), (v1 68, .inl (y 0, 63, .inl (fun _ => 0))), (v1 70, .inl (y 0, 6558, .inl (fun _ => 0))), (v1 71, .inl (y 0, 1093, .inl (fun _ => 0))), (v1 72, .inl (y 0, 7, .inl powF)), (v1 74, .inl (y 0, 13, .inl (fun _ => 0))), (v1 75, .inl (y 0, 13, .inl (fun _ => 0))), (v1 77, .inl (y 0, 15, .inl (fun _ => 0)))]) [0, 23, 24, 36, 37, 38, 39, 40, 41, 42, 43, 44, 45, 46, 47, 48] rfl (by decide) ?_
  refine j_callVi (pc := 379) C (c_N_gate l D y x (u1 0) (u1 1) (u1 2) (u1 3) (u1 4) (u1 5) (u1 6) (u1 7) (u1 8) (u1 26) (u1 27) (u1 28) (u1 29) (u1 30) (u1 31) (u1 32) (u1 33) (u1 34) (u1 35) (u1 36) (u1 37) (xs 1) (xs 2)) kw_L_42 kv_Nine_gate 0 9 rfl rfl ⟨by decide, by decide⟩ ⟨by decide, by decide⟩ (wr := [MB mo v1 0 0 0 0 0 0 0 (-1) 0 0 0 0 0 0 0 0 0 0 1 0, (v1 0, .inl (y 0, 1600, .inl (fun _ => 0))), (v1 43, .inl (y 0, 8, .inl (fun _ => 0))), (v1 45, .inl (y 0, 14, .inl lakeF)), (v1 62, .inl (y 0, 63, .inl (dayF 0))), (v1 65, .inl (y 0, 1890, .inl (fun _ => 0))), (v1 68, .inl (y 0, 63, .inl (fun _ => 0))), (v1 70, .inl (y 0, 6558, .inl (fun _ => 0))), (v1 71, .inl (y 0, 1093, .inl (fun _ => 0))), (v1 72, .inl (y 0, 7, .inl powF)), (v1 74, .inl (y 0, 13, .inl (fun _ => 0))), (v1 75, .inl (y 0, 13, .inl (fun _ => 0))), (v1 77, .inl (y 0, 15, .inl (fun _ => 0)))]) [0, 1, 2] [3, 4, 5, 6, 7, 8, 9, 10, 11, 12, 13, 14, 15] rfl rfl (by decide) (by decide) (by decide) (As := [.int (xs 1), .int (xs 2)]) (rest := []) rfl (nb rfl) rfl d_L_law_379 (fun r1 _ hr1 => ?_)
  subst hr1
  refine j_ws (ws' := [MB mo v1 0 0 0 0 0 0 0 (-1) 0 0 0 0 0 0 0 0 0 0 1 0, (v1 0, .inl (y 0, 1600, .inl (fun _ => 0))), (v1 43, .inl (y 0, 8, .inl (fun _ => 0))), (v1 45, .inl (y 0, 14, .inl lakeF)), (v1 62, .inl (y 0, 63, .inl (dayF 0))), (v1 65, .inl (y 0, 1890, .inl (fun _ => 0))), (v1 68, .inl (y 0, 63, .inl (fun _ => 0))), (v1 70, .inl (y 0, 6558, .inl (fun _ => 0))), (v1 71, .inl (y 0, 1093, .inl (fun _ => 0))), (v1 72, .inl (y 0, 7, .inl powF)), (v1 74, .inl (y 0, 13, .inl (fun _ => 0))), (v1 75, .inl (y 0, 13, .inl (fun _ => 0))), (v1 77, .inl (y 0, 15, .inl (fun _ => 0)))]) rfl ?_
  refine j_st (st' := [.int (-1)]) rfl ?_
  refine j_aload_n (pc := 382) C d_L_law_382 rfl 1 rfl ?_
  refine j_aload_n (pc := 383) C d_L_law_383 rfl 3 rfl ?_
  refine j_iload_n (pc := 384) C d_L_law_384 rfl 0 rfl ?_
  refine j_iconst (pc := 385) C (v := 1) d_L_law_385 (by decide) ?_
  refine j_iadd (pc := 386) C (v := 1) d_L_law_386 (by decide) ?_
  refine j_sld (pc := 387) C hX hbl (v := xs 1) (vin (by decide)) rfl d_L_law_387 ?_
  refine j_aload_n (pc := 388) C d_L_law_388 rfl 3 rfl ?_
  refine j_iload_n (pc := 389) C d_L_law_389 rfl 0 rfl ?_
  refine j_iconst (pc := 390) C (v := 2) d_L_law_390 (by decide) ?_
  refine j_iadd (pc := 391) C (v := 2) d_L_law_391 (by decide) ?_
  refine j_sld (pc := 392) C hX hbl (v := xs 2) (vin (by decide)) rfl d_L_law_392 ?_
  refine j_sub (ws' := [MB mo v1 0 0 0 0 0 0 0 (-1) 0 0 0 0 0 0 0 0 0 0 1 0, (v1 43, .inl (y 0, 8, .inl (fun _ => 0)))]) [0, 2] rfl (by decide) ?_
  refine j_callVi (pc := 393) C (c_M_gate l D y mo v1 (xs 1) (xs 2)) kw_L_46 kv_Model_gate 0 10 rfl rfl ⟨by decide, by decide⟩ ⟨by decide, by decide⟩ (wr := []) [0, 1] [] rfl rfl (by decide) (by decide) (by decide) (As := [.int (xs 1), .int (xs 2)]) (rest := [.int (-1)]) rfl (nb rfl) rfl d_L_law_393 (fun r2 _ hr2 => ?_)
  subst hr2
  refine j_ws (ws' := []) rfl ?_
  refine j_st (st' := [.int (-1), .int (-1)]) rfl ?_
  refine j_icmp_eqT (pc := 396) C (tgt := 1124) d_L_law_396 (by decide) (by decide) ?_
  refine j_sub (ws' := []) [] rfl (by decide) ?_
  refine j_locs (lv' := [(3, .int 0), (0, .ref b)]) [0, 3] rfl ?_
  exact kx
theorem d_L_law_401 : decode code 401 = .ok (.aload_n 1, 1) := by decide +kernel
theorem d_L_law_402 : decode code 402 = .ok (.aload_n 0, 1) := by decide +kernel
theorem d_L_law_403 : decode code 403 = .ok (.iload_n 3, 1) := by decide +kernel
theorem d_L_law_404 : decode code 404 = .ok (.iconst 1, 1) := by decide +kernel
theorem d_L_law_405 : decode code 405 = .ok (.iadd, 1) := by decide +kernel
theorem d_L_law_406 : decode code 406 = .ok (.iaload, 1) := by decide +kernel
theorem d_L_law_407 : decode code 407 = .ok (.invokevirtual 47, 3) := by decide +kernel
theorem kw_L_47 : KW "NineBoardsLaw" 47 ⟨"NineBoards", "stream", "(I)J"⟩ prog_1_method_9_code 2 (some .long) 1 := ⟨(mt_4 (List.mem_of_getElem? (i := 13) rfl) rfl), (mt_1 (List.mem_of_getElem? (i := 1) rfl) rfl), (mt_4 (List.mem_of_getElem? (i := 16) rfl) rfl), by decide +kernel⟩
theorem kv_Nine_stream : Cond.instanceMethod ⟨"NineBoards", "stream", "(I)J"⟩ ∈ TB ∧ Cond.selects "NineBoards" ⟨"NineBoards", "stream", "(I)J"⟩ ⟨"NineBoards", "stream", "(I)J"⟩ ∈ TB := ⟨(mt_4 (List.mem_of_getElem? (i := 14) rfl) rfl), (mt_4 (List.mem_of_getElem? (i := 15) rfl) rfl)⟩
theorem d_L_law_410 : decode code 410 = .ok (.aload_n 2, 1) := by decide +kernel
theorem d_L_law_411 : decode code 411 = .ok (.aload_n 0, 1) := by decide +kernel
theorem d_L_law_412 : decode code 412 = .ok (.iload_n 3, 1) := by decide +kernel
theorem d_L_law_413 : decode code 413 = .ok (.iconst 1, 1) := by decide +kernel
theorem d_L_law_414 : decode code 414 = .ok (.iadd, 1) := by decide +kernel
theorem d_L_law_415 : decode code 415 = .ok (.iaload, 1) := by decide +kernel
theorem d_L_law_416 : decode code 416 = .ok (.invokevirtual 51, 3) := by decide +kernel
theorem kw_L_51 : KW "NineBoardsLaw" 51 ⟨"NineBoardsModel", "stream", "(I)J"⟩ prog_13_method_77_code 2 (some .long) 1 := ⟨(mt_7 (List.mem_of_getElem? (i := 76) rfl) rfl), (mt_1 (List.mem_of_getElem? (i := 16) rfl) rfl), (mt_7 (List.mem_of_getElem? (i := 79) rfl) rfl), by decide +kernel⟩
theorem kv_Model_stream : Cond.instanceMethod ⟨"NineBoardsModel", "stream", "(I)J"⟩ ∈ TB ∧ Cond.selects "NineBoardsModel" ⟨"NineBoardsModel", "stream", "(I)J"⟩ ⟨"NineBoardsModel", "stream", "(I)J"⟩ ∈ TB := ⟨(mt_7 (List.mem_of_getElem? (i := 77) rfl) rfl), (mt_7 (List.mem_of_getElem? (i := 78) rfl) rfl)⟩
theorem d_L_law_419 : decode code 419 = .ok (.lcmp, 1) := by decide +kernel
theorem d_L_law_420 : decode code 420 = .ok (.ifCond .eq 704, 3) := by decide +kernel
set_option maxHeartbeats 4000000 in
set_option maxRecDepth 100000 in
theorem lc_7 {p : Program} {l : Launch} {e : Env} {s : State} {m : MethodId} {below : List Frame} {meth : Method} {c : Code} {Q : State → Prop} {D : va_G} {y : Nat → ClassId} {nm : String} {b : Nat} {xs : Nat → Int32} (C : Cx p s m #[Value.ref b] meth c D y (LA s) code 4 "NineBoardsLaw" nm) (hX : va_X b 6 xs s s.heap) (hbl : b < s.heap.size) (x : Nat) (mo : Nat) (u1 : Nat → Nat) (r1 : Nat → Nat) (r2 : Nat → Nat → Nat) (h1 : Nat → Nat) (a1 : Nat → Nat → Nat) (g1 : Nat → Nat) (c1 : Nat → Nat) (v1 : Nat → Nat) (kx : J p l e room_1 s m #[Value.ref b] below meth c Q D (LA s) 4 [] [(3, .int 0), (0, .ref b)] 451 27020 1124 []) : J p l e room_1 s m #[Value.ref b] below meth c Q D (LA s) 4 (LW y x mo u1 r1 r2 h1 a1 g1 c1 v1) [(3, .int 0), (2, .ref mo), (1, .ref x), (0, .ref b)] 451 27020 401 [] := by
  refine j_aload_n (pc := 401) C d_L_law_401 rfl 2 rfl ?_
  refine j_aload_n (pc := 402) C d_L_law_402 rfl 3 rfl ?_
  refine j_iload_n (pc := 403) C d_L_law_403 rfl 0 rfl ?_
  refine j_iconst (pc := 404) C (v := 1) d_L_law_404 (by decide) ?_
  refine j_iadd (pc := 405) C (v := 1) d_L_law_405 (by decide) ?_
  refine j_sld (pc := 406) C hX hbl (v := xs 1) (vin (by decide)) rfl d_L_law_406 ?_
  refine j_drop ?_
  refine j_sub (ws' := [(x, .inr (9, [.ref (u1 0), .ref (u1 1), .ref (u1 2), .ref (u1 3), .ref (u1 4), .ref (u1 5), .ref (u1 6), .ref (u1 7), .ref (u1 8), .int 1])), (u1 5, .inr (2, [.int 0, .int 1, .int 1, .int 0, .ref (u1 26), .int 0, .ref (u1 27), .ref (u1 28), .ref (u1 29), .ref (u1 30), .int 0, .int 0, .int 9999, .int 0])), (u1 26, .inr (1, [.int 0, .ref (u1 31), .ref (u1 32), .ref (u1 33), .ref (u1 34), .ref (u1 35), .ref (u1 36), .ref (u1 37)])), MB mo v1 0 0 0 0 0 0 0 (-1) 0 0 0 0 0 0 0 0 0 0 1 0, (v1 0, .inl (y 0, 1600, .inl (fun _ => 0))), (v1 43, .inl (y 0, 8, .inl (fun _ => 0))), (v1 45, .inl (y 0, 14, .inl lakeF)), (v1 62, .inl (y 0, 63, .inl (dayF 0))), (v1 65, .inl (y 0, 1890, .inl (fun _ => 0))), (v1 68, .inl (y 0, 63, .inl (fun _ => 0))), (v1 70, .inl (y 0, 6558, .inl (fun _ => 0))), (v1 71, .inl (y 0, 1093, .inl (fun _ => 0))), (v1 72, .inl (y 0, 7, .inl powF)), (v1 74, .inl (y 0, 13, .inl (fun _ => 0))), (v1 75, .inl (y 0, 13, .inl (fun _ => 0))), (v1 77, .inl (y 0, 15, .inl (fun _ => 0)))]) [0, 23, 24, 36, 37, 38, 39, 40, 41, 42, 43, 44, 45, 46, 47, 48] rfl (by decide) ?_
  refine j_callVl (pc := 407) C (c_N_stream l D y x (u1 0) (u1 1) (u1 2) (u1 3) (u1 4) (u1 5) (u1 6) (u1 7) (u1 8) (u1 26) (u1 27) (u1 28) (u1 29) (u1 30) (u1 31) (u1 32) (u1 33) (u1 34) (u1 35) (u1 36) (u1 37) (xs 1)) kw_L_47 kv_Nine_stream 0 9 rfl rfl ⟨by decide, by decide⟩ ⟨by decide, by decide⟩ (wr := [MB mo v1 0 0 0 0 0 0 0 (-1) 0 0 0 0 0 0 0 0 0 0 1 0, (v1 0, .inl (y 0, 1600, .inl (fun _ => 0))), (v1 43, .inl (y 0, 8, .inl (fun _ => 0))), (v1 45, .inl (y 0, 14, .inl lakeF)), (v1 62, .inl (y 0, 63, .inl (dayF 0))), (v1 65, .inl (y 0, 1890, .inl (fun _ => 0))), (v1 68, .inl (y 0, 63, .inl (fun _ => 0))), (v1 70, .inl (y 0, 6558, .inl (fun _ => 0))), (v1 71, .inl (y 0, 1093, .inl (fun _ => 0))), (v1 72, .inl (y 0, 7, .inl powF)), (v1 74, .inl (y 0, 13, .inl (fun _ => 0))), (v1 75, .inl (y 0, 13, .inl (fun _ => 0))), (v1 77, .inl (y 0, 15, .inl (fun _ => 0)))]) [0, 1, 2] [3, 4, 5, 6, 7, 8, 9, 10, 11, 12, 13, 14, 15] rfl rfl (by decide) (by decide) (by decide) (As := [.int (xs 1)]) (rest := []) rfl (nb rfl) rfl d_L_law_407 (fun r1 _ hr1 => ?_)
  subst hr1
  refine j_ws (ws' := [MB mo v1 0 0 0 0 0 0 0 (-1) 0 0 0 0 0 0 0 0 0 0 1 0, (v1 0, .inl (y 0, 1600, .inl (fun _ => 0))), (v1 43, .inl (y 0, 8, .inl (fun _ => 0))), (v1 45, .inl (y 0, 14, .inl lakeF)), (v1 62, .inl (y 0, 63, .inl (dayF 0))), (v1 65, .inl (y 0, 1890, .inl (fun _ => 0))), (v1 68, .inl (y 0, 63, .inl (fun _ => 0))), (v1 70, .inl (y 0, 6558, .inl (fun _ => 0))), (v1 71, .inl (y 0, 1093, .inl (fun _ => 0))), (v1 72, .inl (y 0, 7, .inl powF)), (v1 74, .inl (y 0, 13, .inl (fun _ => 0))), (v1 75, .inl (y 0, 13, .inl (fun _ => 0))), (v1 77, .inl (y 0, 15, .inl (fun _ => 0)))]) rfl ?_
  refine j_st (st' := [.long (-1)]) rfl ?_
  refine j_aload_n (pc := 410) C d_L_law_410 rfl 1 rfl ?_
  refine j_aload_n (pc := 411) C d_L_law_411 rfl 3 rfl ?_
  refine j_iload_n (pc := 412) C d_L_law_412 rfl 0 rfl ?_
  refine j_iconst (pc := 413) C (v := 1) d_L_law_413 (by decide) ?_
  refine j_iadd (pc := 414) C (v := 1) d_L_law_414 (by decide) ?_
  refine j_sld (pc := 415) C hX hbl (v := xs 1) (vin (by decide)) rfl d_L_law_415 ?_
  refine j_sub (ws' := [MB mo v1 0 0 0 0 0 0 0 (-1) 0 0 0 0 0 0 0 0 0 0 1 0, (v1 43, .inl (y 0, 8, .inl (fun _ => 0)))]) [0, 2] rfl (by decide) ?_
  refine j_callVl (pc := 416) C (c_M_stream l D y mo v1 (xs 1)) kw_L_51 kv_Model_stream 0 10 rfl rfl ⟨by decide, by decide⟩ ⟨by decide, by decide⟩ (wr := []) [0, 1] [] rfl rfl (by decide) (by decide) (by decide) (As := [.int (xs 1)]) (rest := [.long (-1)]) rfl (nb rfl) rfl d_L_law_416 (fun r2 _ hr2 => ?_)
  subst hr2
  refine j_ws (ws' := []) rfl ?_
  refine j_st (st' := [.long (-1), .long (-1)]) rfl ?_
  refine j_lcmp (pc := 419) C (v := 0) d_L_law_419 (by decide) ?_
  refine j_if_eqT (pc := 420) C (tgt := 1124) d_L_law_420 (by decide) (by decide) ?_
  refine j_sub (ws' := []) [] rfl (by decide) ?_
  refine j_locs (lv' := [(3, .int 0), (0, .ref b)]) [0, 3] rfl ?_
  exact kx
theorem d_L_law_425 : decode code 425 = .ok (.aload_n 1, 1) := by decide +kernel
theorem d_L_law_426 : decode code 426 = .ok (.aload_n 0, 1) := by decide +kernel
theorem d_L_law_427 : decode code 427 = .ok (.iload_n 3, 1) := by decide +kernel
theorem d_L_law_428 : decode code 428 = .ok (.iconst 1, 1) := by decide +kernel
theorem d_L_law_429 : decode code 429 = .ok (.iadd, 1) := by decide +kernel
theorem d_L_law_430 : decode code 430 = .ok (.iaload, 1) := by decide +kernel
theorem d_L_law_431 : decode code 431 = .ok (.invokevirtual 52, 3) := by decide +kernel
theorem kw_L_52 : KW "NineBoardsLaw" 52 ⟨"NineBoards", "all", "(I)J"⟩ prog_1_method_10_code 2 (some .long) 1 := ⟨(mt_4 (List.mem_of_getElem? (i := 18) rfl) rfl), (mt_1 (List.mem_of_getElem? (i := 1) rfl) rfl), (mt_4 (List.mem_of_getElem? (i := 21) rfl) rfl), by decide +kernel⟩
theorem kv_Nine_all : Cond.instanceMethod ⟨"NineBoards", "all", "(I)J"⟩ ∈ TB ∧ Cond.selects "NineBoards" ⟨"NineBoards", "all", "(I)J"⟩ ⟨"NineBoards", "all", "(I)J"⟩ ∈ TB := ⟨(mt_4 (List.mem_of_getElem? (i := 19) rfl) rfl), (mt_4 (List.mem_of_getElem? (i := 20) rfl) rfl)⟩
theorem d_L_law_434 : decode code 434 = .ok (.aload_n 2, 1) := by decide +kernel
theorem d_L_law_435 : decode code 435 = .ok (.aload_n 0, 1) := by decide +kernel
theorem d_L_law_436 : decode code 436 = .ok (.iload_n 3, 1) := by decide +kernel
theorem d_L_law_437 : decode code 437 = .ok (.iconst 1, 1) := by decide +kernel
theorem d_L_law_438 : decode code 438 = .ok (.iadd, 1) := by decide +kernel
theorem d_L_law_439 : decode code 439 = .ok (.iaload, 1) := by decide +kernel
theorem d_L_law_440 : decode code 440 = .ok (.invokevirtual 55, 3) := by decide +kernel
theorem kw_L_55 : KW "NineBoardsLaw" 55 ⟨"NineBoardsModel", "all", "(I)J"⟩ prog_13_method_78_code 2 (some .long) 1 := ⟨(mt_7 (List.mem_of_getElem? (i := 81) rfl) rfl), (mt_1 (List.mem_of_getElem? (i := 16) rfl) rfl), (mt_7 (List.mem_of_getElem? (i := 84) rfl) rfl), by decide +kernel⟩
theorem kv_Model_all : Cond.instanceMethod ⟨"NineBoardsModel", "all", "(I)J"⟩ ∈ TB ∧ Cond.selects "NineBoardsModel" ⟨"NineBoardsModel", "all", "(I)J"⟩ ⟨"NineBoardsModel", "all", "(I)J"⟩ ∈ TB := ⟨(mt_7 (List.mem_of_getElem? (i := 82) rfl) rfl), (mt_7 (List.mem_of_getElem? (i := 83) rfl) rfl)⟩
theorem d_L_law_443 : decode code 443 = .ok (.lcmp, 1) := by decide +kernel
theorem d_L_law_444 : decode code 444 = .ok (.ifCond .eq 680, 3) := by decide +kernel
set_option maxHeartbeats 4000000 in
set_option maxRecDepth 100000 in
theorem lc_8 {p : Program} {l : Launch} {e : Env} {s : State} {m : MethodId} {below : List Frame} {meth : Method} {c : Code} {Q : State → Prop} {D : va_G} {y : Nat → ClassId} {nm : String} {b : Nat} {xs : Nat → Int32} (C : Cx p s m #[Value.ref b] meth c D y (LA s) code 4 "NineBoardsLaw" nm) (hX : va_X b 6 xs s s.heap) (hbl : b < s.heap.size) (x : Nat) (mo : Nat) (u1 : Nat → Nat) (r1 : Nat → Nat) (r2 : Nat → Nat → Nat) (h1 : Nat → Nat) (a1 : Nat → Nat → Nat) (g1 : Nat → Nat) (c1 : Nat → Nat) (v1 : Nat → Nat) (kx : J p l e room_1 s m #[Value.ref b] below meth c Q D (LA s) 4 [] [(3, .int 0), (0, .ref b)] 451 27020 1124 []) : J p l e room_1 s m #[Value.ref b] below meth c Q D (LA s) 4 (LW y x mo u1 r1 r2 h1 a1 g1 c1 v1) [(3, .int 0), (2, .ref mo), (1, .ref x), (0, .ref b)] 451 27020 425 [] := by
  refine j_aload_n (pc := 425) C d_L_law_425 rfl 2 rfl ?_
  refine j_aload_n (pc := 426) C d_L_law_426 rfl 3 rfl ?_
  refine j_iload_n (pc := 427) C d_L_law_427 rfl 0 rfl ?_
  refine j_iconst (pc := 428) C (v := 1) d_L_law_428 (by decide) ?_
  refine j_iadd (pc := 429) C (v := 1) d_L_law_429 (by decide) ?_
  refine j_sld (pc := 430) C hX hbl (v := xs 1) (vin (by decide)) rfl d_L_law_430 ?_
  refine j_drop ?_
  refine j_sub (ws' := [(x, .inr (9, [.ref (u1 0), .ref (u1 1), .ref (u1 2), .ref (u1 3), .ref (u1 4), .ref (u1 5), .ref (u1 6), .ref (u1 7), .ref (u1 8), .int 1])), (u1 2, .inr (7, [.int 0, .int 0, .int 0, .ref (u1 11), .ref (u1 12), .ref (u1 13), .ref (u1 14), .ref (u1 15), .ref (u1 16), .ref (u1 17)])), (u1 17, .inl (y 1, 5, .inr (.inl (fun _ => 0)))), MB mo v1 0 0 0 0 0 0 0 (-1) 0 0 0 0 0 0 0 0 0 0 1 0, (v1 0, .inl (y 0, 1600, .inl (fun _ => 0))), (v1 43, .inl (y 0, 8, .inl (fun _ => 0))), (v1 45, .inl (y 0, 14, .inl lakeF)), (v1 62, .inl (y 0, 63, .inl (dayF 0))), (v1 65, .inl (y 0, 1890, .inl (fun _ => 0))), (v1 68, .inl (y 0, 63, .inl (fun _ => 0))), (v1 70, .inl (y 0, 6558, .inl (fun _ => 0))), (v1 71, .inl (y 0, 1093, .inl (fun _ => 0))), (v1 72, .inl (y 0, 7, .inl powF)), (v1 74, .inl (y 0, 13, .inl (fun _ => 0))), (v1 75, .inl (y 0, 13, .inl (fun _ => 0))), (v1 77, .inl (y 0, 15, .inl (fun _ => 0)))]) [0, 5, 12, 36, 37, 38, 39, 40, 41, 42, 43, 44, 45, 46, 47, 48] rfl (by decide) ?_
  refine j_callVl (pc := 431) C (c_N_all l D y x (u1 0) (u1 1) (u1 2) (u1 3) (u1 4) (u1 5) (u1 6) (u1 7) (u1 8) (u1 11) (u1 12) (u1 13) (u1 14) (u1 15) (u1 16) (u1 17) (xs 1)) kw_L_52 kv_Nine_all 0 9 rfl rfl ⟨by decide, by decide⟩ ⟨by decide, by decide⟩ (wr := [MB mo v1 0 0 0 0 0 0 0 (-1) 0 0 0 0 0 0 0 0 0 0 1 0, (v1 0, .inl (y 0, 1600, .inl (fun _ => 0))), (v1 43, .inl (y 0, 8, .inl (fun _ => 0))), (v1 45, .inl (y 0, 14, .inl lakeF)), (v1 62, .inl (y 0, 63, .inl (dayF 0))), (v1 65, .inl (y 0, 1890, .inl (fun _ => 0))), (v1 68, .inl (y 0, 63, .inl (fun _ => 0))), (v1 70, .inl (y 0, 6558, .inl (fun _ => 0))), (v1 71, .inl (y 0, 1093, .inl (fun _ => 0))), (v1 72, .inl (y 0, 7, .inl powF)), (v1 74, .inl (y 0, 13, .inl (fun _ => 0))), (v1 75, .inl (y 0, 13, .inl (fun _ => 0))), (v1 77, .inl (y 0, 15, .inl (fun _ => 0)))]) [0, 1, 2] [3, 4, 5, 6, 7, 8, 9, 10, 11, 12, 13, 14, 15] rfl rfl (by decide) (by decide) (by decide) (As := [.int (xs 1)]) (rest := []) rfl (nb rfl) rfl d_L_law_431 (fun r1 _ hr1 => ?_)
  subst hr1
  refine j_ws (ws' := [MB mo v1 0 0 0 0 0 0 0 (-1) 0 0 0 0 0 0 0 0 0 0 1 0, (v1 0, .inl (y 0, 1600, .inl (fun _ => 0))), (v1 43, .inl (y 0, 8, .inl (fun _ => 0))), (v1 45, .inl (y 0, 14, .inl lakeF)), (v1 62, .inl (y 0, 63, .inl (dayF 0))), (v1 65, .inl (y 0, 1890, .inl (fun _ => 0))), (v1 68, .inl (y 0, 63, .inl (fun _ => 0))), (v1 70, .inl (y 0, 6558, .inl (fun _ => 0))), (v1 71, .inl (y 0, 1093, .inl (fun _ => 0))), (v1 72, .inl (y 0, 7, .inl powF)), (v1 74, .inl (y 0, 13, .inl (fun _ => 0))), (v1 75, .inl (y 0, 13, .inl (fun _ => 0))), (v1 77, .inl (y 0, 15, .inl (fun _ => 0)))]) rfl ?_
  refine j_st (st' := [.long (if 0 ≤ (xs 1).toInt ∧ (xs 1).toInt ≤ 4 then 0 else -1)]) rfl ?_
  refine j_aload_n (pc := 434) C d_L_law_434 rfl 1 rfl ?_
  refine j_aload_n (pc := 435) C d_L_law_435 rfl 3 rfl ?_
  refine j_iload_n (pc := 436) C d_L_law_436 rfl 0 rfl ?_
  refine j_iconst (pc := 437) C (v := 1) d_L_law_437 (by decide) ?_
  refine j_iadd (pc := 438) C (v := 1) d_L_law_438 (by decide) ?_
  refine j_sld (pc := 439) C hX hbl (v := xs 1) (vin (by decide)) rfl d_L_law_439 ?_
  refine j_sub (ws' := [MB mo v1 0 0 0 0 0 0 0 (-1) 0 0 0 0 0 0 0 0 0 0 1 0, (v1 62, .inl (y 0, 63, .inl (dayF 0)))]) [0, 4] rfl (by decide) ?_
  refine j_callVl (pc := 440) C (c_M_all l D y mo v1 (xs 1)) kw_L_55 kv_Model_all 0 10 rfl rfl ⟨by decide, by decide⟩ ⟨by decide, by decide⟩ (wr := []) [0, 1] [] rfl rfl (by decide) (by decide) (by decide) (As := [.int (xs 1)]) (rest := [.long (if 0 ≤ (xs 1).toInt ∧ (xs 1).toInt ≤ 4 then 0 else -1)]) rfl (nb rfl) rfl d_L_law_440 (fun r2 _ hr2 => ?_)
  subst hr2
  refine j_ws (ws' := []) rfl ?_
  refine j_st (st' := [.long (if 0 ≤ (xs 1).toInt ∧ (xs 1).toInt ≤ 4 then 0 else -1), .long (if 0 ≤ (xs 1).toInt ∧ (xs 1).toInt ≤ 4 then 0 else -1)]) rfl ?_
  refine j_lcmp (pc := 443) C (v := 0) d_L_law_443 (lg_self _) ?_
  refine j_if_eqT (pc := 444) C (tgt := 1124) d_L_law_444 (by decide) (by decide) ?_
  refine j_sub (ws' := []) [] rfl (by decide) ?_
  refine j_locs (lv' := [(3, .int 0), (0, .ref b)]) [0, 3] rfl ?_
  exact kx
theorem d_L_law_449 : decode code 449 = .ok (.aload_n 1, 1) := by decide +kernel
theorem d_L_law_450 : decode code 450 = .ok (.aload_n 0, 1) := by decide +kernel
theorem d_L_law_451 : decode code 451 = .ok (.iload_n 3, 1) := by decide +kernel
theorem d_L_law_452 : decode code 452 = .ok (.iconst 1, 1) := by decide +kernel
theorem d_L_law_453 : decode code 453 = .ok (.iadd, 1) := by decide +kernel
theorem d_L_law_454 : decode code 454 = .ok (.iaload, 1) := by decide +kernel
theorem d_L_law_455 : decode code 455 = .ok (.aload_n 0, 1) := by decide +kernel
theorem d_L_law_456 : decode code 456 = .ok (.iload_n 3, 1) := by decide +kernel
theorem d_L_law_457 : decode code 457 = .ok (.iconst 2, 1) := by decide +kernel
theorem d_L_law_458 : decode code 458 = .ok (.iadd, 1) := by decide +kernel
theorem d_L_law_459 : decode code 459 = .ok (.iaload, 1) := by decide +kernel
theorem d_L_law_460 : decode code 460 = .ok (.invokevirtual 56, 3) := by decide +kernel
theorem kw_L_56 : KW "NineBoardsLaw" 56 ⟨"NineBoards", "village", "(II)I"⟩ prog_1_method_11_code 3 (some .int) 2 := ⟨(mt_4 (List.mem_of_getElem? (i := 22) rfl) rfl), (mt_1 (List.mem_of_getElem? (i := 1) rfl) rfl), (mt_4 (List.mem_of_getElem? (i := 25) rfl) rfl), by decide +kernel⟩
theorem kv_Nine_village : Cond.instanceMethod ⟨"NineBoards", "village", "(II)I"⟩ ∈ TB ∧ Cond.selects "NineBoards" ⟨"NineBoards", "village", "(II)I"⟩ ⟨"NineBoards", "village", "(II)I"⟩ ∈ TB := ⟨(mt_4 (List.mem_of_getElem? (i := 23) rfl) rfl), (mt_4 (List.mem_of_getElem? (i := 24) rfl) rfl)⟩
theorem d_L_law_463 : decode code 463 = .ok (.aload_n 2, 1) := by decide +kernel
theorem d_L_law_464 : decode code 464 = .ok (.aload_n 0, 1) := by decide +kernel
theorem d_L_law_465 : decode code 465 = .ok (.iload_n 3, 1) := by decide +kernel
theorem d_L_law_466 : decode code 466 = .ok (.iconst 1, 1) := by decide +kernel
theorem d_L_law_467 : decode code 467 = .ok (.iadd, 1) := by decide +kernel
theorem d_L_law_468 : decode code 468 = .ok (.iaload, 1) := by decide +kernel
theorem d_L_law_469 : decode code 469 = .ok (.aload_n 0, 1) := by decide +kernel
theorem d_L_law_470 : decode code 470 = .ok (.iload_n 3, 1) := by decide +kernel
theorem d_L_law_471 : decode code 471 = .ok (.iconst 2, 1) := by decide +kernel
theorem d_L_law_472 : decode code 472 = .ok (.iadd, 1) := by decide +kernel
theorem d_L_law_473 : decode code 473 = .ok (.iaload, 1) := by decide +kernel
theorem d_L_law_474 : decode code 474 = .ok (.invokevirtual 59, 3) := by decide +kernel
theorem kw_L_59 : KW "NineBoardsLaw" 59 ⟨"NineBoardsModel", "village", "(II)I"⟩ prog_13_method_79_code 4 (some .int) 2 := ⟨(mt_7 (List.mem_of_getElem? (i := 86) rfl) rfl), (mt_1 (List.mem_of_getElem? (i := 16) rfl) rfl), (mt_7 (List.mem_of_getElem? (i := 89) rfl) rfl), by decide +kernel⟩
theorem kv_Model_village : Cond.instanceMethod ⟨"NineBoardsModel", "village", "(II)I"⟩ ∈ TB ∧ Cond.selects "NineBoardsModel" ⟨"NineBoardsModel", "village", "(II)I"⟩ ⟨"NineBoardsModel", "village", "(II)I"⟩ ∈ TB := ⟨(mt_7 (List.mem_of_getElem? (i := 87) rfl) rfl), (mt_7 (List.mem_of_getElem? (i := 88) rfl) rfl)⟩
theorem d_L_law_477 : decode code 477 = .ok (.if_icmp .eq 647, 3) := by decide +kernel
set_option maxHeartbeats 4000000 in
set_option maxRecDepth 100000 in
theorem lc_9 {p : Program} {l : Launch} {e : Env} {s : State} {m : MethodId} {below : List Frame} {meth : Method} {c : Code} {Q : State → Prop} {D : va_G} {y : Nat → ClassId} {nm : String} {b : Nat} {xs : Nat → Int32} (C : Cx p s m #[Value.ref b] meth c D y (LA s) code 4 "NineBoardsLaw" nm) (hX : va_X b 6 xs s s.heap) (hbl : b < s.heap.size) (x : Nat) (mo : Nat) (u1 : Nat → Nat) (r1 : Nat → Nat) (r2 : Nat → Nat → Nat) (h1 : Nat → Nat) (a1 : Nat → Nat → Nat) (g1 : Nat → Nat) (c1 : Nat → Nat) (v1 : Nat → Nat) (kx : J p l e room_1 s m #[Value.ref b] below meth c Q D (LA s) 4 [] [(3, .int 0), (0, .ref b)] 451 27020 1124 []) : J p l e room_1 s m #[Value.ref b] below meth c Q D (LA s) 4 (LW y x mo u1 r1 r2 h1 a1 g1 c1 v1) [(3, .int 0), (2, .ref mo), (1, .ref x), (0, .ref b)] 451 27020 449 [] := by
  refine j_aload_n (pc := 449) C d_L_law_449 rfl 2 rfl ?_
  refine j_aload_n (pc := 450) C d_L_law_450 rfl 3 rfl ?_
  refine j_iload_n (pc := 451) C d_L_law_451 rfl 0 rfl ?_
  refine j_iconst (pc := 452) C (v := 1) d_L_law_452 (by decide) ?_
  refine j_iadd (pc := 453) C (v := 1) d_L_law_453 (by decide) ?_
  refine j_sld (pc := 454) C hX hbl (v := xs 1) (vin (by decide)) rfl d_L_law_454 ?_
  refine j_aload_n (pc := 455) C d_L_law_455 rfl 3 rfl ?_
  refine j_iload_n (pc := 456) C d_L_law_456 rfl 0 rfl ?_
  refine j_iconst (pc := 457) C (v := 2) d_L_law_457 (by decide) ?_
  refine j_iadd (pc := 458) C (v := 2) d_L_law_458 (by decide) ?_
  refine j_sld (pc := 459) C hX hbl (v := xs 2) (vin (by decide)) rfl d_L_law_459 ?_
  refine j_drop ?_
  refine j_sub (ws' := [(x, .inr (9, [.ref (u1 0), .ref (u1 1), .ref (u1 2), .ref (u1 3), .ref (u1 4), .ref (u1 5), .ref (u1 6), .ref (u1 7), .ref (u1 8), .int 1])), (u1 5, .inr (2, [.int 0, .int 1, .int 1, .int 0, .ref (u1 26), .int 0, .ref (u1 27), .ref (u1 28), .ref (u1 29), .ref (u1 30), .int 0, .int 0, .int 9999, .int 0])), MB mo v1 0 0 0 0 0 0 0 (-1) 0 0 0 0 0 0 0 0 0 0 1 0, (v1 0, .inl (y 0, 1600, .inl (fun _ => 0))), (v1 43, .inl (y 0, 8, .inl (fun _ => 0))), (v1 45, .inl (y 0, 14, .inl lakeF)), (v1 62, .inl (y 0, 63, .inl (dayF 0))), (v1 65, .inl (y 0, 1890, .inl (fun _ => 0))), (v1 68, .inl (y 0, 63, .inl (fun _ => 0))), (v1 70, .inl (y 0, 6558, .inl (fun _ => 0))), (v1 71, .inl (y 0, 1093, .inl (fun _ => 0))), (v1 72, .inl (y 0, 7, .inl powF)), (v1 74, .inl (y 0, 13, .inl (fun _ => 0))), (v1 75, .inl (y 0, 13, .inl (fun _ => 0))), (v1 77, .inl (y 0, 15, .inl (fun _ => 0)))]) [0, 23, 36, 37, 38, 39, 40, 41, 42, 43, 44, 45, 46, 47, 48] rfl (by decide) ?_
  refine j_callVi (pc := 460) C (c_N_village l D y x (u1 0) (u1 1) (u1 2) (u1 3) (u1 4) (u1 5) (u1 6) (u1 7) (u1 8) (u1 26) (u1 27) (u1 28) (u1 29) (u1 30) (xs 1) (xs 2)) kw_L_56 kv_Nine_village 0 9 rfl rfl ⟨by decide, by decide⟩ ⟨by decide, by decide⟩ (wr := [MB mo v1 0 0 0 0 0 0 0 (-1) 0 0 0 0 0 0 0 0 0 0 1 0, (v1 0, .inl (y 0, 1600, .inl (fun _ => 0))), (v1 43, .inl (y 0, 8, .inl (fun _ => 0))), (v1 45, .inl (y 0, 14, .inl lakeF)), (v1 62, .inl (y 0, 63, .inl (dayF 0))), (v1 65, .inl (y 0, 1890, .inl (fun _ => 0))), (v1 68, .inl (y 0, 63, .inl (fun _ => 0))), (v1 70, .inl (y 0, 6558, .inl (fun _ => 0))), (v1 71, .inl (y 0, 1093, .inl (fun _ => 0))), (v1 72, .inl (y 0, 7, .inl powF)), (v1 74, .inl (y 0, 13, .inl (fun _ => 0))), (v1 75, .inl (y 0, 13, .inl (fun _ => 0))), (v1 77, .inl (y 0, 15, .inl (fun _ => 0)))]) [0, 1] [2, 3, 4, 5, 6, 7, 8, 9, 10, 11, 12, 13, 14] rfl rfl (by decide) (by decide) (by decide) (As := [.int (xs 1), .int (xs 2)]) (rest := []) rfl (nb rfl) rfl d_L_law_460 (fun r1 _ hr1 => ?_)
  subst hr1
  refine j_ws (ws' := [MB mo v1 0 0 0 0 0 0 0 (-1) 0 0 0 0 0 0 0 0 0 0 1 0, (v1 0, .inl (y 0, 1600, .inl (fun _ => 0))), (v1 43, .inl (y 0, 8, .inl (fun _ => 0))), (v1 45, .inl (y 0, 14, .inl lakeF)), (v1 62, .inl (y 0, 63, .inl (dayF 0))), (v1 65, .inl (y 0, 1890, .inl (fun _ => 0))), (v1 68, .inl (y 0, 63, .inl (fun _ => 0))), (v1 70, .inl (y 0, 6558, .inl (fun _ => 0))), (v1 71, .inl (y 0, 1093, .inl (fun _ => 0))), (v1 72, .inl (y 0, 7, .inl powF)), (v1 74, .inl (y 0, 13, .inl (fun _ => 0))), (v1 75, .inl (y 0, 13, .inl (fun _ => 0))), (v1 77, .inl (y 0, 15, .inl (fun _ => 0)))]) rfl ?_
  refine j_st (st' := [.int (-1000000000)]) rfl ?_
  refine j_aload_n (pc := 463) C d_L_law_463 rfl 1 rfl ?_
  refine j_aload_n (pc := 464) C d_L_law_464 rfl 3 rfl ?_
  refine j_iload_n (pc := 465) C d_L_law_465 rfl 0 rfl ?_
  refine j_iconst (pc := 466) C (v := 1) d_L_law_466 (by decide) ?_
  refine j_iadd (pc := 467) C (v := 1) d_L_law_467 (by decide) ?_
  refine j_sld (pc := 468) C hX hbl (v := xs 1) (vin (by decide)) rfl d_L_law_468 ?_
  refine j_aload_n (pc := 469) C d_L_law_469 rfl 3 rfl ?_
  refine j_iload_n (pc := 470) C d_L_law_470 rfl 0 rfl ?_
  refine j_iconst (pc := 471) C (v := 2) d_L_law_471 (by decide) ?_
  refine j_iadd (pc := 472) C (v := 2) d_L_law_472 (by decide) ?_
  refine j_sld (pc := 473) C hX hbl (v := xs 2) (vin (by decide)) rfl d_L_law_473 ?_
  refine j_sub (ws' := [MB mo v1 0 0 0 0 0 0 0 (-1) 0 0 0 0 0 0 0 0 0 0 1 0, (v1 43, .inl (y 0, 8, .inl (fun _ => 0)))]) [0, 2] rfl (by decide) ?_
  refine j_callVi (pc := 474) C (c_M_village l D y mo v1 (xs 1) (xs 2)) kw_L_59 kv_Model_village 0 10 rfl rfl ⟨by decide, by decide⟩ ⟨by decide, by decide⟩ (wr := []) [0, 1] [] rfl rfl (by decide) (by decide) (by decide) (As := [.int (xs 1), .int (xs 2)]) (rest := [.int (-1000000000)]) rfl (nb rfl) rfl d_L_law_474 (fun r2 _ hr2 => ?_)
  subst hr2
  refine j_ws (ws' := []) rfl ?_
  refine j_st (st' := [.int (-1000000000), .int (-1000000000)]) rfl ?_
  refine j_icmp_eqT (pc := 477) C (tgt := 1124) d_L_law_477 (by decide) (by decide) ?_
  refine j_sub (ws' := []) [] rfl (by decide) ?_
  refine j_locs (lv' := [(3, .int 0), (0, .ref b)]) [0, 3] rfl ?_
  exact kx
theorem d_L_law_482 : decode code 482 = .ok (.aload_n 1, 1) := by decide +kernel
theorem d_L_law_483 : decode code 483 = .ok (.aload_n 0, 1) := by decide +kernel
theorem d_L_law_484 : decode code 484 = .ok (.iload_n 3, 1) := by decide +kernel
theorem d_L_law_485 : decode code 485 = .ok (.iconst 1, 1) := by decide +kernel
theorem d_L_law_486 : decode code 486 = .ok (.iadd, 1) := by decide +kernel
theorem d_L_law_487 : decode code 487 = .ok (.iaload, 1) := by decide +kernel
theorem d_L_law_488 : decode code 488 = .ok (.invokevirtual 60, 3) := by decide +kernel
theorem kw_L_60 : KW "NineBoardsLaw" 60 ⟨"NineBoards", "served", "(I)I"⟩ prog_1_method_12_code 2 (some .int) 1 := ⟨(mt_4 (List.mem_of_getElem? (i := 44) rfl) rfl), (mt_1 (List.mem_of_getElem? (i := 1) rfl) rfl), (mt_4 (List.mem_of_getElem? (i := 47) rfl) rfl), by decide +kernel⟩
theorem kv_Nine_served : Cond.instanceMethod ⟨"NineBoards", "served", "(I)I"⟩ ∈ TB ∧ Cond.selects "NineBoards" ⟨"NineBoards", "served", "(I)I"⟩ ⟨"NineBoards", "served", "(I)I"⟩ ∈ TB := ⟨(mt_4 (List.mem_of_getElem? (i := 45) rfl) rfl), (mt_4 (List.mem_of_getElem? (i := 46) rfl) rfl)⟩
theorem d_L_law_491 : decode code 491 = .ok (.aload_n 2, 1) := by decide +kernel
theorem d_L_law_492 : decode code 492 = .ok (.aload_n 0, 1) := by decide +kernel
theorem d_L_law_493 : decode code 493 = .ok (.iload_n 3, 1) := by decide +kernel
theorem d_L_law_494 : decode code 494 = .ok (.iconst 1, 1) := by decide +kernel
theorem d_L_law_495 : decode code 495 = .ok (.iadd, 1) := by decide +kernel
theorem d_L_law_496 : decode code 496 = .ok (.iaload, 1) := by decide +kernel
theorem d_L_law_497 : decode code 497 = .ok (.invokevirtual 63, 3) := by decide +kernel
theorem kw_L_63 : KW "NineBoardsLaw" 63 ⟨"NineBoardsModel", "served", "(I)I"⟩ prog_13_method_80_code 2 (some .int) 1 := ⟨(mt_7 (List.mem_of_getElem? (i := 107) rfl) rfl), (mt_1 (List.mem_of_getElem? (i := 16) rfl) rfl), (mt_7 (List.mem_of_getElem? (i := 110) rfl) rfl), by decide +kernel⟩
theorem kv_Model_served : Cond.instanceMethod ⟨"NineBoardsModel", "served", "(I)I"⟩ ∈ TB ∧ Cond.selects "NineBoardsModel" ⟨"NineBoardsModel", "served", "(I)I"⟩ ⟨"NineBoardsModel", "served", "(I)I"⟩ ∈ TB := ⟨(mt_7 (List.mem_of_getElem? (i := 108) rfl) rfl), (mt_7 (List.mem_of_getElem? (i := 109) rfl) rfl)⟩
theorem d_L_law_500 : decode code 500 = .ok (.if_icmp .eq 624, 3) := by decide +kernel
set_option maxHeartbeats 4000000 in
set_option maxRecDepth 100000 in
theorem lc_10 {p : Program} {l : Launch} {e : Env} {s : State} {m : MethodId} {below : List Frame} {meth : Method} {c : Code} {Q : State → Prop} {D : va_G} {y : Nat → ClassId} {nm : String} {b : Nat} {xs : Nat → Int32} (C : Cx p s m #[Value.ref b] meth c D y (LA s) code 4 "NineBoardsLaw" nm) (hX : va_X b 6 xs s s.heap) (hbl : b < s.heap.size) (x : Nat) (mo : Nat) (u1 : Nat → Nat) (r1 : Nat → Nat) (r2 : Nat → Nat → Nat) (h1 : Nat → Nat) (a1 : Nat → Nat → Nat) (g1 : Nat → Nat) (c1 : Nat → Nat) (v1 : Nat → Nat) (kx : J p l e room_1 s m #[Value.ref b] below meth c Q D (LA s) 4 [] [(3, .int 0), (0, .ref b)] 451 27020 1124 []) : J p l e room_1 s m #[Value.ref b] below meth c Q D (LA s) 4 (LW y x mo u1 r1 r2 h1 a1 g1 c1 v1) [(3, .int 0), (2, .ref mo), (1, .ref x), (0, .ref b)] 451 27020 482 [] := by
  refine j_aload_n (pc := 482) C d_L_law_482 rfl 2 rfl ?_
  refine j_aload_n (pc := 483) C d_L_law_483 rfl 3 rfl ?_
  refine j_iload_n (pc := 484) C d_L_law_484 rfl 0 rfl ?_
  refine j_iconst (pc := 485) C (v := 1) d_L_law_485 (by decide) ?_
  refine j_iadd (pc := 486) C (v := 1) d_L_law_486 (by decide) ?_
  refine j_sld (pc := 487) C hX hbl (v := xs 1) (vin (by decide)) rfl d_L_law_487 ?_
  refine j_drop ?_
  refine j_sub (ws' := [(x, .inr (9, [.ref (u1 0), .ref (u1 1), .ref (u1 2), .ref (u1 3), .ref (u1 4), .ref (u1 5), .ref (u1 6), .ref (u1 7), .ref (u1 8), .int 1])), (u1 5, .inr (2, [.int 0, .int 1, .int 1, .int 0, .ref (u1 26), .int 0, .ref (u1 27), .ref (u1 28), .ref (u1 29), .ref (u1 30), .int 0, .int 0, .int 9999, .int 0])), (u1 29, .inr (8, [.int 0, .ref (u1 38), .ref (u1 39), .ref (u1 40), .ref (u1 41), .ref (u1 42), .ref (u1 43), .ref (u1 44)])), MB mo v1 0 0 0 0 0 0 0 (-1) 0 0 0 0 0 0 0 0 0 0 1 0, (v1 0, .inl (y 0, 1600, .inl (fun _ => 0))), (v1 43, .inl (y 0, 8, .inl (fun _ => 0))), (v1 45, .inl (y 0, 14, .inl lakeF)), (v1 62, .inl (y 0, 63, .inl (dayF 0))), (v1 65, .inl (y 0, 1890, .inl (fun _ => 0))), (v1 68, .inl (y 0, 63, .inl (fun _ => 0))), (v1 70, .inl (y 0, 6558, .inl (fun _ => 0))), (v1 71, .inl (y 0, 1093, .inl (fun _ => 0))), (v1 72, .inl (y 0, 7, .inl powF)), (v1 74, .inl (y 0, 13, .inl (fun _ => 0))), (v1 75, .inl (y 0, 13, .inl (fun _ => 0))), (v1 77, .inl (y 0, 15, .inl (fun _ => 0)))]) [0, 23, 25, 36, 37, 38, 39, 40, 41, 42, 43, 44, 45, 46, 47, 48] rfl (by decide) ?_
  refine j_callVi (pc := 488) C (c_N_served l D y x (u1 0) (u1 1) (u1 2) (u1 3) (u1 4) (u1 5) (u1 6) (u1 7) (u1 8) (u1 26) (u1 27) (u1 28) (u1 29) (u1 30) (u1 38) (u1 39) (u1 40) (u1 41) (u1 42) (u1 43) (u1 44) (xs 1)) kw_L_60 kv_Nine_served 0 9 rfl rfl ⟨by decide, by decide⟩ ⟨by decide, by decide⟩ (wr := [MB mo v1 0 0 0 0 0 0 0 (-1) 0 0 0 0 0 0 0 0 0 0 1 0, (v1 0, .inl (y 0, 1600, .inl (fun _ => 0))), (v1 43, .inl (y 0, 8, .inl (fun _ => 0))), (v1 45, .inl (y 0, 14, .inl lakeF)), (v1 62, .inl (y 0, 63, .inl (dayF 0))), (v1 65, .inl (y 0, 1890, .inl (fun _ => 0))), (v1 68, .inl (y 0, 63, .inl (fun _ => 0))), (v1 70, .inl (y 0, 6558, .inl (fun _ => 0))), (v1 71, .inl (y 0, 1093, .inl (fun _ => 0))), (v1 72, .inl (y 0, 7, .inl powF)), (v1 74, .inl (y 0, 13, .inl (fun _ => 0))), (v1 75, .inl (y 0, 13, .inl (fun _ => 0))), (v1 77, .inl (y 0, 15, .inl (fun _ => 0)))]) [0, 1, 2] [3, 4, 5, 6, 7, 8, 9, 10, 11, 12, 13, 14, 15] rfl rfl (by decide) (by decide) (by decide) (As := [.int (xs 1)]) (rest := []) rfl (nb rfl) rfl d_L_law_488 (fun r1 _ hr1 => ?_)
  subst hr1
  refine j_ws (ws' := [MB mo v1 0 0 0 0 0 0 0 (-1) 0 0 0 0 0 0 0 0 0 0 1 0, (v1 0, .inl (y 0, 1600, .inl (fun _ => 0))), (v1 43, .inl (y 0, 8, .inl (fun _ => 0))), (v1 45, .inl (y 0, 14, .inl lakeF)), (v1 62, .inl (y 0, 63, .inl (dayF 0))), (v1 65, .inl (y 0, 1890, .inl (fun _ => 0))), (v1 68, .inl (y 0, 63, .inl (fun _ => 0))), (v1 70, .inl (y 0, 6558, .inl (fun _ => 0))), (v1 71, .inl (y 0, 1093, .inl (fun _ => 0))), (v1 72, .inl (y 0, 7, .inl powF)), (v1 74, .inl (y 0, 13, .inl (fun _ => 0))), (v1 75, .inl (y 0, 13, .inl (fun _ => 0))), (v1 77, .inl (y 0, 15, .inl (fun _ => 0)))]) rfl ?_
  refine j_st (st' := [.int (-1)]) rfl ?_
  refine j_aload_n (pc := 491) C d_L_law_491 rfl 1 rfl ?_
  refine j_aload_n (pc := 492) C d_L_law_492 rfl 3 rfl ?_
  refine j_iload_n (pc := 493) C d_L_law_493 rfl 0 rfl ?_
  refine j_iconst (pc := 494) C (v := 1) d_L_law_494 (by decide) ?_
  refine j_iadd (pc := 495) C (v := 1) d_L_law_495 (by decide) ?_
  refine j_sld (pc := 496) C hX hbl (v := xs 1) (vin (by decide)) rfl d_L_law_496 ?_
  refine j_sub (ws' := [MB mo v1 0 0 0 0 0 0 0 (-1) 0 0 0 0 0 0 0 0 0 0 1 0, (v1 43, .inl (y 0, 8, .inl (fun _ => 0)))]) [0, 2] rfl (by decide) ?_
  refine j_callVi (pc := 497) C (c_M_served l D y mo v1 (xs 1)) kw_L_63 kv_Model_served 0 10 rfl rfl ⟨by decide, by decide⟩ ⟨by decide, by decide⟩ (wr := []) [0, 1] [] rfl rfl (by decide) (by decide) (by decide) (As := [.int (xs 1)]) (rest := [.int (-1)]) rfl (nb rfl) rfl d_L_law_497 (fun r2 _ hr2 => ?_)
  subst hr2
  refine j_ws (ws' := []) rfl ?_
  refine j_st (st' := [.int (-1), .int (-1)]) rfl ?_
  refine j_icmp_eqT (pc := 500) C (tgt := 1124) d_L_law_500 (by decide) (by decide) ?_
  refine j_sub (ws' := []) [] rfl (by decide) ?_
  refine j_locs (lv' := [(3, .int 0), (0, .ref b)]) [0, 3] rfl ?_
  exact kx
