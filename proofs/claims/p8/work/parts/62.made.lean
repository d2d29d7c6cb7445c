theorem d_Bytes_init_0 : decode prog_2_method_1_code 0 = .ok (.aload_n 0, 1) := by decide +kernel
theorem d_Bytes_init_1 : decode prog_2_method_1_code 1 = .ok (.invokespecial 3, 3) := by decide +kernel
theorem d_Bytes_init_4 : decode prog_2_method_1_code 4 = .ok (.aload_n 0, 1) := by decide +kernel
theorem d_Bytes_init_5 : decode prog_2_method_1_code 5 = .ok (.iconst 0, 1) := by decide +kernel
theorem d_Bytes_init_6 : decode prog_2_method_1_code 6 = .ok (.iload_n 1, 1) := by decide +kernel
theorem d_Bytes_init_7 : decode prog_2_method_1_code 7 = .ok (.invokestatic 9, 3) := by decide +kernel
theorem d_Bytes_init_10 : decode prog_2_method_1_code 10 = .ok (.newarray .int, 2) := by decide +kernel
theorem d_Bytes_init_12 : decode prog_2_method_1_code 12 = .ok (.putfield 15, 3) := by decide +kernel
theorem pf_Bytes_15 : PF "NineBoards$Bytes" 15 0 0 (.array (.int)) true := ⟨_, _, _, ct_Bytes, rfl, ci_Bytes, by decide, (mt_1 (List.mem_of_getElem? (i := 36) rfl) rfl), cp_Bytes, cn_Bytes, rfl, by decide +kernel, (fun _ => rfl)⟩
theorem d_Bytes_init_15 : decode prog_2_method_1_code 15 = .ok (.return_, 1) := by decide +kernel
set_option maxHeartbeats 4000000 in
set_option maxRecDepth 100000 in
theorem c_Bytes_init_1600 (l : Launch) (D : va_G) (y : Nat → ClassId) (h : Nat)  : CT l D y ⟨"NineBoards$Bytes", "<init>", "(I)V"⟩ prog_2_method_1_code 2 none ({ frames := 1, cells := 1, slots := 1600, locals := 14 } : Room) [.ref h, .int 1600] [(h, .inr (0, [.null, .int 0]))] (QV D [(h, .inr (0, [.null, .int 0]))] (fun (_ : Nat → Nat) => True) (fun u => [(h, .inr (0, [.ref (u 0), .int 0])), (u 0, .inl (y 0, 1600, .inl (fun _ => 0)))])) := by
  refine CT.of (by decide) (nb rfl) ?_
  intro p e s m args below meth c C hr
  refine j_lv (lv' := [(0, .ref h), (1, .int 1600)]) rfl ?_
  refine j_aload_n (pc := 0) C d_Bytes_init_0 rfl 0 rfl ?_
  refine j_objInit (pc := 1) C (mt_1 (List.mem_of_getElem? (i := 32) rfl) rfl) (mt_1 (List.mem_of_getElem? (i := 25) rfl) rfl) (mt_1 (List.mem_of_getElem? (i := 26) rfl) rfl) (by decide) (nb rfl) d_Bytes_init_1 ?_
  refine j_aload_n (pc := 4) C d_Bytes_init_4 rfl 0 rfl ?_
  refine j_iconst (pc := 5) C (v := 0) d_Bytes_init_5 (by decide) ?_
  refine j_iload_n (pc := 6) C d_Bytes_init_6 rfl 1 rfl ?_
  refine j_mmax (pc := 7) C (mt_1 (List.mem_of_getElem? (i := 33) rfl) rfl) (mt_1 (List.mem_of_getElem? (i := 34) rfl) rfl) (mt_1 (List.mem_of_getElem? (i := 3) rfl) rfl) (mt_1 (List.mem_of_getElem? (i := 35) rfl) rfl) (v := 1600) (by decide) (by decide) (nb rfl) (by decide) (by decide) d_Bytes_init_7 ?_
  refine j_newI (pc := 10) C (mt_1 (List.mem_of_getElem? (i := 46) rfl) rfl) (N := 1600) (by decide) (by decide) (by decide) (by decide) (by decide) d_Bytes_init_10 (fun q1 => ?_)
  refine j_ws (ws' := [(h, .inr (0, [.null, .int 0])), (q1, .inl (y 0, 1600, .inl (fun _ => 0)))]) rfl ?_
  refine j_putF (pc := 12) C pf_Bytes_15 0 (ws' := [(h, .inr (0, [.ref q1, .int 0])), (q1, .inl (y 0, 1600, .inl (fun _ => 0)))]) rfl rfl rfl (nl rfl) rfl d_Bytes_init_12 ?_
  exact j_vret (pc := 15) C hr (fun k => [q1].getD k 0) trivial [0, 1] rfl (by decide) (by decide) (by decide) d_Bytes_init_15
set_option maxHeartbeats 4000000 in
set_option maxRecDepth 100000 in
theorem c_Bytes_init_15 (l : Launch) (D : va_G) (y : Nat → ClassId) (h : Nat)  : CT l D y ⟨"NineBoards$Bytes", "<init>", "(I)V"⟩ prog_2_method_1_code 2 none ({ frames := 1, cells := 1, slots := 15, locals := 14 } : Room) [.ref h, .int 15] [(h, .inr (0, [.null, .int 0]))] (QV D [(h, .inr (0, [.null, .int 0]))] (fun (_ : Nat → Nat) => True) (fun u => [(h, .inr (0, [.ref (u 0), .int 0])), (u 0, .inl (y 0, 15, .inl (fun _ => 0)))])) := by
  refine CT.of (by decide) (nb rfl) ?_
  intro p e s m args below meth c C hr
  refine j_lv (lv' := [(0, .ref h), (1, .int 15)]) rfl ?_
  refine j_aload_n (pc := 0) C d_Bytes_init_0 rfl 0 rfl ?_
  refine j_objInit (pc := 1) C (mt_1 (List.mem_of_getElem? (i := 32) rfl) rfl) (mt_1 (List.mem_of_getElem? (i := 25) rfl) rfl) (mt_1 (List.mem_of_getElem? (i := 26) rfl) rfl) (by decide) (nb rfl) d_Bytes_init_1 ?_
  refine j_aload_n (pc := 4) C d_Bytes_init_4 rfl 0 rfl ?_
  refine j_iconst (pc := 5) C (v := 0) d_Bytes_init_5 (by decide) ?_
  refine j_iload_n (pc := 6) C d_Bytes_init_6 rfl 1 rfl ?_
  refine j_mmax (pc := 7) C (mt_1 (List.mem_of_getElem? (i := 33) rfl) rfl) (mt_1 (List.mem_of_getElem? (i := 34) rfl) rfl) (mt_1 (List.mem_of_getElem? (i := 3) rfl) rfl) (mt_1 (List.mem_of_getElem? (i := 35) rfl) rfl) (v := 15) (by decide) (by decide) (nb rfl) (by decide) (by decide) d_Bytes_init_7 ?_
  refine j_newI (pc := 10) C (mt_1 (List.mem_of_getElem? (i := 46) rfl) rfl) (N := 15) (by decide) (by decide) (by decide) (by decide) (by decide) d_Bytes_init_10 (fun q1 => ?_)
  refine j_ws (ws' := [(h, .inr (0, [.null, .int 0])), (q1, .inl (y 0, 15, .inl (fun _ => 0)))]) rfl ?_
  refine j_putF (pc := 12) C pf_Bytes_15 0 (ws' := [(h, .inr (0, [.ref q1, .int 0])), (q1, .inl (y 0, 15, .inl (fun _ => 0)))]) rfl rfl rfl (nl rfl) rfl d_Bytes_init_12 ?_
  exact j_vret (pc := 15) C hr (fun k => [q1].getD k 0) trivial [0, 1] rfl (by decide) (by decide) (by decide) d_Bytes_init_15
theorem d_State_init_0 : decode prog_10_method_1_code 0 = .ok (.aload_n 0, 1) := by decide +kernel
theorem d_State_init_1 : decode prog_10_method_1_code 1 = .ok (.invokespecial 3, 3) := by decide +kernel
theorem d_State_init_4 : decode prog_10_method_1_code 4 = .ok (.aload_n 0, 1) := by decide +kernel
theorem d_State_init_5 : decode prog_10_method_1_code 5 = .ok (.bipush 9, 2) := by decide +kernel
theorem d_State_init_7 : decode prog_10_method_1_code 7 = .ok (.newarray .int, 2) := by decide +kernel
theorem d_State_init_9 : decode prog_10_method_1_code 9 = .ok (.putfield 9, 3) := by decide +kernel
theorem pf_State_9 : PF "NineBoards$State" 9 7 3 (.array (.int)) true := ⟨_, _, _, ct_State, rfl, ci_State, by decide, (mt_1 (List.mem_of_getElem? (i := 63) rfl) rfl), cp_State, cn_State, rfl, by decide +kernel, (fun _ => rfl)⟩
theorem d_State_init_12 : decode prog_10_method_1_code 12 = .ok (.aload_n 0, 1) := by decide +kernel
theorem d_State_init_13 : decode prog_10_method_1_code 13 = .ok (.bipush 9, 2) := by decide +kernel
theorem d_State_init_15 : decode prog_10_method_1_code 15 = .ok (.newarray .int, 2) := by decide +kernel
theorem d_State_init_17 : decode prog_10_method_1_code 17 = .ok (.putfield 15, 3) := by decide +kernel
theorem pf_State_15 : PF "NineBoards$State" 15 7 4 (.array (.int)) true := ⟨_, _, _, ct_State, rfl, ci_State, by decide, (mt_1 (List.mem_of_getElem? (i := 66) rfl) rfl), cp_State, cn_State, rfl, by decide +kernel, (fun _ => rfl)⟩
theorem d_State_init_20 : decode prog_10_method_1_code 20 = .ok (.aload_n 0, 1) := by decide +kernel
theorem d_State_init_21 : decode prog_10_method_1_code 21 = .ok (.bipush 9, 2) := by decide +kernel
theorem d_State_init_23 : decode prog_10_method_1_code 23 = .ok (.newarray .long, 2) := by decide +kernel
theorem d_State_init_25 : decode prog_10_method_1_code 25 = .ok (.putfield 18, 3) := by decide +kernel
theorem pf_State_18 : PF "NineBoards$State" 18 7 5 (.array (.long)) true := ⟨_, _, _, ct_State, rfl, ci_State, by decide, (mt_1 (List.mem_of_getElem? (i := 69) rfl) rfl), cp_State, cn_State, rfl, by decide +kernel, (fun _ => rfl)⟩
theorem d_State_init_28 : decode prog_10_method_1_code 28 = .ok (.aload_n 0, 1) := by decide +kernel
theorem d_State_init_29 : decode prog_10_method_1_code 29 = .ok (.bipush 6, 2) := by decide +kernel
theorem d_State_init_31 : decode prog_10_method_1_code 31 = .ok (.newarray .int, 2) := by decide +kernel
theorem d_State_init_33 : decode prog_10_method_1_code 33 = .ok (.putfield 22, 3) := by decide +kernel
theorem pf_State_22 : PF "NineBoards$State" 22 7 6 (.array (.int)) true := ⟨_, _, _, ct_State, rfl, ci_State, by decide, (mt_1 (List.mem_of_getElem? (i := 72) rfl) rfl), cp_State, cn_State, rfl, by decide +kernel, (fun _ => rfl)⟩
theorem d_State_init_36 : decode prog_10_method_1_code 36 = .ok (.aload_n 0, 1) := by decide +kernel
theorem d_State_init_37 : decode prog_10_method_1_code 37 = .ok (.bipush 6, 2) := by decide +kernel
theorem d_State_init_39 : decode prog_10_method_1_code 39 = .ok (.newarray .int, 2) := by decide +kernel
theorem d_State_init_41 : decode prog_10_method_1_code 41 = .ok (.putfield 25, 3) := by decide +kernel
theorem pf_State_25 : PF "NineBoards$State" 25 7 7 (.array (.int)) true := ⟨_, _, _, ct_State, rfl, ci_State, by decide, (mt_1 (List.mem_of_getElem? (i := 75) rfl) rfl), cp_State, cn_State, rfl, by decide +kernel, (fun _ => rfl)⟩
theorem d_State_init_44 : decode prog_10_method_1_code 44 = .ok (.aload_n 0, 1) := by decide +kernel
theorem d_State_init_45 : decode prog_10_method_1_code 45 = .ok (.bipush 16, 2) := by decide +kernel
theorem d_State_init_47 : decode prog_10_method_1_code 47 = .ok (.newarray .int, 2) := by decide +kernel
theorem d_State_init_49 : decode prog_10_method_1_code 49 = .ok (.putfield 28, 3) := by decide +kernel
theorem pf_State_28 : PF "NineBoards$State" 28 7 8 (.array (.int)) true := ⟨_, _, _, ct_State, rfl, ci_State, by decide, (mt_1 (List.mem_of_getElem? (i := 79) rfl) rfl), cp_State, cn_State, rfl, by decide +kernel, (fun _ => rfl)⟩
theorem d_State_init_52 : decode prog_10_method_1_code 52 = .ok (.aload_n 0, 1) := by decide +kernel
theorem d_State_init_53 : decode prog_10_method_1_code 53 = .ok (.iconst 5, 1) := by decide +kernel
theorem d_State_init_54 : decode prog_10_method_1_code 54 = .ok (.newarray .long, 2) := by decide +kernel
theorem d_State_init_56 : decode prog_10_method_1_code 56 = .ok (.putfield 31, 3) := by decide +kernel
theorem pf_State_31 : PF "NineBoards$State" 31 7 9 (.array (.long)) true := ⟨_, _, _, ct_State, rfl, ci_State, by decide, (mt_1 (List.mem_of_getElem? (i := 82) rfl) rfl), cp_State, cn_State, rfl, by decide +kernel, (fun _ => rfl)⟩
theorem d_State_init_59 : decode prog_10_method_1_code 59 = .ok (.return_, 1) := by decide +kernel
set_option maxHeartbeats 4000000 in
set_option maxRecDepth 100000 in
theorem c_State_init (l : Launch) (D : va_G) (y : Nat → ClassId) (h : Nat)  : CT l D y ⟨"NineBoards$State", "<init>", "()V"⟩ prog_10_method_1_code 1 none ({ frames := 1, cells := 7, slots := 60, locals := 12 } : Room) [.ref h] [(h, .inr (7, [.int 0, .int 0, .int 0, .null, .null, .null, .null, .null, .null, .null]))] (QV D [(h, .inr (7, [.int 0, .int 0, .int 0, .null, .null, .null, .null, .null, .null, .null]))] (fun (_ : Nat → Nat) => True) (fun u => [(h, .inr (7, [.int 0, .int 0, .int 0, .ref (u 0), .ref (u 1), .ref (u 2), .ref (u 3), .ref (u 4), .ref (u 5), .ref (u 6)])), (u 0, .inl (y 0, 9, .inl (fun _ => 0))), (u 1, .inl (y 0, 9, .inl (fun _ => 0))), (u 2, .inl (y 1, 9, .inr (.inl (fun _ => 0)))), (u 3, .inl (y 0, 6, .inl (fun _ => 0))), (u 4, .inl (y 0, 6, .inl (fun _ => 0))), (u 5, .inl (y 0, 16, .inl (fun _ => 0))), (u 6, .inl (y 1, 5, .inr (.inl (fun _ => 0))))])) := by
  refine CT.of (by decide) (nb rfl) ?_
  intro p e s m args below meth c C hr
  refine j_lv (lv' := [(0, .ref h)]) rfl ?_
  refine j_aload_n (pc := 0) C d_State_init_0 rfl 0 rfl ?_
  refine j_objInit (pc := 1) C (mt_1 (List.mem_of_getElem? (i := 52) rfl) rfl) (mt_1 (List.mem_of_getElem? (i := 25) rfl) rfl) (mt_1 (List.mem_of_getElem? (i := 26) rfl) rfl) (by decide) (nb rfl) d_State_init_1 ?_
  refine j_aload_n (pc := 4) C d_State_init_4 rfl 0 rfl ?_
  refine j_bipush (pc := 5) C (v := 9) d_State_init_5 (by decide) ?_
  refine j_newI (pc := 7) C (mt_1 (List.mem_of_getElem? (i := 46) rfl) rfl) (N := 9) (by decide) (by decide) (by decide) (by decide) (by decide) d_State_init_7 (fun q1 => ?_)
  refine j_ws (ws' := [(h, .inr (7, [.int 0, .int 0, .int 0, .null, .null, .null, .null, .null, .null, .null])), (q1, .inl (y 0, 9, .inl (fun _ => 0)))]) rfl ?_
  refine j_putF (pc := 9) C pf_State_9 0 (ws' := [(h, .inr (7, [.int 0, .int 0, .int 0, .ref q1, .null, .null, .null, .null, .null, .null])), (q1, .inl (y 0, 9, .inl (fun _ => 0)))]) rfl rfl rfl (nl rfl) rfl d_State_init_9 ?_
  refine j_aload_n (pc := 12) C d_State_init_12 rfl 0 rfl ?_
  refine j_bipush (pc := 13) C (v := 9) d_State_init_13 (by decide) ?_
  refine j_newI (pc := 15) C (mt_1 (List.mem_of_getElem? (i := 46) rfl) rfl) (N := 9) (by decide) (by decide) (by decide) (by decide) (by decide) d_State_init_15 (fun q2 => ?_)
  refine j_ws (ws' := [(h, .inr (7, [.int 0, .int 0, .int 0, .ref q1, .null, .null, .null, .null, .null, .null])), (q1, .inl (y 0, 9, .inl (fun _ => 0))), (q2, .inl (y 0, 9, .inl (fun _ => 0)))]) rfl ?_
  refine j_putF (pc := 17) C pf_State_15 0 (ws' := [(h, .inr (7, [.int 0, .int 0, .int 0, .ref q1, .ref q2, .null, .null, .null, .null, .null])), (q1, .inl (y 0, 9, .inl (fun _ => 0))), (q2, .inl (y 0, 9, .inl (fun _ => 0)))]) rfl rfl rfl (nl rfl) rfl d_State_init_17 ?_
  refine j_aload_n (pc := 20) C d_State_init_20 rfl 0 rfl ?_
  refine j_bipush (pc := 21) C (v := 9) d_State_init_21 (by decide) ?_
  refine j_newJ (pc := 23) C (mt_1 (List.mem_of_getElem? (i := 106) rfl) rfl) (N := 9) (by decide) (by decide) (by decide) (by decide) (by decide) d_State_init_23 (fun q3 => ?_)
  refine j_ws (ws' := [(h, .inr (7, [.int 0, .int 0, .int 0, .ref q1, .ref q2, .null, .null, .null, .null, .null])), (q1, .inl (y 0, 9, .inl (fun _ => 0))), (q2, .inl (y 0, 9, .inl (fun _ => 0))), (q3, .inl (y 1, 9, .inr (.inl (fun _ => 0))))]) rfl ?_
  refine j_putF (pc := 25) C pf_State_18 0 (ws' := [(h, .inr (7, [.int 0, .int 0, .int 0, .ref q1, .ref q2, .ref q3, .null, .null, .null, .null])), (q1, .inl (y 0, 9, .inl (fun _ => 0))), (q2, .inl (y 0, 9, .inl (fun _ => 0))), (q3, .inl (y 1, 9, .inr (.inl (fun _ => 0))))]) rfl rfl rfl (nl rfl) rfl d_State_init_25 ?_
  refine j_aload_n (pc := 28) C d_State_init_28 rfl 0 rfl ?_
  refine j_bipush (pc := 29) C (v := 6) d_State_init_29 (by decide) ?_
  refine j_newI (pc := 31) C (mt_1 (List.mem_of_getElem? (i := 46) rfl) rfl) (N := 6) (by decide) (by decide) (by decide) (by decide) (by decide) d_State_init_31 (fun q4 => ?_)
  refine j_ws (ws' := [(h, .inr (7, [.int 0, .int 0, .int 0, .ref q1, .ref q2, .ref q3, .null, .null, .null, .null])), (q1, .inl (y 0, 9, .inl (fun _ => 0))), (q2, .inl (y 0, 9, .inl (fun _ => 0))), (q3, .inl (y 1, 9, .inr (.inl (fun _ => 0)))), (q4, .inl (y 0, 6, .inl (fun _ => 0)))]) rfl ?_
  refine j_putF (pc := 33) C pf_State_22 0 (ws' := [(h, .inr (7, [.int 0, .int 0, .int 0, .ref q1, .ref q2, .ref q3, .ref q4, .null, .null, .null])), (q1, .inl (y 0, 9, .inl (fun _ => 0))), (q2, .inl (y 0, 9, .inl (fun _ => 0))), (q3, .inl (y 1, 9, .inr (.inl (fun _ => 0)))), (q4, .inl (y 0, 6, .inl (fun _ => 0)))]) rfl rfl rfl (nl rfl) rfl d_State_init_33 ?_
  refine j_aload_n (pc := 36) C d_State_init_36 rfl 0 rfl ?_
  refine j_bipush (pc := 37) C (v := 6) d_State_init_37 (by decide) ?_
  refine j_newI (pc := 39) C (mt_1 (List.mem_of_getElem? (i := 46) rfl) rfl) (N := 6) (by decide) (by decide) (by decide) (by decide) (by decide) d_State_init_39 (fun q5 => ?_)
  refine j_ws (ws' := [(h, .inr (7, [.int 0, .int 0, .int 0, .ref q1, .ref q2, .ref q3, .ref q4, .null, .null, .null])), (q1, .inl (y 0, 9, .inl (fun _ => 0))), (q2, .inl (y 0, 9, .inl (fun _ => 0))), (q3, .inl (y 1, 9, .inr (.inl (fun _ => 0)))), (q4, .inl (y 0, 6, .inl (fun _ => 0))), (q5, .inl (y 0, 6, .inl (fun _ => 0)))]) rfl ?_
  refine j_putF (pc := 41) C pf_State_25 0 (ws' := [(h, .inr (7, [.int 0, .int 0, .int 0, .ref q1, .ref q2, .ref q3, .ref q4, .ref q5, .null, .null])), (q1, .inl (y 0, 9, .inl (fun _ => 0))), (q2, .inl (y 0, 9, .inl (fun _ => 0))), (q3, .inl (y 1, 9, .inr (.inl (fun _ => 0)))), (q4, .inl (y 0, 6, .inl (fun _ => 0))), (q5, .inl (y 0, 6, .inl (fun _ => 0)))]) rfl rfl rfl (nl rfl) rfl d_State_init_41 ?_
  refine j_aload_n (pc := 44) C d_State_init_44 rfl 0 rfl ?_
  refine j_bipush (pc := 45) C (v := 16) d_State_init_45 (by decide) ?_
  refine j_newI (pc := 47) C (mt_1 (List.mem_of_getElem? (i := 46) rfl) rfl) (N := 16) (by decide) (by decide) (by decide) (by decide) (by decide) d_State_init_47 (fun q6 => ?_)
  refine j_ws (ws' := [(h, .inr (7, [.int 0, .int 0, .int 0, .ref q1, .ref q2, .ref q3, .ref q4, .ref q5, .null, .null])), (q1, .inl (y 0, 9, .inl (fun _ => 0))), (q2, .inl (y 0, 9, .inl (fun _ => 0))), (q3, .inl (y 1, 9, .inr (.inl (fun _ => 0)))), (q4, .inl (y 0, 6, .inl (fun _ => 0))), (q5, .inl (y 0, 6, .inl (fun _ => 0))), (q6, .inl (y 0, 16, .inl (fun _ => 0)))]) rfl ?_
  refine j_putF (pc := 49) C pf_State_28 0 (ws' := [(h, .inr (7, [.int 0, .int 0, .int 0, .ref q1, .ref q2, .ref q3, .ref q4, .ref q5, .ref q6, .null])), (q1, .inl (y 0, 9, .inl (fun _ => 0))), (q2, .inl (y 0, 9, .inl (fun _ => 0))), (q3, .inl (y 1, 9, .inr (.inl (fun _ => 0)))), (q4, .inl (y 0, 6, .inl (fun _ => 0))), (q5, .inl (y 0, 6, .inl (fun _ => 0))), (q6, .inl (y 0, 16, .inl (fun _ => 0)))]) rfl rfl rfl (nl rfl) rfl d_State_init_49 ?_
  refine j_aload_n (pc := 52) C d_State_init_52 rfl 0 rfl ?_
  refine j_iconst (pc := 53) C (v := 5) d_State_init_53 (by decide) ?_
  refine j_newJ (pc := 54) C (mt_1 (List.mem_of_getElem? (i := 106) rfl) rfl) (N := 5) (by decide) (by decide) (by decide) (by decide) (by decide) d_State_init_54 (fun q7 => ?_)
  refine j_ws (ws' := [(h, .inr (7, [.int 0, .int 0, .int 0, .ref q1, .ref q2, .ref q3, .ref q4, .ref q5, .ref q6, .null])), (q1, .inl (y 0, 9, .inl (fun _ => 0))), (q2, .inl (y 0, 9, .inl (fun _ => 0))), (q3, .inl (y 1, 9, .inr (.inl (fun _ => 0)))), (q4, .inl (y 0, 6, .inl (fun _ => 0))), (q5, .inl (y 0, 6, .inl (fun _ => 0))), (q6, .inl (y 0, 16, .inl (fun _ => 0))), (q7, .inl (y 1, 5, .inr (.inl (fun _ => 0))))]) rfl ?_
  refine j_putF (pc := 56) C pf_State_31 0 (ws' := [(h, .inr (7, [.int 0, .int 0, .int 0, .ref q1, .ref q2, .ref q3, .ref q4, .ref q5, .ref q6, .ref q7])), (q1, .inl (y 0, 9, .inl (fun _ => 0))), (q2, .inl (y 0, 9, .inl (fun _ => 0))), (q3, .inl (y 1, 9, .inr (.inl (fun _ => 0)))), (q4, .inl (y 0, 6, .inl (fun _ => 0))), (q5, .inl (y 0, 6, .inl (fun _ => 0))), (q6, .inl (y 0, 16, .inl (fun _ => 0))), (q7, .inl (y 1, 5, .inr (.inl (fun _ => 0))))]) rfl rfl rfl (nl rfl) rfl d_State_init_56 ?_
  exact j_vret (pc := 59) C hr (fun k => [q1, q2, q3, q4, q5, q6, q7].getD k 0) trivial [0, 1, 2, 3, 4, 5, 6, 7] rfl (by decide) (by decide) (by decide) d_State_init_59
theorem d_Gates_init_0 : decode prog_4_method_1_code 0 = .ok (.aload_n 0, 1) := by decide +kernel
theorem d_Gates_init_1 : decode prog_4_method_1_code 1 = .ok (.invokespecial 3, 3) := by decide +kernel
theorem d_Gates_init_4 : decode prog_4_method_1_code 4 = .ok (.aload_n 0, 1) := by decide +kernel
theorem d_Gates_init_5 : decode prog_4_method_1_code 5 = .ok (.bipush 9, 2) := by decide +kernel
theorem d_Gates_init_7 : decode prog_4_method_1_code 7 = .ok (.newarray .int, 2) := by decide +kernel
theorem d_Gates_init_9 : decode prog_4_method_1_code 9 = .ok (.putfield 9, 3) := by decide +kernel
theorem pf_Gates_9 : PF "NineBoards$Gates" 9 1 1 (.array (.int)) true := ⟨_, _, _, ct_Gates, rfl, ci_Gates, by decide, (mt_1 (List.mem_of_getElem? (i := 144) rfl) rfl), cp_Gates, cn_Gates, rfl, by decide +kernel, (fun _ => rfl)⟩
theorem d_Gates_init_12 : decode prog_4_method_1_code 12 = .ok (.aload_n 0, 1) := by decide +kernel
theorem d_Gates_init_13 : decode prog_4_method_1_code 13 = .ok (.bipush 9, 2) := by decide +kernel
theorem d_Gates_init_15 : decode prog_4_method_1_code 15 = .ok (.newarray .int, 2) := by decide +kernel
theorem d_Gates_init_17 : decode prog_4_method_1_code 17 = .ok (.putfield 15, 3) := by decide +kernel
theorem pf_Gates_15 : PF "NineBoards$Gates" 15 1 2 (.array (.int)) true := ⟨_, _, _, ct_Gates, rfl, ci_Gates, by decide, (mt_1 (List.mem_of_getElem? (i := 147) rfl) rfl), cp_Gates, cn_Gates, rfl, by decide +kernel, (fun _ => rfl)⟩
theorem d_Gates_init_20 : decode prog_4_method_1_code 20 = .ok (.aload_n 0, 1) := by decide +kernel
theorem d_Gates_init_21 : decode prog_4_method_1_code 21 = .ok (.bipush 9, 2) := by decide +kernel
theorem d_Gates_init_23 : decode prog_4_method_1_code 23 = .ok (.newarray .int, 2) := by decide +kernel
theorem d_Gates_init_25 : decode prog_4_method_1_code 25 = .ok (.putfield 18, 3) := by decide +kernel
theorem pf_Gates_18 : PF "NineBoards$Gates" 18 1 3 (.array (.int)) true := ⟨_, _, _, ct_Gates, rfl, ci_Gates, by decide, (mt_1 (List.mem_of_getElem? (i := 150) rfl) rfl), cp_Gates, cn_Gates, rfl, by decide +kernel, (fun _ => rfl)⟩
theorem d_Gates_init_28 : decode prog_4_method_1_code 28 = .ok (.aload_n 0, 1) := by decide +kernel
theorem d_Gates_init_29 : decode prog_4_method_1_code 29 = .ok (.bipush 9, 2) := by decide +kernel
theorem d_Gates_init_31 : decode prog_4_method_1_code 31 = .ok (.newarray .int, 2) := by decide +kernel
theorem d_Gates_init_33 : decode prog_4_method_1_code 33 = .ok (.putfield 21, 3) := by decide +kernel
theorem pf_Gates_21 : PF "NineBoards$Gates" 21 1 4 (.array (.int)) true := ⟨_, _, _, ct_Gates, rfl, ci_Gates, by decide, (mt_1 (List.mem_of_getElem? (i := 152) rfl) rfl), cp_Gates, cn_Gates, rfl, by decide +kernel, (fun _ => rfl)⟩
theorem d_Gates_init_36 : decode prog_4_method_1_code 36 = .ok (.aload_n 0, 1) := by decide +kernel
theorem d_Gates_init_37 : decode prog_4_method_1_code 37 = .ok (.bipush 9, 2) := by decide +kernel
theorem d_Gates_init_39 : decode prog_4_method_1_code 39 = .ok (.newarray .int, 2) := by decide +kernel
theorem d_Gates_init_41 : decode prog_4_method_1_code 41 = .ok (.putfield 24, 3) := by decide +kernel
theorem pf_Gates_24 : PF "NineBoards$Gates" 24 1 5 (.array (.int)) true := ⟨_, _, _, ct_Gates, rfl, ci_Gates, by decide, (mt_1 (List.mem_of_getElem? (i := 154) rfl) rfl), cp_Gates, cn_Gates, rfl, by decide +kernel, (fun _ => rfl)⟩
theorem d_Gates_init_44 : decode prog_4_method_1_code 44 = .ok (.aload_n 0, 1) := by decide +kernel
theorem d_Gates_init_45 : decode prog_4_method_1_code 45 = .ok (.bipush 9, 2) := by decide +kernel
theorem d_Gates_init_47 : decode prog_4_method_1_code 47 = .ok (.newarray .int, 2) := by decide +kernel
theorem d_Gates_init_49 : decode prog_4_method_1_code 49 = .ok (.putfield 27, 3) := by decide +kernel
theorem pf_Gates_27 : PF "NineBoards$Gates" 27 1 6 (.array (.int)) true := ⟨_, _, _, ct_Gates, rfl, ci_Gates, by decide, (mt_1 (List.mem_of_getElem? (i := 157) rfl) rfl), cp_Gates, cn_Gates, rfl, by decide +kernel, (fun _ => rfl)⟩
theorem d_Gates_init_52 : decode prog_4_method_1_code 52 = .ok (.aload_n 0, 1) := by decide +kernel
theorem d_Gates_init_53 : decode prog_4_method_1_code 53 = .ok (.bipush 9, 2) := by decide +kernel
theorem d_Gates_init_55 : decode prog_4_method_1_code 55 = .ok (.newarray .int, 2) := by decide +kernel
theorem d_Gates_init_57 : decode prog_4_method_1_code 57 = .ok (.putfield 30, 3) := by decide +kernel
theorem pf_Gates_30 : PF "NineBoards$Gates" 30 1 7 (.array (.int)) true := ⟨_, _, _, ct_Gates, rfl, ci_Gates, by decide, (mt_1 (List.mem_of_getElem? (i := 160) rfl) rfl), cp_Gates, cn_Gates, rfl, by decide +kernel, (fun _ => rfl)⟩
theorem d_Gates_init_60 : decode prog_4_method_1_code 60 = .ok (.return_, 1) := by decide +kernel
set_option maxHeartbeats 4000000 in
set_option maxRecDepth 100000 in
theorem c_Gates_init (l : Launch) (D : va_G) (y : Nat → ClassId) (h : Nat)  : CT l D y ⟨"NineBoards$Gates", "<init>", "()V"⟩ prog_4_method_1_code 1 none ({ frames := 1, cells := 7, slots := 63, locals := 12 } : Room) [.ref h] [(h, .inr (1, [.int 0, .null, .null, .null, .null, .null, .null, .null]))] (QV D [(h, .inr (1, [.int 0, .null, .null, .null, .null, .null, .null, .null]))] (fun (_ : Nat → Nat) => True) (fun u => [(h, .inr (1, [.int 0, .ref (u 0), .ref (u 1), .ref (u 2), .ref (u 3), .ref (u 4), .ref (u 5), .ref (u 6)])), (u 0, .inl (y 0, 9, .inl (fun _ => 0))), (u 1, .inl (y 0, 9, .inl (fun _ => 0))), (u 2, .inl (y 0, 9, .inl (fun _ => 0))), (u 3, .inl (y 0, 9, .inl (fun _ => 0))), (u 4, .inl (y 0, 9, .inl (fun _ => 0))), (u 5, .inl (y 0, 9, .inl (fun _ => 0))), (u 6, .inl (y 0, 9, .inl (fun _ => 0)))])) := by
  refine CT.of (by decide) (nb rfl) ?_
  intro p e s m args below meth c C hr
  refine j_lv (lv' := [(0, .ref h)]) rfl ?_
  refine j_aload_n (pc := 0) C d_Gates_init_0 rfl 0 rfl ?_
  refine j_objInit (pc := 1) C (mt_1 (List.mem_of_getElem? (i := 138) rfl) rfl) (mt_1 (List.mem_of_getElem? (i := 25) rfl) rfl) (mt_1 (List.mem_of_getElem? (i := 26) rfl) rfl) (by decide) (nb rfl) d_Gates_init_1 ?_
  refine j_aload_n (pc := 4) C d_Gates_init_4 rfl 0 rfl ?_
  refine j_bipush (pc := 5) C (v := 9) d_Gates_init_5 (by decide) ?_
  refine j_newI (pc := 7) C (mt_1 (List.mem_of_getElem? (i := 46) rfl) rfl) (N := 9) (by decide) (by decide) (by decide) (by decide) (by decide) d_Gates_init_7 (fun q1 => ?_)
  refine j_ws (ws' := [(h, .inr (1, [.int 0, .null, .null, .null, .null, .null, .null, .null])), (q1, .inl (y 0, 9, .inl (fun _ => 0)))]) rfl ?_
  refine j_putF (pc := 9) C pf_Gates_9 0 (ws' := [(h, .inr (1, [.int 0, .ref q1, .null, .null, .null, .null, .null, .null])), (q1, .inl (y 0, 9, .inl (fun _ => 0)))]) rfl rfl rfl (nl rfl) rfl d_Gates_init_9 ?_
  refine j_aload_n (pc := 12) C d_Gates_init_12 rfl 0 rfl ?_
  refine j_bipush (pc := 13) C (v := 9) d_Gates_init_13 (by decide) ?_
  refine j_newI (pc := 15) C (mt_1 (List.mem_of_getElem? (i := 46) rfl) rfl) (N := 9) (by decide) (by decide) (by decide) (by decide) (by decide) d_Gates_init_15 (fun q2 => ?_)
  refine j_ws (ws' := [(h, .inr (1, [.int 0, .ref q1, .null, .null, .null, .null, .null, .null])), (q1, .inl (y 0, 9, .inl (fun _ => 0))), (q2, .inl (y 0, 9, .inl (fun _ => 0)))]) rfl ?_
  refine j_putF (pc := 17) C pf_Gates_15 0 (ws' := [(h, .inr (1, [.int 0, .ref q1, .ref q2, .null, .null, .null, .null, .null])), (q1, .inl (y 0, 9, .inl (fun _ => 0))), (q2, .inl (y 0, 9, .inl (fun _ => 0)))]) rfl rfl rfl (nl rfl) rfl d_Gates_init_17 ?_
  refine j_aload_n (pc := 20) C d_Gates_init_20 rfl 0 rfl ?_
  refine j_bipush (pc := 21) C (v := 9) d_Gates_init_21 (by decide) ?_
  refine j_newI (pc := 23) C (mt_1 (List.mem_of_getElem? (i := 46) rfl) rfl) (N := 9) (by decide) (by decide) (by decide) (by decide) (by decide) d_Gates_init_23 (fun q3 => ?_)
  refine j_ws (ws' := [(h, .inr (1, [.int 0, .ref q1, .ref q2, .null, .null, .null, .null, .null])), (q1, .inl (y 0, 9, .inl (fun _ => 0))), (q2, .inl (y 0, 9, .inl (fun _ => 0))), (q3, .inl (y 0, 9, .inl (fun _ => 0)))]) rfl ?_
  refine j_putF (pc := 25) C pf_Gates_18 0 (ws' := [(h, .inr (1, [.int 0, .ref q1, .ref q2, .ref q3, .null, .null, .null, .null])), (q1, .inl (y 0, 9, .inl (fun _ => 0))), (q2, .inl (y 0, 9, .inl (fun _ => 0))), (q3, .inl (y 0, 9, .inl (fun _ => 0)))]) rfl rfl rfl (nl rfl) rfl d_Gates_init_25 ?_
  refine j_aload_n (pc := 28) C d_Gates_init_28 rfl 0 rfl ?_
  refine j_bipush (pc := 29) C (v := 9) d_Gates_init_29 (by decide) ?_
  refine j_newI (pc := 31) C (mt_1 (List.mem_of_getElem? (i := 46) rfl) rfl) (N := 9) (by decide) (by decide) (by decide) (by decide) (by decide) d_Gates_init_31 (fun q4 => ?_)
  refine j_ws (ws' := [(h, .inr (1, [.int 0, .ref q1, .ref q2, .ref q3, .null, .null, .null, .null])), (q1, .inl (y 0, 9, .inl (fun _ => 0))), (q2, .inl (y 0, 9, .inl (fun _ => 0))), (q3, .inl (y 0, 9, .inl (fun _ => 0))), (q4, .inl (y 0, 9, .inl (fun _ => 0)))]) rfl ?_
  refine j_putF (pc := 33) C pf_Gates_21 0 (ws' := [(h, .inr (1, [.int 0, .ref q1, .ref q2, .ref q3, .ref q4, .null, .null, .null])), (q1, .inl (y 0, 9, .inl (fun _ => 0))), (q2, .inl (y 0, 9, .inl (fun _ => 0))), (q3, .inl (y 0, 9, .inl (fun _ => 0))), (q4, .inl (y 0, 9, .inl (fun _ => 0)))]) rfl rfl rfl (nl rfl) rfl d_Gates_init_33 ?_
  refine j_aload_n (pc := 36) C d_Gates_init_36 rfl 0 rfl ?_
  refine j_bipush (pc := 37) C (v := 9) d_Gates_init_37 (by decide) ?_
  refine j_newI (pc := 39) C (mt_1 (List.mem_of_getElem? (i := 46) rfl) rfl) (N := 9) (by decide) (by decide) (by decide) (by decide) (by decide) d_Gates_init_39 (fun q5 => ?_)
  refine j_ws (ws' := [(h, .inr (1, [.int 0, .ref q1, .ref q2, .ref q3, .ref q4, .null, .null, .null])), (q1, .inl (y 0, 9, .inl (fun _ => 0))), (q2, .inl (y 0, 9, .inl (fun _ => 0))), (q3, .inl (y 0, 9, .inl (fun _ => 0))), (q4, .inl (y 0, 9, .inl (fun _ => 0))), (q5, .inl (y 0, 9, .inl (fun _ => 0)))]) rfl ?_
  refine j_putF (pc := 41) C pf_Gates_24 0 (ws' := [(h, .inr (1, [.int 0, .ref q1, .ref q2, .ref q3, .ref q4, .ref q5, .null, .null])), (q1, .inl (y 0, 9, .inl (fun _ => 0))), (q2, .inl (y 0, 9, .inl (fun _ => 0))), (q3, .inl (y 0, 9, .inl (fun _ => 0))), (q4, .inl (y 0, 9, .inl (fun _ => 0))), (q5, .inl (y 0, 9, .inl (fun _ => 0)))]) rfl rfl rfl (nl rfl) rfl d_Gates_init_41 ?_
  refine j_aload_n (pc := 44) C d_Gates_init_44 rfl 0 rfl ?_
  refine j_bipush (pc := 45) C (v := 9) d_Gates_init_45 (by decide) ?_
  refine j_newI (pc := 47) C (mt_1 (List.mem_of_getElem? (i := 46) rfl) rfl) (N := 9) (by decide) (by decide) (by decide) (by decide) (by decide) d_Gates_init_47 (fun q6 => ?_)
  refine j_ws (ws' := [(h, .inr (1, [.int 0, .ref q1, .ref q2, .ref q3, .ref q4, .ref q5, .null, .null])), (q1, .inl (y 0, 9, .inl (fun _ => 0))), (q2, .inl (y 0, 9, .inl (fun _ => 0))), (q3, .inl (y 0, 9, .inl (fun _ => 0))), (q4, .inl (y 0, 9, .inl (fun _ => 0))), (q5, .inl (y 0, 9, .inl (fun _ => 0))), (q6, .inl (y 0, 9, .inl (fun _ => 0)))]) rfl ?_
  refine j_putF (pc := 49) C pf_Gates_27 0 (ws' := [(h, .inr (1, [.int 0, .ref q1, .ref q2, .ref q3, .ref q4, .ref q5, .ref q6, .null])), (q1, .inl (y 0, 9, .inl (fun _ => 0))), (q2, .inl (y 0, 9, .inl (fun _ => 0))), (q3, .inl (y 0, 9, .inl (fun _ => 0))), (q4, .inl (y 0, 9, .inl (fun _ => 0))), (q5, .inl (y 0, 9, .inl (fun _ => 0))), (q6, .inl (y 0, 9, .inl (fun _ => 0)))]) rfl rfl rfl (nl rfl) rfl d_Gates_init_49 ?_
  refine j_aload_n (pc := 52) C d_Gates_init_52 rfl 0 rfl ?_
  refine j_bipush (pc := 53) C (v := 9) d_Gates_init_53 (by decide) ?_
  refine j_newI (pc := 55) C (mt_1 (List.mem_of_getElem? (i := 46) rfl) rfl) (N := 9) (by decide) (by decide) (by decide) (by decide) (by decide) d_Gates_init_55 (fun q7 => ?_)
  refine j_ws (ws' := [(h, .inr (1, [.int 0, .ref q1, .ref q2, .ref q3, .ref q4, .ref q5, .ref q6, .null])), (q1, .inl (y 0, 9, .inl (fun _ => 0))), (q2, .inl (y 0, 9, .inl (fun _ => 0))), (q3, .inl (y 0, 9, .inl (fun _ => 0))), (q4, .inl (y 0, 9, .inl (fun _ => 0))), (q5, .inl (y 0, 9, .inl (fun _ => 0))), (q6, .inl (y 0, 9, .inl (fun _ => 0))), (q7, .inl (y 0, 9, .inl (fun _ => 0)))]) rfl ?_
  refine j_putF (pc := 57) C pf_Gates_30 0 (ws' := [(h, .inr (1, [.int 0, .ref q1, .ref q2, .ref q3, .ref q4, .ref q5, .ref q6, .ref q7])), (q1, .inl (y 0, 9, .inl (fun _ => 0))), (q2, .inl (y 0, 9, .inl (fun _ => 0))), (q3, .inl (y 0, 9, .inl (fun _ => 0))), (q4, .inl (y 0, 9, .inl (fun _ => 0))), (q5, .inl (y 0, 9, .inl (fun _ => 0))), (q6, .inl (y 0, 9, .inl (fun _ => 0))), (q7, .inl (y 0, 9, .inl (fun _ => 0)))]) rfl rfl rfl (nl rfl) rfl d_Gates_init_57 ?_
  exact j_vret (pc := 60) C hr (fun k => [q1, q2, q3, q4, q5, q6, q7].getD k 0) trivial [0, 1, 2, 3, 4, 5, 6, 7] rfl (by decide) (by decide) (by decide) d_Gates_init_60
theorem d_Things_init_0 : decode prog_11_method_1_code 0 = .ok (.aload_n 0, 1) := by decide +kernel
theorem d_Things_init_1 : decode prog_11_method_1_code 1 = .ok (.invokespecial 3, 3) := by decide +kernel
theorem d_Things_init_4 : decode prog_11_method_1_code 4 = .ok (.aload_n 0, 1) := by decide +kernel
theorem d_Things_init_5 : decode prog_11_method_1_code 5 = .ok (.bipush 16, 2) := by decide +kernel
theorem d_Things_init_7 : decode prog_11_method_1_code 7 = .ok (.newarray .int, 2) := by decide +kernel
theorem d_Things_init_9 : decode prog_11_method_1_code 9 = .ok (.putfield 9, 3) := by decide +kernel
theorem pf_Things_9 : PF "NineBoards$Things" 9 8 1 (.array (.int)) true := ⟨_, _, _, ct_Things, rfl, ci_Things, by decide, (mt_1 (List.mem_of_getElem? (i := 191) rfl) rfl), cp_Things, cn_Things, rfl, by decide +kernel, (fun _ => rfl)⟩
theorem d_Things_init_12 : decode prog_11_method_1_code 12 = .ok (.aload_n 0, 1) := by decide +kernel
theorem d_Things_init_13 : decode prog_11_method_1_code 13 = .ok (.bipush 16, 2) := by decide +kernel
theorem d_Things_init_15 : decode prog_11_method_1_code 15 = .ok (.newarray .int, 2) := by decide +kernel
theorem d_Things_init_17 : decode prog_11_method_1_code 17 = .ok (.putfield 15, 3) := by decide +kernel
theorem pf_Things_15 : PF "NineBoards$Things" 15 8 2 (.array (.int)) true := ⟨_, _, _, ct_Things, rfl, ci_Things, by decide, (mt_1 (List.mem_of_getElem? (i := 194) rfl) rfl), cp_Things, cn_Things, rfl, by decide +kernel, (fun _ => rfl)⟩
theorem d_Things_init_20 : decode prog_11_method_1_code 20 = .ok (.aload_n 0, 1) := by decide +kernel
theorem d_Things_init_21 : decode prog_11_method_1_code 21 = .ok (.bipush 16, 2) := by decide +kernel
theorem d_Things_init_23 : decode prog_11_method_1_code 23 = .ok (.newarray .int, 2) := by decide +kernel
theorem d_Things_init_25 : decode prog_11_method_1_code 25 = .ok (.putfield 18, 3) := by decide +kernel
theorem pf_Things_18 : PF "NineBoards$Things" 18 8 3 (.array (.int)) true := ⟨_, _, _, ct_Things, rfl, ci_Things, by decide, (mt_1 (List.mem_of_getElem? (i := 198) rfl) rfl), cp_Things, cn_Things, rfl, by decide +kernel, (fun _ => rfl)⟩
theorem d_Things_init_28 : decode prog_11_method_1_code 28 = .ok (.aload_n 0, 1) := by decide +kernel
theorem d_Things_init_29 : decode prog_11_method_1_code 29 = .ok (.bipush 16, 2) := by decide +kernel
theorem d_Things_init_31 : decode prog_11_method_1_code 31 = .ok (.newarray .int, 2) := by decide +kernel
theorem d_Things_init_33 : decode prog_11_method_1_code 33 = .ok (.putfield 21, 3) := by decide +kernel
theorem pf_Things_21 : PF "NineBoards$Things" 21 8 4 (.array (.int)) true := ⟨_, _, _, ct_Things, rfl, ci_Things, by decide, (mt_1 (List.mem_of_getElem? (i := 200) rfl) rfl), cp_Things, cn_Things, rfl, by decide +kernel, (fun _ => rfl)⟩
theorem d_Things_init_36 : decode prog_11_method_1_code 36 = .ok (.aload_n 0, 1) := by decide +kernel
theorem d_Things_init_37 : decode prog_11_method_1_code 37 = .ok (.bipush 16, 2) := by decide +kernel
theorem d_Things_init_39 : decode prog_11_method_1_code 39 = .ok (.newarray .int, 2) := by decide +kernel
theorem d_Things_init_41 : decode prog_11_method_1_code 41 = .ok (.putfield 24, 3) := by decide +kernel
theorem pf_Things_24 : PF "NineBoards$Things" 24 8 5 (.array (.int)) true := ⟨_, _, _, ct_Things, rfl, ci_Things, by decide, (mt_1 (List.mem_of_getElem? (i := 202) rfl) rfl), cp_Things, cn_Things, rfl, by decide +kernel, (fun _ => rfl)⟩
theorem d_Things_init_44 : decode prog_11_method_1_code 44 = .ok (.aload_n 0, 1) := by decide +kernel
theorem d_Things_init_45 : decode prog_11_method_1_code 45 = .ok (.bipush 16, 2) := by decide +kernel
theorem d_Things_init_47 : decode prog_11_method_1_code 47 = .ok (.newarray .int, 2) := by decide +kernel
theorem d_Things_init_49 : decode prog_11_method_1_code 49 = .ok (.putfield 27, 3) := by decide +kernel
theorem pf_Things_27 : PF "NineBoards$Things" 27 8 6 (.array (.int)) true := ⟨_, _, _, ct_Things, rfl, ci_Things, by decide, (mt_1 (List.mem_of_getElem? (i := 204) rfl) rfl), cp_Things, cn_Things, rfl, by decide +kernel, (fun _ => rfl)⟩
theorem d_Things_init_52 : decode prog_11_method_1_code 52 = .ok (.aload_n 0, 1) := by decide +kernel
theorem d_Things_init_53 : decode prog_11_method_1_code 53 = .ok (.bipush 16, 2) := by decide +kernel
theorem d_Things_init_55 : decode prog_11_method_1_code 55 = .ok (.newarray .int, 2) := by decide +kernel
theorem d_Things_init_57 : decode prog_11_method_1_code 57 = .ok (.putfield 30, 3) := by decide +kernel
theorem pf_Things_30 : PF "NineBoards$Things" 30 8 7 (.array (.int)) true := ⟨_, _, _, ct_Things, rfl, ci_Things, by decide, (mt_1 (List.mem_of_getElem? (i := 206) rfl) rfl), cp_Things, cn_Things, rfl, by decide +kernel, (fun _ => rfl)⟩
theorem d_Things_init_60 : decode prog_11_method_1_code 60 = .ok (.return_, 1) := by decide +kernel
set_option maxHeartbeats 4000000 in
set_option maxRecDepth 100000 in
theorem c_Things_init (l : Launch) (D : va_G) (y : Nat → ClassId) (h : Nat)  : CT l D y ⟨"NineBoards$Things", "<init>", "()V"⟩ prog_11_method_1_code 1 none ({ frames := 1, cells := 7, slots := 112, locals := 12 } : Room) [.ref h] [(h, .inr (8, [.int 0, .null, .null, .null, .null, .null, .null, .null]))] (QV D [(h, .inr (8, [.int 0, .null, .null, .null, .null, .null, .null, .null]))] (fun (_ : Nat → Nat) => True) (fun u => [(h, .inr (8, [.int 0, .ref (u 0), .ref (u 1), .ref (u 2), .ref (u 3), .ref (u 4), .ref (u 5), .ref (u 6)])), (u 0, .inl (y 0, 16, .inl (fun _ => 0))), (u 1, .inl (y 0, 16, .inl (fun _ => 0))), (u 2, .inl (y 0, 16, .inl (fun _ => 0))), (u 3, .inl (y 0, 16, .inl (fun _ => 0))), (u 4, .inl (y 0, 16, .inl (fun _ => 0))), (u 5, .inl (y 0, 16, .inl (fun _ => 0))), (u 6, .inl (y 0, 16, .inl (fun _ => 0)))])) := by
  refine CT.of (by decide) (nb rfl) ?_
  intro p e s m args below meth c C hr
  refine j_lv (lv' := [(0, .ref h)]) rfl ?_
  refine j_aload_n (pc := 0) C d_Things_init_0 rfl 0 rfl ?_
  refine j_objInit (pc := 1) C (mt_1 (List.mem_of_getElem? (i := 186) rfl) rfl) (mt_1 (List.mem_of_getElem? (i := 25) rfl) rfl) (mt_1 (List.mem_of_getElem? (i := 26) rfl) rfl) (by decide) (nb rfl) d_Things_init_1 ?_
  refine j_aload_n (pc := 4) C d_Things_init_4 rfl 0 rfl ?_
  refine j_bipush (pc := 5) C (v := 16) d_Things_init_5 (by decide) ?_
  refine j_newI (pc := 7) C (mt_1 (List.mem_of_getElem? (i := 46) rfl) rfl) (N := 16) (by decide) (by decide) (by decide) (by decide) (by decide) d_Things_init_7 (fun q1 => ?_)
  refine j_ws (ws' := [(h, .inr (8, [.int 0, .null, .null, .null, .null, .null, .null, .null])), (q1, .inl (y 0, 16, .inl (fun _ => 0)))]) rfl ?_
  refine j_putF (pc := 9) C pf_Things_9 0 (ws' := [(h, .inr (8, [.int 0, .ref q1, .null, .null, .null, .null, .null, .null])), (q1, .inl (y 0, 16, .inl (fun _ => 0)))]) rfl rfl rfl (nl rfl) rfl d_Things_init_9 ?_
  refine j_aload_n (pc := 12) C d_Things_init_12 rfl 0 rfl ?_
  refine j_bipush (pc := 13) C (v := 16) d_Things_init_13 (by decide) ?_
  refine j_newI (pc := 15) C (mt_1 (List.mem_of_getElem? (i := 46) rfl) rfl) (N := 16) (by decide) (by decide) (by decide) (by decide) (by decide) d_Things_init_15 (fun q2 => ?_)
  refine j_ws (ws' := [(h, .inr (8, [.int 0, .ref q1, .null, .null, .null, .null, .null, .null])), (q1, .inl (y 0, 16, .inl (fun _ => 0))), (q2, .inl (y 0, 16, .inl (fun _ => 0)))]) rfl ?_
  refine j_putF (pc := 17) C pf_Things_15 0 (ws' := [(h, .inr (8, [.int 0, .ref q1, .ref q2, .null, .null, .null, .null, .null])), (q1, .inl (y 0, 16, .inl (fun _ => 0))), (q2, .inl (y 0, 16, .inl (fun _ => 0)))]) rfl rfl rfl (nl rfl) rfl d_Things_init_17 ?_
  refine j_aload_n (pc := 20) C d_Things_init_20 rfl 0 rfl ?_
  refine j_bipush (pc := 21) C (v := 16) d_Things_init_21 (by decide) ?_
  refine j_newI (pc := 23) C (mt_1 (List.mem_of_getElem? (i := 46) rfl) rfl) (N := 16) (by decide) (by decide) (by decide) (by decide) (by decide) d_Things_init_23 (fun q3 => ?_)
  refine j_ws (ws' := [(h, .inr (8, [.int 0, .ref q1, .ref q2, .null, .null, .null, .null, .null])), (q1, .inl (y 0, 16, .inl (fun _ => 0))), (q2, .inl (y 0, 16, .inl (fun _ => 0))), (q3, .inl (y 0, 16, .inl (fun _ => 0)))]) rfl ?_
  refine j_putF (pc := 25) C pf_Things_18 0 (ws' := [(h, .inr (8, [.int 0, .ref q1, .ref q2, .ref q3, .null, .null, .null, .null])), (q1, .inl (y 0, 16, .inl (fun _ => 0))), (q2, .inl (y 0, 16, .inl (fun _ => 0))), (q3, .inl (y 0, 16, .inl (fun _ => 0)))]) rfl rfl rfl (nl rfl) rfl d_Things_init_25 ?_
  refine j_aload_n (pc := 28) C d_Things_init_28 rfl 0 rfl ?_
  refine j_bipush (pc := 29) C (v := 16) d_Things_init_29 (by decide) ?_
  refine j_newI (pc := 31) C (mt_1 (List.mem_of_getElem? (i := 46) rfl) rfl) (N := 16) (by decide) (by decide) (by decide) (by decide) (by decide) d_Things_init_31 (fun q4 => ?_)
  refine j_ws (ws' := [(h, .inr (8, [.int 0, .ref q1, .ref q2, .ref q3, .null, .null, .null, .null])), (q1, .inl (y 0, 16, .inl (fun _ => 0))), (q2, .inl (y 0, 16, .inl (fun _ => 0))), (q3, .inl (y 0, 16, .inl (fun _ => 0))), (q4, .inl (y 0, 16, .inl (fun _ => 0)))]) rfl ?_
  refine j_putF (pc := 33) C pf_Things_21 0 (ws' := [(h, .inr (8, [.int 0, .ref q1, .ref q2, .ref q3, .ref q4, .null, .null, .null])), (q1, .inl (y 0, 16, .inl (fun _ => 0))), (q2, .inl (y 0, 16, .inl (fun _ => 0))), (q3, .inl (y 0, 16, .inl (fun _ => 0))), (q4, .inl (y 0, 16, .inl (fun _ => 0)))]) rfl rfl rfl (nl rfl) rfl d_Things_init_33 ?_
  refine j_aload_n (pc := 36) C d_Things_init_36 rfl 0 rfl ?_
  refine j_bipush (pc := 37) C (v := 16) d_Things_init_37 (by decide) ?_
  refine j_newI (pc := 39) C (mt_1 (List.mem_of_getElem? (i := 46) rfl) rfl) (N := 16) (by decide) (by decide) (by decide) (by decide) (by decide) d_Things_init_39 (fun q5 => ?_)
  refine j_ws (ws' := [(h, .inr (8, [.int 0, .ref q1, .ref q2, .ref q3, .ref q4, .null, .null, .null])), (q1, .inl (y 0, 16, .inl (fun _ => 0))), (q2, .inl (y 0, 16, .inl (fun _ => 0))), (q3, .inl (y 0, 16, .inl (fun _ => 0))), (q4, .inl (y 0, 16, .inl (fun _ => 0))), (q5, .inl (y 0, 16, .inl (fun _ => 0)))]) rfl ?_
  refine j_putF (pc := 41) C pf_Things_24 0 (ws' := [(h, .inr (8, [.int 0, .ref q1, .ref q2, .ref q3, .ref q4, .ref q5, .null, .null])), (q1, .inl (y 0, 16, .inl (fun _ => 0))), (q2, .inl (y 0, 16, .inl (fun _ => 0))), (q3, .inl (y 0, 16, .inl (fun _ => 0))), (q4, .inl (y 0, 16, .inl (fun _ => 0))), (q5, .inl (y 0, 16, .inl (fun _ => 0)))]) rfl rfl rfl (nl rfl) rfl d_Things_init_41 ?_
  refine j_aload_n (pc := 44) C d_Things_init_44 rfl 0 rfl ?_
  refine j_bipush (pc := 45) C (v := 16) d_Things_init_45 (by decide) ?_
  refine j_newI (pc := 47) C (mt_1 (List.mem_of_getElem? (i := 46) rfl) rfl) (N := 16) (by decide) (by decide) (by decide) (by decide) (by decide) d_Things_init_47 (fun q6 => ?_)
  refine j_ws (ws' := [(h, .inr (8, [.int 0, .ref q1, .ref q2, .ref q3, .ref q4, .ref q5, .null, .null])), (q1, .inl (y 0, 16, .inl (fun _ => 0))), (q2, .inl (y 0, 16, .inl (fun _ => 0))), (q3, .inl (y 0, 16, .inl (fun _ => 0))), (q4, .inl (y 0, 16, .inl (fun _ => 0))), (q5, .inl (y 0, 16, .inl (fun _ => 0))), (q6, .inl (y 0, 16, .inl (fun _ => 0)))]) rfl ?_
  refine j_putF (pc := 49) C pf_Things_27 0 (ws' := [(h, .inr (8, [.int 0, .ref q1, .ref q2, .ref q3, .ref q4, .ref q5, .ref q6, .null])), (q1, .inl (y 0, 16, .inl (fun _ => 0))), (q2, .inl (y 0, 16, .inl (fun _ => 0))), (q3, .inl (y 0, 16, .inl (fun _ => 0))), (q4, .inl (y 0, 16, .inl (fun _ => 0))), (q5, .inl (y 0, 16, .inl (fun _ => 0))), (q6, .inl (y 0, 16, .inl (fun _ => 0)))]) rfl rfl rfl (nl rfl) rfl d_Things_init_49 ?_
  refine j_aload_n (pc := 52) C d_Things_init_52 rfl 0 rfl ?_
  refine j_bipush (pc := 53) C (v := 16) d_Things_init_53 (by decide) ?_
  refine j_newI (pc := 55) C (mt_1 (List.mem_of_getElem? (i := 46) rfl) rfl) (N := 16) (by decide) (by decide) (by decide) (by decide) (by decide) d_Things_init_55 (fun q7 => ?_)
  refine j_ws (ws' := [(h, .inr (8, [.int 0, .ref q1, .ref q2, .ref q3, .ref q4, .ref q5, .ref q6, .null])), (q1, .inl (y 0, 16, .inl (fun _ => 0))), (q2, .inl (y 0, 16, .inl (fun _ => 0))), (q3, .inl (y 0, 16, .inl (fun _ => 0))), (q4, .inl (y 0, 16, .inl (fun _ => 0))), (q5, .inl (y 0, 16, .inl (fun _ => 0))), (q6, .inl (y 0, 16, .inl (fun _ => 0))), (q7, .inl (y 0, 16, .inl (fun _ => 0)))]) rfl ?_
  refine j_putF (pc := 57) C pf_Things_30 0 (ws' := [(h, .inr (8, [.int 0, .ref q1, .ref q2, .ref q3, .ref q4, .ref q5, .ref q6, .ref q7])), (q1, .inl (y 0, 16, .inl (fun _ => 0))), (q2, .inl (y 0, 16, .inl (fun _ => 0))), (q3, .inl (y 0, 16, .inl (fun _ => 0))), (q4, .inl (y 0, 16, .inl (fun _ => 0))), (q5, .inl (y 0, 16, .inl (fun _ => 0))), (q6, .inl (y 0, 16, .inl (fun _ => 0))), (q7, .inl (y 0, 16, .inl (fun _ => 0)))]) rfl rfl rfl (nl rfl) rfl d_Things_init_57 ?_
  exact j_vret (pc := 60) C hr (fun k => [q1, q2, q3, q4, q5, q6, q7].getD k 0) trivial [0, 1, 2, 3, 4, 5, 6, 7] rfl (by decide) (by decide) (by decide) d_Things_init_60
theorem d_Rules_init_0 : decode prog_9_method_1_code 0 = .ok (.aload_n 0, 1) := by decide +kernel
theorem d_Rules_init_1 : decode prog_9_method_1_code 1 = .ok (.invokespecial 3, 3) := by decide +kernel
theorem d_Rules_init_4 : decode prog_9_method_1_code 4 = .ok (.aload_n 0, 1) := by decide +kernel
theorem d_Rules_init_5 : decode prog_9_method_1_code 5 = .ok (.bipush 8, 2) := by decide +kernel
theorem d_Rules_init_7 : decode prog_9_method_1_code 7 = .ok (.newarray .int, 2) := by decide +kernel
theorem d_Rules_init_9 : decode prog_9_method_1_code 9 = .ok (.putfield 9, 3) := by decide +kernel
theorem pf_Rules_9 : PF "NineBoards$Rules" 9 6 2 (.array (.int)) true := ⟨_, _, _, ct_Rules, rfl, ci_Rules, by decide, (mt_1 (List.mem_of_getElem? (i := 239) rfl) rfl), cp_Rules, cn_Rules, rfl, by decide +kernel, (fun _ => rfl)⟩
theorem d_Rules_init_12 : decode prog_9_method_1_code 12 = .ok (.aload_n 0, 1) := by decide +kernel
theorem d_Rules_init_13 : decode prog_9_method_1_code 13 = .ok (.bipush 8, 2) := by decide +kernel
theorem d_Rules_init_15 : decode prog_9_method_1_code 15 = .ok (.newarray .int, 2) := by decide +kernel
theorem d_Rules_init_17 : decode prog_9_method_1_code 17 = .ok (.putfield 15, 3) := by decide +kernel
theorem pf_Rules_15 : PF "NineBoards$Rules" 15 6 3 (.array (.int)) true := ⟨_, _, _, ct_Rules, rfl, ci_Rules, by decide, (mt_2 (List.mem_of_getElem? (i := 1) rfl) rfl), cp_Rules, cn_Rules, rfl, by decide +kernel, (fun _ => rfl)⟩
theorem d_Rules_init_20 : decode prog_9_method_1_code 20 = .ok (.aload_n 0, 1) := by decide +kernel
theorem d_Rules_init_21 : decode prog_9_method_1_code 21 = .ok (.bipush 8, 2) := by decide +kernel
theorem d_Rules_init_23 : decode prog_9_method_1_code 23 = .ok (.newarray .int, 2) := by decide +kernel
theorem d_Rules_init_25 : decode prog_9_method_1_code 25 = .ok (.putfield 18, 3) := by decide +kernel
theorem pf_Rules_18 : PF "NineBoards$Rules" 18 6 4 (.array (.int)) true := ⟨_, _, _, ct_Rules, rfl, ci_Rules, by decide, (mt_2 (List.mem_of_getElem? (i := 3) rfl) rfl), cp_Rules, cn_Rules, rfl, by decide +kernel, (fun _ => rfl)⟩
theorem d_Rules_init_28 : decode prog_9_method_1_code 28 = .ok (.aload_n 0, 1) := by decide +kernel
theorem d_Rules_init_29 : decode prog_9_method_1_code 29 = .ok (.bipush 8, 2) := by decide +kernel
theorem d_Rules_init_31 : decode prog_9_method_1_code 31 = .ok (.newarray .int, 2) := by decide +kernel
theorem d_Rules_init_33 : decode prog_9_method_1_code 33 = .ok (.putfield 21, 3) := by decide +kernel
theorem pf_Rules_21 : PF "NineBoards$Rules" 21 6 5 (.array (.int)) true := ⟨_, _, _, ct_Rules, rfl, ci_Rules, by decide, (mt_2 (List.mem_of_getElem? (i := 5) rfl) rfl), cp_Rules, cn_Rules, rfl, by decide +kernel, (fun _ => rfl)⟩
theorem d_Rules_init_36 : decode prog_9_method_1_code 36 = .ok (.aload_n 0, 1) := by decide +kernel
theorem d_Rules_init_37 : decode prog_9_method_1_code 37 = .ok (.sipush 1600, 3) := by decide +kernel
theorem d_Rules_init_40 : decode prog_9_method_1_code 40 = .ok (.newarray .int, 2) := by decide +kernel
theorem d_Rules_init_42 : decode prog_9_method_1_code 42 = .ok (.putfield 24, 3) := by decide +kernel
theorem pf_Rules_24 : PF "NineBoards$Rules" 24 6 6 (.array (.int)) true := ⟨_, _, _, ct_Rules, rfl, ci_Rules, by decide, (mt_2 (List.mem_of_getElem? (i := 7) rfl) rfl), cp_Rules, cn_Rules, rfl, by decide +kernel, (fun _ => rfl)⟩
theorem d_Rules_init_45 : decode prog_9_method_1_code 45 = .ok (.aload_n 0, 1) := by decide +kernel
theorem d_Rules_init_46 : decode prog_9_method_1_code 46 = .ok (.bipush 40, 2) := by decide +kernel
theorem d_Rules_init_48 : decode prog_9_method_1_code 48 = .ok (.newarray .int, 2) := by decide +kernel
theorem d_Rules_init_50 : decode prog_9_method_1_code 50 = .ok (.putfield 27, 3) := by decide +kernel
theorem pf_Rules_27 : PF "NineBoards$Rules" 27 6 7 (.array (.int)) true := ⟨_, _, _, ct_Rules, rfl, ci_Rules, by decide, (mt_2 (List.mem_of_getElem? (i := 8) rfl) rfl), cp_Rules, cn_Rules, rfl, by decide +kernel, (fun _ => rfl)⟩
theorem d_Rules_init_53 : decode prog_9_method_1_code 53 = .ok (.return_, 1) := by decide +kernel
set_option maxHeartbeats 4000000 in
set_option maxRecDepth 100000 in
theorem c_Rules_init (l : Launch) (D : va_G) (y : Nat → ClassId) (h : Nat)  : CT l D y ⟨"NineBoards$Rules", "<init>", "()V"⟩ prog_9_method_1_code 1 none ({ frames := 1, cells := 6, slots := 1672, locals := 12 } : Room) [.ref h] [(h, .inr (6, [.int 0, .int 0, .null, .null, .null, .null, .null, .null]))] (QV D [(h, .inr (6, [.int 0, .int 0, .null, .null, .null, .null, .null, .null]))] (fun (_ : Nat → Nat) => True) (fun u => [(h, .inr (6, [.int 0, .int 0, .ref (u 0), .ref (u 1), .ref (u 2), .ref (u 3), .ref (u 4), .ref (u 5)])), (u 0, .inl (y 0, 8, .inl (fun _ => 0))), (u 1, .inl (y 0, 8, .inl (fun _ => 0))), (u 2, .inl (y 0, 8, .inl (fun _ => 0))), (u 3, .inl (y 0, 8, .inl (fun _ => 0))), (u 4, .inl (y 0, 1600, .inl (fun _ => 0))), (u 5, .inl (y 0, 40, .inl (fun _ => 0)))])) := by
  refine CT.of (by decide) (nb rfl) ?_
  intro p e s m args below meth c C hr
  refine j_lv (lv' := [(0, .ref h)]) rfl ?_
  refine j_aload_n (pc := 0) C d_Rules_init_0 rfl 0 rfl ?_
  refine j_objInit (pc := 1) C (mt_1 (List.mem_of_getElem? (i := 231) rfl) rfl) (mt_1 (List.mem_of_getElem? (i := 25) rfl) rfl) (mt_1 (List.mem_of_getElem? (i := 26) rfl) rfl) (by decide) (nb rfl) d_Rules_init_1 ?_
  refine j_aload_n (pc := 4) C d_Rules_init_4 rfl 0 rfl ?_
  refine j_bipush (pc := 5) C (v := 8) d_Rules_init_5 (by decide) ?_
  refine j_newI (pc := 7) C (mt_1 (List.mem_of_getElem? (i := 46) rfl) rfl) (N := 8) (by decide) (by decide) (by decide) (by decide) (by decide) d_Rules_init_7 (fun q1 => ?_)
  refine j_ws (ws' := [(h, .inr (6, [.int 0, .int 0, .null, .null, .null, .null, .null, .null])), (q1, .inl (y 0, 8, .inl (fun _ => 0)))]) rfl ?_
  refine j_putF (pc := 9) C pf_Rules_9 0 (ws' := [(h, .inr (6, [.int 0, .int 0, .ref q1, .null, .null, .null, .null, .null])), (q1, .inl (y 0, 8, .inl (fun _ => 0)))]) rfl rfl rfl (nl rfl) rfl d_Rules_init_9 ?_
  refine j_aload_n (pc := 12) C d_Rules_init_12 rfl 0 rfl ?_
  refine j_bipush (pc := 13) C (v := 8) d_Rules_init_13 (by decide) ?_
  refine j_newI (pc := 15) C (mt_1 (List.mem_of_getElem? (i := 46) rfl) rfl) (N := 8) (by decide) (by decide) (by decide) (by decide) (by decide) d_Rules_init_15 (fun q2 => ?_)
  refine j_ws (ws' := [(h, .inr (6, [.int 0, .int 0, .ref q1, .null, .null, .null, .null, .null])), (q1, .inl (y 0, 8, .inl (fun _ => 0))), (q2, .inl (y 0, 8, .inl (fun _ => 0)))]) rfl ?_
  refine j_putF (pc := 17) C pf_Rules_15 0 (ws' := [(h, .inr (6, [.int 0, .int 0, .ref q1, .ref q2, .null, .null, .null, .null])), (q1, .inl (y 0, 8, .inl (fun _ => 0))), (q2, .inl (y 0, 8, .inl (fun _ => 0)))]) rfl rfl rfl (nl rfl) rfl d_Rules_init_17 ?_
  refine j_aload_n (pc := 20) C d_Rules_init_20 rfl 0 rfl ?_
  refine j_bipush (pc := 21) C (v := 8) d_Rules_init_21 (by decide) ?_
  refine j_newI (pc := 23) C (mt_1 (List.mem_of_getElem? (i := 46) rfl) rfl) (N := 8) (by decide) (by decide) (by decide) (by decide) (by decide) d_Rules_init_23 (fun q3 => ?_)
  refine j_ws (ws' := [(h, .inr (6, [.int 0, .int 0, .ref q1, .ref q2, .null, .null, .null, .null])), (q1, .inl (y 0, 8, .inl (fun _ => 0))), (q2, .inl (y 0, 8, .inl (fun _ => 0))), (q3, .inl (y 0, 8, .inl (fun _ => 0)))]) rfl ?_
  refine j_putF (pc := 25) C pf_Rules_18 0 (ws' := [(h, .inr (6, [.int 0, .int 0, .ref q1, .ref q2, .ref q3, .null, .null, .null])), (q1, .inl (y 0, 8, .inl (fun _ => 0))), (q2, .inl (y 0, 8, .inl (fun _ => 0))), (q3, .inl (y 0, 8, .inl (fun _ => 0)))]) rfl rfl rfl (nl rfl) rfl d_Rules_init_25 ?_
  refine j_aload_n (pc := 28) C d_Rules_init_28 rfl 0 rfl ?_
  refine j_bipush (pc := 29) C (v := 8) d_Rules_init_29 (by decide) ?_
  refine j_newI (pc := 31) C (mt_1 (List.mem_of_getElem? (i := 46) rfl) rfl) (N := 8) (by decide) (by decide) (by decide) (by decide) (by decide) d_Rules_init_31 (fun q4 => ?_)
  refine j_ws (ws' := [(h, .inr (6, [.int 0, .int 0, .ref q1, .ref q2, .ref q3, .null, .null, .null])), (q1, .inl (y 0, 8, .inl (fun _ => 0))), (q2, .inl (y 0, 8, .inl (fun _ => 0))), (q3, .inl (y 0, 8, .inl (fun _ => 0))), (q4, .inl (y 0, 8, .inl (fun _ => 0)))]) rfl ?_
  refine j_putF (pc := 33) C pf_Rules_21 0 (ws' := [(h, .inr (6, [.int 0, .int 0, .ref q1, .ref q2, .ref q3, .ref q4, .null, .null])), (q1, .inl (y 0, 8, .inl (fun _ => 0))), (q2, .inl (y 0, 8, .inl (fun _ => 0))), (q3, .inl (y 0, 8, .inl (fun _ => 0))), (q4, .inl (y 0, 8, .inl (fun _ => 0)))]) rfl rfl rfl (nl rfl) rfl d_Rules_init_33 ?_
  refine j_aload_n (pc := 36) C d_Rules_init_36 rfl 0 rfl ?_
  refine j_sipush (pc := 37) C (v := 1600) d_Rules_init_37 (by decide) ?_
  refine j_newI (pc := 40) C (mt_1 (List.mem_of_getElem? (i := 46) rfl) rfl) (N := 1600) (by decide) (by decide) (by decide) (by decide) (by decide) d_Rules_init_40 (fun q5 => ?_)
  refine j_ws (ws' := [(h, .inr (6, [.int 0, .int 0, .ref q1, .ref q2, .ref q3, .ref q4, .null, .null])), (q1, .inl (y 0, 8, .inl (fun _ => 0))), (q2, .inl (y 0, 8, .inl (fun _ => 0))), (q3, .inl (y 0, 8, .inl (fun _ => 0))), (q4, .inl (y 0, 8, .inl (fun _ => 0))), (q5, .inl (y 0, 1600, .inl (fun _ => 0)))]) rfl ?_
  refine j_putF (pc := 42) C pf_Rules_24 0 (ws' := [(h, .inr (6, [.int 0, .int 0, .ref q1, .ref q2, .ref q3, .ref q4, .ref q5, .null])), (q1, .inl (y 0, 8, .inl (fun _ => 0))), (q2, .inl (y 0, 8, .inl (fun _ => 0))), (q3, .inl (y 0, 8, .inl (fun _ => 0))), (q4, .inl (y 0, 8, .inl (fun _ => 0))), (q5, .inl (y 0, 1600, .inl (fun _ => 0)))]) rfl rfl rfl (nl rfl) rfl d_Rules_init_42 ?_
  refine j_aload_n (pc := 45) C d_Rules_init_45 rfl 0 rfl ?_
  refine j_bipush (pc := 46) C (v := 40) d_Rules_init_46 (by decide) ?_
  refine j_newI (pc := 48) C (mt_1 (List.mem_of_getElem? (i := 46) rfl) rfl) (N := 40) (by decide) (by decide) (by decide) (by decide) (by decide) d_Rules_init_48 (fun q6 => ?_)
  refine j_ws (ws' := [(h, .inr (6, [.int 0, .int 0, .ref q1, .ref q2, .ref q3, .ref q4, .ref q5, .null])), (q1, .inl (y 0, 8, .inl (fun _ => 0))), (q2, .inl (y 0, 8, .inl (fun _ => 0))), (q3, .inl (y 0, 8, .inl (fun _ => 0))), (q4, .inl (y 0, 8, .inl (fun _ => 0))), (q5, .inl (y 0, 1600, .inl (fun _ => 0))), (q6, .inl (y 0, 40, .inl (fun _ => 0)))]) rfl ?_
  refine j_putF (pc := 50) C pf_Rules_27 0 (ws' := [(h, .inr (6, [.int 0, .int 0, .ref q1, .ref q2, .ref q3, .ref q4, .ref q5, .ref q6])), (q1, .inl (y 0, 8, .inl (fun _ => 0))), (q2, .inl (y 0, 8, .inl (fun _ => 0))), (q3, .inl (y 0, 8, .inl (fun _ => 0))), (q4, .inl (y 0, 8, .inl (fun _ => 0))), (q5, .inl (y 0, 1600, .inl (fun _ => 0))), (q6, .inl (y 0, 40, .inl (fun _ => 0)))]) rfl rfl rfl (nl rfl) rfl d_Rules_init_50 ?_
  exact j_vret (pc := 53) C hr (fun k => [q1, q2, q3, q4, q5, q6].getD k 0) trivial [0, 1, 2, 3, 4, 5, 6] rfl (by decide) (by decide) (by decide) d_Rules_init_53
set_option maxHeartbeats 4000000 in
set_option maxRecDepth 100000 in
theorem c_Lake_clear (l : Launch) (D : va_G) (y : Nat → ClassId) (h : Nat) (g : Nat) (vn : Nat) (vg : Nat) (t : Nat) (r : Nat) (g0 : Nat) (g1 : Nat) (g2 : Nat) (g3 : Nat) (g4 : Nat) (g5 : Nat) (g6 : Nat) (t0 : Nat) (t1 : Nat) (t2 : Nat) (t3 : Nat) (t4 : Nat) (t5 : Nat) (t6 : Nat) (r0 : Nat) (r1 : Nat) (r2 : Nat) (r3 : Nat) (r4 : Nat) (r5 : Nat) (x0 : Int32) (x1 : Int32) (x2 : Int32) (x3 : Int32) (x4 : Int32) (x5 : Int32) (x6 : Int32) (x7 : Int32) (x8 : Int32) (x9 : Int32) (x10 : Int32) (x11 : Int32) (x12 : Int32)  : CT l D y ⟨"NineBoards$Lake", "clear", "()V"⟩ prog_5_method_2_code 1 none ({ frames := 0, cells := 0, slots := 0, locals := 0 } : Room) [.ref h] [(h, .inr (2, [.int x0, .int x1, .int x2, .int x3, .ref g, .int x4, .ref vn, .ref vg, .ref t, .ref r, .int x5, .int x6, .int x7, .int x8])), (g, .inr (1, [.int x9, .ref g0, .ref g1, .ref g2, .ref g3, .ref g4, .ref g5, .ref g6])), (t, .inr (8, [.int x10, .ref t0, .ref t1, .ref t2, .ref t3, .ref t4, .ref t5, .ref t6])), (r, .inr (6, [.int x11, .int x12, .ref r0, .ref r1, .ref r2, .ref r3, .ref r4, .ref r5]))] (QV D [(h, .inr (2, [.int x0, .int x1, .int x2, .int x3, .ref g, .int x4, .ref vn, .ref vg, .ref t, .ref r, .int x5, .int x6, .int x7, .int x8])), (g, .inr (1, [.int x9, .ref g0, .ref g1, .ref g2, .ref g3, .ref g4, .ref g5, .ref g6])), (t, .inr (8, [.int x10, .ref t0, .ref t1, .ref t2, .ref t3, .ref t4, .ref t5, .ref t6])), (r, .inr (6, [.int x11, .int x12, .ref r0, .ref r1, .ref r2, .ref r3, .ref r4, .ref r5]))] (fun (_ : Unit) => True) (fun _ => [(h, .inr (2, [.int 0, .int 1, .int 1, .int 0, .ref g, .int 0, .ref vn, .ref vg, .ref t, .ref r, .int 0, .int 0, .int 9999, .int 0])), (g, .inr (1, [.int 0, .ref g0, .ref g1, .ref g2, .ref g3, .ref g4, .ref g5, .ref g6])), (t, .inr (8, [.int 0, .ref t0, .ref t1, .ref t2, .ref t3, .ref t4, .ref t5, .ref t6])), (r, .inr (6, [.int 0, .int 0, .ref r0, .ref r1, .ref r2, .ref r3, .ref r4, .ref r5]))])) := by
  refine CT.of (by decide) (nb rfl) ?_
  intro p e s m args below meth c C hr
  refine j_lv (lv' := [(0, .ref h)]) rfl ?_
  refine j_aload_n (pc := 0) C d_Lake_clear_0 rfl 0 rfl ?_
  refine j_iconst (pc := 1) C (v := 0) d_Lake_clear_1 (by decide) ?_
  refine j_put (pc := 2) C pf_Lake_42 0 (ws' := [(h, .inr (2, [.int 0, .int x1, .int x2, .int x3, .ref g, .int x4, .ref vn, .ref vg, .ref t, .ref r, .int x5, .int x6, .int x7, .int x8])), (g, .inr (1, [.int x9, .ref g0, .ref g1, .ref g2, .ref g3, .ref g4, .ref g5, .ref g6])), (t, .inr (8, [.int x10, .ref t0, .ref t1, .ref t2, .ref t3, .ref t4, .ref t5, .ref t6])), (r, .inr (6, [.int x11, .int x12, .ref r0, .ref r1, .ref r2, .ref r3, .ref r4, .ref r5]))]) rfl rfl rfl (nl rfl) rfl d_Lake_clear_2 ?_
  refine j_aload_n (pc := 5) C d_Lake_clear_5 rfl 0 rfl ?_
  refine j_iconst (pc := 6) C (v := 1) d_Lake_clear_6 (by decide) ?_
  refine j_put (pc := 7) C pf_Lake_46 0 (ws' := [(h, .inr (2, [.int 0, .int 1, .int x2, .int x3, .ref g, .int x4, .ref vn, .ref vg, .ref t, .ref r, .int x5, .int x6, .int x7, .int x8])), (g, .inr (1, [.int x9, .ref g0, .ref g1, .ref g2, .ref g3, .ref g4, .ref g5, .ref g6])), (t, .inr (8, [.int x10, .ref t0, .ref t1, .ref t2, .ref t3, .ref t4, .ref t5, .ref t6])), (r, .inr (6, [.int x11, .int x12, .ref r0, .ref r1, .ref r2, .ref r3, .ref r4, .ref r5]))]) rfl rfl rfl (nl rfl) rfl d_Lake_clear_7 ?_
  refine j_aload_n (pc := 10) C d_Lake_clear_10 rfl 0 rfl ?_
  refine j_iconst (pc := 11) C (v := 1) d_Lake_clear_11 (by decide) ?_
  refine j_put (pc := 12) C pf_Lake_49 0 (ws' := [(h, .inr (2, [.int 0, .int 1, .int 1, .int x3, .ref g, .int x4, .ref vn, .ref vg, .ref t, .ref r, .int x5, .int x6, .int x7, .int x8])), (g, .inr (1, [.int x9, .ref g0, .ref g1, .ref g2, .ref g3, .ref g4, .ref g5, .ref g6])), (t, .inr (8, [.int x10, .ref t0, .ref t1, .ref t2, .ref t3, .ref t4, .ref t5, .ref t6])), (r, .inr (6, [.int x11, .int x12, .ref r0, .ref r1, .ref r2, .ref r3, .ref r4, .ref r5]))]) rfl rfl rfl (nl rfl) rfl d_Lake_clear_12 ?_
  refine j_aload_n (pc := 15) C d_Lake_clear_15 rfl 0 rfl ?_
  refine j_iconst (pc := 16) C (v := 0) d_Lake_clear_16 (by decide) ?_
  refine j_put (pc := 17) C pf_Lake_52 0 (ws' := [(h, .inr (2, [.int 0, .int 1, .int 1, .int 0, .ref g, .int x4, .ref vn, .ref vg, .ref t, .ref r, .int x5, .int x6, .int x7, .int x8])), (g, .inr (1, [.int x9, .ref g0, .ref g1, .ref g2, .ref g3, .ref g4, .ref g5, .ref g6])), (t, .inr (8, [.int x10, .ref t0, .ref t1, .ref t2, .ref t3, .ref t4, .ref t5, .ref t6])), (r, .inr (6, [.int x11, .int x12, .ref r0, .ref r1, .ref r2, .ref r3, .ref r4, .ref r5]))]) rfl rfl rfl (nl rfl) rfl d_Lake_clear_17 ?_
  refine j_aload_n (pc := 20) C d_Lake_clear_20 rfl 0 rfl ?_
  refine j_get (pc := 21) C gf_Lake_12 0 rfl rfl d_Lake_clear_21 ?_
  refine j_iconst (pc := 24) C (v := 0) d_Lake_clear_24 (by decide) ?_
  refine j_put (pc := 25) C pf_Lake_55 1 (ws' := [(h, .inr (2, [.int 0, .int 1, .int 1, .int 0, .ref g, .int x4, .ref vn, .ref vg, .ref t, .ref r, .int x5, .int x6, .int x7, .int x8])), (g, .inr (1, [.int 0, .ref g0, .ref g1, .ref g2, .ref g3, .ref g4, .ref g5, .ref g6])), (t, .inr (8, [.int x10, .ref t0, .ref t1, .ref t2, .ref t3, .ref t4, .ref t5, .ref t6])), (r, .inr (6, [.int x11, .int x12, .ref r0, .ref r1, .ref r2, .ref r3, .ref r4, .ref r5]))]) rfl rfl rfl (nl rfl) rfl d_Lake_clear_25 ?_
  refine j_aload_n (pc := 28) C d_Lake_clear_28 rfl 0 rfl ?_
  refine j_iconst (pc := 29) C (v := 0) d_Lake_clear_29 (by decide) ?_
  refine j_put (pc := 30) C pf_Lake_58 0 (ws' := [(h, .inr (2, [.int 0, .int 1, .int 1, .int 0, .ref g, .int 0, .ref vn, .ref vg, .ref t, .ref r, .int x5, .int x6, .int x7, .int x8])), (g, .inr (1, [.int 0, .ref g0, .ref g1, .ref g2, .ref g3, .ref g4, .ref g5, .ref g6])), (t, .inr (8, [.int x10, .ref t0, .ref t1, .ref t2, .ref t3, .ref t4, .ref t5, .ref t6])), (r, .inr (6, [.int x11, .int x12, .ref r0, .ref r1, .ref r2, .ref r3, .ref r4, .ref r5]))]) rfl rfl rfl (nl rfl) rfl d_Lake_clear_30 ?_
  refine j_aload_n (pc := 33) C d_Lake_clear_33 rfl 0 rfl ?_
  refine j_get (pc := 34) C gf_Lake_28 0 rfl rfl d_Lake_clear_34 ?_
  refine j_iconst (pc := 37) C (v := 0) d_Lake_clear_37 (by decide) ?_
  refine j_put (pc := 38) C pf_Lake_61 2 (ws' := [(h, .inr (2, [.int 0, .int 1, .int 1, .int 0, .ref g, .int 0, .ref vn, .ref vg, .ref t, .ref r, .int x5, .int x6, .int x7, .int x8])), (g, .inr (1, [.int 0, .ref g0, .ref g1, .ref g2, .ref g3, .ref g4, .ref g5, .ref g6])), (t, .inr (8, [.int 0, .ref t0, .ref t1, .ref t2, .ref t3, .ref t4, .ref t5, .ref t6])), (r, .inr (6, [.int x11, .int x12, .ref r0, .ref r1, .ref r2, .ref r3, .ref r4, .ref r5]))]) rfl rfl rfl (nl rfl) rfl d_Lake_clear_38 ?_
  refine j_aload_n (pc := 41) C d_Lake_clear_41 rfl 0 rfl ?_
  refine j_get (pc := 42) C gf_Lake_35 0 rfl rfl d_Lake_clear_42 ?_
  refine j_iconst (pc := 45) C (v := 0) d_Lake_clear_45 (by decide) ?_
  refine j_put (pc := 46) C pf_Lake_62 3 (ws' := [(h, .inr (2, [.int 0, .int 1, .int 1, .int 0, .ref g, .int 0, .ref vn, .ref vg, .ref t, .ref r, .int x5, .int x6, .int x7, .int x8])), (g, .inr (1, [.int 0, .ref g0, .ref g1, .ref g2, .ref g3, .ref g4, .ref g5, .ref g6])), (t, .inr (8, [.int 0, .ref t0, .ref t1, .ref t2, .ref t3, .ref t4, .ref t5, .ref t6])), (r, .inr (6, [.int 0, .int x12, .ref r0, .ref r1, .ref r2, .ref r3, .ref r4, .ref r5]))]) rfl rfl rfl (nl rfl) rfl d_Lake_clear_46 ?_
  refine j_aload_n (pc := 49) C d_Lake_clear_49 rfl 0 rfl ?_
  refine j_get (pc := 50) C gf_Lake_35 0 rfl rfl d_Lake_clear_50 ?_
  refine j_iconst (pc := 53) C (v := 0) d_Lake_clear_53 (by decide) ?_
  refine j_put (pc := 54) C pf_Lake_63 3 (ws' := [(h, .inr (2, [.int 0, .int 1, .int 1, .int 0, .ref g, .int 0, .ref vn, .ref vg, .ref t, .ref r, .int x5, .int x6, .int x7, .int x8])), (g, .inr (1, [.int 0, .ref g0, .ref g1, .ref g2, .ref g3, .ref g4, .ref g5, .ref g6])), (t, .inr (8, [.int 0, .ref t0, .ref t1, .ref t2, .ref t3, .ref t4, .ref t5, .ref t6])), (r, .inr (6, [.int 0, .int 0, .ref r0, .ref r1, .ref r2, .ref r3, .ref r4, .ref r5]))]) rfl rfl rfl (nl rfl) rfl d_Lake_clear_54 ?_
  refine j_aload_n (pc := 57) C d_Lake_clear_57 rfl 0 rfl ?_
  refine j_iconst (pc := 58) C (v := 0) d_Lake_clear_58 (by decide) ?_
  refine j_put (pc := 59) C pf_Lake_66 0 (ws' := [(h, .inr (2, [.int 0, .int 1, .int 1, .int 0, .ref g, .int 0, .ref vn, .ref vg, .ref t, .ref r, .int 0, .int x6, .int x7, .int x8])), (g, .inr (1, [.int 0, .ref g0, .ref g1, .ref g2, .ref g3, .ref g4, .ref g5, .ref g6])), (t, .inr (8, [.int 0, .ref t0, .ref t1, .ref t2, .ref t3, .ref t4, .ref t5, .ref t6])), (r, .inr (6, [.int 0, .int 0, .ref r0, .ref r1, .ref r2, .ref r3, .ref r4, .ref r5]))]) rfl rfl rfl (nl rfl) rfl d_Lake_clear_59 ?_
  refine j_aload_n (pc := 62) C d_Lake_clear_62 rfl 0 rfl ?_
  refine j_iconst (pc := 63) C (v := 0) d_Lake_clear_63 (by decide) ?_
  refine j_put (pc := 64) C pf_Lake_69 0 (ws' := [(h, .inr (2, [.int 0, .int 1, .int 1, .int 0, .ref g, .int 0, .ref vn, .ref vg, .ref t, .ref r, .int 0, .int 0, .int x7, .int x8])), (g, .inr (1, [.int 0, .ref g0, .ref g1, .ref g2, .ref g3, .ref g4, .ref g5, .ref g6])), (t, .inr (8, [.int 0, .ref t0, .ref t1, .ref t2, .ref t3, .ref t4, .ref t5, .ref t6])), (r, .inr (6, [.int 0, .int 0, .ref r0, .ref r1, .ref r2, .ref r3, .ref r4, .ref r5]))]) rfl rfl rfl (nl rfl) rfl d_Lake_clear_64 ?_
  refine j_aload_n (pc := 67) C d_Lake_clear_67 rfl 0 rfl ?_
  refine j_sipush (pc := 68) C (v := 9999) d_Lake_clear_68 (by decide) ?_
  refine j_put (pc := 71) C pf_Lake_72 0 (ws' := [(h, .inr (2, [.int 0, .int 1, .int 1, .int 0, .ref g, .int 0, .ref vn, .ref vg, .ref t, .ref r, .int 0, .int 0, .int 9999, .int x8])), (g, .inr (1, [.int 0, .ref g0, .ref g1, .ref g2, .ref g3, .ref g4, .ref g5, .ref g6])), (t, .inr (8, [.int 0, .ref t0, .ref t1, .ref t2, .ref t3, .ref t4, .ref t5, .ref t6])), (r, .inr (6, [.int 0, .int 0, .ref r0, .ref r1, .ref r2, .ref r3, .ref r4, .ref r5]))]) rfl rfl rfl (nl rfl) rfl d_Lake_clear_71 ?_
  refine j_aload_n (pc := 74) C d_Lake_clear_74 rfl 0 rfl ?_
  refine j_iconst (pc := 75) C (v := 0) d_Lake_clear_75 (by decide) ?_
  refine j_put (pc := 76) C pf_Lake_75 0 (ws' := [(h, .inr (2, [.int 0, .int 1, .int 1, .int 0, .ref g, .int 0, .ref vn, .ref vg, .ref t, .ref r, .int 0, .int 0, .int 9999, .int 0])), (g, .inr (1, [.int 0, .ref g0, .ref g1, .ref g2, .ref g3, .ref g4, .ref g5, .ref g6])), (t, .inr (8, [.int 0, .ref t0, .ref t1, .ref t2, .ref t3, .ref t4, .ref t5, .ref t6])), (r, .inr (6, [.int 0, .int 0, .ref r0, .ref r1, .ref r2, .ref r3, .ref r4, .ref r5]))]) rfl rfl rfl (nl rfl) rfl d_Lake_clear_76 ?_
  exact j_vret (pc := 79) C hr () trivial [0, 1, 2, 3] rfl (by decide) (by decide) (by decide) d_Lake_clear_79
theorem d_Lake_init_0 : decode prog_5_method_1_code 0 = .ok (.aload_n 0, 1) := by decide +kernel
theorem d_Lake_init_1 : decode prog_5_method_1_code 1 = .ok (.invokespecial 3, 3) := by decide +kernel
theorem d_Lake_init_4 : decode prog_5_method_1_code 4 = .ok (.aload_n 0, 1) := by decide +kernel
theorem d_Lake_init_5 : decode prog_5_method_1_code 5 = .ok (.new 9, 3) := by decide +kernel
theorem nf_Lake_9 : NF "NineBoards$Lake" 9 1 8 [.int 0, .null, .null, .null, .null, .null, .null, .null] := ⟨_, _, ct_Gates, rfl, ci_Gates, cp_Gates, (mt_1 (List.mem_of_getElem? (i := 133) rfl) rfl), (mt_1 (List.mem_of_getElem? (i := 134) rfl) rfl), (mt_1 (List.mem_of_getElem? (i := 7) rfl) rfl), by decide +kernel⟩
theorem d_Lake_init_8 : decode prog_5_method_1_code 8 = .ok (.dup, 1) := by decide +kernel
theorem d_Lake_init_9 : decode prog_5_method_1_code 9 = .ok (.invokespecial 11, 3) := by decide +kernel
theorem kw_Lake_11 : KN "NineBoards$Lake" 11 ⟨"NineBoards$Gates", "<init>", "()V"⟩ prog_4_method_1_code 1 none 0 := ⟨(mt_1 (List.mem_of_getElem? (i := 7) rfl) rfl), (mt_1 (List.mem_of_getElem? (i := 137) rfl) rfl), by decide +kernel⟩
theorem ki_Gates_init : "<init>" = "<init>" ∧ Cond.instanceMethod ⟨"NineBoards$Gates", "<init>", "()V"⟩ ∈ TB := ⟨rfl, (mt_1 (List.mem_of_getElem? (i := 136) rfl) rfl)⟩
theorem d_Lake_init_12 : decode prog_5_method_1_code 12 = .ok (.putfield 12, 3) := by decide +kernel
theorem pf_Lake_12 : PF "NineBoards$Lake" 12 2 4 (.object "NineBoards$Gates") true := ⟨_, _, _, ct_Lake, rfl, ci_Lake, by decide, (mt_2 (List.mem_of_getElem? (i := 42) rfl) rfl), cp_Lake, cn_Lake, rfl, by decide +kernel, (fun _ => rfl)⟩
theorem d_Lake_init_15 : decode prog_5_method_1_code 15 = .ok (.aload_n 0, 1) := by decide +kernel
theorem d_Lake_init_16 : decode prog_5_method_1_code 16 = .ok (.bipush 6, 2) := by decide +kernel
theorem d_Lake_init_18 : decode prog_5_method_1_code 18 = .ok (.newarray .int, 2) := by decide +kernel
theorem d_Lake_init_20 : decode prog_5_method_1_code 20 = .ok (.putfield 18, 3) := by decide +kernel
theorem pf_Lake_18 : PF "NineBoards$Lake" 18 2 6 (.array (.int)) true := ⟨_, _, _, ct_Lake, rfl, ci_Lake, by decide, (mt_2 (List.mem_of_getElem? (i := 51) rfl) rfl), cp_Lake, cn_Lake, rfl, by decide +kernel, (fun _ => rfl)⟩
theorem d_Lake_init_23 : decode prog_5_method_1_code 23 = .ok (.aload_n 0, 1) := by decide +kernel
theorem d_Lake_init_24 : decode prog_5_method_1_code 24 = .ok (.bipush 6, 2) := by decide +kernel
theorem d_Lake_init_26 : decode prog_5_method_1_code 26 = .ok (.newarray .int, 2) := by decide +kernel
theorem d_Lake_init_28 : decode prog_5_method_1_code 28 = .ok (.putfield 22, 3) := by decide +kernel
theorem pf_Lake_22 : PF "NineBoards$Lake" 22 2 7 (.array (.int)) true := ⟨_, _, _, ct_Lake, rfl, ci_Lake, by decide, (mt_2 (List.mem_of_getElem? (i := 54) rfl) rfl), cp_Lake, cn_Lake, rfl, by decide +kernel, (fun _ => rfl)⟩
theorem d_Lake_init_31 : decode prog_5_method_1_code 31 = .ok (.aload_n 0, 1) := by decide +kernel
theorem d_Lake_init_32 : decode prog_5_method_1_code 32 = .ok (.new 25, 3) := by decide +kernel
theorem nf_Lake_25 : NF "NineBoards$Lake" 25 8 8 [.int 0, .null, .null, .null, .null, .null, .null, .null] := ⟨_, _, ct_Things, rfl, ci_Things, cp_Things, (mt_1 (List.mem_of_getElem? (i := 181) rfl) rfl), (mt_1 (List.mem_of_getElem? (i := 182) rfl) rfl), (mt_1 (List.mem_of_getElem? (i := 8) rfl) rfl), by decide +kernel⟩
theorem d_Lake_init_35 : decode prog_5_method_1_code 35 = .ok (.dup, 1) := by decide +kernel
theorem d_Lake_init_36 : decode prog_5_method_1_code 36 = .ok (.invokespecial 27, 3) := by decide +kernel
theorem kw_Lake_27 : KN "NineBoards$Lake" 27 ⟨"NineBoards$Things", "<init>", "()V"⟩ prog_11_method_1_code 1 none 0 := ⟨(mt_1 (List.mem_of_getElem? (i := 8) rfl) rfl), (mt_1 (List.mem_of_getElem? (i := 185) rfl) rfl), by decide +kernel⟩
theorem ki_Things_init : "<init>" = "<init>" ∧ Cond.instanceMethod ⟨"NineBoards$Things", "<init>", "()V"⟩ ∈ TB := ⟨rfl, (mt_1 (List.mem_of_getElem? (i := 184) rfl) rfl)⟩
theorem d_Lake_init_39 : decode prog_5_method_1_code 39 = .ok (.putfield 28, 3) := by decide +kernel
theorem pf_Lake_28 : PF "NineBoards$Lake" 28 2 8 (.object "NineBoards$Things") true := ⟨_, _, _, ct_Lake, rfl, ci_Lake, by decide, (mt_2 (List.mem_of_getElem? (i := 58) rfl) rfl), cp_Lake, cn_Lake, rfl, by decide +kernel, (fun _ => rfl)⟩
theorem d_Lake_init_42 : decode prog_5_method_1_code 42 = .ok (.aload_n 0, 1) := by decide +kernel
theorem d_Lake_init_43 : decode prog_5_method_1_code 43 = .ok (.new 32, 3) := by decide +kernel
theorem nf_Lake_32 : NF "NineBoards$Lake" 32 6 8 [.int 0, .int 0, .null, .null, .null, .null, .null, .null] := ⟨_, _, ct_Rules, rfl, ci_Rules, cp_Rules, (mt_1 (List.mem_of_getElem? (i := 226) rfl) rfl), (mt_1 (List.mem_of_getElem? (i := 227) rfl) rfl), (mt_1 (List.mem_of_getElem? (i := 9) rfl) rfl), by decide +kernel⟩
theorem d_Lake_init_46 : decode prog_5_method_1_code 46 = .ok (.dup, 1) := by decide +kernel
theorem d_Lake_init_47 : decode prog_5_method_1_code 47 = .ok (.invokespecial 34, 3) := by decide +kernel
theorem kw_Lake_34 : KN "NineBoards$Lake" 34 ⟨"NineBoards$Rules", "<init>", "()V"⟩ prog_9_method_1_code 1 none 0 := ⟨(mt_1 (List.mem_of_getElem? (i := 9) rfl) rfl), (mt_1 (List.mem_of_getElem? (i := 230) rfl) rfl), by decide +kernel⟩
theorem ki_Rules_init : "<init>" = "<init>" ∧ Cond.instanceMethod ⟨"NineBoards$Rules", "<init>", "()V"⟩ ∈ TB := ⟨rfl, (mt_1 (List.mem_of_getElem? (i := 229) rfl) rfl)⟩
theorem d_Lake_init_50 : decode prog_5_method_1_code 50 = .ok (.putfield 35, 3) := by decide +kernel
theorem pf_Lake_35 : PF "NineBoards$Lake" 35 2 9 (.object "NineBoards$Rules") true := ⟨_, _, _, ct_Lake, rfl, ci_Lake, by decide, (mt_2 (List.mem_of_getElem? (i := 62) rfl) rfl), cp_Lake, cn_Lake, rfl, by decide +kernel, (fun _ => rfl)⟩
theorem d_Lake_init_53 : decode prog_5_method_1_code 53 = .ok (.aload_n 0, 1) := by decide +kernel
theorem d_Lake_init_54 : decode prog_5_method_1_code 54 = .ok (.invokevirtual 39, 3) := by decide +kernel
theorem kw_Lake_39 : KW "NineBoards$Lake" 39 ⟨"NineBoards$Lake", "clear", "()V"⟩ prog_5_method_2_code 1 none 0 := ⟨(mt_2 (List.mem_of_getElem? (i := 26) rfl) rfl), (mt_1 (List.mem_of_getElem? (i := 6) rfl) rfl), (mt_2 (List.mem_of_getElem? (i := 29) rfl) rfl), by decide +kernel⟩
theorem d_Lake_init_57 : decode prog_5_method_1_code 57 = .ok (.return_, 1) := by decide +kernel
set_option maxHeartbeats 4000000 in
set_option maxRecDepth 100000 in
theorem c_Lake_init (l : Launch) (D : va_G) (y : Nat → ClassId) (h : Nat)  : CT l D y ⟨"NineBoards$Lake", "<init>", "()V"⟩ prog_5_method_1_code 1 none ({ frames := 2, cells := 25, slots := 1883, locals := 32 } : Room) [.ref h] [(h, .inr (2, [.int 0, .int 0, .int 0, .int 0, .null, .int 0, .null, .null, .null, .null, .int 0, .int 0, .int 0, .int 0]))] (QV D [(h, .inr (2, [.int 0, .int 0, .int 0, .int 0, .null, .int 0, .null, .null, .null, .null, .int 0, .int 0, .int 0, .int 0]))] (fun (_ : Nat → Nat) => True) (fun u => [(h, .inr (2, [.int 0, .int 1, .int 1, .int 0, .ref (u 0), .int 0, .ref (u 1), .ref (u 2), .ref (u 3), .ref (u 4), .int 0, .int 0, .int 9999, .int 0])), (u 0, .inr (1, [.int 0, .ref (u 5), .ref (u 6), .ref (u 7), .ref (u 8), .ref (u 9), .ref (u 10), .ref (u 11)])), (u 3, .inr (8, [.int 0, .ref (u 12), .ref (u 13), .ref (u 14), .ref (u 15), .ref (u 16), .ref (u 17), .ref (u 18)])), (u 4, .inr (6, [.int 0, .int 0, .ref (u 19), .ref (u 20), .ref (u 21), .ref (u 22), .ref (u 23), .ref (u 24)])), (u 5, .inl (y 0, 9, .inl (fun _ => 0))), (u 6, .inl (y 0, 9, .inl (fun _ => 0))), (u 7, .inl (y 0, 9, .inl (fun _ => 0))), (u 8, .inl (y 0, 9, .inl (fun _ => 0))), (u 9, .inl (y 0, 9, .inl (fun _ => 0))), (u 10, .inl (y 0, 9, .inl (fun _ => 0))), (u 11, .inl (y 0, 9, .inl (fun _ => 0))), (u 1, .inl (y 0, 6, .inl (fun _ => 0))), (u 2, .inl (y 0, 6, .inl (fun _ => 0))), (u 12, .inl (y 0, 16, .inl (fun _ => 0))), (u 13, .inl (y 0, 16, .inl (fun _ => 0))), (u 14, .inl (y 0, 16, .inl (fun _ => 0))), (u 15, .inl (y 0, 16, .inl (fun _ => 0))), (u 16, .inl (y 0, 16, .inl (fun _ => 0))), (u 17, .inl (y 0, 16, .inl (fun _ => 0))), (u 18, .inl (y 0, 16, .inl (fun _ => 0))), (u 19, .inl (y 0, 8, .inl (fun _ => 0))), (u 20, .inl (y 0, 8, .inl (fun _ => 0))), (u 21, .inl (y 0, 8, .inl (fun _ => 0))), (u 22, .inl (y 0, 8, .inl (fun _ => 0))), (u 23, .inl (y 0, 1600, .inl (fun _ => 0))), (u 24, .inl (y 0, 40, .inl (fun _ => 0)))])) := by
  refine CT.of (by decide) (nb rfl) ?_
  intro p e s m args below meth c C hr
  refine j_lv (lv' := [(0, .ref h)]) rfl ?_
  refine j_aload_n (pc := 0) C d_Lake_init_0 rfl 0 rfl ?_
  refine j_objInit (pc := 1) C (mt_1 (List.mem_of_getElem? (i := 132) rfl) rfl) (mt_1 (List.mem_of_getElem? (i := 25) rfl) rfl) (mt_1 (List.mem_of_getElem? (i := 26) rfl) rfl) (by decide) (nb rfl) d_Lake_init_1 ?_
  refine j_aload_n (pc := 4) C d_Lake_init_4 rfl 0 rfl ?_
  refine j_new (pc := 5) C nf_Lake_9 (by decide) (by decide) d_Lake_init_5 (fun q1 => ?_)
  refine j_ws (ws' := [(h, .inr (2, [.int 0, .int 0, .int 0, .int 0, .null, .int 0, .null, .null, .null, .null, .int 0, .int 0, .int 0, .int 0])), (q1, .inr (1, [.int 0, .null, .null, .null, .null, .null, .null, .null]))]) rfl ?_
  refine j_dup (pc := 8) C d_Lake_init_8 rfl ?_
  refine j_callINv (pc := 9) C (c_Gates_init l D y q1) kw_Lake_11 ki_Gates_init C.N.2.2.2.1 ⟨by decide, by decide⟩ ⟨by decide, by decide⟩ (wr := [(h, .inr (2, [.int 0, .int 0, .int 0, .int 0, .null, .int 0, .null, .null, .null, .null, .int 0, .int 0, .int 0, .int 0]))]) [1] [0] rfl rfl (by decide) (by decide) (by decide) (As := []) (rest := [.ref q1, .ref h]) rfl (nb rfl) rfl d_Lake_init_9 (fun u2 _ => ?_)
  refine j_ws (ws' := [(h, .inr (2, [.int 0, .int 0, .int 0, .int 0, .null, .int 0, .null, .null, .null, .null, .int 0, .int 0, .int 0, .int 0])), (q1, .inr (1, [.int 0, .ref (u2 0), .ref (u2 1), .ref (u2 2), .ref (u2 3), .ref (u2 4), .ref (u2 5), .ref (u2 6)])), (u2 0, .inl (y 0, 9, .inl (fun _ => 0))), (u2 1, .inl (y 0, 9, .inl (fun _ => 0))), (u2 2, .inl (y 0, 9, .inl (fun _ => 0))), (u2 3, .inl (y 0, 9, .inl (fun _ => 0))), (u2 4, .inl (y 0, 9, .inl (fun _ => 0))), (u2 5, .inl (y 0, 9, .inl (fun _ => 0))), (u2 6, .inl (y 0, 9, .inl (fun _ => 0)))]) rfl ?_
  refine j_putF (pc := 12) C pf_Lake_12 0 (ws' := [(h, .inr (2, [.int 0, .int 0, .int 0, .int 0, .ref q1, .int 0, .null, .null, .null, .null, .int 0, .int 0, .int 0, .int 0])), (q1, .inr (1, [.int 0, .ref (u2 0), .ref (u2 1), .ref (u2 2), .ref (u2 3), .ref (u2 4), .ref (u2 5), .ref (u2 6)])), (u2 0, .inl (y 0, 9, .inl (fun _ => 0))), (u2 1, .inl (y 0, 9, .inl (fun _ => 0))), (u2 2, .inl (y 0, 9, .inl (fun _ => 0))), (u2 3, .inl (y 0, 9, .inl (fun _ => 0))), (u2 4, .inl (y 0, 9, .inl (fun _ => 0))), (u2 5, .inl (y 0, 9, .inl (fun _ => 0))), (u2 6, .inl (y 0, 9, .inl (fun _ => 0)))]) rfl rfl rfl (nl rfl) rfl d_Lake_init_12 ?_
  refine j_aload_n (pc := 15) C d_Lake_init_15 rfl 0 rfl ?_
  refine j_bipush (pc := 16) C (v := 6) d_Lake_init_16 (by decide) ?_
  refine j_newI (pc := 18) C (mt_1 (List.mem_of_getElem? (i := 46) rfl) rfl) (N := 6) (by decide) (by decide) (by decide) (by decide) (by decide) d_Lake_init_18 (fun q3 => ?_)
  refine j_ws (ws' := [(h, .inr (2, [.int 0, .int 0, .int 0, .int 0, .ref q1, .int 0, .null, .null, .null, .null, .int 0, .int 0, .int 0, .int 0])), (q1, .inr (1, [.int 0, .ref (u2 0), .ref (u2 1), .ref (u2 2), .ref (u2 3), .ref (u2 4), .ref (u2 5), .ref (u2 6)])), (u2 0, .inl (y 0, 9, .inl (fun _ => 0))), (u2 1, .inl (y 0, 9, .inl (fun _ => 0))), (u2 2, .inl (y 0, 9, .inl (fun _ => 0))), (u2 3, .inl (y 0, 9, .inl (fun _ => 0))), (u2 4, .inl (y 0, 9, .inl (fun _ => 0))), (u2 5, .inl (y 0, 9, .inl (fun _ => 0))), (u2 6, .inl (y 0, 9, .inl (fun _ => 0))), (q3, .inl (y 0, 6, .inl (fun _ => 0)))]) rfl ?_
  refine j_putF (pc := 20) C pf_Lake_18 0 (ws' := [(h, .inr (2, [.int 0, .int 0, .int 0, .int 0, .ref q1, .int 0, .ref q3, .null, .null, .null, .int 0, .int 0, .int 0, .int 0])), (q1, .inr (1, [.int 0, .ref (u2 0), .ref (u2 1), .ref (u2 2), .ref (u2 3), .ref (u2 4), .ref (u2 5), .ref (u2 6)])), (u2 0, .inl (y 0, 9, .inl (fun _ => 0))), (u2 1, .inl (y 0, 9, .inl (fun _ => 0))), (u2 2, .inl (y 0, 9, .inl (fun _ => 0))), (u2 3, .inl (y 0, 9, .inl (fun _ => 0))), (u2 4, .inl (y 0, 9, .inl (fun _ => 0))), (u2 5, .inl (y 0, 9, .inl (fun _ => 0))), (u2 6, .inl (y 0, 9, .inl (fun _ => 0))), (q3, .inl (y 0, 6, .inl (fun _ => 0)))]) rfl rfl rfl (nl rfl) rfl d_Lake_init_20 ?_
  refine j_aload_n (pc := 23) C d_Lake_init_23 rfl 0 rfl ?_
  refine j_bipush (pc := 24) C (v := 6) d_Lake_init_24 (by decide) ?_
  refine j_newI (pc := 26) C (mt_1 (List.mem_of_getElem? (i := 46) rfl) rfl) (N := 6) (by decide) (by decide) (by decide) (by decide) (by decide) d_Lake_init_26 (fun q4 => ?_)
  refine j_ws (ws' := [(h, .inr (2, [.int 0, .int 0, .int 0, .int 0, .ref q1, .int 0, .ref q3, .null, .null, .null, .int 0, .int 0, .int 0, .int 0])), (q1, .inr (1, [.int 0, .ref (u2 0), .ref (u2 1), .ref (u2 2), .ref (u2 3), .ref (u2 4), .ref (u2 5), .ref (u2 6)])), (u2 0, .inl (y 0, 9, .inl (fun _ => 0))), (u2 1, .inl (y 0, 9, .inl (fun _ => 0))), (u2 2, .inl (y 0, 9, .inl (fun _ => 0))), (u2 3, .inl (y 0, 9, .inl (fun _ => 0))), (u2 4, .inl (y 0, 9, .inl (fun _ => 0))), (u2 5, .inl (y 0, 9, .inl (fun _ => 0))), (u2 6, .inl (y 0, 9, .inl (fun _ => 0))), (q3, .inl (y 0, 6, .inl (fun _ => 0))), (q4, .inl (y 0, 6, .inl (fun _ => 0)))]) rfl ?_
  refine j_putF (pc := 28) C pf_Lake_22 0 (ws' := [(h, .inr (2, [.int 0, .int 0, .int 0, .int 0, .ref q1, .int 0, .ref q3, .ref q4, .null, .null, .int 0, .int 0, .int 0, .int 0])), (q1, .inr (1, [.int 0, .ref (u2 0), .ref (u2 1), .ref (u2 2), .ref (u2 3), .ref (u2 4), .ref (u2 5), .ref (u2 6)])), (u2 0, .inl (y 0, 9, .inl (fun _ => 0))), (u2 1, .inl (y 0, 9, .inl (fun _ => 0))), (u2 2, .inl (y 0, 9, .inl (fun _ => 0))), (u2 3, .inl (y 0, 9, .inl (fun _ => 0))), (u2 4, .inl (y 0, 9, .inl (fun _ => 0))), (u2 5, .inl (y 0, 9, .inl (fun _ => 0))), (u2 6, .inl (y 0, 9, .inl (fun _ => 0))), (q3, .inl (y 0, 6, .inl (fun _ => 0))), (q4, .inl (y 0, 6, .inl (fun _ => 0)))]) rfl rfl rfl (nl rfl) rfl d_Lake_init_28 ?_
  refine j_aload_n (pc := 31) C d_Lake_init_31 rfl 0 rfl ?_
  refine j_new (pc := 32) C nf_Lake_25 (by decide) (by decide) d_Lake_init_32 (fun q5 => ?_)
  refine j_ws (ws' := [(h, .inr (2, [.int 0, .int 0, .int 0, .int 0, .ref q1, .int 0, .ref q3, .ref q4, .null, .null, .int 0, .int 0, .int 0, .int 0])), (q1, .inr (1, [.int 0, .ref (u2 0), .ref (u2 1), .ref (u2 2), .ref (u2 3), .ref (u2 4), .ref (u2 5), .ref (u2 6)])), (u2 0, .inl (y 0, 9, .inl (fun _ => 0))), (u2 1, .inl (y 0, 9, .inl (fun _ => 0))), (u2 2, .inl (y 0, 9, .inl (fun _ => 0))), (u2 3, .inl (y 0, 9, .inl (fun _ => 0))), (u2 4, .inl (y 0, 9, .inl (fun _ => 0))), (u2 5, .inl (y 0, 9, .inl (fun _ => 0))), (u2 6, .inl (y 0, 9, .inl (fun _ => 0))), (q3, .inl (y 0, 6, .inl (fun _ => 0))), (q4, .inl (y 0, 6, .inl (fun _ => 0))), (q5, .inr (8, [.int 0, .null, .null, .null, .null, .null, .null, .null]))]) rfl ?_
  refine j_dup (pc := 35) C d_Lake_init_35 rfl ?_
  refine j_callINv (pc := 36) C (c_Things_init l D y q5) kw_Lake_27 ki_Things_init C.N.2.2.2.2.1 ⟨by decide, by decide⟩ ⟨by decide, by decide⟩ (wr := [(h, .inr (2, [.int 0, .int 0, .int 0, .int 0, .ref q1, .int 0, .ref q3, .ref q4, .null, .null, .int 0, .int 0, .int 0, .int 0])), (q1, .inr (1, [.int 0, .ref (u2 0), .ref (u2 1), .ref (u2 2), .ref (u2 3), .ref (u2 4), .ref (u2 5), .ref (u2 6)])), (u2 0, .inl (y 0, 9, .inl (fun _ => 0))), (u2 1, .inl (y 0, 9, .inl (fun _ => 0))), (u2 2, .inl (y 0, 9, .inl (fun _ => 0))), (u2 3, .inl (y 0, 9, .inl (fun _ => 0))), (u2 4, .inl (y 0, 9, .inl (fun _ => 0))), (u2 5, .inl (y 0, 9, .inl (fun _ => 0))), (u2 6, .inl (y 0, 9, .inl (fun _ => 0))), (q3, .inl (y 0, 6, .inl (fun _ => 0))), (q4, .inl (y 0, 6, .inl (fun _ => 0)))]) [11] [0, 1, 2, 3, 4, 5, 6, 7, 8, 9, 10] rfl rfl (by decide +kernel) (by decide +kernel) (by decide +kernel) (As := []) (rest := [.ref q5, .ref h]) rfl (nb rfl) rfl d_Lake_init_36 (fun u6 _ => ?_)
  refine j_ws (ws' := [(h, .inr (2, [.int 0, .int 0, .int 0, .int 0, .ref q1, .int 0, .ref q3, .ref q4, .null, .null, .int 0, .int 0, .int 0, .int 0])), (q1, .inr (1, [.int 0, .ref (u2 0), .ref (u2 1), .ref (u2 2), .ref (u2 3), .ref (u2 4), .ref (u2 5), .ref (u2 6)])), (u2 0, .inl (y 0, 9, .inl (fun _ => 0))), (u2 1, .inl (y 0, 9, .inl (fun _ => 0))), (u2 2, .inl (y 0, 9, .inl (fun _ => 0))), (u2 3, .inl (y 0, 9, .inl (fun _ => 0))), (u2 4, .inl (y 0, 9, .inl (fun _ => 0))), (u2 5, .inl (y 0, 9, .inl (fun _ => 0))), (u2 6, .inl (y 0, 9, .inl (fun _ => 0))), (q3, .inl (y 0, 6, .inl (fun _ => 0))), (q4, .inl (y 0, 6, .inl (fun _ => 0))), (q5, .inr (8, [.int 0, .ref (u6 0), .ref (u6 1), .ref (u6 2), .ref (u6 3), .ref (u6 4), .ref (u6 5), .ref (u6 6)])), (u6 0, .inl (y 0, 16, .inl (fun _ => 0))), (u6 1, .inl (y 0, 16, .inl (fun _ => 0))), (u6 2, .inl (y 0, 16, .inl (fun _ => 0))), (u6 3, .inl (y 0, 16, .inl (fun _ => 0))), (u6 4, .inl (y 0, 16, .inl (fun _ => 0))), (u6 5, .inl (y 0, 16, .inl (fun _ => 0))), (u6 6, .inl (y 0, 16, .inl (fun _ => 0)))]) rfl ?_
  refine j_putF (pc := 39) C pf_Lake_28 0 (ws' := [(h, .inr (2, [.int 0, .int 0, .int 0, .int 0, .ref q1, .int 0, .ref q3, .ref q4, .ref q5, .null, .int 0, .int 0, .int 0, .int 0])), (q1, .inr (1, [.int 0, .ref (u2 0), .ref (u2 1), .ref (u2 2), .ref (u2 3), .ref (u2 4), .ref (u2 5), .ref (u2 6)])), (u2 0, .inl (y 0, 9, .inl (fun _ => 0))), (u2 1, .inl (y 0, 9, .inl (fun _ => 0))), (u2 2, .inl (y 0, 9, .inl (fun _ => 0))), (u2 3, .inl (y 0, 9, .inl (fun _ => 0))), (u2 4, .inl (y 0, 9, .inl (fun _ => 0))), (u2 5, .inl (y 0, 9, .inl (fun _ => 0))), (u2 6, .inl (y 0, 9, .inl (fun _ => 0))), (q3, .inl (y 0, 6, .inl (fun _ => 0))), (q4, .inl (y 0, 6, .inl (fun _ => 0))), (q5, .inr (8, [.int 0, .ref (u6 0), .ref (u6 1), .ref (u6 2), .ref (u6 3), .ref (u6 4), .ref (u6 5), .ref (u6 6)])), (u6 0, .inl (y 0, 16, .inl (fun _ => 0))), (u6 1, .inl (y 0, 16, .inl (fun _ => 0))), (u6 2, .inl (y 0, 16, .inl (fun _ => 0))), (u6 3, .inl (y 0, 16, .inl (fun _ => 0))), (u6 4, .inl (y 0, 16, .inl (fun _ => 0))), (u6 5, .inl (y 0, 16, .inl (fun _ => 0))), (u6 6, .inl (y 0, 16, .inl (fun _ => 0)))]) rfl rfl rfl (nl rfl) rfl d_Lake_init_39 ?_
  refine j_aload_n (pc := 42) C d_Lake_init_42 rfl 0 rfl ?_
  refine j_new (pc := 43) C nf_Lake_32 (by decide) (by decide) d_Lake_init_43 (fun q7 => ?_)
  refine j_ws (ws' := [(h, .inr (2, [.int 0, .int 0, .int 0, .int 0, .ref q1, .int 0, .ref q3, .ref q4, .ref q5, .null, .int 0, .int 0, .int 0, .int 0])), (q1, .inr (1, [.int 0, .ref (u2 0), .ref (u2 1), .ref (u2 2), .ref (u2 3), .ref (u2 4), .ref (u2 5), .ref (u2 6)])), (u2 0, .inl (y 0, 9, .inl (fun _ => 0))), (u2 1, .inl (y 0, 9, .inl (fun _ => 0))), (u2 2, .inl (y 0, 9, .inl (fun _ => 0))), (u2 3, .inl (y 0, 9, .inl (fun _ => 0))), (u2 4, .inl (y 0, 9, .inl (fun _ => 0))), (u2 5, .inl (y 0, 9, .inl (fun _ => 0))), (u2 6, .inl (y 0, 9, .inl (fun _ => 0))), (q3, .inl (y 0, 6, .inl (fun _ => 0))), (q4, .inl (y 0, 6, .inl (fun _ => 0))), (q5, .inr (8, [.int 0, .ref (u6 0), .ref (u6 1), .ref (u6 2), .ref (u6 3), .ref (u6 4), .ref (u6 5), .ref (u6 6)])), (u6 0, .inl (y 0, 16, .inl (fun _ => 0))), (u6 1, .inl (y 0, 16, .inl (fun _ => 0))), (u6 2, .inl (y 0, 16, .inl (fun _ => 0))), (u6 3, .inl (y 0, 16, .inl (fun _ => 0))), (u6 4, .inl (y 0, 16, .inl (fun _ => 0))), (u6 5, .inl (y 0, 16, .inl (fun _ => 0))), (u6 6, .inl (y 0, 16, .inl (fun _ => 0))), (q7, .inr (6, [.int 0, .int 0, .null, .null, .null, .null, .null, .null]))]) rfl ?_
  refine j_dup (pc := 46) C d_Lake_init_46 rfl ?_
  refine j_callINv (pc := 47) C (c_Rules_init l D y q7) kw_Lake_34 ki_Rules_init C.N.2.2.2.2.2.1 ⟨by decide, by decide⟩ ⟨by decide, by decide⟩ (wr := [(h, .inr (2, [.int 0, .int 0, .int 0, .int 0, .ref q1, .int 0, .ref q3, .ref q4, .ref q5, .null, .int 0, .int 0, .int 0, .int 0])), (q1, .inr (1, [.int 0, .ref (u2 0), .ref (u2 1), .ref (u2 2), .ref (u2 3), .ref (u2 4), .ref (u2 5), .ref (u2 6)])), (u2 0, .inl (y 0, 9, .inl (fun _ => 0))), (u2 1, .inl (y 0, 9, .inl (fun _ => 0))), (u2 2, .inl (y 0, 9, .inl (fun _ => 0))), (u2 3, .inl (y 0, 9, .inl (fun _ => 0))), (u2 4, .inl (y 0, 9, .inl (fun _ => 0))), (u2 5, .inl (y 0, 9, .inl (fun _ => 0))), (u2 6, .inl (y 0, 9, .inl (fun _ => 0))), (q3, .inl (y 0, 6, .inl (fun _ => 0))), (q4, .inl (y 0, 6, .inl (fun _ => 0))), (q5, .inr (8, [.int 0, .ref (u6 0), .ref (u6 1), .ref (u6 2), .ref (u6 3), .ref (u6 4), .ref (u6 5), .ref (u6 6)])), (u6 0, .inl (y 0, 16, .inl (fun _ => 0))), (u6 1, .inl (y 0, 16, .inl (fun _ => 0))), (u6 2, .inl (y 0, 16, .inl (fun _ => 0))), (u6 3, .inl (y 0, 16, .inl (fun _ => 0))), (u6 4, .inl (y 0, 16, .inl (fun _ => 0))), (u6 5, .inl (y 0, 16, .inl (fun _ => 0))), (u6 6, .inl (y 0, 16, .inl (fun _ => 0)))]) [19] [0, 1, 2, 3, 4, 5, 6, 7, 8, 9, 10, 11, 12, 13, 14, 15, 16, 17, 18] rfl rfl (by decide +kernel) (by decide +kernel) (by decide +kernel) (As := []) (rest := [.ref q7, .ref h]) rfl (nb rfl) rfl d_Lake_init_47 (fun u8 _ => ?_)
  refine j_ws (ws' := [(h, .inr (2, [.int 0, .int 0, .int 0, .int 0, .ref q1, .int 0, .ref q3, .ref q4, .ref q5, .null, .int 0, .int 0, .int 0, .int 0])), (q1, .inr (1, [.int 0, .ref (u2 0), .ref (u2 1), .ref (u2 2), .ref (u2 3), .ref (u2 4), .ref (u2 5), .ref (u2 6)])), (u2 0, .inl (y 0, 9, .inl (fun _ => 0))), (u2 1, .inl (y 0, 9, .inl (fun _ => 0))), (u2 2, .inl (y 0, 9, .inl (fun _ => 0))), (u2 3, .inl (y 0, 9, .inl (fun _ => 0))), (u2 4, .inl (y 0, 9, .inl (fun _ => 0))), (u2 5, .inl (y 0, 9, .inl (fun _ => 0))), (u2 6, .inl (y 0, 9, .inl (fun _ => 0))), (q3, .inl (y 0, 6, .inl (fun _ => 0))), (q4, .inl (y 0, 6, .inl (fun _ => 0))), (q5, .inr (8, [.int 0, .ref (u6 0), .ref (u6 1), .ref (u6 2), .ref (u6 3), .ref (u6 4), .ref (u6 5), .ref (u6 6)])), (u6 0, .inl (y 0, 16, .inl (fun _ => 0))), (u6 1, .inl (y 0, 16, .inl (fun _ => 0))), (u6 2, .inl (y 0, 16, .inl (fun _ => 0))), (u6 3, .inl (y 0, 16, .inl (fun _ => 0))), (u6 4, .inl (y 0, 16, .inl (fun _ => 0))), (u6 5, .inl (y 0, 16, .inl (fun _ => 0))), (u6 6, .inl (y 0, 16, .inl (fun _ => 0))), (q7, .inr (6, [.int 0, .int 0, .ref (u8 0), .ref (u8 1), .ref (u8 2), .ref (u8 3), .ref (u8 4), .ref (u8 5)])), (u8 0, .inl (y 0, 8, .inl (fun _ => 0))), (u8 1, .inl (y 0, 8, .inl (fun _ => 0))), (u8 2, .inl (y 0, 8, .inl (fun _ => 0))), (u8 3, .inl (y 0, 8, .inl (fun _ => 0))), (u8 4, .inl (y 0, 1600, .inl (fun _ => 0))), (u8 5, .inl (y 0, 40, .inl (fun _ => 0)))]) rfl ?_
  refine j_putF (pc := 50) C pf_Lake_35 0 (ws' := [(h, .inr (2, [.int 0, .int 0, .int 0, .int 0, .ref q1, .int 0, .ref q3, .ref q4, .ref q5, .ref q7, .int 0, .int 0, .int 0, .int 0])), (q1, .inr (1, [.int 0, .ref (u2 0), .ref (u2 1), .ref (u2 2), .ref (u2 3), .ref (u2 4), .ref (u2 5), .ref (u2 6)])), (u2 0, .inl (y 0, 9, .inl (fun _ => 0))), (u2 1, .inl (y 0, 9, .inl (fun _ => 0))), (u2 2, .inl (y 0, 9, .inl (fun _ => 0))), (u2 3, .inl (y 0, 9, .inl (fun _ => 0))), (u2 4, .inl (y 0, 9, .inl (fun _ => 0))), (u2 5, .inl (y 0, 9, .inl (fun _ => 0))), (u2 6, .inl (y 0, 9, .inl (fun _ => 0))), (q3, .inl (y 0, 6, .inl (fun _ => 0))), (q4, .inl (y 0, 6, .inl (fun _ => 0))), (q5, .inr (8, [.int 0, .ref (u6 0), .ref (u6 1), .ref (u6 2), .ref (u6 3), .ref (u6 4), .ref (u6 5), .ref (u6 6)])), (u6 0, .inl (y 0, 16, .inl (fun _ => 0))), (u6 1, .inl (y 0, 16, .inl (fun _ => 0))), (u6 2, .inl (y 0, 16, .inl (fun _ => 0))), (u6 3, .inl (y 0, 16, .inl (fun _ => 0))), (u6 4, .inl (y 0, 16, .inl (fun _ => 0))), (u6 5, .inl (y 0, 16, .inl (fun _ => 0))), (u6 6, .inl (y 0, 16, .inl (fun _ => 0))), (q7, .inr (6, [.int 0, .int 0, .ref (u8 0), .ref (u8 1), .ref (u8 2), .ref (u8 3), .ref (u8 4), .ref (u8 5)])), (u8 0, .inl (y 0, 8, .inl (fun _ => 0))), (u8 1, .inl (y 0, 8, .inl (fun _ => 0))), (u8 2, .inl (y 0, 8, .inl (fun _ => 0))), (u8 3, .inl (y 0, 8, .inl (fun _ => 0))), (u8 4, .inl (y 0, 1600, .inl (fun _ => 0))), (u8 5, .inl (y 0, 40, .inl (fun _ => 0)))]) rfl rfl rfl (nl rfl) rfl d_Lake_init_50 ?_
  refine j_aload_n (pc := 53) C d_Lake_init_53 rfl 0 rfl ?_
  refine j_callVv (pc := 54) C (c_Lake_clear l D y h q1 q3 q4 q5 q7 (u2 0) (u2 1) (u2 2) (u2 3) (u2 4) (u2 5) (u2 6) (u6 0) (u6 1) (u6 2) (u6 3) (u6 4) (u6 5) (u6 6) (u8 0) (u8 1) (u8 2) (u8 3) (u8 4) (u8 5) 0 0 0 0 0 0 0 0 0 0 0 0 0) kw_Lake_39 kv_Lake_clear 0 2 rfl rfl ⟨by decide, by decide⟩ ⟨by decide, by decide⟩ (wr := [(u2 0, .inl (y 0, 9, .inl (fun _ => 0))), (u2 1, .inl (y 0, 9, .inl (fun _ => 0))), (u2 2, .inl (y 0, 9, .inl (fun _ => 0))), (u2 3, .inl (y 0, 9, .inl (fun _ => 0))), (u2 4, .inl (y 0, 9, .inl (fun _ => 0))), (u2 5, .inl (y 0, 9, .inl (fun _ => 0))), (u2 6, .inl (y 0, 9, .inl (fun _ => 0))), (q3, .inl (y 0, 6, .inl (fun _ => 0))), (q4, .inl (y 0, 6, .inl (fun _ => 0))), (u6 0, .inl (y 0, 16, .inl (fun _ => 0))), (u6 1, .inl (y 0, 16, .inl (fun _ => 0))), (u6 2, .inl (y 0, 16, .inl (fun _ => 0))), (u6 3, .inl (y 0, 16, .inl (fun _ => 0))), (u6 4, .inl (y 0, 16, .inl (fun _ => 0))), (u6 5, .inl (y 0, 16, .inl (fun _ => 0))), (u6 6, .inl (y 0, 16, .inl (fun _ => 0))), (u8 0, .inl (y 0, 8, .inl (fun _ => 0))), (u8 1, .inl (y 0, 8, .inl (fun _ => 0))), (u8 2, .inl (y 0, 8, .inl (fun _ => 0))), (u8 3, .inl (y 0, 8, .inl (fun _ => 0))), (u8 4, .inl (y 0, 1600, .inl (fun _ => 0))), (u8 5, .inl (y 0, 40, .inl (fun _ => 0)))]) [0, 1, 11, 19] [2, 3, 4, 5, 6, 7, 8, 9, 10, 12, 13, 14, 15, 16, 17, 18, 20, 21, 22, 23, 24, 25] rfl rfl (by decide +kernel) (by decide +kernel) (by decide +kernel) (As := []) (rest := []) rfl (nb rfl) rfl d_Lake_init_54 (fun _ _ => ?_)
  refine j_ws (ws' := [(u2 0, .inl (y 0, 9, .inl (fun _ => 0))), (u2 1, .inl (y 0, 9, .inl (fun _ => 0))), (u2 2, .inl (y 0, 9, .inl (fun _ => 0))), (u2 3, .inl (y 0, 9, .inl (fun _ => 0))), (u2 4, .inl (y 0, 9, .inl (fun _ => 0))), (u2 5, .inl (y 0, 9, .inl (fun _ => 0))), (u2 6, .inl (y 0, 9, .inl (fun _ => 0))), (q3, .inl (y 0, 6, .inl (fun _ => 0))), (q4, .inl (y 0, 6, .inl (fun _ => 0))), (u6 0, .inl (y 0, 16, .inl (fun _ => 0))), (u6 1, .inl (y 0, 16, .inl (fun _ => 0))), (u6 2, .inl (y 0, 16, .inl (fun _ => 0))), (u6 3, .inl (y 0, 16, .inl (fun _ => 0))), (u6 4, .inl (y 0, 16, .inl (fun _ => 0))), (u6 5, .inl (y 0, 16, .inl (fun _ => 0))), (u6 6, .inl (y 0, 16, .inl (fun _ => 0))), (u8 0, .inl (y 0, 8, .inl (fun _ => 0))), (u8 1, .inl (y 0, 8, .inl (fun _ => 0))), (u8 2, .inl (y 0, 8, .inl (fun _ => 0))), (u8 3, .inl (y 0, 8, .inl (fun _ => 0))), (u8 4, .inl (y 0, 1600, .inl (fun _ => 0))), (u8 5, .inl (y 0, 40, .inl (fun _ => 0))), (h, .inr (2, [.int 0, .int 1, .int 1, .int 0, .ref q1, .int 0, .ref q3, .ref q4, .ref q5, .ref q7, .int 0, .int 0, .int 9999, .int 0])), (q1, .inr (1, [.int 0, .ref (u2 0), .ref (u2 1), .ref (u2 2), .ref (u2 3), .ref (u2 4), .ref (u2 5), .ref (u2 6)])), (q5, .inr (8, [.int 0, .ref (u6 0), .ref (u6 1), .ref (u6 2), .ref (u6 3), .ref (u6 4), .ref (u6 5), .ref (u6 6)])), (q7, .inr (6, [.int 0, .int 0, .ref (u8 0), .ref (u8 1), .ref (u8 2), .ref (u8 3), .ref (u8 4), .ref (u8 5)]))]) rfl ?_
  exact j_vret (pc := 57) C hr (fun k => [q1, q3, q4, q5, q7, u2 0, u2 1, u2 2, u2 3, u2 4, u2 5, u2 6, u6 0, u6 1, u6 2, u6 3, u6 4, u6 5, u6 6, u8 0, u8 1, u8 2, u8 3, u8 4, u8 5].getD k 0) trivial [22, 23, 24, 25, 0, 1, 2, 3, 4, 5, 6, 7, 8, 9, 10, 11, 12, 13, 14, 15, 16, 17, 18, 19, 20, 21] rfl (by decide) (by decide) (by decide) d_Lake_init_57
