theorem d_Lake_clear_0 : decode prog_5_method_2_code 0 = .ok (.aload_n 0, 1) := by decide +kernel
theorem d_Lake_clear_1 : decode prog_5_method_2_code 1 = .ok (.iconst 0, 1) := by decide +kernel
theorem d_Lake_clear_2 : decode prog_5_method_2_code 2 = .ok (.putfield 42, 3) := by decide +kernel
theorem pf_Lake_42 : PF "NineBoards$Lake" 42 2 0 (.int) false := ⟨_, _, _, ct_Lake, rfl, ci_Lake, by decide, (mt_2 (List.mem_of_getElem? (i := 30) rfl) rfl), cp_Lake, cn_Lake, rfl, by decide +kernel, (fun h => by cases h)⟩
theorem d_Lake_clear_5 : decode prog_5_method_2_code 5 = .ok (.aload_n 0, 1) := by decide +kernel
theorem d_Lake_clear_6 : decode prog_5_method_2_code 6 = .ok (.iconst 1, 1) := by decide +kernel
theorem d_Lake_clear_7 : decode prog_5_method_2_code 7 = .ok (.putfield 46, 3) := by decide +kernel
theorem pf_Lake_46 : PF "NineBoards$Lake" 46 2 1 (.int) false := ⟨_, _, _, ct_Lake, rfl, ci_Lake, by decide, (mt_2 (List.mem_of_getElem? (i := 33) rfl) rfl), cp_Lake, cn_Lake, rfl, by decide +kernel, (fun h => by cases h)⟩
theorem d_Lake_clear_10 : decode prog_5_method_2_code 10 = .ok (.aload_n 0, 1) := by decide +kernel
theorem d_Lake_clear_11 : decode prog_5_method_2_code 11 = .ok (.iconst 1, 1) := by decide +kernel
theorem d_Lake_clear_12 : decode prog_5_method_2_code 12 = .ok (.putfield 49, 3) := by decide +kernel
theorem pf_Lake_49 : PF "NineBoards$Lake" 49 2 2 (.int) false := ⟨_, _, _, ct_Lake, rfl, ci_Lake, by decide, (mt_2 (List.mem_of_getElem? (i := 35) rfl) rfl), cp_Lake, cn_Lake, rfl, by decide +kernel, (fun h => by cases h)⟩
theorem d_Lake_clear_15 : decode prog_5_method_2_code 15 = .ok (.aload_n 0, 1) := by decide +kernel
theorem d_Lake_clear_16 : decode prog_5_method_2_code 16 = .ok (.iconst 0, 1) := by decide +kernel
theorem d_Lake_clear_17 : decode prog_5_method_2_code 17 = .ok (.putfield 52, 3) := by decide +kernel
theorem pf_Lake_52 : PF "NineBoards$Lake" 52 2 3 (.int) false := ⟨_, _, _, ct_Lake, rfl, ci_Lake, by decide, (mt_2 (List.mem_of_getElem? (i := 39) rfl) rfl), cp_Lake, cn_Lake, rfl, by decide +kernel, (fun h => by cases h)⟩
theorem d_Lake_clear_20 : decode prog_5_method_2_code 20 = .ok (.aload_n 0, 1) := by decide +kernel
theorem d_Lake_clear_21 : decode prog_5_method_2_code 21 = .ok (.getfield 12, 3) := by decide +kernel
theorem d_Lake_clear_24 : decode prog_5_method_2_code 24 = .ok (.iconst 0, 1) := by decide +kernel
theorem d_Lake_clear_25 : decode prog_5_method_2_code 25 = .ok (.putfield 55, 3) := by decide +kernel
theorem pf_Lake_55 : PF "NineBoards$Lake" 55 1 0 (.int) false := ⟨_, _, _, ct_Gates, rfl, ci_Gates, by decide, (mt_1 (List.mem_of_getElem? (i := 140) rfl) rfl), cp_Gates, cn_Gates, rfl, by decide +kernel, (fun h => by cases h)⟩
theorem d_Lake_clear_28 : decode prog_5_method_2_code 28 = .ok (.aload_n 0, 1) := by decide +kernel
theorem d_Lake_clear_29 : decode prog_5_method_2_code 29 = .ok (.iconst 0, 1) := by decide +kernel
theorem d_Lake_clear_30 : decode prog_5_method_2_code 30 = .ok (.putfield 58, 3) := by decide +kernel
theorem pf_Lake_58 : PF "NineBoards$Lake" 58 2 5 (.int) false := ⟨_, _, _, ct_Lake, rfl, ci_Lake, by decide, (mt_2 (List.mem_of_getElem? (i := 46) rfl) rfl), cp_Lake, cn_Lake, rfl, by decide +kernel, (fun h => by cases h)⟩
theorem d_Lake_clear_33 : decode prog_5_method_2_code 33 = .ok (.aload_n 0, 1) := by decide +kernel
theorem d_Lake_clear_34 : decode prog_5_method_2_code 34 = .ok (.getfield 28, 3) := by decide +kernel
theorem d_Lake_clear_37 : decode prog_5_method_2_code 37 = .ok (.iconst 0, 1) := by decide +kernel
theorem d_Lake_clear_38 : decode prog_5_method_2_code 38 = .ok (.putfield 61, 3) := by decide +kernel
theorem pf_Lake_61 : PF "NineBoards$Lake" 61 8 0 (.int) false := ⟨_, _, _, ct_Things, rfl, ci_Things, by decide, (mt_1 (List.mem_of_getElem? (i := 187) rfl) rfl), cp_Things, cn_Things, rfl, by decide +kernel, (fun h => by cases h)⟩
theorem d_Lake_clear_41 : decode prog_5_method_2_code 41 = .ok (.aload_n 0, 1) := by decide +kernel
theorem d_Lake_clear_42 : decode prog_5_method_2_code 42 = .ok (.getfield 35, 3) := by decide +kernel
theorem gf_Lake_35 : GF "NineBoards$Lake" 35 2 9 := ⟨_, _, _, rfl, ci_Lake, by decide, (mt_2 (List.mem_of_getElem? (i := 62) rfl) rfl)⟩
theorem d_Lake_clear_45 : decode prog_5_method_2_code 45 = .ok (.iconst 0, 1) := by decide +kernel
theorem d_Lake_clear_46 : decode prog_5_method_2_code 46 = .ok (.putfield 62, 3) := by decide +kernel
theorem pf_Lake_62 : PF "NineBoards$Lake" 62 6 0 (.int) false := ⟨_, _, _, ct_Rules, rfl, ci_Rules, by decide, (mt_1 (List.mem_of_getElem? (i := 232) rfl) rfl), cp_Rules, cn_Rules, rfl, by decide +kernel, (fun h => by cases h)⟩
theorem d_Lake_clear_49 : decode prog_5_method_2_code 49 = .ok (.aload_n 0, 1) := by decide +kernel
theorem d_Lake_clear_50 : decode prog_5_method_2_code 50 = .ok (.getfield 35, 3) := by decide +kernel
theorem d_Lake_clear_53 : decode prog_5_method_2_code 53 = .ok (.iconst 0, 1) := by decide +kernel
theorem d_Lake_clear_54 : decode prog_5_method_2_code 54 = .ok (.putfield 63, 3) := by decide +kernel
theorem pf_Lake_63 : PF "NineBoards$Lake" 63 6 1 (.int) false := ⟨_, _, _, ct_Rules, rfl, ci_Rules, by decide, (mt_1 (List.mem_of_getElem? (i := 237) rfl) rfl), cp_Rules, cn_Rules, rfl, by decide +kernel, (fun h => by cases h)⟩
theorem d_Lake_clear_57 : decode prog_5_method_2_code 57 = .ok (.aload_n 0, 1) := by decide +kernel
theorem d_Lake_clear_58 : decode prog_5_method_2_code 58 = .ok (.iconst 0, 1) := by decide +kernel
theorem d_Lake_clear_59 : decode prog_5_method_2_code 59 = .ok (.putfield 66, 3) := by decide +kernel
theorem pf_Lake_66 : PF "NineBoards$Lake" 66 2 10 (.int) false := ⟨_, _, _, ct_Lake, rfl, ci_Lake, by decide, (mt_2 (List.mem_of_getElem? (i := 66) rfl) rfl), cp_Lake, cn_Lake, rfl, by decide +kernel, (fun h => by cases h)⟩
theorem d_Lake_clear_62 : decode prog_5_method_2_code 62 = .ok (.aload_n 0, 1) := by decide +kernel
theorem d_Lake_clear_63 : decode prog_5_method_2_code 63 = .ok (.iconst 0, 1) := by decide +kernel
theorem d_Lake_clear_64 : decode prog_5_method_2_code 64 = .ok (.putfield 69, 3) := by decide +kernel
theorem pf_Lake_69 : PF "NineBoards$Lake" 69 2 11 (.int) false := ⟨_, _, _, ct_Lake, rfl, ci_Lake, by decide, (mt_2 (List.mem_of_getElem? (i := 69) rfl) rfl), cp_Lake, cn_Lake, rfl, by decide +kernel, (fun h => by cases h)⟩
theorem d_Lake_clear_67 : decode prog_5_method_2_code 67 = .ok (.aload_n 0, 1) := by decide +kernel
theorem d_Lake_clear_68 : decode prog_5_method_2_code 68 = .ok (.sipush 9999, 3) := by decide +kernel
theorem d_Lake_clear_71 : decode prog_5_method_2_code 71 = .ok (.putfield 72, 3) := by decide +kernel
theorem pf_Lake_72 : PF "NineBoards$Lake" 72 2 12 (.int) false := ⟨_, _, _, ct_Lake, rfl, ci_Lake, by decide, (mt_2 (List.mem_of_getElem? (i := 72) rfl) rfl), cp_Lake, cn_Lake, rfl, by decide +kernel, (fun h => by cases h)⟩
theorem d_Lake_clear_74 : decode prog_5_method_2_code 74 = .ok (.aload_n 0, 1) := by decide +kernel
theorem d_Lake_clear_75 : decode prog_5_method_2_code 75 = .ok (.iconst 0, 1) := by decide +kernel
theorem d_Lake_clear_76 : decode prog_5_method_2_code 76 = .ok (.putfield 75, 3) := by decide +kernel
theorem pf_Lake_75 : PF "NineBoards$Lake" 75 2 13 (.int) false := ⟨_, _, _, ct_Lake, rfl, ci_Lake, by decide, (mt_2 (List.mem_of_getElem? (i := 75) rfl) rfl), cp_Lake, cn_Lake, rfl, by decide +kernel, (fun h => by cases h)⟩
theorem d_Lake_clear_79 : decode prog_5_method_2_code 79 = .ok (.return_, 1) := by decide +kernel
set_option maxHeartbeats 4000000 in
set_option maxRecDepth 100000 in
theorem c_l_clear (l : Launch) (D : va_G) (y : Nat → ClassId) (ad : Nat → Nat) (d : LD)  : CT l D y ⟨"NineBoards$Lake", "clear", "()V"⟩ prog_5_method_2_code 1 none ({ frames := 0, cells := 0, slots := 0, locals := 0 } : Room) [.ref (ad 0)] [(ad 0, .inr (2, [.int (d.1 0), .int (d.1 1), .int (d.1 2), .int (d.1 3), .ref (ad 1), .int (d.1 4), .ref (ad 11), .ref (ad 12), .ref (ad 2), .ref (ad 3), .int (d.1 5), .int (d.1 6), .int (d.1 7), .int (d.1 8)])), (ad 1, .inr (1, [.int (d.1 9), .ref (ad 4), .ref (ad 5), .ref (ad 6), .ref (ad 7), .ref (ad 8), .ref (ad 9), .ref (ad 10)])), (ad 2, .inr (8, [.int (d.1 10), .ref (ad 13), .ref (ad 14), .ref (ad 15), .ref (ad 16), .ref (ad 17), .ref (ad 18), .ref (ad 19)])), (ad 3, .inr (6, [.int (d.1 11), .int (d.1 12), .ref (ad 20), .ref (ad 21), .ref (ad 22), .ref (ad 23), .ref (ad 24), .ref (ad 25)]))] (QV D [(ad 0, .inr (2, [.int (d.1 0), .int (d.1 1), .int (d.1 2), .int (d.1 3), .ref (ad 1), .int (d.1 4), .ref (ad 11), .ref (ad 12), .ref (ad 2), .ref (ad 3), .int (d.1 5), .int (d.1 6), .int (d.1 7), .int (d.1 8)])), (ad 1, .inr (1, [.int (d.1 9), .ref (ad 4), .ref (ad 5), .ref (ad 6), .ref (ad 7), .ref (ad 8), .ref (ad 9), .ref (ad 10)])), (ad 2, .inr (8, [.int (d.1 10), .ref (ad 13), .ref (ad 14), .ref (ad 15), .ref (ad 16), .ref (ad 17), .ref (ad 18), .ref (ad 19)])), (ad 3, .inr (6, [.int (d.1 11), .int (d.1 12), .ref (ad 20), .ref (ad 21), .ref (ad 22), .ref (ad 23), .ref (ad 24), .ref (ad 25)]))] (fun (_ : Unit) => True) (fun _ => [(ad 0, .inr (2, [.int 0, .int 1, .int 1, .int 0, .ref (ad 1), .int 0, .ref (ad 11), .ref (ad 12), .ref (ad 2), .ref (ad 3), .int 0, .int 0, .int 9999, .int 0])), (ad 1, .inr (1, [.int 0, .ref (ad 4), .ref (ad 5), .ref (ad 6), .ref (ad 7), .ref (ad 8), .ref (ad 9), .ref (ad 10)])), (ad 2, .inr (8, [.int 0, .ref (ad 13), .ref (ad 14), .ref (ad 15), .ref (ad 16), .ref (ad 17), .ref (ad 18), .ref (ad 19)])), (ad 3, .inr (6, [.int 0, .int 0, .ref (ad 20), .ref (ad 21), .ref (ad 22), .ref (ad 23), .ref (ad 24), .ref (ad 25)]))])) := by
  refine CT.of (by decide) (nb rfl) ?_
  intro p e s m args below meth c C hr
  refine j_lv (lv' := [(0, .ref (ad 0))]) rfl ?_
  refine j_aload_n (pc := 0) C d_Lake_clear_0 rfl 0 rfl ?_
  refine j_iconst (pc := 1) C (v := 0) d_Lake_clear_1 (by decide) ?_
  refine j_put (pc := 2) C pf_Lake_42 0 (ws' := [(ad 0, .inr (2, [.int 0, .int (d.1 1), .int (d.1 2), .int (d.1 3), .ref (ad 1), .int (d.1 4), .ref (ad 11), .ref (ad 12), .ref (ad 2), .ref (ad 3), .int (d.1 5), .int (d.1 6), .int (d.1 7), .int (d.1 8)])), (ad 1, .inr (1, [.int (d.1 9), .ref (ad 4), .ref (ad 5), .ref (ad 6), .ref (ad 7), .ref (ad 8), .ref (ad 9), .ref (ad 10)])), (ad 2, .inr (8, [.int (d.1 10), .ref (ad 13), .ref (ad 14), .ref (ad 15), .ref (ad 16), .ref (ad 17), .ref (ad 18), .ref (ad 19)])), (ad 3, .inr (6, [.int (d.1 11), .int (d.1 12), .ref (ad 20), .ref (ad 21), .ref (ad 22), .ref (ad 23), .ref (ad 24), .ref (ad 25)]))]) rfl rfl rfl (nl rfl) rfl d_Lake_clear_2 ?_
  refine j_aload_n (pc := 5) C d_Lake_clear_5 rfl 0 rfl ?_
  refine j_iconst (pc := 6) C (v := 1) d_Lake_clear_6 (by decide) ?_
  refine j_put (pc := 7) C pf_Lake_46 0 (ws' := [(ad 0, .inr (2, [.int 0, .int 1, .int (d.1 2), .int (d.1 3), .ref (ad 1), .int (d.1 4), .ref (ad 11), .ref (ad 12), .ref (ad 2), .ref (ad 3), .int (d.1 5), .int (d.1 6), .int (d.1 7), .int (d.1 8)])), (ad 1, .inr (1, [.int (d.1 9), .ref (ad 4), .ref (ad 5), .ref (ad 6), .ref (ad 7), .ref (ad 8), .ref (ad 9), .ref (ad 10)])), (ad 2, .inr (8, [.int (d.1 10), .ref (ad 13), .ref (ad 14), .ref (ad 15), .ref (ad 16), .ref (ad 17), .ref (ad 18), .ref (ad 19)])), (ad 3, .inr (6, [.int (d.1 11), .int (d.1 12), .ref (ad 20), .ref (ad 21), .ref (ad 22), .ref (ad 23), .ref (ad 24), .ref (ad 25)]))]) rfl rfl rfl (nl rfl) rfl d_Lake_clear_7 ?_
  refine j_aload_n (pc := 10) C d_Lake_clear_10 rfl 0 rfl ?_
  refine j_iconst (pc := 11) C (v := 1) d_Lake_clear_11 (by decide) ?_
  refine j_put (pc := 12) C pf_Lake_49 0 (ws' := [(ad 0, .inr (2, [.int 0, .int 1, .int 1, .int (d.1 3), .ref (ad 1), .int (d.1 4), .ref (ad 11), .ref (ad 12), .ref (ad 2), .ref (ad 3), .int (d.1 5), .int (d.1 6), .int (d.1 7), .int (d.1 8)])), (ad 1, .inr (1, [.int (d.1 9), .ref (ad 4), .ref (ad 5), .ref (ad 6), .ref (ad 7), .ref (ad 8), .ref (ad 9), .ref (ad 10)])), (ad 2, .inr (8, [.int (d.1 10), .ref (ad 13), .ref (ad 14), .ref (ad 15), .ref (ad 16), .ref (ad 17), .ref (ad 18), .ref (ad 19)])), (ad 3, .inr (6, [.int (d.1 11), .int (d.1 12), .ref (ad 20), .ref (ad 21), .ref (ad 22), .ref (ad 23), .ref (ad 24), .ref (ad 25)]))]) rfl rfl rfl (nl rfl) rfl d_Lake_clear_12 ?_
  refine j_aload_n (pc := 15) C d_Lake_clear_15 rfl 0 rfl ?_
  refine j_iconst (pc := 16) C (v := 0) d_Lake_clear_16 (by decide) ?_
  refine j_put (pc := 17) C pf_Lake_52 0 (ws' := [(ad 0, .inr (2, [.int 0, .int 1, .int 1, .int 0, .ref (ad 1), .int (d.1 4), .ref (ad 11), .ref (ad 12), .ref (ad 2), .ref (ad 3), .int (d.1 5), .int (d.1 6), .int (d.1 7), .int (d.1 8)])), (ad 1, .inr (1, [.int (d.1 9), .ref (ad 4), .ref (ad 5), .ref (ad 6), .ref (ad 7), .ref (ad 8), .ref (ad 9), .ref (ad 10)])), (ad 2, .inr (8, [.int (d.1 10), .ref (ad 13), .ref (ad 14), .ref (ad 15), .ref (ad 16), .ref (ad 17), .ref (ad 18), .ref (ad 19)])), (ad 3, .inr (6, [.int (d.1 11), .int (d.1 12), .ref (ad 20), .ref (ad 21), .ref (ad 22), .ref (ad 23), .ref (ad 24), .ref (ad 25)]))]) rfl rfl rfl (nl rfl) rfl d_Lake_clear_17 ?_
  refine j_aload_n (pc := 20) C d_Lake_clear_20 rfl 0 rfl ?_
  refine j_get (pc := 21) C gf_Lake_12 0 rfl rfl d_Lake_clear_21 ?_
  refine j_iconst (pc := 24) C (v := 0) d_Lake_clear_24 (by decide) ?_
  refine j_put (pc := 25) C pf_Lake_55 1 (ws' := [(ad 0, .inr (2, [.int 0, .int 1, .int 1, .int 0, .ref (ad 1), .int (d.1 4), .ref (ad 11), .ref (ad 12), .ref (ad 2), .ref (ad 3), .int (d.1 5), .int (d.1 6), .int (d.1 7), .int (d.1 8)])), (ad 1, .inr (1, [.int 0, .ref (ad 4), .ref (ad 5), .ref (ad 6), .ref (ad 7), .ref (ad 8), .ref (ad 9), .ref (ad 10)])), (ad 2, .inr (8, [.int (d.1 10), .ref (ad 13), .ref (ad 14), .ref (ad 15), .ref (ad 16), .ref (ad 17), .ref (ad 18), .ref (ad 19)])), (ad 3, .inr (6, [.int (d.1 11), .int (d.1 12), .ref (ad 20), .ref (ad 21), .ref (ad 22), .ref (ad 23), .ref (ad 24), .ref (ad 25)]))]) rfl rfl rfl (nl rfl) rfl d_Lake_clear_25 ?_
  refine j_aload_n (pc := 28) C d_Lake_clear_28 rfl 0 rfl ?_
  refine j_iconst (pc := 29) C (v := 0) d_Lake_clear_29 (by decide) ?_
  refine j_put (pc := 30) C pf_Lake_58 0 (ws' := [(ad 0, .inr (2, [.int 0, .int 1, .int 1, .int 0, .ref (ad 1), .int 0, .ref (ad 11), .ref (ad 12), .ref (ad 2), .ref (ad 3), .int (d.1 5), .int (d.1 6), .int (d.1 7), .int (d.1 8)])), (ad 1, .inr (1, [.int 0, .ref (ad 4), .ref (ad 5), .ref (ad 6), .ref (ad 7), .ref (ad 8), .ref (ad 9), .ref (ad 10)])), (ad 2, .inr (8, [.int (d.1 10), .ref (ad 13), .ref (ad 14), .ref (ad 15), .ref (ad 16), .ref (ad 17), .ref (ad 18), .ref (ad 19)])), (ad 3, .inr (6, [.int (d.1 11), .int (d.1 12), .ref (ad 20), .ref (ad 21), .ref (ad 22), .ref (ad 23), .ref (ad 24), .ref (ad 25)]))]) rfl rfl rfl (nl rfl) rfl d_Lake_clear_30 ?_
  refine j_aload_n (pc := 33) C d_Lake_clear_33 rfl 0 rfl ?_
  refine j_get (pc := 34) C gf_Lake_28 0 rfl rfl d_Lake_clear_34 ?_
  refine j_iconst (pc := 37) C (v := 0) d_Lake_clear_37 (by decide) ?_
  refine j_put (pc := 38) C pf_Lake_61 2 (ws' := [(ad 0, .inr (2, [.int 0, .int 1, .int 1, .int 0, .ref (ad 1), .int 0, .ref (ad 11), .ref (ad 12), .ref (ad 2), .ref (ad 3), .int (d.1 5), .int (d.1 6), .int (d.1 7), .int (d.1 8)])), (ad 1, .inr (1, [.int 0, .ref (ad 4), .ref (ad 5), .ref (ad 6), .ref (ad 7), .ref (ad 8), .ref (ad 9), .ref (ad 10)])), (ad 2, .inr (8, [.int 0, .ref (ad 13), .ref (ad 14), .ref (ad 15), .ref (ad 16), .ref (ad 17), .ref (ad 18), .ref (ad 19)])), (ad 3, .inr (6, [.int (d.1 11), .int (d.1 12), .ref (ad 20), .ref (ad 21), .ref (ad 22), .ref (ad 23), .ref (ad 24), .ref (ad 25)]))]) rfl rfl rfl (nl rfl) rfl d_Lake_clear_38 ?_
  refine j_aload_n (pc := 41) C d_Lake_clear_41 rfl 0 rfl ?_
  refine j_get (pc := 42) C gf_Lake_35 0 rfl rfl d_Lake_clear_42 ?_
  refine j_iconst (pc := 45) C (v := 0) d_Lake_clear_45 (by decide) ?_
  refine j_put (pc := 46) C pf_Lake_62 3 (ws' := [(ad 0, .inr (2, [.int 0, .int 1, .int 1, .int 0, .ref (ad 1), .int 0, .ref (ad 11), .ref (ad 12), .ref (ad 2), .ref (ad 3), .int (d.1 5), .int (d.1 6), .int (d.1 7), .int (d.1 8)])), (ad 1, .inr (1, [.int 0, .ref (ad 4), .ref (ad 5), .ref (ad 6), .ref (ad 7), .ref (ad 8), .ref (ad 9), .ref (ad 10)])), (ad 2, .inr (8, [.int 0, .ref (ad 13), .ref (ad 14), .ref (ad 15), .ref (ad 16), .ref (ad 17), .ref (ad 18), .ref (ad 19)])), (ad 3, .inr (6, [.int 0, .int (d.1 12), .ref (ad 20), .ref (ad 21), .ref (ad 22), .ref (ad 23), .ref (ad 24), .ref (ad 25)]))]) rfl rfl rfl (nl rfl) rfl d_Lake_clear_46 ?_
  refine j_aload_n (pc := 49) C d_Lake_clear_49 rfl 0 rfl ?_
  refine j_get (pc := 50) C gf_Lake_35 0 rfl rfl d_Lake_clear_50 ?_
  refine j_iconst (pc := 53) C (v := 0) d_Lake_clear_53 (by decide) ?_
  refine j_put (pc := 54) C pf_Lake_63 3 (ws' := [(ad 0, .inr (2, [.int 0, .int 1, .int 1, .int 0, .ref (ad 1), .int 0, .ref (ad 11), .ref (ad 12), .ref (ad 2), .ref (ad 3), .int (d.1 5), .int (d.1 6), .int (d.1 7), .int (d.1 8)])), (ad 1, .inr (1, [.int 0, .ref (ad 4), .ref (ad 5), .ref (ad 6), .ref (ad 7), .ref (ad 8), .ref (ad 9), .ref (ad 10)])), (ad 2, .inr (8, [.int 0, .ref (ad 13), .ref (ad 14), .ref (ad 15), .ref (ad 16), .ref (ad 17), .ref (ad 18), .ref (ad 19)])), (ad 3, .inr (6, [.int 0, .int 0, .ref (ad 20), .ref (ad 21), .ref (ad 22), .ref (ad 23), .ref (ad 24), .ref (ad 25)]))]) rfl rfl rfl (nl rfl) rfl d_Lake_clear_54 ?_
  refine j_aload_n (pc := 57) C d_Lake_clear_57 rfl 0 rfl ?_
  refine j_iconst (pc := 58) C (v := 0) d_Lake_clear_58 (by decide) ?_
  refine j_put (pc := 59) C pf_Lake_66 0 (ws' := [(ad 0, .inr (2, [.int 0, .int 1, .int 1, .int 0, .ref (ad 1), .int 0, .ref (ad 11), .ref (ad 12), .ref (ad 2), .ref (ad 3), .int 0, .int (d.1 6), .int (d.1 7), .int (d.1 8)])), (ad 1, .inr (1, [.int 0, .ref (ad 4), .ref (ad 5), .ref (ad 6), .ref (ad 7), .ref (ad 8), .ref (ad 9), .ref (ad 10)])), (ad 2, .inr (8, [.int 0, .ref (ad 13), .ref (ad 14), .ref (ad 15), .ref (ad 16), .ref (ad 17), .ref (ad 18), .ref (ad 19)])), (ad 3, .inr (6, [.int 0, .int 0, .ref (ad 20), .ref (ad 21), .ref (ad 22), .ref (ad 23), .ref (ad 24), .ref (ad 25)]))]) rfl rfl rfl (nl rfl) rfl d_Lake_clear_59 ?_
  refine j_aload_n (pc := 62) C d_Lake_clear_62 rfl 0 rfl ?_
  refine j_iconst (pc := 63) C (v := 0) d_Lake_clear_63 (by decide) ?_
  refine j_put (pc := 64) C pf_Lake_69 0 (ws' := [(ad 0, .inr (2, [.int 0, .int 1, .int 1, .int 0, .ref (ad 1), .int 0, .ref (ad 11), .ref (ad 12), .ref (ad 2), .ref (ad 3), .int 0, .int 0, .int (d.1 7), .int (d.1 8)])), (ad 1, .inr (1, [.int 0, .ref (ad 4), .ref (ad 5), .ref (ad 6), .ref (ad 7), .ref (ad 8), .ref (ad 9), .ref (ad 10)])), (ad 2, .inr (8, [.int 0, .ref (ad 13), .ref (ad 14), .ref (ad 15), .ref (ad 16), .ref (ad 17), .ref (ad 18), .ref (ad 19)])), (ad 3, .inr (6, [.int 0, .int 0, .ref (ad 20), .ref (ad 21), .ref (ad 22), .ref (ad 23), .ref (ad 24), .ref (ad 25)]))]) rfl rfl rfl (nl rfl) rfl d_Lake_clear_64 ?_
  refine j_aload_n (pc := 67) C d_Lake_clear_67 rfl 0 rfl ?_
  refine j_sipush (pc := 68) C (v := 9999) d_Lake_clear_68 (by decide) ?_
  refine j_put (pc := 71) C pf_Lake_72 0 (ws' := [(ad 0, .inr (2, [.int 0, .int 1, .int 1, .int 0, .ref (ad 1), .int 0, .ref (ad 11), .ref (ad 12), .ref (ad 2), .ref (ad 3), .int 0, .int 0, .int 9999, .int (d.1 8)])), (ad 1, .inr (1, [.int 0, .ref (ad 4), .ref (ad 5), .ref (ad 6), .ref (ad 7), .ref (ad 8), .ref (ad 9), .ref (ad 10)])), (ad 2, .inr (8, [.int 0, .ref (ad 13), .ref (ad 14), .ref (ad 15), .ref (ad 16), .ref (ad 17), .ref (ad 18), .ref (ad 19)])), (ad 3, .inr (6, [.int 0, .int 0, .ref (ad 20), .ref (ad 21), .ref (ad 22), .ref (ad 23), .ref (ad 24), .ref (ad 25)]))]) rfl rfl rfl (nl rfl) rfl d_Lake_clear_71 ?_
  refine j_aload_n (pc := 74) C d_Lake_clear_74 rfl 0 rfl ?_
  refine j_iconst (pc := 75) C (v := 0) d_Lake_clear_75 (by decide) ?_
  refine j_put (pc := 76) C pf_Lake_75 0 (ws' := [(ad 0, .inr (2, [.int 0, .int 1, .int 1, .int 0, .ref (ad 1), .int 0, .ref (ad 11), .ref (ad 12), .ref (ad 2), .ref (ad 3), .int 0, .int 0, .int 9999, .int 0])), (ad 1, .inr (1, [.int 0, .ref (ad 4), .ref (ad 5), .ref (ad 6), .ref (ad 7), .ref (ad 8), .ref (ad 9), .ref (ad 10)])), (ad 2, .inr (8, [.int 0, .ref (ad 13), .ref (ad 14), .ref (ad 15), .ref (ad 16), .ref (ad 17), .ref (ad 18), .ref (ad 19)])), (ad 3, .inr (6, [.int 0, .int 0, .ref (ad 20), .ref (ad 21), .ref (ad 22), .ref (ad 23), .ref (ad 24), .ref (ad 25)]))]) rfl rfl rfl (nl rfl) rfl d_Lake_clear_76 ?_
  exact j_vret (pc := 79) C hr () trivial [0, 1, 2, 3] rfl (by decide) (by decide) (by decide) d_Lake_clear_79
theorem lv_none {d : LD} (a : d.1 4 = 0) (b : d.1 10 = 0) : LV d := by
  refine ⟨fun n hn e j hj => ?_, fun n hn e j hj => ?_⟩
  · rw [a] at e
    have := (nI_eq (a := 0) (b := n) (by omega) (by omega)).mp e
    omega
  · rw [b] at e
    have := (nI_eq (a := 0) (b := n) (by omega) (by omega)).mp e
    omega
theorem d_Reader_read_0 : decode prog_8_method_2_code 0 = .ok (.aload_n 0, 1) := by decide +kernel
theorem d_Reader_read_1 : decode prog_8_method_2_code 1 = .ok (.aload_n 1, 1) := by decide +kernel
theorem d_Reader_read_2 : decode prog_8_method_2_code 2 = .ok (.putfield 23, 3) := by decide +kernel
theorem pf_Reader_23 : PF "NineBoards$Reader" 23 5 4 (.object "NineBoards$Lake") false := ⟨_, _, _, ct_Reader, rfl, ci_Reader, by decide, (mt_2 (List.mem_of_getElem? (i := 168) rfl) rfl), cp_Reader, cn_Reader, rfl, by decide +kernel, (fun h => by cases h)⟩
theorem d_Reader_read_5 : decode prog_8_method_2_code 5 = .ok (.aload_n 0, 1) := by decide +kernel
theorem d_Reader_read_6 : decode prog_8_method_2_code 6 = .ok (.getfield 23, 3) := by decide +kernel
theorem d_Reader_read_9 : decode prog_8_method_2_code 9 = .ok (.invokevirtual 39, 3) := by decide +kernel
theorem kw_Reader_39 : KW "NineBoards$Reader" 39 ⟨"NineBoards$Lake", "clear", "()V"⟩ prog_5_method_2_code 1 none 0 := ⟨(mt_3 (List.mem_of_getElem? (i := 50) rfl) rfl), (mt_1 (List.mem_of_getElem? (i := 6) rfl) rfl), (mt_2 (List.mem_of_getElem? (i := 29) rfl) rfl), by decide +kernel⟩
theorem kv_Lake_clear : Cond.instanceMethod ⟨"NineBoards$Lake", "clear", "()V"⟩ ∈ TB ∧ Cond.selects "NineBoards$Lake" ⟨"NineBoards$Lake", "clear", "()V"⟩ ⟨"NineBoards$Lake", "clear", "()V"⟩ ∈ TB := ⟨(mt_2 (List.mem_of_getElem? (i := 27) rfl) rfl), (mt_2 (List.mem_of_getElem? (i := 28) rfl) rfl)⟩
theorem d_Reader_read_12 : decode prog_8_method_2_code 12 = .ok (.aload_n 0, 1) := by decide +kernel
theorem d_Reader_read_13 : decode prog_8_method_2_code 13 = .ok (.iconst 0, 1) := by decide +kernel
theorem d_Reader_read_14 : decode prog_8_method_2_code 14 = .ok (.putfield 44, 3) := by decide +kernel
theorem d_Reader_read_17 : decode prog_8_method_2_code 17 = .ok (.aload_n 0, 1) := by decide +kernel
theorem d_Reader_read_18 : decode prog_8_method_2_code 18 = .ok (.iconst (-1), 1) := by decide +kernel
theorem d_Reader_read_19 : decode prog_8_method_2_code 19 = .ok (.putfield 9, 3) := by decide +kernel
theorem d_Reader_read_22 : decode prog_8_method_2_code 22 = .ok (.aload_n 0, 1) := by decide +kernel
theorem d_Reader_read_23 : decode prog_8_method_2_code 23 = .ok (.iconst 0, 1) := by decide +kernel
theorem d_Reader_read_24 : decode prog_8_method_2_code 24 = .ok (.putfield 47, 3) := by decide +kernel
theorem d_Reader_read_27 : decode prog_8_method_2_code 27 = .ok (.aload_n 0, 1) := by decide +kernel
theorem d_Reader_read_28 : decode prog_8_method_2_code 28 = .ok (.iconst 0, 1) := by decide +kernel
theorem d_Reader_read_29 : decode prog_8_method_2_code 29 = .ok (.putfield 50, 3) := by decide +kernel
theorem d_Reader_read_32 : decode prog_8_method_2_code 32 = .ok (.aload_n 0, 1) := by decide +kernel
theorem d_Reader_read_33 : decode prog_8_method_2_code 33 = .ok (.invokevirtual 53, 3) := by decide +kernel
theorem d_Reader_read_36 : decode prog_8_method_2_code 36 = .ok (.aload_n 0, 1) := by decide +kernel
theorem d_Reader_read_37 : decode prog_8_method_2_code 37 = .ok (.invokevirtual 56, 3) := by decide +kernel
theorem kw_Reader_56 : KW "NineBoards$Reader" 56 ⟨"NineBoards$Reader", "readLake", "()V"⟩ prog_8_method_5_code 1 none 0 := ⟨(mt_3 (List.mem_of_getElem? (i := 69) rfl) rfl), (mt_1 (List.mem_of_getElem? (i := 10) rfl) rfl), (mt_3 (List.mem_of_getElem? (i := 72) rfl) rfl), by decide +kernel⟩
theorem kv_Reader_readLake : Cond.instanceMethod ⟨"NineBoards$Reader", "readLake", "()V"⟩ ∈ TB ∧ Cond.selects "NineBoards$Reader" ⟨"NineBoards$Reader", "readLake", "()V"⟩ ⟨"NineBoards$Reader", "readLake", "()V"⟩ ∈ TB := ⟨(mt_3 (List.mem_of_getElem? (i := 71) rfl) rfl), (ms_0 (List.mem_map.mpr ⟨(⟨"NineBoards$Reader", "readLake", "()V"⟩, 12), List.mem_of_getElem? (i := 3) (by decide +kernel), rfl⟩) rfl)⟩
theorem d_Reader_read_40 : decode prog_8_method_2_code 40 = .ok (.aload_n 0, 1) := by decide +kernel
theorem d_Reader_read_41 : decode prog_8_method_2_code 41 = .ok (.invokevirtual 59, 3) := by decide +kernel
theorem kw_Reader_59 : KW "NineBoards$Reader" 59 ⟨"NineBoards$Reader", "endStatement", "()V"⟩ prog_8_method_4_code 1 none 0 := ⟨(mt_3 (List.mem_of_getElem? (i := 89) rfl) rfl), (mt_1 (List.mem_of_getElem? (i := 10) rfl) rfl), (mt_3 (List.mem_of_getElem? (i := 92) rfl) rfl), by decide +kernel⟩
theorem kv_Reader_endStatement : Cond.instanceMethod ⟨"NineBoards$Reader", "endStatement", "()V"⟩ ∈ TB ∧ Cond.selects "NineBoards$Reader" ⟨"NineBoards$Reader", "endStatement", "()V"⟩ ⟨"NineBoards$Reader", "endStatement", "()V"⟩ ∈ TB := ⟨(mt_3 (List.mem_of_getElem? (i := 91) rfl) rfl), (ms_0 (List.mem_map.mpr ⟨(⟨"NineBoards$Reader", "endStatement", "()V"⟩, 12), List.mem_of_getElem? (i := 8) (by decide +kernel), rfl⟩) rfl)⟩
theorem d_Reader_read_44 : decode prog_8_method_2_code 44 = .ok (.iconst 1, 1) := by decide +kernel
theorem d_Reader_read_45 : decode prog_8_method_2_code 45 = .ok (.istore_n 2, 1) := by decide +kernel
theorem d_Reader_read_46 : decode prog_8_method_2_code 46 = .ok (.iload_n 2, 1) := by decide +kernel
theorem d_Reader_read_47 : decode prog_8_method_2_code 47 = .ok (.bipush 60, 2) := by decide +kernel
theorem d_Reader_read_49 : decode prog_8_method_2_code 49 = .ok (.if_icmp .gt 88, 3) := by decide +kernel
theorem d_Reader_read_137 : decode prog_8_method_2_code 137 = .ok (.return_, 1) := by decide +kernel
theorem d_Reader_read_52 : decode prog_8_method_2_code 52 = .ok (.aload_n 0, 1) := by decide +kernel
theorem d_Reader_read_53 : decode prog_8_method_2_code 53 = .ok (.getfield 44, 3) := by decide +kernel
theorem d_Reader_read_56 : decode prog_8_method_2_code 56 = .ok (.ifCond .ne 81, 3) := by decide +kernel
theorem d_Reader_read_59 : decode prog_8_method_2_code 59 = .ok (.aload_n 0, 1) := by decide +kernel
theorem d_Reader_read_60 : decode prog_8_method_2_code 60 = .ok (.getfield 50, 3) := by decide +kernel
theorem d_Reader_read_63 : decode prog_8_method_2_code 63 = .ok (.ifCond .eq 74, 3) := by decide +kernel
theorem d_Reader_read_66 : decode prog_8_method_2_code 66 = .ok (.iload_n 2, 1) := by decide +kernel
theorem d_Reader_read_67 : decode prog_8_method_2_code 67 = .ok (.bipush 60, 2) := by decide +kernel
theorem d_Reader_read_69 : decode prog_8_method_2_code 69 = .ok (.if_icmp .ne 15, 3) := by decide +kernel
theorem d_Reader_read_84 : decode prog_8_method_2_code 84 = .ok (.aload_n 0, 1) := by decide +kernel
theorem d_Reader_read_85 : decode prog_8_method_2_code 85 = .ok (.bipush 21, 2) := by decide +kernel
theorem d_Reader_read_87 : decode prog_8_method_2_code 87 = .ok (.invokevirtual 69, 3) := by decide +kernel
theorem d_Reader_read_90 : decode prog_8_method_2_code 90 = .ok (.ifCond .ne 12, 3) := by decide +kernel
theorem d_Reader_read_102 : decode prog_8_method_2_code 102 = .ok (.aload_n 0, 1) := by decide +kernel
theorem d_Reader_read_103 : decode prog_8_method_2_code 103 = .ok (.aload_n 0, 1) := by decide +kernel
theorem d_Reader_read_104 : decode prog_8_method_2_code 104 = .ok (.bipush 21, 2) := by decide +kernel
theorem d_Reader_read_106 : decode prog_8_method_2_code 106 = .ok (.invokevirtual 69, 3) := by decide +kernel
theorem d_Reader_read_109 : decode prog_8_method_2_code 109 = .ok (.ifCond .eq 7, 3) := by decide +kernel
theorem d_Reader_read_116 : decode prog_8_method_2_code 116 = .ok (.iconst 1, 1) := by decide +kernel
theorem d_Reader_read_117 : decode prog_8_method_2_code 117 = .ok (.invokevirtual 73, 3) := by decide +kernel
theorem kw_Reader_73 : KW "NineBoards$Reader" 73 ⟨"NineBoards$Reader", "readRule", "(I)V"⟩ prog_8_method_13_code 4 none 1 := ⟨(mt_3 (List.mem_of_getElem? (i := 101) rfl) rfl), (mt_1 (List.mem_of_getElem? (i := 10) rfl) rfl), (mt_3 (List.mem_of_getElem? (i := 104) rfl) rfl), by decide +kernel⟩
theorem kv_Reader_readRule : Cond.instanceMethod ⟨"NineBoards$Reader", "readRule", "(I)V"⟩ ∈ TB ∧ Cond.selects "NineBoards$Reader" ⟨"NineBoards$Reader", "readRule", "(I)V"⟩ ⟨"NineBoards$Reader", "readRule", "(I)V"⟩ ∈ TB := ⟨(mt_3 (List.mem_of_getElem? (i := 103) rfl) rfl), (ms_0 (List.mem_map.mpr ⟨(⟨"NineBoards$Reader", "readRule", "(I)V"⟩, 12), List.mem_of_getElem? (i := 11) (by decide +kernel), rfl⟩) rfl)⟩
theorem d_Reader_read_120 : decode prog_8_method_2_code 120 = .ok (.goto 7, 3) := by decide +kernel
theorem d_Reader_read_127 : decode prog_8_method_2_code 127 = .ok (.aload_n 0, 1) := by decide +kernel
theorem d_Reader_read_128 : decode prog_8_method_2_code 128 = .ok (.invokevirtual 59, 3) := by decide +kernel
theorem d_Reader_read_131 : decode prog_8_method_2_code 131 = .ok (.iinc 2 1, 3) := by decide +kernel
theorem d_Reader_read_134 : decode prog_8_method_2_code 134 = .ok (.goto (-88), 3) := by decide +kernel
theorem d_Reader_read_112 : decode prog_8_method_2_code 112 = .ok (.iconst 0, 1) := by decide +kernel
theorem d_Reader_read_113 : decode prog_8_method_2_code 113 = .ok (.goto 4, 3) := by decide +kernel
theorem d_Reader_read_93 : decode prog_8_method_2_code 93 = .ok (.aload_n 0, 1) := by decide +kernel
theorem d_Reader_read_94 : decode prog_8_method_2_code 94 = .ok (.bipush 22, 2) := by decide +kernel
theorem d_Reader_read_96 : decode prog_8_method_2_code 96 = .ok (.invokevirtual 69, 3) := by decide +kernel
theorem d_Reader_read_99 : decode prog_8_method_2_code 99 = .ok (.ifCond .eq 24, 3) := by decide +kernel
theorem d_Reader_read_123 : decode prog_8_method_2_code 123 = .ok (.aload_n 0, 1) := by decide +kernel
theorem d_Reader_read_124 : decode prog_8_method_2_code 124 = .ok (.invokevirtual 77, 3) := by decide +kernel
theorem kw_Reader_77 : KW "NineBoards$Reader" 77 ⟨"NineBoards$Reader", "readStatement", "()V"⟩ prog_8_method_3_code 1 none 0 := ⟨(mt_3 (List.mem_of_getElem? (i := 145) rfl) rfl), (mt_1 (List.mem_of_getElem? (i := 10) rfl) rfl), (mt_3 (List.mem_of_getElem? (i := 148) rfl) rfl), by decide +kernel⟩
theorem kv_Reader_readStatement : Cond.instanceMethod ⟨"NineBoards$Reader", "readStatement", "()V"⟩ ∈ TB ∧ Cond.selects "NineBoards$Reader" ⟨"NineBoards$Reader", "readStatement", "()V"⟩ ⟨"NineBoards$Reader", "readStatement", "()V"⟩ ∈ TB := ⟨(mt_3 (List.mem_of_getElem? (i := 147) rfl) rfl), (ms_0 (List.mem_map.mpr ⟨(⟨"NineBoards$Reader", "readStatement", "()V"⟩, 12), List.mem_of_getElem? (i := 21) (by decide +kernel), rfl⟩) rfl)⟩
theorem d_Reader_read_72 : decode prog_8_method_2_code 72 = .ok (.aload_n 0, 1) := by decide +kernel
theorem d_Reader_read_73 : decode prog_8_method_2_code 73 = .ok (.iconst 5, 1) := by decide +kernel
theorem d_Reader_read_74 : decode prog_8_method_2_code 74 = .ok (.aload_n 0, 1) := by decide +kernel
theorem d_Reader_read_75 : decode prog_8_method_2_code 75 = .ok (.getfield 62, 3) := by decide +kernel
theorem d_Reader_read_78 : decode prog_8_method_2_code 78 = .ok (.invokevirtual 65, 3) := by decide +kernel
theorem d_Reader_read_81 : decode prog_8_method_2_code 81 = .ok (.goto 46, 3) := by decide +kernel
