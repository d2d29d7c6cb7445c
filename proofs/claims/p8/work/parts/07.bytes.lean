theorem pk_in2 {k : Int32} {n : Nat} (h0 : ¬ k < 0) (h1 : ¬ Int32.ofNat n ≤ k) (hn : n < 2 ^ 31 := by decide) : vp_in k n := by
  obtain ⟨j, hj, e⟩ := nI_of h0
  subst e
  refine vp_in_nI ?_ hn
  rcases Nat.lt_or_ge j n with q | q
  · exact q
  · exact absurd (nI_le q hj) h1
theorem d_Bytes_put_0 : decode prog_2_method_2_code 0 = .ok (.aload_n 0, 1) := by decide +kernel
theorem d_Bytes_put_1 : decode prog_2_method_2_code 1 = .ok (.getfield 21, 3) := by decide +kernel
theorem gf_Bytes_21 : GF "NineBoards$Bytes" 21 0 1 := ⟨_, _, _, rfl, ci_Bytes, by decide, (mt_1 (List.mem_of_getElem? (i := 38) rfl) rfl)⟩
theorem d_Bytes_put_4 : decode prog_2_method_2_code 4 = .ok (.ifCond .lt 39, 3) := by decide +kernel
theorem d_Bytes_put_7 : decode prog_2_method_2_code 7 = .ok (.aload_n 0, 1) := by decide +kernel
theorem d_Bytes_put_8 : decode prog_2_method_2_code 8 = .ok (.getfield 21, 3) := by decide +kernel
theorem d_Bytes_put_11 : decode prog_2_method_2_code 11 = .ok (.aload_n 0, 1) := by decide +kernel
theorem d_Bytes_put_12 : decode prog_2_method_2_code 12 = .ok (.getfield 15, 3) := by decide +kernel
theorem gf_Bytes_15 : GF "NineBoards$Bytes" 15 0 0 := ⟨_, _, _, rfl, ci_Bytes, by decide, (mt_1 (List.mem_of_getElem? (i := 36) rfl) rfl)⟩
theorem d_Bytes_put_15 : decode prog_2_method_2_code 15 = .ok (.arraylength, 1) := by decide +kernel
theorem d_Bytes_put_16 : decode prog_2_method_2_code 16 = .ok (.if_icmp .ge 27, 3) := by decide +kernel
theorem d_Bytes_put_19 : decode prog_2_method_2_code 19 = .ok (.aload_n 0, 1) := by decide +kernel
theorem d_Bytes_put_20 : decode prog_2_method_2_code 20 = .ok (.getfield 15, 3) := by decide +kernel
theorem d_Bytes_put_23 : decode prog_2_method_2_code 23 = .ok (.aload_n 0, 1) := by decide +kernel
theorem d_Bytes_put_24 : decode prog_2_method_2_code 24 = .ok (.getfield 21, 3) := by decide +kernel
theorem d_Bytes_put_27 : decode prog_2_method_2_code 27 = .ok (.iload_n 1, 1) := by decide +kernel
theorem d_Bytes_put_28 : decode prog_2_method_2_code 28 = .ok (.sipush 255, 3) := by decide +kernel
theorem d_Bytes_put_31 : decode prog_2_method_2_code 31 = .ok (.iand, 1) := by decide +kernel
theorem d_Bytes_put_32 : decode prog_2_method_2_code 32 = .ok (.iastore, 1) := by decide +kernel
theorem d_Bytes_put_33 : decode prog_2_method_2_code 33 = .ok (.aload_n 0, 1) := by decide +kernel
theorem d_Bytes_put_34 : decode prog_2_method_2_code 34 = .ok (.dup, 1) := by decide +kernel
theorem d_Bytes_put_35 : decode prog_2_method_2_code 35 = .ok (.getfield 21, 3) := by decide +kernel
theorem d_Bytes_put_38 : decode prog_2_method_2_code 38 = .ok (.iconst 1, 1) := by decide +kernel
theorem d_Bytes_put_39 : decode prog_2_method_2_code 39 = .ok (.iadd, 1) := by decide +kernel
theorem d_Bytes_put_40 : decode prog_2_method_2_code 40 = .ok (.putfield 21, 3) := by decide +kernel
theorem pf_Bytes_21 : PF "NineBoards$Bytes" 21 0 1 (.int) false := ⟨_, _, _, ct_Bytes, rfl, ci_Bytes, by decide, (mt_1 (List.mem_of_getElem? (i := 38) rfl) rfl), cp_Bytes, cn_Bytes, rfl, by decide +kernel, (fun h => by cases h)⟩
theorem d_Bytes_put_43 : decode prog_2_method_2_code 43 = .ok (.return_, 1) := by decide +kernel
theorem d_Bytes_putTwo_0 : decode prog_2_method_3_code 0 = .ok (.aload_n 0, 1) := by decide +kernel
theorem d_Bytes_putTwo_1 : decode prog_2_method_3_code 1 = .ok (.iload_n 1, 1) := by decide +kernel
theorem d_Bytes_putTwo_2 : decode prog_2_method_3_code 2 = .ok (.bipush 8, 2) := by decide +kernel
theorem d_Bytes_putTwo_4 : decode prog_2_method_3_code 4 = .ok (.ishr, 1) := by decide +kernel
theorem d_Bytes_putTwo_5 : decode prog_2_method_3_code 5 = .ok (.invokevirtual 25, 3) := by decide +kernel
theorem kw_Bytes_25 : KW "NineBoards$Bytes" 25 ⟨"NineBoards$Bytes", "put", "(I)V"⟩ prog_2_method_2_code 2 none 1 := ⟨(mt_3 (List.mem_of_getElem? (i := 34) rfl) rfl), (mt_1 (List.mem_of_getElem? (i := 2) rfl) rfl), (mt_3 (List.mem_of_getElem? (i := 37) rfl) rfl), by decide +kernel⟩
theorem kv_Bytes_put : Cond.instanceMethod ⟨"NineBoards$Bytes", "put", "(I)V"⟩ ∈ TB ∧ Cond.selects "NineBoards$Bytes" ⟨"NineBoards$Bytes", "put", "(I)V"⟩ ⟨"NineBoards$Bytes", "put", "(I)V"⟩ ∈ TB := ⟨(mt_3 (List.mem_of_getElem? (i := 35) rfl) rfl), (mt_3 (List.mem_of_getElem? (i := 36) rfl) rfl)⟩
theorem d_Bytes_putTwo_8 : decode prog_2_method_3_code 8 = .ok (.aload_n 0, 1) := by decide +kernel
theorem d_Bytes_putTwo_9 : decode prog_2_method_3_code 9 = .ok (.iload_n 1, 1) := by decide +kernel
theorem d_Bytes_putTwo_10 : decode prog_2_method_3_code 10 = .ok (.invokevirtual 25, 3) := by decide +kernel
theorem d_Bytes_putTwo_13 : decode prog_2_method_3_code 13 = .ok (.return_, 1) := by decide +kernel
theorem d_Bytes_putFour_0 : decode prog_2_method_4_code 0 = .ok (.aload_n 0, 1) := by decide +kernel
theorem d_Bytes_putFour_1 : decode prog_2_method_4_code 1 = .ok (.iload_n 1, 1) := by decide +kernel
theorem d_Bytes_putFour_2 : decode prog_2_method_4_code 2 = .ok (.bipush 16, 2) := by decide +kernel
theorem d_Bytes_putFour_4 : decode prog_2_method_4_code 4 = .ok (.ishr, 1) := by decide +kernel
theorem d_Bytes_putFour_5 : decode prog_2_method_4_code 5 = .ok (.invokevirtual 29, 3) := by decide +kernel
theorem kw_Bytes_29 : KW "NineBoards$Bytes" 29 ⟨"NineBoards$Bytes", "putTwo", "(I)V"⟩ prog_2_method_3_code 2 none 1 := ⟨(mt_3 (List.mem_of_getElem? (i := 30) rfl) rfl), (mt_1 (List.mem_of_getElem? (i := 2) rfl) rfl), (mt_3 (List.mem_of_getElem? (i := 33) rfl) rfl), by decide +kernel⟩
theorem kv_Bytes_putTwo : Cond.instanceMethod ⟨"NineBoards$Bytes", "putTwo", "(I)V"⟩ ∈ TB ∧ Cond.selects "NineBoards$Bytes" ⟨"NineBoards$Bytes", "putTwo", "(I)V"⟩ ⟨"NineBoards$Bytes", "putTwo", "(I)V"⟩ ∈ TB := ⟨(mt_3 (List.mem_of_getElem? (i := 31) rfl) rfl), (mt_3 (List.mem_of_getElem? (i := 32) rfl) rfl)⟩
theorem d_Bytes_putFour_8 : decode prog_2_method_4_code 8 = .ok (.aload_n 0, 1) := by decide +kernel
theorem d_Bytes_putFour_9 : decode prog_2_method_4_code 9 = .ok (.iload_n 1, 1) := by decide +kernel
theorem d_Bytes_putFour_10 : decode prog_2_method_4_code 10 = .ok (.invokevirtual 29, 3) := by decide +kernel
theorem d_Bytes_putFour_13 : decode prog_2_method_4_code 13 = .ok (.return_, 1) := by decide +kernel
theorem d_Bytes_at_0 : decode prog_2_method_5_code 0 = .ok (.iload_n 1, 1) := by decide +kernel
theorem d_Bytes_at_1 : decode prog_2_method_5_code 1 = .ok (.ifCond .lt 29, 3) := by decide +kernel
theorem d_Bytes_at_30 : decode prog_2_method_5_code 30 = .ok (.iconst (-1), 1) := by decide +kernel
theorem d_Bytes_at_31 : decode prog_2_method_5_code 31 = .ok (.ireturn, 1) := by decide +kernel
theorem d_Bytes_at_4 : decode prog_2_method_5_code 4 = .ok (.iload_n 1, 1) := by decide +kernel
theorem d_Bytes_at_5 : decode prog_2_method_5_code 5 = .ok (.aload_n 0, 1) := by decide +kernel
theorem d_Bytes_at_6 : decode prog_2_method_5_code 6 = .ok (.getfield 21, 3) := by decide +kernel
theorem d_Bytes_at_9 : decode prog_2_method_5_code 9 = .ok (.if_icmp .ge 21, 3) := by decide +kernel
theorem d_Bytes_check_0 : decode prog_2_method_7_code 0 = .ok (.bipush 67, 2) := by decide +kernel
theorem d_Bytes_check_2 : decode prog_2_method_7_code 2 = .ok (.istore_n 2, 1) := by decide +kernel
theorem d_Bytes_check_3 : decode prog_2_method_7_code 3 = .ok (.iconst 0, 1) := by decide +kernel
theorem d_Bytes_check_4 : decode prog_2_method_7_code 4 = .ok (.istore_n 3, 1) := by decide +kernel
theorem d_Bytes_check_5 : decode prog_2_method_7_code 5 = .ok (.iload_n 3, 1) := by decide +kernel
theorem d_Bytes_check_6 : decode prog_2_method_7_code 6 = .ok (.iload_n 1, 1) := by decide +kernel
theorem d_Bytes_check_7 : decode prog_2_method_7_code 7 = .ok (.if_icmp .ge 33, 3) := by decide +kernel
theorem d_Bytes_check_10 : decode prog_2_method_7_code 10 = .ok (.iload_n 3, 1) := by decide +kernel
theorem d_Bytes_check_11 : decode prog_2_method_7_code 11 = .ok (.aload_n 0, 1) := by decide +kernel
theorem d_Bytes_check_12 : decode prog_2_method_7_code 12 = .ok (.getfield 15, 3) := by decide +kernel
theorem d_Bytes_check_15 : decode prog_2_method_7_code 15 = .ok (.arraylength, 1) := by decide +kernel
theorem d_Bytes_check_16 : decode prog_2_method_7_code 16 = .ok (.if_icmp .ge 24, 3) := by decide +kernel
theorem d_Bytes_check_19 : decode prog_2_method_7_code 19 = .ok (.iconst 3, 1) := by decide +kernel
theorem d_Bytes_check_20 : decode prog_2_method_7_code 20 = .ok (.iload_n 2, 1) := by decide +kernel
theorem d_Bytes_check_21 : decode prog_2_method_7_code 21 = .ok (.imul, 1) := by decide +kernel
theorem d_Bytes_check_22 : decode prog_2_method_7_code 22 = .ok (.aload_n 0, 1) := by decide +kernel
theorem d_Bytes_check_23 : decode prog_2_method_7_code 23 = .ok (.getfield 15, 3) := by decide +kernel
theorem d_Bytes_check_26 : decode prog_2_method_7_code 26 = .ok (.iload_n 3, 1) := by decide +kernel
theorem d_Bytes_check_27 : decode prog_2_method_7_code 27 = .ok (.iaload, 1) := by decide +kernel
theorem d_Bytes_check_28 : decode prog_2_method_7_code 28 = .ok (.iadd, 1) := by decide +kernel
theorem d_Bytes_check_29 : decode prog_2_method_7_code 29 = .ok (.sipush 251, 3) := by decide +kernel
theorem d_Bytes_check_32 : decode prog_2_method_7_code 32 = .ok (.irem, 1) := by decide +kernel
theorem d_Bytes_check_33 : decode prog_2_method_7_code 33 = .ok (.istore_n 2, 1) := by decide +kernel
theorem d_Bytes_check_34 : decode prog_2_method_7_code 34 = .ok (.iinc 3 1, 3) := by decide +kernel
theorem d_Bytes_check_37 : decode prog_2_method_7_code 37 = .ok (.goto (-32), 3) := by decide +kernel
theorem d_Bytes_check_40 : decode prog_2_method_7_code 40 = .ok (.iload_n 2, 1) := by decide +kernel
theorem d_Bytes_check_41 : decode prog_2_method_7_code 41 = .ok (.ireturn, 1) := by decide +kernel
