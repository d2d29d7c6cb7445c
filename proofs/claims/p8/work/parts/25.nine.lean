theorem nI_le2 {x : Int32} {n : Nat} (h0 : ¬ x < 0) (h : x ≤ nI n) (hn : n < 2 ^ 31) : ∃ j : Nat, j ≤ n ∧ x = nI j := nI_of2 (nI_toInt hn) h0 h
theorem nI_le3 {x : Int32} {n : Nat} (h0 : ¬ x < 0) (h : ¬ nI n < x) (hn : n < 2 ^ 31) : ∃ j : Nat, j ≤ n ∧ x = nI j := nI_le2 h0 (Int32.not_lt.mp h) hn
theorem n_lt1 {n : Int32} (h : ¬ n < 1) : ¬ n < 0 := by
  simp only [Int32.lt_iff_toInt_lt, (by decide : Int32.toInt 1 = 1), (by decide : Int32.toInt 0 = 0)] at *
  omega
theorem nI_le1 {x : Int32} {n : Nat} (h0 : ¬ x < 1) (h : ¬ nI n < x) (hn : n < 2 ^ 31) : ∃ j : Nat, 1 ≤ j ∧ j ≤ n ∧ x = nI j := by
  obtain ⟨j, hj, e⟩ := nI_le3 (n_lt1 h0) h hn
  refine ⟨j, ?_, hj, e⟩
  rcases Nat.eq_zero_or_pos j with q | q
  · rw [q] at e
    exact absurd (by rw [e]; decide) h0
  · exact q
theorem b01 {r : Int32} (h : r = 0 ∨ r = 1) : narrow .boolean (.int r) = .int r := by
  rcases h with rfl | rfl <;> decide
theorem d_Nine_feed_0 : decode prog_1_method_2_code 0 = .ok (.aload_n 0, 1) := by decide +kernel
theorem d_Nine_feed_1 : decode prog_1_method_2_code 1 = .ok (.getfield 14, 3) := by decide +kernel
theorem gf_Nine_14 : GF "NineBoards" 14 9 0 := ⟨_, _, _, rfl, ci_Nine, by decide, (mt_2 (List.mem_of_getElem? (i := 231) rfl) rfl)⟩
theorem d_Nine_feed_4 : decode prog_1_method_2_code 4 = .ok (.getfield 70, 3) := by decide +kernel
theorem gf_Nine_70 : GF "NineBoards" 70 0 1 := ⟨_, _, _, rfl, ci_Bytes, by decide, (mt_1 (List.mem_of_getElem? (i := 39) rfl) rfl)⟩
theorem d_Nine_feed_7 : decode prog_1_method_2_code 7 = .ok (.bipush 20, 2) := by decide +kernel
theorem d_Nine_feed_9 : decode prog_1_method_2_code 9 = .ok (.iadd, 1) := by decide +kernel
theorem d_Nine_feed_10 : decode prog_1_method_2_code 10 = .ok (.sipush 1600, 3) := by decide +kernel
theorem d_Nine_feed_13 : decode prog_1_method_2_code 13 = .ok (.if_icmp .le 5, 3) := by decide +kernel
theorem d_Nine_feed_18 : decode prog_1_method_2_code 18 = .ok (.aload_n 0, 1) := by decide +kernel
theorem d_Nine_feed_19 : decode prog_1_method_2_code 19 = .ok (.getfield 14, 3) := by decide +kernel
theorem d_Nine_feed_22 : decode prog_1_method_2_code 22 = .ok (.iload_n 1, 1) := by decide +kernel
theorem d_Nine_feed_23 : decode prog_1_method_2_code 23 = .ok (.invokevirtual 73, 3) := by decide +kernel
theorem kw_Nine_73 : KW "NineBoards" 73 ⟨"NineBoards$Bytes", "putFour", "(I)V"⟩ prog_2_method_4_code 2 none 1 := ⟨(mt_3 (List.mem_of_getElem? (i := 26) rfl) rfl), (mt_1 (List.mem_of_getElem? (i := 2) rfl) rfl), (mt_3 (List.mem_of_getElem? (i := 29) rfl) rfl), by decide +kernel⟩
theorem kv_Bytes_putFour : Cond.instanceMethod ⟨"NineBoards$Bytes", "putFour", "(I)V"⟩ ∈ TB ∧ Cond.selects "NineBoards$Bytes" ⟨"NineBoards$Bytes", "putFour", "(I)V"⟩ ⟨"NineBoards$Bytes", "putFour", "(I)V"⟩ ∈ TB := ⟨(mt_3 (List.mem_of_getElem? (i := 27) rfl) rfl), (mt_3 (List.mem_of_getElem? (i := 28) rfl) rfl)⟩
theorem d_Nine_feed_26 : decode prog_1_method_2_code 26 = .ok (.aload_n 0, 1) := by decide +kernel
theorem d_Nine_feed_27 : decode prog_1_method_2_code 27 = .ok (.getfield 14, 3) := by decide +kernel
theorem d_Nine_feed_30 : decode prog_1_method_2_code 30 = .ok (.iload_n 2, 1) := by decide +kernel
theorem d_Nine_feed_31 : decode prog_1_method_2_code 31 = .ok (.invokevirtual 73, 3) := by decide +kernel
theorem d_Nine_feed_34 : decode prog_1_method_2_code 34 = .ok (.aload_n 0, 1) := by decide +kernel
theorem d_Nine_feed_35 : decode prog_1_method_2_code 35 = .ok (.getfield 14, 3) := by decide +kernel
theorem d_Nine_feed_38 : decode prog_1_method_2_code 38 = .ok (.iload_n 3, 1) := by decide +kernel
theorem d_Nine_feed_39 : decode prog_1_method_2_code 39 = .ok (.invokevirtual 73, 3) := by decide +kernel
theorem d_Nine_feed_42 : decode prog_1_method_2_code 42 = .ok (.aload_n 0, 1) := by decide +kernel
theorem d_Nine_feed_43 : decode prog_1_method_2_code 43 = .ok (.getfield 14, 3) := by decide +kernel
theorem d_Nine_feed_46 : decode prog_1_method_2_code 46 = .ok (.iload 4, 2) := by decide +kernel
theorem d_Nine_feed_48 : decode prog_1_method_2_code 48 = .ok (.invokevirtual 73, 3) := by decide +kernel
theorem d_Nine_feed_51 : decode prog_1_method_2_code 51 = .ok (.aload_n 0, 1) := by decide +kernel
theorem d_Nine_feed_52 : decode prog_1_method_2_code 52 = .ok (.getfield 14, 3) := by decide +kernel
theorem d_Nine_feed_55 : decode prog_1_method_2_code 55 = .ok (.iload 5, 2) := by decide +kernel
theorem d_Nine_feed_57 : decode prog_1_method_2_code 57 = .ok (.invokevirtual 73, 3) := by decide +kernel
theorem d_Nine_feed_60 : decode prog_1_method_2_code 60 = .ok (.aload_n 0, 1) := by decide +kernel
theorem d_Nine_feed_61 : decode prog_1_method_2_code 61 = .ok (.getfield 14, 3) := by decide +kernel
theorem d_Nine_feed_64 : decode prog_1_method_2_code 64 = .ok (.getfield 70, 3) := by decide +kernel
theorem d_Nine_feed_67 : decode prog_1_method_2_code 67 = .ok (.ireturn, 1) := by decide +kernel
theorem d_Nine_feed_16 : decode prog_1_method_2_code 16 = .ok (.iconst (-1), 1) := by decide +kernel
theorem d_Nine_feed_17 : decode prog_1_method_2_code 17 = .ok (.ireturn, 1) := by decide +kernel
theorem d_Nine_end_0 : decode prog_1_method_3_code 0 = .ok (.iload_n 1, 1) := by decide +kernel
theorem d_Nine_end_1 : decode prog_1_method_3_code 1 = .ok (.ifCond .lt 14, 3) := by decide +kernel
theorem d_Nine_end_15 : decode prog_1_method_3_code 15 = .ok (.iconst 0, 1) := by decide +kernel
theorem d_Nine_end_16 : decode prog_1_method_3_code 16 = .ok (.ireturn, 1) := by decide +kernel
theorem d_Nine_end_4 : decode prog_1_method_3_code 4 = .ok (.iload_n 1, 1) := by decide +kernel
theorem d_Nine_end_5 : decode prog_1_method_3_code 5 = .ok (.aload_n 0, 1) := by decide +kernel
theorem d_Nine_end_6 : decode prog_1_method_3_code 6 = .ok (.getfield 14, 3) := by decide +kernel
theorem d_Nine_end_9 : decode prog_1_method_3_code 9 = .ok (.getfield 70, 3) := by decide +kernel
theorem d_Nine_end_12 : decode prog_1_method_3_code 12 = .ok (.if_icmp .le 5, 3) := by decide +kernel
theorem d_Nine_end_17 : decode prog_1_method_3_code 17 = .ok (.aload_n 0, 1) := by decide +kernel
theorem d_Nine_end_18 : decode prog_1_method_3_code 18 = .ok (.getfield 14, 3) := by decide +kernel
theorem d_Nine_end_21 : decode prog_1_method_3_code 21 = .ok (.iload_n 1, 1) := by decide +kernel
theorem d_Nine_end_22 : decode prog_1_method_3_code 22 = .ok (.putfield 70, 3) := by decide +kernel
theorem pf_Nine_70 : PF "NineBoards" 70 0 1 (.int) false := ⟨_, _, _, ct_Bytes, rfl, ci_Bytes, by decide, (mt_1 (List.mem_of_getElem? (i := 39) rfl) rfl), cp_Bytes, cn_Bytes, rfl, by decide +kernel, (fun h => by cases h)⟩
theorem d_Nine_end_25 : decode prog_1_method_3_code 25 = .ok (.iconst 1, 1) := by decide +kernel
theorem d_Nine_end_26 : decode prog_1_method_3_code 26 = .ok (.ireturn, 1) := by decide +kernel
set_option maxHeartbeats 4000000 in
set_option maxRecDepth 100000 in
theorem c_N_end (l : Launch) (D : va_G) (y : Nat → ClassId) (x : Nat) (tp : Nat) (pi : Nat) (nh : Nat) (th : Nat) (ps : Nat) (ad : Nat → Nat) (ae : Nat → Nat) (rd : Nat) (pl : Nat) (dr : Int32) (td : Nat) (k : Nat) (tf : Nat → Int32) (v : Int32) (hk : k ≤ 1600) : CT l D y ⟨"NineBoards", "end", "(I)Z"⟩ prog_1_method_3_code 2 (some .boolean) ({ frames := 0, cells := 0, slots := 0, locals := 0 } : Room) [.ref x, .int v] [(x, .inr (9, [.ref tp, .ref pi, .ref nh, .ref th, .ref ps, .ref (ad 0), .ref (ae 0), .ref rd, .ref pl, .int dr])), (tp, .inr (0, [.ref td, .int (nI k)])), (td, .inl (y 0, 1600, .inl tf))] (QI D [(x, .inr (9, [.ref tp, .ref pi, .ref nh, .ref th, .ref ps, .ref (ad 0), .ref (ae 0), .ref rd, .ref pl, .int dr])), (tp, .inr (0, [.ref td, .int (nI k)])), (td, .inl (y 0, 1600, .inl tf))] (fun (r : Int32) (u : Nat) => u ≤ 1600 ∧ ((r = 0 ∧ u = k ∧ (v < 0 ∨ nI k < v)) ∨ (r = 1 ∧ v = nI u ∧ u ≤ k))) (fun u => [(x, .inr (9, [.ref tp, .ref pi, .ref nh, .ref th, .ref ps, .ref (ad 0), .ref (ae 0), .ref rd, .ref pl, .int dr])), (tp, .inr (0, [.ref td, .int (nI u)])), (td, .inl (y 0, 1600, .inl tf))])) := by
  refine CT.of (by decide) (nb rfl) ?_
  intro p e s m args below meth c C hr
  refine j_lv (lv' := [(0, .ref x), (1, .int v)]) rfl ?_
  refine j_iload_n (pc := 0) C d_Nine_end_0 rfl 1 rfl ?_
  refine j_if_lt (pc := 1) C (tgt := 15) d_Nine_end_1 (by decide) (fun c1 => ?_) (fun c1 => ?_)
  · refine j_iconst (pc := 15) C (v := 0) d_Nine_end_15 (by decide) ?_
    exact j_iret (pc := 16) C hr (by decide) k ⟨(show k ≤ 1600 by omega), (Or.inl ⟨rfl, (show k = k by omega), by first | exact Or.inl c1 | exact Or.inr (Int32.not_le.mp c1)⟩)⟩ [0, 1, 2] rfl (by decide) (by decide) (by decide) d_Nine_end_16
  · refine j_iload_n (pc := 4) C d_Nine_end_4 rfl 1 rfl ?_
    refine j_aload_n (pc := 5) C d_Nine_end_5 rfl 0 rfl ?_
    refine j_get (pc := 6) C gf_Nine_14 0 rfl rfl d_Nine_end_6 ?_
    refine j_get (pc := 9) C gf_Nine_70 1 rfl rfl d_Nine_end_9 ?_
    refine j_icmp_le (pc := 12) C (tgt := 17) d_Nine_end_12 (by decide) (fun c2 => ?_) (fun c2 => ?_)
    · obtain ⟨j3, xh4, rfl⟩ := nI_le2 (n := k) c1 c2 (by omega)
      refine j_aload_n (pc := 17) C d_Nine_end_17 rfl 0 rfl ?_
      refine j_get (pc := 18) C gf_Nine_14 0 rfl rfl d_Nine_end_18 ?_
      refine j_iload_n (pc := 21) C d_Nine_end_21 rfl 1 rfl ?_
      refine j_put (pc := 22) C pf_Nine_70 1 (ws' := [(x, .inr (9, [.ref tp, .ref pi, .ref nh, .ref th, .ref ps, .ref (ad 0), .ref (ae 0), .ref rd, .ref pl, .int dr])), (tp, .inr (0, [.ref td, .int (nI j3)])), (td, .inl (y 0, 1600, .inl tf))]) rfl rfl rfl (nl rfl) rfl d_Nine_end_22 ?_
      refine j_iconst (pc := 25) C (v := 1) d_Nine_end_25 (by decide) ?_
      exact j_iret (pc := 26) C hr (by decide) j3 ⟨(show j3 ≤ 1600 by omega), (Or.inr ⟨rfl, rfl, (show j3 ≤ k by omega)⟩)⟩ [0, 1, 2] rfl (by decide) (by decide) (by decide) d_Nine_end_26
    · refine j_iconst (pc := 15) C (v := 0) d_Nine_end_15 (by decide) ?_
      exact j_iret (pc := 16) C hr (by decide) k ⟨(show k ≤ 1600 by omega), (Or.inl ⟨rfl, (show k = k by omega), by first | exact Or.inl c1 | exact Or.inr (Int32.not_le.mp c2)⟩)⟩ [0, 1, 2] rfl (by decide) (by decide) (by decide) d_Nine_end_16
theorem d_Nine_beginAt_0 : decode prog_1_method_35_code 0 = .ok (.aload_n 0, 1) := by decide +kernel
theorem d_Nine_beginAt_1 : decode prog_1_method_35_code 1 = .ok (.getfield 24, 3) := by decide +kernel
theorem gf_Nine_24 : GF "NineBoards" 24 9 2 := ⟨_, _, _, rfl, ci_Nine, by decide, (mt_2 (List.mem_of_getElem? (i := 233) rfl) rfl)⟩
theorem d_Nine_beginAt_4 : decode prog_1_method_35_code 4 = .ok (.invokevirtual 323, 3) := by decide +kernel
theorem kw_Nine_323 : KW "NineBoards" 323 ⟨"NineBoards$State", "clear", "()V"⟩ prog_10_method_2_code 2 none 0 := ⟨(mt_3 (List.mem_of_getElem? (i := 201) rfl) rfl), (mt_1 (List.mem_of_getElem? (i := 4) rfl) rfl), (mt_3 (List.mem_of_getElem? (i := 204) rfl) rfl), by decide +kernel⟩
theorem kv_State_clear : Cond.instanceMethod ⟨"NineBoards$State", "clear", "()V"⟩ ∈ TB ∧ Cond.selects "NineBoards$State" ⟨"NineBoards$State", "clear", "()V"⟩ ⟨"NineBoards$State", "clear", "()V"⟩ ∈ TB := ⟨(mt_3 (List.mem_of_getElem? (i := 202) rfl) rfl), (mt_3 (List.mem_of_getElem? (i := 203) rfl) rfl)⟩
theorem d_Nine_beginAt_7 : decode prog_1_method_35_code 7 = .ok (.aload_n 0, 1) := by decide +kernel
theorem d_Nine_beginAt_8 : decode prog_1_method_35_code 8 = .ok (.getfield 24, 3) := by decide +kernel
theorem d_Nine_beginAt_11 : decode prog_1_method_35_code 11 = .ok (.iload_n 1, 1) := by decide +kernel
theorem d_Nine_beginAt_12 : decode prog_1_method_35_code 12 = .ok (.putfield 124, 3) := by decide +kernel
theorem pf_Nine_124 : PF "NineBoards" 124 7 0 (.int) false := ⟨_, _, _, ct_State, rfl, ci_State, by decide, (mt_1 (List.mem_of_getElem? (i := 56) rfl) rfl), cp_State, cn_State, rfl, by decide +kernel, (fun h => by cases h)⟩
theorem d_Nine_beginAt_15 : decode prog_1_method_35_code 15 = .ok (.aload_n 0, 1) := by decide +kernel
theorem d_Nine_beginAt_16 : decode prog_1_method_35_code 16 = .ok (.getfield 24, 3) := by decide +kernel
theorem d_Nine_beginAt_19 : decode prog_1_method_35_code 19 = .ok (.iload_n 2, 1) := by decide +kernel
theorem d_Nine_beginAt_20 : decode prog_1_method_35_code 20 = .ok (.putfield 127, 3) := by decide +kernel
theorem pf_Nine_127 : PF "NineBoards" 127 7 1 (.int) false := ⟨_, _, _, ct_State, rfl, ci_State, by decide, (mt_1 (List.mem_of_getElem? (i := 59) rfl) rfl), cp_State, cn_State, rfl, by decide +kernel, (fun h => by cases h)⟩
theorem d_Nine_beginAt_23 : decode prog_1_method_35_code 23 = .ok (.aload_n 0, 1) := by decide +kernel
theorem d_Nine_beginAt_24 : decode prog_1_method_35_code 24 = .ok (.getfield 24, 3) := by decide +kernel
theorem d_Nine_beginAt_27 : decode prog_1_method_35_code 27 = .ok (.iload_n 3, 1) := by decide +kernel
theorem d_Nine_beginAt_28 : decode prog_1_method_35_code 28 = .ok (.putfield 134, 3) := by decide +kernel
theorem pf_Nine_134 : PF "NineBoards" 134 7 2 (.int) false := ⟨_, _, _, ct_State, rfl, ci_State, by decide, (mt_1 (List.mem_of_getElem? (i := 62) rfl) rfl), cp_State, cn_State, rfl, by decide +kernel, (fun h => by cases h)⟩
theorem d_Nine_beginAt_31 : decode prog_1_method_35_code 31 = .ok (.aload_n 0, 1) := by decide +kernel
theorem d_Nine_beginAt_32 : decode prog_1_method_35_code 32 = .ok (.getfield 24, 3) := by decide +kernel
theorem d_Nine_beginAt_35 : decode prog_1_method_35_code 35 = .ok (.getfield 179, 3) := by decide +kernel
theorem gf_Nine_179 : GF "NineBoards" 179 7 9 := ⟨_, _, _, rfl, ci_State, by decide, (mt_1 (List.mem_of_getElem? (i := 84) rfl) rfl)⟩
theorem d_Nine_beginAt_38 : decode prog_1_method_35_code 38 = .ok (.iconst 0, 1) := by decide +kernel
theorem d_Nine_beginAt_39 : decode prog_1_method_35_code 39 = .ok (.iload_n 2, 1) := by decide +kernel
theorem d_Nine_beginAt_40 : decode prog_1_method_35_code 40 = .ok (.i2l, 1) := by decide +kernel
theorem d_Nine_beginAt_41 : decode prog_1_method_35_code 41 = .ok (.lastore, 1) := by decide +kernel
theorem d_Nine_beginAt_42 : decode prog_1_method_35_code 42 = .ok (.aload_n 0, 1) := by decide +kernel
theorem d_Nine_beginAt_43 : decode prog_1_method_35_code 43 = .ok (.getfield 34, 3) := by decide +kernel
theorem gf_Nine_34 : GF "NineBoards" 34 9 4 := ⟨_, _, _, rfl, ci_Nine, by decide, (mt_2 (List.mem_of_getElem? (i := 235) rfl) rfl)⟩
theorem d_Nine_beginAt_46 : decode prog_1_method_35_code 46 = .ok (.iconst 0, 1) := by decide +kernel
theorem d_Nine_beginAt_47 : decode prog_1_method_35_code 47 = .ok (.putfield 137, 3) := by decide +kernel
theorem pf_Nine_137 : PF "NineBoards" 137 3 0 (.int) false := ⟨_, _, _, ct_Past, rfl, ci_Past, by decide, (mt_1 (List.mem_of_getElem? (i := 117) rfl) rfl), cp_Past, cn_Past, rfl, by decide +kernel, (fun h => by cases h)⟩
theorem d_Nine_beginAt_50 : decode prog_1_method_35_code 50 = .ok (.return_, 1) := by decide +kernel
theorem d_Nine_fault_0 : decode prog_1_method_5_code 0 = .ok (.iload_n 1, 1) := by decide +kernel
theorem d_Nine_fault_1 : decode prog_1_method_5_code 1 = .ok (.lookupswitch 43 #[(0, 27), (1, 35)], 27) := by decide +kernel
theorem d_Nine_fault_28 : decode prog_1_method_5_code 28 = .ok (.aload_n 0, 1) := by decide +kernel
theorem d_Nine_fault_29 : decode prog_1_method_5_code 29 = .ok (.getfield 53, 3) := by decide +kernel
theorem gf_Nine_53 : GF "NineBoards" 53 9 7 := ⟨_, _, _, rfl, ci_Nine, by decide, (mt_2 (List.mem_of_getElem? (i := 238) rfl) rfl)⟩
theorem d_Nine_fault_32 : decode prog_1_method_5_code 32 = .ok (.getfield 79, 3) := by decide +kernel
theorem gf_Nine_79 : GF "NineBoards" 79 5 0 := ⟨_, _, _, rfl, ci_Reader, by decide, (mt_2 (List.mem_of_getElem? (i := 163) rfl) rfl)⟩
theorem d_Nine_fault_35 : decode prog_1_method_5_code 35 = .ok (.ireturn, 1) := by decide +kernel
theorem d_Nine_fault_36 : decode prog_1_method_5_code 36 = .ok (.aload_n 0, 1) := by decide +kernel
theorem d_Nine_fault_37 : decode prog_1_method_5_code 37 = .ok (.getfield 53, 3) := by decide +kernel
theorem d_Nine_fault_40 : decode prog_1_method_5_code 40 = .ok (.getfield 104, 3) := by decide +kernel
theorem gf_Nine_104 : GF "NineBoards" 104 5 1 := ⟨_, _, _, rfl, ci_Reader, by decide, (mt_2 (List.mem_of_getElem? (i := 165) rfl) rfl)⟩
theorem d_Nine_fault_43 : decode prog_1_method_5_code 43 = .ok (.ireturn, 1) := by decide +kernel
theorem lo_Nine_fault_1 {x : Int32} (h0 : ¬ x = 0) (h1 : ¬ x = 1) : Op.lookupswitch.offset [(0, 27), (1, 35)] 43 x.toInt = 43 := by
  rw [Op.lookupswitch.offset_cons, if_neg (fun e => h0 (Int32.toInt_inj.mp (e.symm.trans (by decide))))]
  rw [Op.lookupswitch.offset_cons, if_neg (fun e => h1 (Int32.toInt_inj.mp (e.symm.trans (by decide))))]
  rfl
theorem d_Nine_fault_44 : decode prog_1_method_5_code 44 = .ok (.iconst (-1), 1) := by decide +kernel
theorem d_Nine_fault_45 : decode prog_1_method_5_code 45 = .ok (.ireturn, 1) := by decide +kernel
theorem d_Nine_has_0 : decode prog_1_method_6_code 0 = .ok (.iload_n 1, 1) := by decide +kernel
theorem d_Nine_has_1 : decode prog_1_method_6_code 1 = .ok (.tableswitch 139 0 8 #[51, 62, 70, 81, 92, 100, 108, 123, 131], 51) := by decide +kernel
theorem d_Nine_has_52 : decode prog_1_method_6_code 52 = .ok (.aload_n 0, 1) := by decide +kernel
theorem d_Nine_has_53 : decode prog_1_method_6_code 53 = .ok (.getfield 41, 3) := by decide +kernel
theorem gf_Nine_41 : GF "NineBoards" 41 9 5 := ⟨_, _, _, rfl, ci_Nine, by decide, (mt_2 (List.mem_of_getElem? (i := 236) rfl) rfl)⟩
theorem d_Nine_has_56 : decode prog_1_method_6_code 56 = .ok (.getfield 89, 3) := by decide +kernel
theorem gf_Nine_89 : GF "NineBoards" 89 2 4 := ⟨_, _, _, rfl, ci_Lake, by decide, (mt_2 (List.mem_of_getElem? (i := 44) rfl) rfl)⟩
theorem d_Nine_has_59 : decode prog_1_method_6_code 59 = .ok (.getfield 93, 3) := by decide +kernel
theorem gf_Nine_93 : GF "NineBoards" 93 1 0 := ⟨_, _, _, rfl, ci_Gates, by decide, (mt_1 (List.mem_of_getElem? (i := 141) rfl) rfl)⟩
theorem d_Nine_has_62 : decode prog_1_method_6_code 62 = .ok (.ireturn, 1) := by decide +kernel
theorem d_Nine_has_63 : decode prog_1_method_6_code 63 = .ok (.aload_n 0, 1) := by decide +kernel
theorem d_Nine_has_64 : decode prog_1_method_6_code 64 = .ok (.getfield 41, 3) := by decide +kernel
theorem d_Nine_has_67 : decode prog_1_method_6_code 67 = .ok (.getfield 107, 3) := by decide +kernel
theorem gf_Nine_107 : GF "NineBoards" 107 2 5 := ⟨_, _, _, rfl, ci_Lake, by decide, (mt_2 (List.mem_of_getElem? (i := 47) rfl) rfl)⟩
theorem d_Nine_has_70 : decode prog_1_method_6_code 70 = .ok (.ireturn, 1) := by decide +kernel
theorem d_Nine_has_71 : decode prog_1_method_6_code 71 = .ok (.aload_n 0, 1) := by decide +kernel
theorem d_Nine_has_72 : decode prog_1_method_6_code 72 = .ok (.getfield 41, 3) := by decide +kernel
theorem d_Nine_has_75 : decode prog_1_method_6_code 75 = .ok (.getfield 110, 3) := by decide +kernel
theorem gf_Nine_110 : GF "NineBoards" 110 2 8 := ⟨_, _, _, rfl, ci_Lake, by decide, (mt_2 (List.mem_of_getElem? (i := 59) rfl) rfl)⟩
theorem d_Nine_has_78 : decode prog_1_method_6_code 78 = .ok (.getfield 114, 3) := by decide +kernel
theorem gf_Nine_114 : GF "NineBoards" 114 8 0 := ⟨_, _, _, rfl, ci_Things, by decide, (mt_1 (List.mem_of_getElem? (i := 188) rfl) rfl)⟩
theorem d_Nine_has_81 : decode prog_1_method_6_code 81 = .ok (.ireturn, 1) := by decide +kernel
theorem d_Nine_has_82 : decode prog_1_method_6_code 82 = .ok (.aload_n 0, 1) := by decide +kernel
theorem d_Nine_has_83 : decode prog_1_method_6_code 83 = .ok (.getfield 41, 3) := by decide +kernel
theorem d_Nine_has_86 : decode prog_1_method_6_code 86 = .ok (.getfield 117, 3) := by decide +kernel
theorem gf_Nine_117 : GF "NineBoards" 117 2 9 := ⟨_, _, _, rfl, ci_Lake, by decide, (mt_2 (List.mem_of_getElem? (i := 64) rfl) rfl)⟩
theorem d_Nine_has_89 : decode prog_1_method_6_code 89 = .ok (.getfield 121, 3) := by decide +kernel
theorem gf_Nine_121 : GF "NineBoards" 121 6 0 := ⟨_, _, _, rfl, ci_Rules, by decide, (mt_1 (List.mem_of_getElem? (i := 234) rfl) rfl)⟩
theorem d_Nine_has_92 : decode prog_1_method_6_code 92 = .ok (.ireturn, 1) := by decide +kernel
theorem d_Nine_has_93 : decode prog_1_method_6_code 93 = .ok (.aload_n 0, 1) := by decide +kernel
theorem d_Nine_has_94 : decode prog_1_method_6_code 94 = .ok (.getfield 24, 3) := by decide +kernel
theorem d_Nine_has_97 : decode prog_1_method_6_code 97 = .ok (.getfield 124, 3) := by decide +kernel
theorem gf_Nine_124 : GF "NineBoards" 124 7 0 := ⟨_, _, _, rfl, ci_State, by decide, (mt_1 (List.mem_of_getElem? (i := 56) rfl) rfl)⟩
theorem d_Nine_has_100 : decode prog_1_method_6_code 100 = .ok (.ireturn, 1) := by decide +kernel
theorem d_Nine_has_101 : decode prog_1_method_6_code 101 = .ok (.aload_n 0, 1) := by decide +kernel
theorem d_Nine_has_102 : decode prog_1_method_6_code 102 = .ok (.getfield 24, 3) := by decide +kernel
theorem d_Nine_has_105 : decode prog_1_method_6_code 105 = .ok (.getfield 127, 3) := by decide +kernel
theorem gf_Nine_127 : GF "NineBoards" 127 7 1 := ⟨_, _, _, rfl, ci_State, by decide, (mt_1 (List.mem_of_getElem? (i := 59) rfl) rfl)⟩
theorem d_Nine_has_108 : decode prog_1_method_6_code 108 = .ok (.ireturn, 1) := by decide +kernel
theorem d_Nine_has_109 : decode prog_1_method_6_code 109 = .ok (.aload_n 0, 1) := by decide +kernel
theorem d_Nine_has_110 : decode prog_1_method_6_code 110 = .ok (.getfield 41, 3) := by decide +kernel
theorem d_Nine_has_113 : decode prog_1_method_6_code 113 = .ok (.aload_n 0, 1) := by decide +kernel
theorem d_Nine_has_114 : decode prog_1_method_6_code 114 = .ok (.getfield 24, 3) := by decide +kernel
theorem d_Nine_has_117 : decode prog_1_method_6_code 117 = .ok (.getfield 127, 3) := by decide +kernel
theorem d_Nine_has_120 : decode prog_1_method_6_code 120 = .ok (.invokevirtual 130, 3) := by decide +kernel
theorem kw_Nine_130 : KW "NineBoards" 130 ⟨"NineBoards$Lake", "levelAt", "(I)I"⟩ prog_5_method_7_code 2 (some .int) 1 := ⟨(mt_3 (List.mem_of_getElem? (i := 213) rfl) rfl), (mt_1 (List.mem_of_getElem? (i := 6) rfl) rfl), (mt_3 (List.mem_of_getElem? (i := 216) rfl) rfl), by decide +kernel⟩
theorem d_Nine_has_123 : decode prog_1_method_6_code 123 = .ok (.ireturn, 1) := by decide +kernel
theorem d_Nine_has_124 : decode prog_1_method_6_code 124 = .ok (.aload_n 0, 1) := by decide +kernel
theorem d_Nine_has_125 : decode prog_1_method_6_code 125 = .ok (.getfield 24, 3) := by decide +kernel
theorem d_Nine_has_128 : decode prog_1_method_6_code 128 = .ok (.getfield 134, 3) := by decide +kernel
theorem gf_Nine_134 : GF "NineBoards" 134 7 2 := ⟨_, _, _, rfl, ci_State, by decide, (mt_1 (List.mem_of_getElem? (i := 62) rfl) rfl)⟩
theorem d_Nine_has_131 : decode prog_1_method_6_code 131 = .ok (.ireturn, 1) := by decide +kernel
theorem d_Nine_has_132 : decode prog_1_method_6_code 132 = .ok (.aload_n 0, 1) := by decide +kernel
theorem d_Nine_has_133 : decode prog_1_method_6_code 133 = .ok (.getfield 34, 3) := by decide +kernel
theorem d_Nine_has_136 : decode prog_1_method_6_code 136 = .ok (.getfield 137, 3) := by decide +kernel
theorem gf_Nine_137 : GF "NineBoards" 137 3 0 := ⟨_, _, _, rfl, ci_Past, by decide, (mt_1 (List.mem_of_getElem? (i := 117) rfl) rfl)⟩
theorem d_Nine_has_139 : decode prog_1_method_6_code 139 = .ok (.ireturn, 1) := by decide +kernel
theorem to_0_8 {x : Int32} (h0 : ¬ x = 0) (h1 : ¬ x = 1) (h2 : ¬ x = 2) (h3 : ¬ x = 3) (h4 : ¬ x = 4) (h5 : ¬ x = 5) (h6 : ¬ x = 6) (h7 : ¬ x = 7) (h8 : ¬ x = 8) : x.toInt < 0 ∨ 8 < x.toInt := by
  have g0 : x.toInt ≠ 0 := fun e => h0 (Int32.toInt_inj.mp (e.trans (by decide)))
  have g1 : x.toInt ≠ 1 := fun e => h1 (Int32.toInt_inj.mp (e.trans (by decide)))
  have g2 : x.toInt ≠ 2 := fun e => h2 (Int32.toInt_inj.mp (e.trans (by decide)))
  have g3 : x.toInt ≠ 3 := fun e => h3 (Int32.toInt_inj.mp (e.trans (by decide)))
  have g4 : x.toInt ≠ 4 := fun e => h4 (Int32.toInt_inj.mp (e.trans (by decide)))
  have g5 : x.toInt ≠ 5 := fun e => h5 (Int32.toInt_inj.mp (e.trans (by decide)))
  have g6 : x.toInt ≠ 6 := fun e => h6 (Int32.toInt_inj.mp (e.trans (by decide)))
  have g7 : x.toInt ≠ 7 := fun e => h7 (Int32.toInt_inj.mp (e.trans (by decide)))
  have g8 : x.toInt ≠ 8 := fun e => h8 (Int32.toInt_inj.mp (e.trans (by decide)))
  omega
theorem d_Nine_has_140 : decode prog_1_method_6_code 140 = .ok (.iconst (-1), 1) := by decide +kernel
theorem d_Nine_has_141 : decode prog_1_method_6_code 141 = .ok (.ireturn, 1) := by decide +kernel
set_option maxHeartbeats 4000000 in
set_option maxRecDepth 100000 in
theorem c_N_has (l : Launch) (D : va_G) (y : Nat → ClassId) (x : Nat) (tp : Nat) (pi : Nat) (nh : Nat) (th : Nat) (ps : Nat) (ad : Nat → Nat) (ae : Nat → Nat) (rd : Nat) (pl : Nat) (dr : Int32) (d : LD) (sd : Int32) (sw : Int32) (sl : Int32) (na : Nat → Nat) (cn : Int32) (ix : Nat) (kp : Nat) (v : Int32)  : CT l D y ⟨"NineBoards", "has", "(I)I"⟩ prog_1_method_6_code 2 (some .int) ({ frames := 2, cells := 0, slots := 0, locals := 43 } : Room) [.ref x, .int v] [(x, .inr (9, [.ref tp, .ref pi, .ref nh, .ref th, .ref ps, .ref (ad 0), .ref (ae 0), .ref rd, .ref pl, .int dr])), (ad 0, .inr (2, [.int (d.1 0), .int (d.1 1), .int (d.1 2), .int (d.1 3), .ref (ad 1), .int (d.1 4), .ref (ad 11), .ref (ad 12), .ref (ad 2), .ref (ad 3), .int (d.1 5), .int (d.1 6), .int (d.1 7), .int (d.1 8)])), (ad 1, .inr (1, [.int (d.1 9), .ref (ad 4), .ref (ad 5), .ref (ad 6), .ref (ad 7), .ref (ad 8), .ref (ad 9), .ref (ad 10)])), (ad 2, .inr (8, [.int (d.1 10), .ref (ad 13), .ref (ad 14), .ref (ad 15), .ref (ad 16), .ref (ad 17), .ref (ad 18), .ref (ad 19)])), (ad 3, .inr (6, [.int (d.1 11), .int (d.1 12), .ref (ad 20), .ref (ad 21), .ref (ad 22), .ref (ad 23), .ref (ad 24), .ref (ad 25)])), (nh, .inr (7, [.int sd, .int sw, .int sl, .ref (na 0), .ref (na 1), .ref (na 2), .ref (na 3), .ref (na 4), .ref (na 5), .ref (na 6)])), (ps, .inr (3, [.int cn, .int (nI ix), .ref kp]))] (QI D [(x, .inr (9, [.ref tp, .ref pi, .ref nh, .ref th, .ref ps, .ref (ad 0), .ref (ae 0), .ref rd, .ref pl, .int dr])), (ad 0, .inr (2, [.int (d.1 0), .int (d.1 1), .int (d.1 2), .int (d.1 3), .ref (ad 1), .int (d.1 4), .ref (ad 11), .ref (ad 12), .ref (ad 2), .ref (ad 3), .int (d.1 5), .int (d.1 6), .int (d.1 7), .int (d.1 8)])), (ad 1, .inr (1, [.int (d.1 9), .ref (ad 4), .ref (ad 5), .ref (ad 6), .ref (ad 7), .ref (ad 8), .ref (ad 9), .ref (ad 10)])), (ad 2, .inr (8, [.int (d.1 10), .ref (ad 13), .ref (ad 14), .ref (ad 15), .ref (ad 16), .ref (ad 17), .ref (ad 18), .ref (ad 19)])), (ad 3, .inr (6, [.int (d.1 11), .int (d.1 12), .ref (ad 20), .ref (ad 21), .ref (ad 22), .ref (ad 23), .ref (ad 24), .ref (ad 25)])), (nh, .inr (7, [.int sd, .int sw, .int sl, .ref (na 0), .ref (na 1), .ref (na 2), .ref (na 3), .ref (na 4), .ref (na 5), .ref (na 6)])), (ps, .inr (3, [.int cn, .int (nI ix), .ref kp]))] (fun (r : Int32) (u : Unit) => True) (fun _ => [(x, .inr (9, [.ref tp, .ref pi, .ref nh, .ref th, .ref ps, .ref (ad 0), .ref (ae 0), .ref rd, .ref pl, .int dr])), (ad 0, .inr (2, [.int (d.1 0), .int (d.1 1), .int (d.1 2), .int (d.1 3), .ref (ad 1), .int (d.1 4), .ref (ad 11), .ref (ad 12), .ref (ad 2), .ref (ad 3), .int (d.1 5), .int (d.1 6), .int (d.1 7), .int (d.1 8)])), (ad 1, .inr (1, [.int (d.1 9), .ref (ad 4), .ref (ad 5), .ref (ad 6), .ref (ad 7), .ref (ad 8), .ref (ad 9), .ref (ad 10)])), (ad 2, .inr (8, [.int (d.1 10), .ref (ad 13), .ref (ad 14), .ref (ad 15), .ref (ad 16), .ref (ad 17), .ref (ad 18), .ref (ad 19)])), (ad 3, .inr (6, [.int (d.1 11), .int (d.1 12), .ref (ad 20), .ref (ad 21), .ref (ad 22), .ref (ad 23), .ref (ad 24), .ref (ad 25)])), (nh, .inr (7, [.int sd, .int sw, .int sl, .ref (na 0), .ref (na 1), .ref (na 2), .ref (na 3), .ref (na 4), .ref (na 5), .ref (na 6)])), (ps, .inr (3, [.int cn, .int (nI ix), .ref kp]))])) := by
  refine CT.of (by decide) (nb rfl) ?_
  intro p e s m args below meth c C hr
  refine j_lv (lv' := [(0, .ref x), (1, .int v)]) rfl ?_
  refine j_iload_n (pc := 0) C d_Nine_has_0 rfl 1 rfl ?_
  by_cases c1_0 : v = 0
  · refine j_tabIn (pc := 1) C (off := 51) (tgt := 52) d_Nine_has_1 (by rw [c1_0]; decide) (by rw [c1_0]; decide) (by rw [c1_0]; decide) (by decide) ?_
    refine j_aload_n (pc := 52) C d_Nine_has_52 rfl 0 rfl ?_
    refine j_get (pc := 53) C gf_Nine_41 0 rfl rfl d_Nine_has_53 ?_
    refine j_get (pc := 56) C gf_Nine_89 1 rfl rfl d_Nine_has_56 ?_
    refine j_get (pc := 59) C gf_Nine_93 2 rfl rfl d_Nine_has_59 ?_
    exact j_iret (pc := 62) C hr rfl () trivial [0, 1, 2, 3, 4, 5, 6] rfl (by decide) (by decide) (by decide) d_Nine_has_62
  · by_cases c1_1 : v = 1
    · refine j_tabIn (pc := 1) C (off := 62) (tgt := 63) d_Nine_has_1 (by rw [c1_1]; decide) (by rw [c1_1]; decide) (by rw [c1_1]; decide) (by decide) ?_
      refine j_aload_n (pc := 63) C d_Nine_has_63 rfl 0 rfl ?_
      refine j_get (pc := 64) C gf_Nine_41 0 rfl rfl d_Nine_has_64 ?_
      refine j_get (pc := 67) C gf_Nine_107 1 rfl rfl d_Nine_has_67 ?_
      exact j_iret (pc := 70) C hr rfl () trivial [0, 1, 2, 3, 4, 5, 6] rfl (by decide) (by decide) (by decide) d_Nine_has_70
    · by_cases c1_2 : v = 2
      · refine j_tabIn (pc := 1) C (off := 70) (tgt := 71) d_Nine_has_1 (by rw [c1_2]; decide) (by rw [c1_2]; decide) (by rw [c1_2]; decide) (by decide) ?_
        refine j_aload_n (pc := 71) C d_Nine_has_71 rfl 0 rfl ?_
        refine j_get (pc := 72) C gf_Nine_41 0 rfl rfl d_Nine_has_72 ?_
        refine j_get (pc := 75) C gf_Nine_110 1 rfl rfl d_Nine_has_75 ?_
        refine j_get (pc := 78) C gf_Nine_114 3 rfl rfl d_Nine_has_78 ?_
        exact j_iret (pc := 81) C hr rfl () trivial [0, 1, 2, 3, 4, 5, 6] rfl (by decide) (by decide) (by decide) d_Nine_has_81
      · by_cases c1_3 : v = 3
        · refine j_tabIn (pc := 1) C (off := 81) (tgt := 82) d_Nine_has_1 (by rw [c1_3]; decide) (by rw [c1_3]; decide) (by rw [c1_3]; decide) (by decide) ?_
          refine j_aload_n (pc := 82) C d_Nine_has_82 rfl 0 rfl ?_
          refine j_get (pc := 83) C gf_Nine_41 0 rfl rfl d_Nine_has_83 ?_
          refine j_get (pc := 86) C gf_Nine_117 1 rfl rfl d_Nine_has_86 ?_
          refine j_get (pc := 89) C gf_Nine_121 4 rfl rfl d_Nine_has_89 ?_
          exact j_iret (pc := 92) C hr rfl () trivial [0, 1, 2, 3, 4, 5, 6] rfl (by decide) (by decide) (by decide) d_Nine_has_92
        · by_cases c1_4 : v = 4
          · refine j_tabIn (pc := 1) C (off := 92) (tgt := 93) d_Nine_has_1 (by rw [c1_4]; decide) (by rw [c1_4]; decide) (by rw [c1_4]; decide) (by decide) ?_
            refine j_aload_n (pc := 93) C d_Nine_has_93 rfl 0 rfl ?_
            refine j_get (pc := 94) C gf_Nine_24 0 rfl rfl d_Nine_has_94 ?_
            refine j_get (pc := 97) C gf_Nine_124 5 rfl rfl d_Nine_has_97 ?_
            exact j_iret (pc := 100) C hr rfl () trivial [0, 1, 2, 3, 4, 5, 6] rfl (by decide) (by decide) (by decide) d_Nine_has_100
          · by_cases c1_5 : v = 5
            · refine j_tabIn (pc := 1) C (off := 100) (tgt := 101) d_Nine_has_1 (by rw [c1_5]; decide) (by rw [c1_5]; decide) (by rw [c1_5]; decide) (by decide) ?_
              refine j_aload_n (pc := 101) C d_Nine_has_101 rfl 0 rfl ?_
              refine j_get (pc := 102) C gf_Nine_24 0 rfl rfl d_Nine_has_102 ?_
              refine j_get (pc := 105) C gf_Nine_127 5 rfl rfl d_Nine_has_105 ?_
              exact j_iret (pc := 108) C hr rfl () trivial [0, 1, 2, 3, 4, 5, 6] rfl (by decide) (by decide) (by decide) d_Nine_has_108
            · by_cases c1_6 : v = 6
              · refine j_tabIn (pc := 1) C (off := 108) (tgt := 109) d_Nine_has_1 (by rw [c1_6]; decide) (by rw [c1_6]; decide) (by rw [c1_6]; decide) (by decide) ?_
                refine j_aload_n (pc := 109) C d_Nine_has_109 rfl 0 rfl ?_
                refine j_get (pc := 110) C gf_Nine_41 0 rfl rfl d_Nine_has_110 ?_
                refine j_aload_n (pc := 113) C d_Nine_has_113 rfl 0 rfl ?_
                refine j_get (pc := 114) C gf_Nine_24 0 rfl rfl d_Nine_has_114 ?_
                refine j_get (pc := 117) C gf_Nine_127 5 rfl rfl d_Nine_has_117 ?_
                refine j_callVi (pc := 120) C (c_levelAt l D y ad d sw) kw_Nine_130 kv_Lake_levelAt 0 2 rfl rfl ⟨by decide, by decide⟩ ⟨by decide, by decide⟩ (wr := [(x, .inr (9, [.ref tp, .ref pi, .ref nh, .ref th, .ref ps, .ref (ad 0), .ref (ae 0), .ref rd, .ref pl, .int dr])), (ad 1, .inr (1, [.int (d.1 9), .ref (ad 4), .ref (ad 5), .ref (ad 6), .ref (ad 7), .ref (ad 8), .ref (ad 9), .ref (ad 10)])), (ad 2, .inr (8, [.int (d.1 10), .ref (ad 13), .ref (ad 14), .ref (ad 15), .ref (ad 16), .ref (ad 17), .ref (ad 18), .ref (ad 19)])), (ad 3, .inr (6, [.int (d.1 11), .int (d.1 12), .ref (ad 20), .ref (ad 21), .ref (ad 22), .ref (ad 23), .ref (ad 24), .ref (ad 25)])), (nh, .inr (7, [.int sd, .int sw, .int sl, .ref (na 0), .ref (na 1), .ref (na 2), .ref (na 3), .ref (na 4), .ref (na 5), .ref (na 6)])), (ps, .inr (3, [.int cn, .int (nI ix), .ref kp]))]) [1] [0, 2, 3, 4, 5, 6] rfl rfl (by decide +kernel) (by decide +kernel) (by decide +kernel) (As := [.int sw]) (rest := []) rfl (nb rfl) rfl d_Nine_has_120 (fun r2 _ hr2 => ?_)
                refine j_ws (ws' := [(x, .inr (9, [.ref tp, .ref pi, .ref nh, .ref th, .ref ps, .ref (ad 0), .ref (ae 0), .ref rd, .ref pl, .int dr])), (ad 1, .inr (1, [.int (d.1 9), .ref (ad 4), .ref (ad 5), .ref (ad 6), .ref (ad 7), .ref (ad 8), .ref (ad 9), .ref (ad 10)])), (ad 2, .inr (8, [.int (d.1 10), .ref (ad 13), .ref (ad 14), .ref (ad 15), .ref (ad 16), .ref (ad 17), .ref (ad 18), .ref (ad 19)])), (ad 3, .inr (6, [.int (d.1 11), .int (d.1 12), .ref (ad 20), .ref (ad 21), .ref (ad 22), .ref (ad 23), .ref (ad 24), .ref (ad 25)])), (nh, .inr (7, [.int sd, .int sw, .int sl, .ref (na 0), .ref (na 1), .ref (na 2), .ref (na 3), .ref (na 4), .ref (na 5), .ref (na 6)])), (ps, .inr (3, [.int cn, .int (nI ix), .ref kp])), (ad 0, .inr (2, [.int (d.1 0), .int (d.1 1), .int (d.1 2), .int (d.1 3), .ref (ad 1), .int (d.1 4), .ref (ad 11), .ref (ad 12), .ref (ad 2), .ref (ad 3), .int (d.1 5), .int (d.1 6), .int (d.1 7), .int (d.1 8)]))]) rfl ?_
                exact j_iret (pc := 123) C hr rfl () trivial [0, 6, 1, 2, 3, 4, 5] rfl (by decide) (by decide) (by decide) d_Nine_has_123
              · by_cases c1_7 : v = 7
                · refine j_tabIn (pc := 1) C (off := 123) (tgt := 124) d_Nine_has_1 (by rw [c1_7]; decide) (by rw [c1_7]; decide) (by rw [c1_7]; decide) (by decide) ?_
                  refine j_aload_n (pc := 124) C d_Nine_has_124 rfl 0 rfl ?_
                  refine j_get (pc := 125) C gf_Nine_24 0 rfl rfl d_Nine_has_125 ?_
                  refine j_get (pc := 128) C gf_Nine_134 5 rfl rfl d_Nine_has_128 ?_
                  exact j_iret (pc := 131) C hr rfl () trivial [0, 1, 2, 3, 4, 5, 6] rfl (by decide) (by decide) (by decide) d_Nine_has_131
                · by_cases c1_8 : v = 8
                  · refine j_tabIn (pc := 1) C (off := 131) (tgt := 132) d_Nine_has_1 (by rw [c1_8]; decide) (by rw [c1_8]; decide) (by rw [c1_8]; decide) (by decide) ?_
                    refine j_aload_n (pc := 132) C d_Nine_has_132 rfl 0 rfl ?_
                    refine j_get (pc := 133) C gf_Nine_34 0 rfl rfl d_Nine_has_133 ?_
                    refine j_get (pc := 136) C gf_Nine_137 6 rfl rfl d_Nine_has_136 ?_
                    exact j_iret (pc := 139) C hr rfl () trivial [0, 1, 2, 3, 4, 5, 6] rfl (by decide) (by decide) (by decide) d_Nine_has_139
                  · refine j_tabOut (pc := 1) C (tgt := 140) d_Nine_has_1 (by exact to_0_8 c1_0 c1_1 c1_2 c1_3 c1_4 c1_5 c1_6 c1_7 c1_8) (by decide) ?_
                    refine j_iconst (pc := 140) C (v := (-1)) d_Nine_has_140 (by decide) ?_
                    exact j_iret (pc := 141) C hr rfl () trivial [0, 1, 2, 3, 4, 5, 6] rfl (by decide) (by decide) (by decide) d_Nine_has_141
theorem d_Nine_letter_0 : decode prog_1_method_7_code 0 = .ok (.iload_n 3, 1) := by decide +kernel
theorem d_Nine_letter_1 : decode prog_1_method_7_code 1 = .ok (.ifCond .lt 9, 3) := by decide +kernel
theorem d_Nine_letter_10 : decode prog_1_method_7_code 10 = .ok (.iconst (-1), 1) := by decide +kernel
theorem d_Nine_letter_11 : decode prog_1_method_7_code 11 = .ok (.ireturn, 1) := by decide +kernel
theorem d_Nine_letter_4 : decode prog_1_method_7_code 4 = .ok (.iload_n 3, 1) := by decide +kernel
theorem d_Nine_letter_5 : decode prog_1_method_7_code 5 = .ok (.bipush 6, 2) := by decide +kernel
theorem d_Nine_letter_7 : decode prog_1_method_7_code 7 = .ok (.if_icmp .lt 5, 3) := by decide +kernel
theorem d_Nine_letter_12 : decode prog_1_method_7_code 12 = .ok (.iload_n 1, 1) := by decide +kernel
theorem d_Nine_letter_13 : decode prog_1_method_7_code 13 = .ok (.ifCond .ne 34, 3) := by decide +kernel
theorem d_Nine_letter_47 : decode prog_1_method_7_code 47 = .ok (.iload_n 1, 1) := by decide +kernel
theorem d_Nine_letter_48 : decode prog_1_method_7_code 48 = .ok (.iconst 1, 1) := by decide +kernel
theorem d_Nine_letter_49 : decode prog_1_method_7_code 49 = .ok (.if_icmp .ne 31, 3) := by decide +kernel
theorem d_Nine_letter_80 : decode prog_1_method_7_code 80 = .ok (.iconst (-1), 1) := by decide +kernel
theorem d_Nine_letter_81 : decode prog_1_method_7_code 81 = .ok (.ireturn, 1) := by decide +kernel
theorem d_Nine_letter_52 : decode prog_1_method_7_code 52 = .ok (.aload_n 0, 1) := by decide +kernel
theorem d_Nine_letter_53 : decode prog_1_method_7_code 53 = .ok (.getfield 41, 3) := by decide +kernel
theorem d_Nine_letter_56 : decode prog_1_method_7_code 56 = .ok (.iload_n 2, 1) := by decide +kernel
theorem d_Nine_letter_57 : decode prog_1_method_7_code 57 = .ok (.invokevirtual 145, 3) := by decide +kernel
theorem kw_Nine_145 : KW "NineBoards" 145 ⟨"NineBoards$Lake", "hasVillage", "(I)Z"⟩ prog_5_method_4_code 2 (some .boolean) 1 := ⟨(mt_3 (List.mem_of_getElem? (i := 228) rfl) rfl), (mt_1 (List.mem_of_getElem? (i := 6) rfl) rfl), (mt_3 (List.mem_of_getElem? (i := 231) rfl) rfl), by decide +kernel⟩
theorem d_Nine_letter_60 : decode prog_1_method_7_code 60 = .ok (.ifCond .eq 20, 3) := by decide +kernel
theorem d_Nine_letter_63 : decode prog_1_method_7_code 63 = .ok (.aload_n 0, 1) := by decide +kernel
theorem d_Nine_letter_64 : decode prog_1_method_7_code 64 = .ok (.getfield 41, 3) := by decide +kernel
theorem d_Nine_letter_67 : decode prog_1_method_7_code 67 = .ok (.getfield 148, 3) := by decide +kernel
theorem gf_Nine_148 : GF "NineBoards" 148 2 6 := ⟨_, _, _, rfl, ci_Lake, by decide, (mt_2 (List.mem_of_getElem? (i := 52) rfl) rfl)⟩
theorem d_Nine_letter_70 : decode prog_1_method_7_code 70 = .ok (.iload_n 2, 1) := by decide +kernel
theorem d_Nine_letter_71 : decode prog_1_method_7_code 71 = .ok (.iaload, 1) := by decide +kernel
theorem d_Nine_letter_72 : decode prog_1_method_7_code 72 = .ok (.iconst 5, 1) := by decide +kernel
theorem d_Nine_letter_73 : decode prog_1_method_7_code 73 = .ok (.iload_n 3, 1) := by decide +kernel
theorem d_Nine_letter_74 : decode prog_1_method_7_code 74 = .ok (.imul, 1) := by decide +kernel
theorem d_Nine_letter_75 : decode prog_1_method_7_code 75 = .ok (.ishr, 1) := by decide +kernel
theorem d_Nine_letter_76 : decode prog_1_method_7_code 76 = .ok (.bipush 31, 2) := by decide +kernel
theorem d_Nine_letter_78 : decode prog_1_method_7_code 78 = .ok (.iand, 1) := by decide +kernel
theorem d_Nine_letter_79 : decode prog_1_method_7_code 79 = .ok (.ireturn, 1) := by decide +kernel
theorem d_Nine_letter_16 : decode prog_1_method_7_code 16 = .ok (.aload_n 0, 1) := by decide +kernel
theorem d_Nine_letter_17 : decode prog_1_method_7_code 17 = .ok (.getfield 41, 3) := by decide +kernel
theorem d_Nine_letter_20 : decode prog_1_method_7_code 20 = .ok (.iload_n 2, 1) := by decide +kernel
theorem d_Nine_letter_21 : decode prog_1_method_7_code 21 = .ok (.invokevirtual 138, 3) := by decide +kernel
theorem kw_Nine_138 : KW "NineBoards" 138 ⟨"NineBoards$Lake", "hasGate", "(I)Z"⟩ prog_5_method_3_code 2 (some .boolean) 1 := ⟨(mt_3 (List.mem_of_getElem? (i := 224) rfl) rfl), (mt_1 (List.mem_of_getElem? (i := 6) rfl) rfl), (mt_3 (List.mem_of_getElem? (i := 227) rfl) rfl), by decide +kernel⟩
theorem kv_Lake_hasGate : Cond.instanceMethod ⟨"NineBoards$Lake", "hasGate", "(I)Z"⟩ ∈ TB ∧ Cond.selects "NineBoards$Lake" ⟨"NineBoards$Lake", "hasGate", "(I)Z"⟩ ⟨"NineBoards$Lake", "hasGate", "(I)Z"⟩ ∈ TB := ⟨(mt_3 (List.mem_of_getElem? (i := 225) rfl) rfl), (mt_3 (List.mem_of_getElem? (i := 226) rfl) rfl)⟩
theorem d_Nine_letter_24 : decode prog_1_method_7_code 24 = .ok (.ifCond .eq 23, 3) := by decide +kernel
theorem d_Nine_letter_27 : decode prog_1_method_7_code 27 = .ok (.aload_n 0, 1) := by decide +kernel
theorem d_Nine_letter_28 : decode prog_1_method_7_code 28 = .ok (.getfield 41, 3) := by decide +kernel
theorem d_Nine_letter_31 : decode prog_1_method_7_code 31 = .ok (.getfield 89, 3) := by decide +kernel
theorem d_Nine_letter_34 : decode prog_1_method_7_code 34 = .ok (.getfield 142, 3) := by decide +kernel
theorem gf_Nine_142 : GF "NineBoards" 142 1 1 := ⟨_, _, _, rfl, ci_Gates, by decide, (mt_1 (List.mem_of_getElem? (i := 146) rfl) rfl)⟩
theorem d_Nine_letter_37 : decode prog_1_method_7_code 37 = .ok (.iload_n 2, 1) := by decide +kernel
theorem d_Nine_letter_38 : decode prog_1_method_7_code 38 = .ok (.iaload, 1) := by decide +kernel
theorem d_Nine_letter_39 : decode prog_1_method_7_code 39 = .ok (.iconst 5, 1) := by decide +kernel
theorem d_Nine_letter_40 : decode prog_1_method_7_code 40 = .ok (.iload_n 3, 1) := by decide +kernel
theorem d_Nine_letter_41 : decode prog_1_method_7_code 41 = .ok (.imul, 1) := by decide +kernel
theorem d_Nine_letter_42 : decode prog_1_method_7_code 42 = .ok (.ishr, 1) := by decide +kernel
theorem d_Nine_letter_43 : decode prog_1_method_7_code 43 = .ok (.bipush 31, 2) := by decide +kernel
theorem d_Nine_letter_45 : decode prog_1_method_7_code 45 = .ok (.iand, 1) := by decide +kernel
theorem d_Nine_letter_46 : decode prog_1_method_7_code 46 = .ok (.ireturn, 1) := by decide +kernel
theorem d_Nine_gate_0 : decode prog_1_method_8_code 0 = .ok (.aload_n 0, 1) := by decide +kernel
theorem d_Nine_gate_1 : decode prog_1_method_8_code 1 = .ok (.getfield 41, 3) := by decide +kernel
theorem d_Nine_gate_4 : decode prog_1_method_8_code 4 = .ok (.iload_n 1, 1) := by decide +kernel
theorem d_Nine_gate_5 : decode prog_1_method_8_code 5 = .ok (.invokevirtual 138, 3) := by decide +kernel
theorem d_Nine_gate_8 : decode prog_1_method_8_code 8 = .ok (.ifCond .ne 5, 3) := by decide +kernel
theorem d_Nine_gate_11 : decode prog_1_method_8_code 11 = .ok (.iconst (-1), 1) := by decide +kernel
theorem d_Nine_gate_12 : decode prog_1_method_8_code 12 = .ok (.ireturn, 1) := by decide +kernel
theorem d_Nine_gate_13 : decode prog_1_method_8_code 13 = .ok (.iload_n 2, 1) := by decide +kernel
theorem d_Nine_gate_14 : decode prog_1_method_8_code 14 = .ok (.tableswitch 130 0 5 #[38, 51, 61, 74, 87, 120], 38) := by decide +kernel
theorem d_Nine_gate_52 : decode prog_1_method_8_code 52 = .ok (.aload_n 0, 1) := by decide +kernel
theorem d_Nine_gate_53 : decode prog_1_method_8_code 53 = .ok (.getfield 41, 3) := by decide +kernel
theorem d_Nine_gate_56 : decode prog_1_method_8_code 56 = .ok (.getfield 89, 3) := by decide +kernel
theorem d_Nine_gate_59 : decode prog_1_method_8_code 59 = .ok (.getfield 151, 3) := by decide +kernel
theorem gf_Nine_151 : GF "NineBoards" 151 1 2 := ⟨_, _, _, rfl, ci_Gates, by decide, (mt_1 (List.mem_of_getElem? (i := 149) rfl) rfl)⟩
theorem d_Nine_gate_62 : decode prog_1_method_8_code 62 = .ok (.iload_n 1, 1) := by decide +kernel
theorem d_Nine_gate_63 : decode prog_1_method_8_code 63 = .ok (.iaload, 1) := by decide +kernel
theorem d_Nine_gate_64 : decode prog_1_method_8_code 64 = .ok (.ireturn, 1) := by decide +kernel
theorem d_Nine_gate_65 : decode prog_1_method_8_code 65 = .ok (.aload_n 0, 1) := by decide +kernel
theorem d_Nine_gate_66 : decode prog_1_method_8_code 66 = .ok (.getfield 24, 3) := by decide +kernel
theorem d_Nine_gate_69 : decode prog_1_method_8_code 69 = .ok (.getfield 96, 3) := by decide +kernel
theorem gf_Nine_96 : GF "NineBoards" 96 7 3 := ⟨_, _, _, rfl, ci_State, by decide, (mt_1 (List.mem_of_getElem? (i := 65) rfl) rfl)⟩
theorem d_Nine_gate_72 : decode prog_1_method_8_code 72 = .ok (.iload_n 1, 1) := by decide +kernel
theorem d_Nine_gate_73 : decode prog_1_method_8_code 73 = .ok (.iaload, 1) := by decide +kernel
theorem d_Nine_gate_74 : decode prog_1_method_8_code 74 = .ok (.ireturn, 1) := by decide +kernel
theorem d_Nine_gate_75 : decode prog_1_method_8_code 75 = .ok (.aload_n 0, 1) := by decide +kernel
theorem d_Nine_gate_76 : decode prog_1_method_8_code 76 = .ok (.getfield 41, 3) := by decide +kernel
theorem d_Nine_gate_79 : decode prog_1_method_8_code 79 = .ok (.getfield 89, 3) := by decide +kernel
theorem d_Nine_gate_82 : decode prog_1_method_8_code 82 = .ok (.getfield 154, 3) := by decide +kernel
theorem gf_Nine_154 : GF "NineBoards" 154 1 6 := ⟨_, _, _, rfl, ci_Gates, by decide, (mt_1 (List.mem_of_getElem? (i := 159) rfl) rfl)⟩
theorem d_Nine_gate_85 : decode prog_1_method_8_code 85 = .ok (.iload_n 1, 1) := by decide +kernel
theorem d_Nine_gate_86 : decode prog_1_method_8_code 86 = .ok (.iaload, 1) := by decide +kernel
theorem d_Nine_gate_87 : decode prog_1_method_8_code 87 = .ok (.ireturn, 1) := by decide +kernel
theorem d_Nine_gate_88 : decode prog_1_method_8_code 88 = .ok (.aload_n 0, 1) := by decide +kernel
theorem d_Nine_gate_89 : decode prog_1_method_8_code 89 = .ok (.getfield 41, 3) := by decide +kernel
theorem d_Nine_gate_92 : decode prog_1_method_8_code 92 = .ok (.getfield 89, 3) := by decide +kernel
theorem d_Nine_gate_95 : decode prog_1_method_8_code 95 = .ok (.getfield 157, 3) := by decide +kernel
theorem gf_Nine_157 : GF "NineBoards" 157 1 7 := ⟨_, _, _, rfl, ci_Gates, by decide, (mt_1 (List.mem_of_getElem? (i := 163) rfl) rfl)⟩
theorem d_Nine_gate_98 : decode prog_1_method_8_code 98 = .ok (.iload_n 1, 1) := by decide +kernel
theorem d_Nine_gate_99 : decode prog_1_method_8_code 99 = .ok (.iaload, 1) := by decide +kernel
theorem d_Nine_gate_100 : decode prog_1_method_8_code 100 = .ok (.ireturn, 1) := by decide +kernel
theorem d_Nine_gate_101 : decode prog_1_method_8_code 101 = .ok (.aload_n 0, 1) := by decide +kernel
theorem d_Nine_gate_102 : decode prog_1_method_8_code 102 = .ok (.getfield 28, 3) := by decide +kernel
theorem gf_Nine_28 : GF "NineBoards" 28 9 3 := ⟨_, _, _, rfl, ci_Nine, by decide, (mt_2 (List.mem_of_getElem? (i := 234) rfl) rfl)⟩
theorem d_Nine_gate_105 : decode prog_1_method_8_code 105 = .ok (.aload_n 0, 1) := by decide +kernel
theorem d_Nine_gate_106 : decode prog_1_method_8_code 106 = .ok (.getfield 24, 3) := by decide +kernel
theorem d_Nine_gate_109 : decode prog_1_method_8_code 109 = .ok (.invokevirtual 160, 3) := by decide +kernel
theorem kw_Nine_160 : KW "NineBoards" 160 ⟨"NineBoards$State", "take", "(LNineBoards$State;)V"⟩ prog_10_method_3_code 2 none 1 := ⟨(mt_3 (List.mem_of_getElem? (i := 236) rfl) rfl), (mt_1 (List.mem_of_getElem? (i := 4) rfl) rfl), (mt_3 (List.mem_of_getElem? (i := 239) rfl) rfl), by decide +kernel⟩
theorem d_Nine_gate_112 : decode prog_1_method_8_code 112 = .ok (.aload_n 0, 1) := by decide +kernel
theorem d_Nine_gate_113 : decode prog_1_method_8_code 113 = .ok (.getfield 41, 3) := by decide +kernel
theorem d_Nine_gate_116 : decode prog_1_method_8_code 116 = .ok (.aload_n 0, 1) := by decide +kernel
theorem d_Nine_gate_117 : decode prog_1_method_8_code 117 = .ok (.getfield 28, 3) := by decide +kernel
theorem d_Nine_gate_120 : decode prog_1_method_8_code 120 = .ok (.invokestatic 164, 3) := by decide +kernel
theorem kw_Nine_164 : KW "NineBoards" 164 ⟨"NineBoards$Days", "setFlows", "(LNineBoards$Lake;LNineBoards$State;)I"⟩ prog_3_method_8_code 5 (some .int) 2 := ⟨(mt_4 (List.mem_of_getElem? (i := 3) rfl) rfl), (mt_1 (List.mem_of_getElem? (i := 18) rfl) rfl), (mt_4 (List.mem_of_getElem? (i := 5) rfl) rfl), by decide +kernel⟩
theorem d_Nine_gate_123 : decode prog_1_method_8_code 123 = .ok (.pop, 1) := by decide +kernel
theorem d_Nine_gate_124 : decode prog_1_method_8_code 124 = .ok (.aload_n 0, 1) := by decide +kernel
theorem d_Nine_gate_125 : decode prog_1_method_8_code 125 = .ok (.getfield 28, 3) := by decide +kernel
theorem d_Nine_gate_128 : decode prog_1_method_8_code 128 = .ok (.getfield 170, 3) := by decide +kernel
theorem gf_Nine_170 : GF "NineBoards" 170 7 4 := ⟨_, _, _, rfl, ci_State, by decide, (mt_1 (List.mem_of_getElem? (i := 68) rfl) rfl)⟩
theorem d_Nine_gate_131 : decode prog_1_method_8_code 131 = .ok (.iload_n 1, 1) := by decide +kernel
theorem d_Nine_gate_132 : decode prog_1_method_8_code 132 = .ok (.iaload, 1) := by decide +kernel
theorem d_Nine_gate_133 : decode prog_1_method_8_code 133 = .ok (.ireturn, 1) := by decide +kernel
theorem d_Nine_gate_134 : decode prog_1_method_8_code 134 = .ok (.aload_n 0, 1) := by decide +kernel
theorem d_Nine_gate_135 : decode prog_1_method_8_code 135 = .ok (.getfield 24, 3) := by decide +kernel
theorem d_Nine_gate_138 : decode prog_1_method_8_code 138 = .ok (.getfield 170, 3) := by decide +kernel
theorem d_Nine_gate_141 : decode prog_1_method_8_code 141 = .ok (.iload_n 1, 1) := by decide +kernel
theorem d_Nine_gate_142 : decode prog_1_method_8_code 142 = .ok (.iaload, 1) := by decide +kernel
theorem d_Nine_gate_143 : decode prog_1_method_8_code 143 = .ok (.ireturn, 1) := by decide +kernel
theorem to_0_5 {x : Int32} (h0 : ¬ x = 0) (h1 : ¬ x = 1) (h2 : ¬ x = 2) (h3 : ¬ x = 3) (h4 : ¬ x = 4) (h5 : ¬ x = 5) : x.toInt < 0 ∨ 5 < x.toInt := by
  have g0 : x.toInt ≠ 0 := fun e => h0 (Int32.toInt_inj.mp (e.trans (by decide)))
  have g1 : x.toInt ≠ 1 := fun e => h1 (Int32.toInt_inj.mp (e.trans (by decide)))
  have g2 : x.toInt ≠ 2 := fun e => h2 (Int32.toInt_inj.mp (e.trans (by decide)))
  have g3 : x.toInt ≠ 3 := fun e => h3 (Int32.toInt_inj.mp (e.trans (by decide)))
  have g4 : x.toInt ≠ 4 := fun e => h4 (Int32.toInt_inj.mp (e.trans (by decide)))
  have g5 : x.toInt ≠ 5 := fun e => h5 (Int32.toInt_inj.mp (e.trans (by decide)))
  omega
theorem d_Nine_gate_144 : decode prog_1_method_8_code 144 = .ok (.iconst (-1), 1) := by decide +kernel
theorem d_Nine_gate_145 : decode prog_1_method_8_code 145 = .ok (.ireturn, 1) := by decide +kernel
theorem d_Nine_stream_0 : decode prog_1_method_9_code 0 = .ok (.aload_n 0, 1) := by decide +kernel
theorem d_Nine_stream_1 : decode prog_1_method_9_code 1 = .ok (.getfield 41, 3) := by decide +kernel
theorem d_Nine_stream_4 : decode prog_1_method_9_code 4 = .ok (.iload_n 1, 1) := by decide +kernel
theorem d_Nine_stream_5 : decode prog_1_method_9_code 5 = .ok (.invokevirtual 138, 3) := by decide +kernel
theorem d_Nine_stream_8 : decode prog_1_method_9_code 8 = .ok (.ifCond .eq 15, 3) := by decide +kernel
theorem d_Nine_stream_23 : decode prog_1_method_9_code 23 = .ok (.ldc2_w 177, 3) := by decide +kernel
theorem d_Nine_stream_26 : decode prog_1_method_9_code 26 = .ok (.lreturn, 1) := by decide +kernel
theorem d_Nine_stream_11 : decode prog_1_method_9_code 11 = .ok (.aload_n 0, 1) := by decide +kernel
theorem d_Nine_stream_12 : decode prog_1_method_9_code 12 = .ok (.getfield 24, 3) := by decide +kernel
theorem d_Nine_stream_15 : decode prog_1_method_9_code 15 = .ok (.getfield 173, 3) := by decide +kernel
theorem gf_Nine_173 : GF "NineBoards" 173 7 5 := ⟨_, _, _, rfl, ci_State, by decide, (mt_1 (List.mem_of_getElem? (i := 70) rfl) rfl)⟩
theorem d_Nine_stream_18 : decode prog_1_method_9_code 18 = .ok (.iload_n 1, 1) := by decide +kernel
theorem d_Nine_stream_19 : decode prog_1_method_9_code 19 = .ok (.laload, 1) := by decide +kernel
theorem d_Nine_stream_20 : decode prog_1_method_9_code 20 = .ok (.goto 6, 3) := by decide +kernel
set_option maxHeartbeats 4000000 in
set_option maxRecDepth 100000 in
theorem c_N_stream (l : Launch) (D : va_G) (y : Nat → ClassId) (x : Nat) (tp : Nat) (pi : Nat) (nh : Nat) (th : Nat) (ps : Nat) (ad : Nat → Nat) (ae : Nat → Nat) (rd : Nat) (pl : Nat) (dr : Int32) (d : LD) (sd : Int32) (sw : Int32) (sl : Int32) (na : Nat → Nat) (f2 : Nat → Int64) (v : Int32) (n9 : Nat) (h9 : d.1 9 = nI n9) (b9 : n9 ≤ 9) : CT l D y ⟨"NineBoards", "stream", "(I)J"⟩ prog_1_method_9_code 2 (some .long) ({ frames := 1, cells := 0, slots := 0, locals := 21 } : Room) [.ref x, .int v] [(x, .inr (9, [.ref tp, .ref pi, .ref nh, .ref th, .ref ps, .ref (ad 0), .ref (ae 0), .ref rd, .ref pl, .int dr])), (ad 0, .inr (2, [.int (d.1 0), .int (d.1 1), .int (d.1 2), .int (d.1 3), .ref (ad 1), .int (d.1 4), .ref (ad 11), .ref (ad 12), .ref (ad 2), .ref (ad 3), .int (d.1 5), .int (d.1 6), .int (d.1 7), .int (d.1 8)])), (ad 1, .inr (1, [.int (d.1 9), .ref (ad 4), .ref (ad 5), .ref (ad 6), .ref (ad 7), .ref (ad 8), .ref (ad 9), .ref (ad 10)])), (nh, .inr (7, [.int sd, .int sw, .int sl, .ref (na 0), .ref (na 1), .ref (na 2), .ref (na 3), .ref (na 4), .ref (na 5), .ref (na 6)])), (na 2, .inl (y 1, 9, .inr (.inl f2)))] (QL D [(x, .inr (9, [.ref tp, .ref pi, .ref nh, .ref th, .ref ps, .ref (ad 0), .ref (ae 0), .ref rd, .ref pl, .int dr])), (ad 0, .inr (2, [.int (d.1 0), .int (d.1 1), .int (d.1 2), .int (d.1 3), .ref (ad 1), .int (d.1 4), .ref (ad 11), .ref (ad 12), .ref (ad 2), .ref (ad 3), .int (d.1 5), .int (d.1 6), .int (d.1 7), .int (d.1 8)])), (ad 1, .inr (1, [.int (d.1 9), .ref (ad 4), .ref (ad 5), .ref (ad 6), .ref (ad 7), .ref (ad 8), .ref (ad 9), .ref (ad 10)])), (nh, .inr (7, [.int sd, .int sw, .int sl, .ref (na 0), .ref (na 1), .ref (na 2), .ref (na 3), .ref (na 4), .ref (na 5), .ref (na 6)])), (na 2, .inl (y 1, 9, .inr (.inl f2)))] (fun (r : Int64) (u : Unit) => True) (fun _ => [(x, .inr (9, [.ref tp, .ref pi, .ref nh, .ref th, .ref ps, .ref (ad 0), .ref (ae 0), .ref rd, .ref pl, .int dr])), (ad 0, .inr (2, [.int (d.1 0), .int (d.1 1), .int (d.1 2), .int (d.1 3), .ref (ad 1), .int (d.1 4), .ref (ad 11), .ref (ad 12), .ref (ad 2), .ref (ad 3), .int (d.1 5), .int (d.1 6), .int (d.1 7), .int (d.1 8)])), (ad 1, .inr (1, [.int (d.1 9), .ref (ad 4), .ref (ad 5), .ref (ad 6), .ref (ad 7), .ref (ad 8), .ref (ad 9), .ref (ad 10)])), (nh, .inr (7, [.int sd, .int sw, .int sl, .ref (na 0), .ref (na 1), .ref (na 2), .ref (na 3), .ref (na 4), .ref (na 5), .ref (na 6)])), (na 2, .inl (y 1, 9, .inr (.inl f2)))])) := by
  refine CT.of (by decide) (nb rfl) ?_
  intro p e s m args below meth c C hr
  refine j_lv (lv' := [(0, .ref x), (1, .int v)]) rfl ?_
  refine j_aload_n (pc := 0) C d_Nine_stream_0 rfl 0 rfl ?_
  refine j_get (pc := 1) C gf_Nine_41 0 rfl rfl d_Nine_stream_1 ?_
  refine j_iload_n (pc := 4) C d_Nine_stream_4 rfl 1 rfl ?_
  refine j_callVi (pc := 5) C (c_hasGate l D y ad d n9 v h9 b9) kw_Nine_138 kv_Lake_hasGate 0 2 rfl rfl ⟨by decide, by decide⟩ ⟨by decide, by decide⟩ (wr := [(x, .inr (9, [.ref tp, .ref pi, .ref nh, .ref th, .ref ps, .ref (ad 0), .ref (ae 0), .ref rd, .ref pl, .int dr])), (nh, .inr (7, [.int sd, .int sw, .int sl, .ref (na 0), .ref (na 1), .ref (na 2), .ref (na 3), .ref (na 4), .ref (na 5), .ref (na 6)])), (na 2, .inl (y 1, 9, .inr (.inl f2)))]) [1, 2] [0, 3, 4] rfl rfl (by decide) (by decide) (by decide) (As := [.int v]) (rest := []) rfl (nb rfl) rfl d_Nine_stream_5 (fun r1 _ hr1 => ?_)
  refine j_ws (ws' := [(x, .inr (9, [.ref tp, .ref pi, .ref nh, .ref th, .ref ps, .ref (ad 0), .ref (ae 0), .ref rd, .ref pl, .int dr])), (nh, .inr (7, [.int sd, .int sw, .int sl, .ref (na 0), .ref (na 1), .ref (na 2), .ref (na 3), .ref (na 4), .ref (na 5), .ref (na 6)])), (na 2, .inl (y 1, 9, .inr (.inl f2))), (ad 0, .inr (2, [.int (d.1 0), .int (d.1 1), .int (d.1 2), .int (d.1 3), .ref (ad 1), .int (d.1 4), .ref (ad 11), .ref (ad 12), .ref (ad 2), .ref (ad 3), .int (d.1 5), .int (d.1 6), .int (d.1 7), .int (d.1 8)])), (ad 1, .inr (1, [.int (d.1 9), .ref (ad 4), .ref (ad 5), .ref (ad 6), .ref (ad 7), .ref (ad 8), .ref (ad 9), .ref (ad 10)]))]) rfl ?_
  rcases hr1 with rfl | ⟨rfl, j2, xh3, rfl⟩
  · refine j_if_eqT (pc := 8) C (tgt := 23) d_Nine_stream_8 (by decide) (by decide) ?_
    refine j_ldc2 (pc := 23) C (v := (-1)) (mt_4 (List.mem_of_getElem? (i := 17) rfl) rfl) d_Nine_stream_23 ?_
    exact j_lret (pc := 26) C hr () trivial [0, 3, 4, 1, 2] rfl (by decide) (by decide) (by decide) d_Nine_stream_26
  · refine j_if_eqF (pc := 8) C (tgt := 23) d_Nine_stream_8 (by decide) (by decide) ?_
    refine j_aload_n (pc := 11) C d_Nine_stream_11 rfl 0 rfl ?_
    refine j_get (pc := 12) C gf_Nine_24 0 rfl rfl d_Nine_stream_12 ?_
    refine j_get (pc := 15) C gf_Nine_173 1 rfl rfl d_Nine_stream_15 ?_
    refine j_iload_n (pc := 18) C d_Nine_stream_18 rfl 1 rfl ?_
    refine j_lald (pc := 19) C 2 rfl (v := f2 j2) (vp_in_nI (by omega) (by decide)) (by rw [nI_clamp (by omega)]) d_Nine_stream_19 ?_
    refine j_goto (pc := 20) C (tgt := 26) d_Nine_stream_20 (by decide) ?_
    exact j_lret (pc := 26) C hr () trivial [0, 3, 4, 1, 2] rfl (by decide) (by decide) (by decide) d_Nine_stream_26
theorem d_Nine_all_0 : decode prog_1_method_10_code 0 = .ok (.iload_n 1, 1) := by decide +kernel
theorem d_Nine_all_1 : decode prog_1_method_10_code 1 = .ok (.ifCond .lt 20, 3) := by decide +kernel
theorem d_Nine_all_21 : decode prog_1_method_10_code 21 = .ok (.ldc2_w 177, 3) := by decide +kernel
theorem d_Nine_all_24 : decode prog_1_method_10_code 24 = .ok (.lreturn, 1) := by decide +kernel
theorem d_Nine_all_4 : decode prog_1_method_10_code 4 = .ok (.iload_n 1, 1) := by decide +kernel
theorem d_Nine_all_5 : decode prog_1_method_10_code 5 = .ok (.iconst 5, 1) := by decide +kernel
theorem d_Nine_all_6 : decode prog_1_method_10_code 6 = .ok (.if_icmp .ge 15, 3) := by decide +kernel
theorem d_Nine_all_9 : decode prog_1_method_10_code 9 = .ok (.aload_n 0, 1) := by decide +kernel
theorem d_Nine_all_10 : decode prog_1_method_10_code 10 = .ok (.getfield 24, 3) := by decide +kernel
theorem d_Nine_all_13 : decode prog_1_method_10_code 13 = .ok (.getfield 179, 3) := by decide +kernel
theorem d_Nine_all_16 : decode prog_1_method_10_code 16 = .ok (.iload_n 1, 1) := by decide +kernel
theorem d_Nine_all_17 : decode prog_1_method_10_code 17 = .ok (.laload, 1) := by decide +kernel
theorem d_Nine_all_18 : decode prog_1_method_10_code 18 = .ok (.goto 6, 3) := by decide +kernel
set_option maxHeartbeats 4000000 in
set_option maxRecDepth 100000 in
theorem c_N_all (l : Launch) (D : va_G) (y : Nat → ClassId) (x : Nat) (tp : Nat) (pi : Nat) (nh : Nat) (th : Nat) (ps : Nat) (ad : Nat → Nat) (ae : Nat → Nat) (rd : Nat) (pl : Nat) (dr : Int32) (sd : Int32) (sw : Int32) (sl : Int32) (na : Nat → Nat) (f6 : Nat → Int64) (v : Int32)  : CT l D y ⟨"NineBoards", "all", "(I)J"⟩ prog_1_method_10_code 2 (some .long) ({ frames := 0, cells := 0, slots := 0, locals := 0 } : Room) [.ref x, .int v] [(x, .inr (9, [.ref tp, .ref pi, .ref nh, .ref th, .ref ps, .ref (ad 0), .ref (ae 0), .ref rd, .ref pl, .int dr])), (nh, .inr (7, [.int sd, .int sw, .int sl, .ref (na 0), .ref (na 1), .ref (na 2), .ref (na 3), .ref (na 4), .ref (na 5), .ref (na 6)])), (na 6, .inl (y 1, 5, .inr (.inl f6)))] (QL D [(x, .inr (9, [.ref tp, .ref pi, .ref nh, .ref th, .ref ps, .ref (ad 0), .ref (ae 0), .ref rd, .ref pl, .int dr])), (nh, .inr (7, [.int sd, .int sw, .int sl, .ref (na 0), .ref (na 1), .ref (na 2), .ref (na 3), .ref (na 4), .ref (na 5), .ref (na 6)])), (na 6, .inl (y 1, 5, .inr (.inl f6)))] (fun (r : Int64) (u : Unit) => True) (fun _ => [(x, .inr (9, [.ref tp, .ref pi, .ref nh, .ref th, .ref ps, .ref (ad 0), .ref (ae 0), .ref rd, .ref pl, .int dr])), (nh, .inr (7, [.int sd, .int sw, .int sl, .ref (na 0), .ref (na 1), .ref (na 2), .ref (na 3), .ref (na 4), .ref (na 5), .ref (na 6)])), (na 6, .inl (y 1, 5, .inr (.inl f6)))])) := by
  refine CT.of (by decide) (nb rfl) ?_
  intro p e s m args below meth c C hr
  refine j_lv (lv' := [(0, .ref x), (1, .int v)]) rfl ?_
  refine j_iload_n (pc := 0) C d_Nine_all_0 rfl 1 rfl ?_
  refine j_if_lt (pc := 1) C (tgt := 21) d_Nine_all_1 (by decide) (fun c1 => ?_) (fun c1 => ?_)
  · refine j_ldc2 (pc := 21) C (v := (-1)) (mt_4 (List.mem_of_getElem? (i := 17) rfl) rfl) d_Nine_all_21 ?_
    exact j_lret (pc := 24) C hr () trivial [0, 1, 2] rfl (by decide) (by decide) (by decide) d_Nine_all_24
  · refine j_iload_n (pc := 4) C d_Nine_all_4 rfl 1 rfl ?_
    refine j_iconst (pc := 5) C (v := 5) d_Nine_all_5 (by decide) ?_
    refine j_icmp_ge (pc := 6) C (tgt := 21) d_Nine_all_6 (by decide) (fun c2 => ?_) (fun c2 => ?_)
    · refine j_ldc2 (pc := 21) C (v := (-1)) (mt_4 (List.mem_of_getElem? (i := 17) rfl) rfl) d_Nine_all_21 ?_
      exact j_lret (pc := 24) C hr () trivial [0, 1, 2] rfl (by decide) (by decide) (by decide) d_Nine_all_24
    · obtain ⟨j3, xh4, rfl⟩ := nI_lt2 (n := 5) c1 c2 (by omega)
      refine j_aload_n (pc := 9) C d_Nine_all_9 rfl 0 rfl ?_
      refine j_get (pc := 10) C gf_Nine_24 0 rfl rfl d_Nine_all_10 ?_
      refine j_get (pc := 13) C gf_Nine_179 1 rfl rfl d_Nine_all_13 ?_
      refine j_iload_n (pc := 16) C d_Nine_all_16 rfl 1 rfl ?_
      refine j_lald (pc := 17) C 2 rfl (v := f6 j3) (vp_in_nI (by omega) (by decide)) (by rw [nI_clamp (by omega)]) d_Nine_all_17 ?_
      refine j_goto (pc := 18) C (tgt := 24) d_Nine_all_18 (by decide) ?_
      exact j_lret (pc := 24) C hr () trivial [0, 1, 2] rfl (by decide) (by decide) (by decide) d_Nine_all_24
theorem d_Nine_village_0 : decode prog_1_method_11_code 0 = .ok (.aload_n 0, 1) := by decide +kernel
theorem d_Nine_village_1 : decode prog_1_method_11_code 1 = .ok (.getfield 41, 3) := by decide +kernel
theorem d_Nine_village_4 : decode prog_1_method_11_code 4 = .ok (.iload_n 1, 1) := by decide +kernel
theorem d_Nine_village_5 : decode prog_1_method_11_code 5 = .ok (.invokevirtual 145, 3) := by decide +kernel
theorem d_Nine_village_8 : decode prog_1_method_11_code 8 = .ok (.ifCond .ne 6, 3) := by decide +kernel
theorem d_Nine_village_11 : decode prog_1_method_11_code 11 = .ok (.ldc 182, 2) := by decide +kernel
theorem d_Nine_village_13 : decode prog_1_method_11_code 13 = .ok (.ireturn, 1) := by decide +kernel
theorem d_Nine_village_14 : decode prog_1_method_11_code 14 = .ok (.iload_n 2, 1) := by decide +kernel
theorem d_Nine_village_15 : decode prog_1_method_11_code 15 = .ok (.tableswitch 92 0 4 #[33, 43, 53, 63, 79], 33) := by decide +kernel
theorem d_Nine_village_48 : decode prog_1_method_11_code 48 = .ok (.aload_n 0, 1) := by decide +kernel
theorem d_Nine_village_49 : decode prog_1_method_11_code 49 = .ok (.getfield 41, 3) := by decide +kernel
theorem d_Nine_village_52 : decode prog_1_method_11_code 52 = .ok (.getfield 183, 3) := by decide +kernel
theorem gf_Nine_183 : GF "NineBoards" 183 2 7 := ⟨_, _, _, rfl, ci_Lake, by decide, (mt_2 (List.mem_of_getElem? (i := 57) rfl) rfl)⟩
theorem d_Nine_village_55 : decode prog_1_method_11_code 55 = .ok (.iload_n 1, 1) := by decide +kernel
theorem d_Nine_village_56 : decode prog_1_method_11_code 56 = .ok (.iaload, 1) := by decide +kernel
theorem d_Nine_village_57 : decode prog_1_method_11_code 57 = .ok (.ireturn, 1) := by decide +kernel
theorem d_Nine_village_58 : decode prog_1_method_11_code 58 = .ok (.aload_n 0, 1) := by decide +kernel
theorem d_Nine_village_59 : decode prog_1_method_11_code 59 = .ok (.getfield 24, 3) := by decide +kernel
theorem d_Nine_village_62 : decode prog_1_method_11_code 62 = .ok (.getfield 186, 3) := by decide +kernel
theorem gf_Nine_186 : GF "NineBoards" 186 7 6 := ⟨_, _, _, rfl, ci_State, by decide, (mt_1 (List.mem_of_getElem? (i := 74) rfl) rfl)⟩
theorem d_Nine_village_65 : decode prog_1_method_11_code 65 = .ok (.iload_n 1, 1) := by decide +kernel
theorem d_Nine_village_66 : decode prog_1_method_11_code 66 = .ok (.iaload, 1) := by decide +kernel
theorem d_Nine_village_67 : decode prog_1_method_11_code 67 = .ok (.ireturn, 1) := by decide +kernel
theorem d_Nine_village_68 : decode prog_1_method_11_code 68 = .ok (.aload_n 0, 1) := by decide +kernel
theorem d_Nine_village_69 : decode prog_1_method_11_code 69 = .ok (.getfield 24, 3) := by decide +kernel
theorem d_Nine_village_72 : decode prog_1_method_11_code 72 = .ok (.getfield 189, 3) := by decide +kernel
theorem gf_Nine_189 : GF "NineBoards" 189 7 7 := ⟨_, _, _, rfl, ci_State, by decide, (mt_1 (List.mem_of_getElem? (i := 78) rfl) rfl)⟩
theorem d_Nine_village_75 : decode prog_1_method_11_code 75 = .ok (.iload_n 1, 1) := by decide +kernel
theorem d_Nine_village_76 : decode prog_1_method_11_code 76 = .ok (.iaload, 1) := by decide +kernel
theorem d_Nine_village_77 : decode prog_1_method_11_code 77 = .ok (.ireturn, 1) := by decide +kernel
theorem d_Nine_village_78 : decode prog_1_method_11_code 78 = .ok (.aload_n 0, 1) := by decide +kernel
theorem d_Nine_village_79 : decode prog_1_method_11_code 79 = .ok (.getfield 41, 3) := by decide +kernel
theorem d_Nine_village_82 : decode prog_1_method_11_code 82 = .ok (.iload_n 1, 1) := by decide +kernel
theorem d_Nine_village_83 : decode prog_1_method_11_code 83 = .ok (.aload_n 0, 1) := by decide +kernel
theorem d_Nine_village_84 : decode prog_1_method_11_code 84 = .ok (.getfield 24, 3) := by decide +kernel
theorem d_Nine_village_87 : decode prog_1_method_11_code 87 = .ok (.getfield 124, 3) := by decide +kernel
theorem d_Nine_village_90 : decode prog_1_method_11_code 90 = .ok (.invokevirtual 192, 3) := by decide +kernel
theorem kw_Nine_192 : KW "NineBoards" 192 ⟨"NineBoards$Lake", "daysUntil", "(II)I"⟩ prog_5_method_9_code 3 (some .int) 2 := ⟨(mt_4 (List.mem_of_getElem? (i := 27) rfl) rfl), (mt_1 (List.mem_of_getElem? (i := 6) rfl) rfl), (mt_4 (List.mem_of_getElem? (i := 30) rfl) rfl), by decide +kernel⟩
theorem kv_Lake_daysUntil : Cond.instanceMethod ⟨"NineBoards$Lake", "daysUntil", "(II)I"⟩ ∈ TB ∧ Cond.selects "NineBoards$Lake" ⟨"NineBoards$Lake", "daysUntil", "(II)I"⟩ ⟨"NineBoards$Lake", "daysUntil", "(II)I"⟩ ∈ TB := ⟨(mt_4 (List.mem_of_getElem? (i := 28) rfl) rfl), (mt_4 (List.mem_of_getElem? (i := 29) rfl) rfl)⟩
theorem d_Nine_village_93 : decode prog_1_method_11_code 93 = .ok (.ireturn, 1) := by decide +kernel
theorem d_Nine_village_94 : decode prog_1_method_11_code 94 = .ok (.aload_n 0, 1) := by decide +kernel
theorem d_Nine_village_95 : decode prog_1_method_11_code 95 = .ok (.getfield 41, 3) := by decide +kernel
theorem d_Nine_village_98 : decode prog_1_method_11_code 98 = .ok (.aload_n 0, 1) := by decide +kernel
theorem d_Nine_village_99 : decode prog_1_method_11_code 99 = .ok (.getfield 24, 3) := by decide +kernel
theorem d_Nine_village_102 : decode prog_1_method_11_code 102 = .ok (.iload_n 1, 1) := by decide +kernel
theorem d_Nine_village_103 : decode prog_1_method_11_code 103 = .ok (.invokestatic 196, 3) := by decide +kernel
theorem kw_Nine_196 : KW "NineBoards" 196 ⟨"NineBoards$Days", "allowedBits", "(LNineBoards$Lake;LNineBoards$State;I)I"⟩ prog_3_method_4_code 5 (some .int) 3 := ⟨(mt_4 (List.mem_of_getElem? (i := 34) rfl) rfl), (mt_1 (List.mem_of_getElem? (i := 18) rfl) rfl), (mt_4 (List.mem_of_getElem? (i := 36) rfl) rfl), by decide +kernel⟩
theorem ks_Days_allowedBits : Cond.static ⟨"NineBoards$Days", "allowedBits", "(LNineBoards$Lake;LNineBoards$State;I)I"⟩ ∈ TB := (mt_4 (List.mem_of_getElem? (i := 35) rfl) rfl)
theorem d_Nine_village_106 : decode prog_1_method_11_code 106 = .ok (.ireturn, 1) := by decide +kernel
theorem to_0_4 {x : Int32} (h0 : ¬ x = 0) (h1 : ¬ x = 1) (h2 : ¬ x = 2) (h3 : ¬ x = 3) (h4 : ¬ x = 4) : x.toInt < 0 ∨ 4 < x.toInt := by
  have g0 : x.toInt ≠ 0 := fun e => h0 (Int32.toInt_inj.mp (e.trans (by decide)))
  have g1 : x.toInt ≠ 1 := fun e => h1 (Int32.toInt_inj.mp (e.trans (by decide)))
  have g2 : x.toInt ≠ 2 := fun e => h2 (Int32.toInt_inj.mp (e.trans (by decide)))
  have g3 : x.toInt ≠ 3 := fun e => h3 (Int32.toInt_inj.mp (e.trans (by decide)))
  have g4 : x.toInt ≠ 4 := fun e => h4 (Int32.toInt_inj.mp (e.trans (by decide)))
  omega
theorem d_Nine_village_107 : decode prog_1_method_11_code 107 = .ok (.ldc 182, 2) := by decide +kernel
theorem d_Nine_village_109 : decode prog_1_method_11_code 109 = .ok (.ireturn, 1) := by decide +kernel
set_option maxHeartbeats 4000000 in
set_option maxRecDepth 100000 in
theorem c_N_village (l : Launch) (D : va_G) (y : Nat → ClassId) (x : Nat) (tp : Nat) (pi : Nat) (nh : Nat) (th : Nat) (ps : Nat) (ad : Nat → Nat) (ae : Nat → Nat) (rd : Nat) (pl : Nat) (dr : Int32) (d : LD) (sd : Int32) (sw : Int32) (sl : Int32) (na : Nat → Nat) (f0 : Nat → Int32) (f3 : Nat → Int32) (f4 : Nat → Int32) (v1 : Int32) (v2 : Int32) (n4 : Nat) (h4 : d.1 4 = nI n4) (b4 : n4 ≤ 6) (hJ : ∀ j, j < 9 → d.2 6 j = -1 ∨ ∃ q, q < 9 ∧ d.2 6 j = nI q) (hV : ∀ j, j < n4 → ∃ q, q < 9 ∧ d.2 8 j = nI q) : CT l D y ⟨"NineBoards", "village", "(II)I"⟩ prog_1_method_11_code 3 (some .int) ({ frames := 3, cells := 0, slots := 0, locals := 74 } : Room) [.ref x, .int v1, .int v2] [(x, .inr (9, [.ref tp, .ref pi, .ref nh, .ref th, .ref ps, .ref (ad 0), .ref (ae 0), .ref rd, .ref pl, .int dr])), (ad 0, .inr (2, [.int (d.1 0), .int (d.1 1), .int (d.1 2), .int (d.1 3), .ref (ad 1), .int (d.1 4), .ref (ad 11), .ref (ad 12), .ref (ad 2), .ref (ad 3), .int (d.1 5), .int (d.1 6), .int (d.1 7), .int (d.1 8)])), (ad 1, .inr (1, [.int (d.1 9), .ref (ad 4), .ref (ad 5), .ref (ad 6), .ref (ad 7), .ref (ad 8), .ref (ad 9), .ref (ad 10)])), (ad 10, .inl (y 0, 9, .inl (d.2 6))), (ad 12, .inl (y 0, 6, .inl (d.2 8))), (nh, .inr (7, [.int sd, .int sw, .int sl, .ref (na 0), .ref (na 1), .ref (na 2), .ref (na 3), .ref (na 4), .ref (na 5), .ref (na 6)])), (na 0, .inl (y 0, 9, .inl f0)), (na 3, .inl (y 0, 6, .inl f3)), (na 4, .inl (y 0, 6, .inl f4))] (QI D [(x, .inr (9, [.ref tp, .ref pi, .ref nh, .ref th, .ref ps, .ref (ad 0), .ref (ae 0), .ref rd, .ref pl, .int dr])), (ad 0, .inr (2, [.int (d.1 0), .int (d.1 1), .int (d.1 2), .int (d.1 3), .ref (ad 1), .int (d.1 4), .ref (ad 11), .ref (ad 12), .ref (ad 2), .ref (ad 3), .int (d.1 5), .int (d.1 6), .int (d.1 7), .int (d.1 8)])), (ad 1, .inr (1, [.int (d.1 9), .ref (ad 4), .ref (ad 5), .ref (ad 6), .ref (ad 7), .ref (ad 8), .ref (ad 9), .ref (ad 10)])), (ad 10, .inl (y 0, 9, .inl (d.2 6))), (ad 12, .inl (y 0, 6, .inl (d.2 8))), (nh, .inr (7, [.int sd, .int sw, .int sl, .ref (na 0), .ref (na 1), .ref (na 2), .ref (na 3), .ref (na 4), .ref (na 5), .ref (na 6)])), (na 0, .inl (y 0, 9, .inl f0)), (na 3, .inl (y 0, 6, .inl f3)), (na 4, .inl (y 0, 6, .inl f4))] (fun (r : Int32) (u : Unit) => True) (fun _ => [(x, .inr (9, [.ref tp, .ref pi, .ref nh, .ref th, .ref ps, .ref (ad 0), .ref (ae 0), .ref rd, .ref pl, .int dr])), (ad 0, .inr (2, [.int (d.1 0), .int (d.1 1), .int (d.1 2), .int (d.1 3), .ref (ad 1), .int (d.1 4), .ref (ad 11), .ref (ad 12), .ref (ad 2), .ref (ad 3), .int (d.1 5), .int (d.1 6), .int (d.1 7), .int (d.1 8)])), (ad 1, .inr (1, [.int (d.1 9), .ref (ad 4), .ref (ad 5), .ref (ad 6), .ref (ad 7), .ref (ad 8), .ref (ad 9), .ref (ad 10)])), (ad 10, .inl (y 0, 9, .inl (d.2 6))), (ad 12, .inl (y 0, 6, .inl (d.2 8))), (nh, .inr (7, [.int sd, .int sw, .int sl, .ref (na 0), .ref (na 1), .ref (na 2), .ref (na 3), .ref (na 4), .ref (na 5), .ref (na 6)])), (na 0, .inl (y 0, 9, .inl f0)), (na 3, .inl (y 0, 6, .inl f3)), (na 4, .inl (y 0, 6, .inl f4))])) := by
  refine CT.of (by decide) (nb rfl) ?_
  intro p e s m args below meth c C hr
  refine j_lv (lv' := [(0, .ref x), (1, .int v1), (2, .int v2)]) rfl ?_
  refine j_aload_n (pc := 0) C d_Nine_village_0 rfl 0 rfl ?_
  refine j_get (pc := 1) C gf_Nine_41 0 rfl rfl d_Nine_village_1 ?_
  refine j_iload_n (pc := 4) C d_Nine_village_4 rfl 1 rfl ?_
  refine j_callVi (pc := 5) C (c_hasVillage l D y ad d n4 v1 h4 b4) kw_Nine_145 kv_Lake_hasVillage 0 2 rfl rfl ⟨by decide, by decide⟩ ⟨by decide, by decide⟩ (wr := [(x, .inr (9, [.ref tp, .ref pi, .ref nh, .ref th, .ref ps, .ref (ad 0), .ref (ae 0), .ref rd, .ref pl, .int dr])), (ad 1, .inr (1, [.int (d.1 9), .ref (ad 4), .ref (ad 5), .ref (ad 6), .ref (ad 7), .ref (ad 8), .ref (ad 9), .ref (ad 10)])), (ad 10, .inl (y 0, 9, .inl (d.2 6))), (ad 12, .inl (y 0, 6, .inl (d.2 8))), (nh, .inr (7, [.int sd, .int sw, .int sl, .ref (na 0), .ref (na 1), .ref (na 2), .ref (na 3), .ref (na 4), .ref (na 5), .ref (na 6)])), (na 0, .inl (y 0, 9, .inl f0)), (na 3, .inl (y 0, 6, .inl f3)), (na 4, .inl (y 0, 6, .inl f4))]) [1] [0, 2, 3, 4, 5, 6, 7, 8] rfl rfl (by decide +kernel) (by decide +kernel) (by decide +kernel) (As := [.int v1]) (rest := []) rfl (nb rfl) rfl d_Nine_village_5 (fun r1 _ hr1 => ?_)
  refine j_ws (ws' := [(x, .inr (9, [.ref tp, .ref pi, .ref nh, .ref th, .ref ps, .ref (ad 0), .ref (ae 0), .ref rd, .ref pl, .int dr])), (ad 1, .inr (1, [.int (d.1 9), .ref (ad 4), .ref (ad 5), .ref (ad 6), .ref (ad 7), .ref (ad 8), .ref (ad 9), .ref (ad 10)])), (ad 10, .inl (y 0, 9, .inl (d.2 6))), (ad 12, .inl (y 0, 6, .inl (d.2 8))), (nh, .inr (7, [.int sd, .int sw, .int sl, .ref (na 0), .ref (na 1), .ref (na 2), .ref (na 3), .ref (na 4), .ref (na 5), .ref (na 6)])), (na 0, .inl (y 0, 9, .inl f0)), (na 3, .inl (y 0, 6, .inl f3)), (na 4, .inl (y 0, 6, .inl f4)), (ad 0, .inr (2, [.int (d.1 0), .int (d.1 1), .int (d.1 2), .int (d.1 3), .ref (ad 1), .int (d.1 4), .ref (ad 11), .ref (ad 12), .ref (ad 2), .ref (ad 3), .int (d.1 5), .int (d.1 6), .int (d.1 7), .int (d.1 8)]))]) rfl ?_
  rcases hr1 with rfl | ⟨rfl, j2, xh3, rfl⟩
  · refine j_if_neF (pc := 8) C (tgt := 14) d_Nine_village_8 (by decide) (by decide) ?_
    refine j_ldc (pc := 11) C (v := (-1000000000)) (mt_4 (List.mem_of_getElem? (i := 26) rfl) rfl) d_Nine_village_11 ?_
    exact j_iret (pc := 13) C hr rfl () trivial [0, 8, 1, 2, 3, 4, 5, 6, 7] rfl (by decide) (by decide) (by decide) d_Nine_village_13
  · refine j_if_neT (pc := 8) C (tgt := 14) d_Nine_village_8 (by decide) (by decide) ?_
    refine j_iload_n (pc := 14) C d_Nine_village_14 rfl 2 rfl ?_
    by_cases c4_0 : v2 = 0
    · refine j_tabIn (pc := 15) C (off := 33) (tgt := 48) d_Nine_village_15 (by rw [c4_0]; decide) (by rw [c4_0]; decide) (by rw [c4_0]; decide) (by decide) ?_
      refine j_aload_n (pc := 48) C d_Nine_village_48 rfl 0 rfl ?_
      refine j_get (pc := 49) C gf_Nine_41 0 rfl rfl d_Nine_village_49 ?_
      refine j_get (pc := 52) C gf_Nine_183 8 rfl rfl d_Nine_village_52 ?_
      refine j_iload_n (pc := 55) C d_Nine_village_55 rfl 1 rfl ?_
      refine j_iald (pc := 56) C 3 rfl (v := (d.2 8) j2) (vp_in_nI (by omega) (by decide)) (by rw [nI_clamp (by omega)]) d_Nine_village_56 ?_
      exact j_iret (pc := 57) C hr rfl () trivial [0, 8, 1, 2, 3, 4, 5, 6, 7] rfl (by decide) (by decide) (by decide) d_Nine_village_57
    · by_cases c4_1 : v2 = 1
      · refine j_tabIn (pc := 15) C (off := 43) (tgt := 58) d_Nine_village_15 (by rw [c4_1]; decide) (by rw [c4_1]; decide) (by rw [c4_1]; decide) (by decide) ?_
        refine j_aload_n (pc := 58) C d_Nine_village_58 rfl 0 rfl ?_
        refine j_get (pc := 59) C gf_Nine_24 0 rfl rfl d_Nine_village_59 ?_
        refine j_get (pc := 62) C gf_Nine_186 4 rfl rfl d_Nine_village_62 ?_
        refine j_iload_n (pc := 65) C d_Nine_village_65 rfl 1 rfl ?_
        refine j_iald (pc := 66) C 6 rfl (v := f3 j2) (vp_in_nI (by omega) (by decide)) (by rw [nI_clamp (by omega)]) d_Nine_village_66 ?_
        exact j_iret (pc := 67) C hr rfl () trivial [0, 8, 1, 2, 3, 4, 5, 6, 7] rfl (by decide) (by decide) (by decide) d_Nine_village_67
      · by_cases c4_2 : v2 = 2
        · refine j_tabIn (pc := 15) C (off := 53) (tgt := 68) d_Nine_village_15 (by rw [c4_2]; decide) (by rw [c4_2]; decide) (by rw [c4_2]; decide) (by decide) ?_
          refine j_aload_n (pc := 68) C d_Nine_village_68 rfl 0 rfl ?_
          refine j_get (pc := 69) C gf_Nine_24 0 rfl rfl d_Nine_village_69 ?_
          refine j_get (pc := 72) C gf_Nine_189 4 rfl rfl d_Nine_village_72 ?_
          refine j_iload_n (pc := 75) C d_Nine_village_75 rfl 1 rfl ?_
          refine j_iald (pc := 76) C 7 rfl (v := f4 j2) (vp_in_nI (by omega) (by decide)) (by rw [nI_clamp (by omega)]) d_Nine_village_76 ?_
          exact j_iret (pc := 77) C hr rfl () trivial [0, 8, 1, 2, 3, 4, 5, 6, 7] rfl (by decide) (by decide) (by decide) d_Nine_village_77
        · by_cases c4_3 : v2 = 3
          · refine j_tabIn (pc := 15) C (off := 63) (tgt := 78) d_Nine_village_15 (by rw [c4_3]; decide) (by rw [c4_3]; decide) (by rw [c4_3]; decide) (by decide) ?_
            refine j_aload_n (pc := 78) C d_Nine_village_78 rfl 0 rfl ?_
            refine j_get (pc := 79) C gf_Nine_41 0 rfl rfl d_Nine_village_79 ?_
            refine j_iload_n (pc := 82) C d_Nine_village_82 rfl 1 rfl ?_
            refine j_aload_n (pc := 83) C d_Nine_village_83 rfl 0 rfl ?_
            refine j_get (pc := 84) C gf_Nine_24 0 rfl rfl d_Nine_village_84 ?_
            refine j_get (pc := 87) C gf_Nine_124 4 rfl rfl d_Nine_village_87 ?_
            refine j_callVi (pc := 90) C (c_daysUntil l D y ad d (nI j2) sd) kw_Nine_192 kv_Lake_daysUntil 0 2 rfl rfl ⟨by decide, by decide⟩ ⟨by decide, by decide⟩ (wr := [(x, .inr (9, [.ref tp, .ref pi, .ref nh, .ref th, .ref ps, .ref (ad 0), .ref (ae 0), .ref rd, .ref pl, .int dr])), (ad 1, .inr (1, [.int (d.1 9), .ref (ad 4), .ref (ad 5), .ref (ad 6), .ref (ad 7), .ref (ad 8), .ref (ad 9), .ref (ad 10)])), (ad 10, .inl (y 0, 9, .inl (d.2 6))), (ad 12, .inl (y 0, 6, .inl (d.2 8))), (nh, .inr (7, [.int sd, .int sw, .int sl, .ref (na 0), .ref (na 1), .ref (na 2), .ref (na 3), .ref (na 4), .ref (na 5), .ref (na 6)])), (na 0, .inl (y 0, 9, .inl f0)), (na 3, .inl (y 0, 6, .inl f3)), (na 4, .inl (y 0, 6, .inl f4))]) [8] [0, 1, 2, 3, 4, 5, 6, 7] rfl rfl (by decide +kernel) (by decide +kernel) (by decide +kernel) (As := [.int (nI j2), .int sd]) (rest := []) rfl (nb rfl) rfl d_Nine_village_90 (fun r5 _ hr5 => ?_)
            refine j_ws (ws' := [(x, .inr (9, [.ref tp, .ref pi, .ref nh, .ref th, .ref ps, .ref (ad 0), .ref (ae 0), .ref rd, .ref pl, .int dr])), (ad 1, .inr (1, [.int (d.1 9), .ref (ad 4), .ref (ad 5), .ref (ad 6), .ref (ad 7), .ref (ad 8), .ref (ad 9), .ref (ad 10)])), (ad 10, .inl (y 0, 9, .inl (d.2 6))), (ad 12, .inl (y 0, 6, .inl (d.2 8))), (nh, .inr (7, [.int sd, .int sw, .int sl, .ref (na 0), .ref (na 1), .ref (na 2), .ref (na 3), .ref (na 4), .ref (na 5), .ref (na 6)])), (na 0, .inl (y 0, 9, .inl f0)), (na 3, .inl (y 0, 6, .inl f3)), (na 4, .inl (y 0, 6, .inl f4)), (ad 0, .inr (2, [.int (d.1 0), .int (d.1 1), .int (d.1 2), .int (d.1 3), .ref (ad 1), .int (d.1 4), .ref (ad 11), .ref (ad 12), .ref (ad 2), .ref (ad 3), .int (d.1 5), .int (d.1 6), .int (d.1 7), .int (d.1 8)]))]) rfl ?_
            exact j_iret (pc := 93) C hr rfl () trivial [0, 8, 1, 2, 3, 4, 5, 6, 7] rfl (by decide) (by decide) (by decide) d_Nine_village_93
          · by_cases c4_4 : v2 = 4
            · refine j_tabIn (pc := 15) C (off := 79) (tgt := 94) d_Nine_village_15 (by rw [c4_4]; decide) (by rw [c4_4]; decide) (by rw [c4_4]; decide) (by decide) ?_
              refine j_aload_n (pc := 94) C d_Nine_village_94 rfl 0 rfl ?_
              refine j_get (pc := 95) C gf_Nine_41 0 rfl rfl d_Nine_village_95 ?_
              refine j_aload_n (pc := 98) C d_Nine_village_98 rfl 0 rfl ?_
              refine j_get (pc := 99) C gf_Nine_24 0 rfl rfl d_Nine_village_99 ?_
              refine j_iload_n (pc := 102) C d_Nine_village_102 rfl 1 rfl ?_
              refine j_callSi (pc := 103) C (c_allowedBits l D y ad d n4 nh na sd sw sl f0 (nI j2) h4 b4 hJ hV) kw_Nine_196 ks_Days_allowedBits ⟨by decide, by decide⟩ ⟨by decide, by decide⟩ (wr := [(x, .inr (9, [.ref tp, .ref pi, .ref nh, .ref th, .ref ps, .ref (ad 0), .ref (ae 0), .ref rd, .ref pl, .int dr])), (na 3, .inl (y 0, 6, .inl f3)), (na 4, .inl (y 0, 6, .inl f4))]) [8, 1, 2, 3, 4, 5] [0, 6, 7] rfl rfl (by decide +kernel) (by decide +kernel) (by decide +kernel) (As := [.ref (ad 0), .ref nh, .int (nI j2)]) (rest := []) rfl (nb rfl) rfl d_Nine_village_103 (fun r6 _ hr6 => ?_)
              refine j_ws (ws' := [(x, .inr (9, [.ref tp, .ref pi, .ref nh, .ref th, .ref ps, .ref (ad 0), .ref (ae 0), .ref rd, .ref pl, .int dr])), (na 3, .inl (y 0, 6, .inl f3)), (na 4, .inl (y 0, 6, .inl f4)), (ad 0, .inr (2, [.int (d.1 0), .int (d.1 1), .int (d.1 2), .int (d.1 3), .ref (ad 1), .int (d.1 4), .ref (ad 11), .ref (ad 12), .ref (ad 2), .ref (ad 3), .int (d.1 5), .int (d.1 6), .int (d.1 7), .int (d.1 8)])), (ad 1, .inr (1, [.int (d.1 9), .ref (ad 4), .ref (ad 5), .ref (ad 6), .ref (ad 7), .ref (ad 8), .ref (ad 9), .ref (ad 10)])), (ad 10, .inl (y 0, 9, .inl (d.2 6))), (ad 12, .inl (y 0, 6, .inl (d.2 8))), (nh, .inr (7, [.int sd, .int sw, .int sl, .ref (na 0), .ref (na 1), .ref (na 2), .ref (na 3), .ref (na 4), .ref (na 5), .ref (na 6)])), (na 0, .inl (y 0, 9, .inl f0))]) rfl ?_
              exact j_iret (pc := 106) C hr rfl () trivial [0, 3, 4, 5, 6, 7, 8, 1, 2] rfl (by decide) (by decide) (by decide) d_Nine_village_106
            · refine j_tabOut (pc := 15) C (tgt := 107) d_Nine_village_15 (by exact to_0_4 c4_0 c4_1 c4_2 c4_3 c4_4) (by decide) ?_
              refine j_ldc (pc := 107) C (v := (-1000000000)) (mt_4 (List.mem_of_getElem? (i := 26) rfl) rfl) d_Nine_village_107 ?_
              exact j_iret (pc := 109) C hr rfl () trivial [0, 8, 1, 2, 3, 4, 5, 6, 7] rfl (by decide) (by decide) (by decide) d_Nine_village_109
theorem d_Nine_served_0 : decode prog_1_method_12_code 0 = .ok (.aload_n 0, 1) := by decide +kernel
theorem d_Nine_served_1 : decode prog_1_method_12_code 1 = .ok (.getfield 41, 3) := by decide +kernel
theorem d_Nine_served_4 : decode prog_1_method_12_code 4 = .ok (.iload_n 1, 1) := by decide +kernel
theorem d_Nine_served_5 : decode prog_1_method_12_code 5 = .ok (.invokevirtual 200, 3) := by decide +kernel
theorem kw_Nine_200 : KW "NineBoards" 200 ⟨"NineBoards$Lake", "hasThing", "(I)Z"⟩ prog_5_method_5_code 2 (some .boolean) 1 := ⟨(mt_4 (List.mem_of_getElem? (i := 48) rfl) rfl), (mt_1 (List.mem_of_getElem? (i := 6) rfl) rfl), (mt_4 (List.mem_of_getElem? (i := 51) rfl) rfl), by decide +kernel⟩
theorem kv_Lake_hasThing : Cond.instanceMethod ⟨"NineBoards$Lake", "hasThing", "(I)Z"⟩ ∈ TB ∧ Cond.selects "NineBoards$Lake" ⟨"NineBoards$Lake", "hasThing", "(I)Z"⟩ ⟨"NineBoards$Lake", "hasThing", "(I)Z"⟩ ∈ TB := ⟨(mt_4 (List.mem_of_getElem? (i := 49) rfl) rfl), (mt_4 (List.mem_of_getElem? (i := 50) rfl) rfl)⟩
theorem d_Nine_served_8 : decode prog_1_method_12_code 8 = .ok (.ifCond .eq 15, 3) := by decide +kernel
theorem d_Nine_served_23 : decode prog_1_method_12_code 23 = .ok (.iconst (-1), 1) := by decide +kernel
theorem d_Nine_served_24 : decode prog_1_method_12_code 24 = .ok (.ireturn, 1) := by decide +kernel
theorem d_Nine_served_11 : decode prog_1_method_12_code 11 = .ok (.aload_n 0, 1) := by decide +kernel
theorem d_Nine_served_12 : decode prog_1_method_12_code 12 = .ok (.getfield 24, 3) := by decide +kernel
theorem d_Nine_served_15 : decode prog_1_method_12_code 15 = .ok (.getfield 203, 3) := by decide +kernel
theorem gf_Nine_203 : GF "NineBoards" 203 7 8 := ⟨_, _, _, rfl, ci_State, by decide, (mt_1 (List.mem_of_getElem? (i := 81) rfl) rfl)⟩
theorem d_Nine_served_18 : decode prog_1_method_12_code 18 = .ok (.iload_n 1, 1) := by decide +kernel
theorem d_Nine_served_19 : decode prog_1_method_12_code 19 = .ok (.iaload, 1) := by decide +kernel
theorem d_Nine_served_20 : decode prog_1_method_12_code 20 = .ok (.goto 4, 3) := by decide +kernel
set_option maxHeartbeats 4000000 in
set_option maxRecDepth 100000 in
theorem c_N_served (l : Launch) (D : va_G) (y : Nat → ClassId) (x : Nat) (tp : Nat) (pi : Nat) (nh : Nat) (th : Nat) (ps : Nat) (ad : Nat → Nat) (ae : Nat → Nat) (rd : Nat) (pl : Nat) (dr : Int32) (d : LD) (sd : Int32) (sw : Int32) (sl : Int32) (na : Nat → Nat) (f5 : Nat → Int32) (v : Int32) (n10 : Nat) (h10 : d.1 10 = nI n10) (b10 : n10 ≤ 16) : CT l D y ⟨"NineBoards", "served", "(I)I"⟩ prog_1_method_12_code 2 (some .int) ({ frames := 1, cells := 0, slots := 0, locals := 21 } : Room) [.ref x, .int v] [(x, .inr (9, [.ref tp, .ref pi, .ref nh, .ref th, .ref ps, .ref (ad 0), .ref (ae 0), .ref rd, .ref pl, .int dr])), (ad 0, .inr (2, [.int (d.1 0), .int (d.1 1), .int (d.1 2), .int (d.1 3), .ref (ad 1), .int (d.1 4), .ref (ad 11), .ref (ad 12), .ref (ad 2), .ref (ad 3), .int (d.1 5), .int (d.1 6), .int (d.1 7), .int (d.1 8)])), (ad 2, .inr (8, [.int (d.1 10), .ref (ad 13), .ref (ad 14), .ref (ad 15), .ref (ad 16), .ref (ad 17), .ref (ad 18), .ref (ad 19)])), (nh, .inr (7, [.int sd, .int sw, .int sl, .ref (na 0), .ref (na 1), .ref (na 2), .ref (na 3), .ref (na 4), .ref (na 5), .ref (na 6)])), (na 5, .inl (y 0, 16, .inl f5))] (QI D [(x, .inr (9, [.ref tp, .ref pi, .ref nh, .ref th, .ref ps, .ref (ad 0), .ref (ae 0), .ref rd, .ref pl, .int dr])), (ad 0, .inr (2, [.int (d.1 0), .int (d.1 1), .int (d.1 2), .int (d.1 3), .ref (ad 1), .int (d.1 4), .ref (ad 11), .ref (ad 12), .ref (ad 2), .ref (ad 3), .int (d.1 5), .int (d.1 6), .int (d.1 7), .int (d.1 8)])), (ad 2, .inr (8, [.int (d.1 10), .ref (ad 13), .ref (ad 14), .ref (ad 15), .ref (ad 16), .ref (ad 17), .ref (ad 18), .ref (ad 19)])), (nh, .inr (7, [.int sd, .int sw, .int sl, .ref (na 0), .ref (na 1), .ref (na 2), .ref (na 3), .ref (na 4), .ref (na 5), .ref (na 6)])), (na 5, .inl (y 0, 16, .inl f5))] (fun (r : Int32) (u : Unit) => True) (fun _ => [(x, .inr (9, [.ref tp, .ref pi, .ref nh, .ref th, .ref ps, .ref (ad 0), .ref (ae 0), .ref rd, .ref pl, .int dr])), (ad 0, .inr (2, [.int (d.1 0), .int (d.1 1), .int (d.1 2), .int (d.1 3), .ref (ad 1), .int (d.1 4), .ref (ad 11), .ref (ad 12), .ref (ad 2), .ref (ad 3), .int (d.1 5), .int (d.1 6), .int (d.1 7), .int (d.1 8)])), (ad 2, .inr (8, [.int (d.1 10), .ref (ad 13), .ref (ad 14), .ref (ad 15), .ref (ad 16), .ref (ad 17), .ref (ad 18), .ref (ad 19)])), (nh, .inr (7, [.int sd, .int sw, .int sl, .ref (na 0), .ref (na 1), .ref (na 2), .ref (na 3), .ref (na 4), .ref (na 5), .ref (na 6)])), (na 5, .inl (y 0, 16, .inl f5))])) := by
  refine CT.of (by decide) (nb rfl) ?_
  intro p e s m args below meth c C hr
  refine j_lv (lv' := [(0, .ref x), (1, .int v)]) rfl ?_
  refine j_aload_n (pc := 0) C d_Nine_served_0 rfl 0 rfl ?_
  refine j_get (pc := 1) C gf_Nine_41 0 rfl rfl d_Nine_served_1 ?_
  refine j_iload_n (pc := 4) C d_Nine_served_4 rfl 1 rfl ?_
  refine j_callVi (pc := 5) C (c_hasThing l D y ad d n10 v h10 b10) kw_Nine_200 kv_Lake_hasThing 0 2 rfl rfl ⟨by decide, by decide⟩ ⟨by decide, by decide⟩ (wr := [(x, .inr (9, [.ref tp, .ref pi, .ref nh, .ref th, .ref ps, .ref (ad 0), .ref (ae 0), .ref rd, .ref pl, .int dr])), (nh, .inr (7, [.int sd, .int sw, .int sl, .ref (na 0), .ref (na 1), .ref (na 2), .ref (na 3), .ref (na 4), .ref (na 5), .ref (na 6)])), (na 5, .inl (y 0, 16, .inl f5))]) [1, 2] [0, 3, 4] rfl rfl (by decide) (by decide) (by decide) (As := [.int v]) (rest := []) rfl (nb rfl) rfl d_Nine_served_5 (fun r1 _ hr1 => ?_)
  refine j_ws (ws' := [(x, .inr (9, [.ref tp, .ref pi, .ref nh, .ref th, .ref ps, .ref (ad 0), .ref (ae 0), .ref rd, .ref pl, .int dr])), (nh, .inr (7, [.int sd, .int sw, .int sl, .ref (na 0), .ref (na 1), .ref (na 2), .ref (na 3), .ref (na 4), .ref (na 5), .ref (na 6)])), (na 5, .inl (y 0, 16, .inl f5)), (ad 0, .inr (2, [.int (d.1 0), .int (d.1 1), .int (d.1 2), .int (d.1 3), .ref (ad 1), .int (d.1 4), .ref (ad 11), .ref (ad 12), .ref (ad 2), .ref (ad 3), .int (d.1 5), .int (d.1 6), .int (d.1 7), .int (d.1 8)])), (ad 2, .inr (8, [.int (d.1 10), .ref (ad 13), .ref (ad 14), .ref (ad 15), .ref (ad 16), .ref (ad 17), .ref (ad 18), .ref (ad 19)]))]) rfl ?_
  rcases hr1 with rfl | ⟨rfl, j2, xh3, rfl⟩
  · refine j_if_eqT (pc := 8) C (tgt := 23) d_Nine_served_8 (by decide) (by decide) ?_
    refine j_iconst (pc := 23) C (v := (-1)) d_Nine_served_23 (by decide) ?_
    exact j_iret (pc := 24) C hr rfl () trivial [0, 3, 4, 1, 2] rfl (by decide) (by decide) (by decide) d_Nine_served_24
  · refine j_if_eqF (pc := 8) C (tgt := 23) d_Nine_served_8 (by decide) (by decide) ?_
    refine j_aload_n (pc := 11) C d_Nine_served_11 rfl 0 rfl ?_
    refine j_get (pc := 12) C gf_Nine_24 0 rfl rfl d_Nine_served_12 ?_
    refine j_get (pc := 15) C gf_Nine_203 1 rfl rfl d_Nine_served_15 ?_
    refine j_iload_n (pc := 18) C d_Nine_served_18 rfl 1 rfl ?_
    refine j_iald (pc := 19) C 2 rfl (v := f5 j2) (vp_in_nI (by omega) (by decide)) (by rw [nI_clamp (by omega)]) d_Nine_served_19 ?_
    refine j_goto (pc := 20) C (tgt := 24) d_Nine_served_20 (by decide) ?_
    exact j_iret (pc := 24) C hr rfl () trivial [0, 3, 4, 1, 2] rfl (by decide) (by decide) (by decide) d_Nine_served_24
