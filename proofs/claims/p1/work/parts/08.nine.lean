theorem d_Nine_feed_0 : decode prog_1_method_2_code 0 = .ok (.aload_n 0, 1) := by decide +kernel
theorem d_Nine_feed_1 : decode prog_1_method_2_code 1 = .ok (.getfield 14, 3) := by decide +kernel
theorem gf_Nine_14 : GF "NineBoards" 14 9 0 := ⟨_, _, _, rfl, ci_Nine, by decide, (mt_2 (List.mem_of_getElem? (i := 231) rfl) rfl)⟩
theorem d_Nine_feed_4 : decode prog_1_method_2_code 4 = .ok (.getfield 70, 3) := by decide +kernel
theorem gf_Nine_70 : GF "NineBoards" 70 0 1 := ⟨_, _, _, rfl, ci_Bytes, by decide, (mt_1 (List.mem_of_getElem? (i := 39) rfl) rfl)⟩
theorem d_Nine_feed_7 : decode prog_1_method_2_code 7 = .ok (.bipush 20, 2) := by decide +kernel
theorem d_Nine_feed_9 : decode prog_1_method_2_code 9 = .ok (.iadd, 1) := by decide +kernel
theorem d_Nine_feed_10 : decode prog_1_method_2_code 10 = .ok (.sipush 1600, 3) := by decide +kernel
theorem d_Nine_feed_13 : decode prog_1_method_2_code 13 = .ok (.if_icmp .le 5, 3) := by decide +kernel
theorem d_Nine_feed_18 : decode prog_1_method_2_code 18 = .ok (.aload_n 0, 1) := by decide +kernel
theorem d_Nine_feed_19 : decode prog_1_method_2_code 19 = .ok (.getfield 14, 3) := by decide +kernel
theorem d_Nine_feed_22 : decode prog_1_method_2_code 22 = .ok (.iload_n 1, 1) := by decide +kernel
theorem d_Nine_feed_23 : decode prog_1_method_2_code 23 = .ok (.invokevirtual 73, 3) := by decide +kernel
theorem kw_Nine_73 : KW "NineBoards" 73 ⟨"NineBoards$Bytes", "putFour", "(I)V"⟩ prog_2_method_4_code 2 none 1 := ⟨(mt_3 (List.mem_of_getElem? (i := 26) rfl) rfl), (mt_1 (List.mem_of_getElem? (i := 2) rfl) rfl), (mt_3 (List.mem_of_getElem? (i := 29) rfl) rfl), by decide +kernel⟩
theorem kv_Bytes_putFour : Cond.instanceMethod ⟨"NineBoards$Bytes", "putFour", "(I)V"⟩ ∈ TB ∧ Cond.selects "NineBoards$Bytes" ⟨"NineBoards$Bytes", "putFour", "(I)V"⟩ ⟨"NineBoards$Bytes", "putFour", "(I)V"⟩ ∈ TB := ⟨(mt_3 (List.mem_of_getElem? (i := 27) rfl) rfl), (mt_3 (List.mem_of_getElem? (i := 28) rfl) rfl)⟩
theorem d_Nine_feed_26 : decode prog_1_method_2_code 26 = .ok (.aload_n 0, 1) := by decide +kernel
theorem d_Nine_feed_27 : decode prog_1_method_2_code 27 = .ok (.getfield 14, 3) := by decide +kernel
theorem d_Nine_feed_30 : decode prog_1_method_2_code 30 = .ok (.iload_n 2, 1) := by decide +kernel
theorem d_Nine_feed_31 : decode prog_1_method_2_code 31 = .ok (.invokevirtual 73, 3) := by decide +kernel
theorem d_Nine_feed_34 : decode prog_1_method_2_code 34 = .ok (.aload_n 0, 1) := by decide +kernel
theorem d_Nine_feed_35 : decode prog_1_method_2_code 35 = .ok (.getfield 14, 3) := by decide +kernel
theorem d_Nine_feed_38 : decode prog_1_method_2_code 38 = .ok (.iload_n 3, 1) := by decide +kernel
theorem d_Nine_feed_39 : decode prog_1_method_2_code 39 = .ok (.invokevirtual 73, 3) := by decide +kernel
theorem d_Nine_feed_42 : decode prog_1_method_2_code 42 = .ok (.aload_n 0, 1) := by decide +kernel
theorem d_Nine_feed_43 : decode prog_1_method_2_code 43 = .ok (.getfield 14, 3) := by decide +kernel
theorem d_Nine_feed_46 : decode prog_1_method_2_code 46 = .ok (.iload 4, 2) := by decide +kernel
theorem d_Nine_feed_48 : decode prog_1_method_2_code 48 = .ok (.invokevirtual 73, 3) := by decide +kernel
theorem d_Nine_feed_51 : decode prog_1_method_2_code 51 = .ok (.aload_n 0, 1) := by decide +kernel
theorem d_Nine_feed_52 : decode prog_1_method_2_code 52 = .ok (.getfield 14, 3) := by decide +kernel
theorem d_Nine_feed_55 : decode prog_1_method_2_code 55 = .ok (.iload 5, 2) := by decide +kernel
theorem d_Nine_feed_57 : decode prog_1_method_2_code 57 = .ok (.invokevirtual 73, 3) := by decide +kernel
theorem d_Nine_feed_60 : decode prog_1_method_2_code 60 = .ok (.aload_n 0, 1) := by decide +kernel
theorem d_Nine_feed_61 : decode prog_1_method_2_code 61 = .ok (.getfield 14, 3) := by decide +kernel
theorem d_Nine_feed_64 : decode prog_1_method_2_code 64 = .ok (.getfield 70, 3) := by decide +kernel
theorem d_Nine_feed_67 : decode prog_1_method_2_code 67 = .ok (.ireturn, 1) := by decide +kernel
set_option maxHeartbeats 4000000 in
set_option maxRecDepth 100000 in
theorem c_N_feed (l : Launch) (D : va_G) (y : Nat → ClassId) (x : Nat) (tp : Nat) (pi : Nat) (nw : Nat) (tr : Nat) (ps : Nat) (k : Nat) (k2 : Nat) (rd : Nat) (pl : Nat) (td : Nat) (v1 : Int32) (v2 : Int32) (v3 : Int32) (v4 : Int32) (v5 : Int32)  : CT l D y ⟨"NineBoards", "feed", "(IIIII)I"⟩ prog_1_method_2_code 6 (some .int) ({ frames := 3, cells := 0, slots := 0, locals := 63 } : Room) [.ref x, .int v1, .int v2, .int v3, .int v4, .int v5] [(x, .inr (9, [.ref tp, .ref pi, .ref nw, .ref tr, .ref ps, .ref k, .ref k2, .ref rd, .ref pl, .int 1])), (tp, .inr (0, [.ref td, .int 0])), (td, .inl (y 0, 1600, .inl (fun _ => 0)))] (QI D [(x, .inr (9, [.ref tp, .ref pi, .ref nw, .ref tr, .ref ps, .ref k, .ref k2, .ref rd, .ref pl, .int 1])), (tp, .inr (0, [.ref td, .int 0])), (td, .inl (y 0, 1600, .inl (fun _ => 0)))] (fun (r : Int32) (_ : Unit) => r = 20) (fun _ => [])) := by
  refine CT.of (by decide) (nb rfl) ?_
  intro p e s m args below meth c C hr
  refine j_lv (lv' := [(0, .ref x), (1, .int v1), (2, .int v2), (3, .int v3), (4, .int v4), (5, .int v5)]) rfl ?_
  refine j_aload_n (pc := 0) C d_Nine_feed_0 rfl 0 rfl ?_
  refine j_get (pc := 1) C gf_Nine_14 0 rfl rfl d_Nine_feed_1 ?_
  refine j_get (pc := 4) C gf_Nine_70 1 rfl rfl d_Nine_feed_4 ?_
  refine j_bipush (pc := 7) C (v := 20) d_Nine_feed_7 (by decide) ?_
  refine j_iadd (pc := 9) C (v := 20) d_Nine_feed_9 (by decide) ?_
  refine j_sipush (pc := 10) C (v := 1600) d_Nine_feed_10 (by decide) ?_
  refine j_icmp_leT (pc := 13) C (tgt := 18) d_Nine_feed_13 (by decide) (by decide) ?_
  refine j_aload_n (pc := 18) C d_Nine_feed_18 rfl 0 rfl ?_
  refine j_get (pc := 19) C gf_Nine_14 0 rfl rfl d_Nine_feed_19 ?_
  refine j_iload_n (pc := 22) C d_Nine_feed_22 rfl 1 rfl ?_
  refine j_callVv (pc := 23) C (c_putFour_A l D y tp td (fun _ => 0) 0 1 2 3 4 v1 (by decide) (by decide) (by decide) (by decide) (by decide) (by decide) (by decide) (by decide) (by decide) (by decide) (by decide) (by decide)) kw_Nine_73 kv_Bytes_putFour 0 0 rfl rfl ⟨by decide, by decide⟩ ⟨by decide, by decide⟩ (wr := [(x, .inr (9, [.ref tp, .ref pi, .ref nw, .ref tr, .ref ps, .ref k, .ref k2, .ref rd, .ref pl, .int 1]))]) [1, 2] [0] rfl rfl (by decide) (by decide) (by decide) (As := [.int v1]) (rest := []) rfl (nb rfl) rfl d_Nine_feed_23 (fun u1 _ => ?_)
  refine j_ws (ws' := [(x, .inr (9, [.ref tp, .ref pi, .ref nw, .ref tr, .ref ps, .ref k, .ref k2, .ref rd, .ref pl, .int 1])), (tp, .inr (0, [.ref td, .int 4])), (td, .inl (y 0, 1600, .inl u1))]) rfl ?_
  refine j_aload_n (pc := 26) C d_Nine_feed_26 rfl 0 rfl ?_
  refine j_get (pc := 27) C gf_Nine_14 0 rfl rfl d_Nine_feed_27 ?_
  refine j_iload_n (pc := 30) C d_Nine_feed_30 rfl 2 rfl ?_
  refine j_callVv (pc := 31) C (c_putFour_A l D y tp td u1 4 5 6 7 8 v2 (by decide) (by decide) (by decide) (by decide) (by decide) (by decide) (by decide) (by decide) (by decide) (by decide) (by decide) (by decide)) kw_Nine_73 kv_Bytes_putFour 0 0 rfl rfl ⟨by decide, by decide⟩ ⟨by decide, by decide⟩ (wr := [(x, .inr (9, [.ref tp, .ref pi, .ref nw, .ref tr, .ref ps, .ref k, .ref k2, .ref rd, .ref pl, .int 1]))]) [1, 2] [0] rfl rfl (by decide) (by decide) (by decide) (As := [.int v2]) (rest := []) rfl (nb rfl) rfl d_Nine_feed_31 (fun u2 _ => ?_)
  refine j_ws (ws' := [(x, .inr (9, [.ref tp, .ref pi, .ref nw, .ref tr, .ref ps, .ref k, .ref k2, .ref rd, .ref pl, .int 1])), (tp, .inr (0, [.ref td, .int 8])), (td, .inl (y 0, 1600, .inl u2))]) rfl ?_
  refine j_aload_n (pc := 34) C d_Nine_feed_34 rfl 0 rfl ?_
  refine j_get (pc := 35) C gf_Nine_14 0 rfl rfl d_Nine_feed_35 ?_
  refine j_iload_n (pc := 38) C d_Nine_feed_38 rfl 3 rfl ?_
  refine j_callVv (pc := 39) C (c_putFour_A l D y tp td u2 8 9 10 11 12 v3 (by decide) (by decide) (by decide) (by decide) (by decide) (by decide) (by decide) (by decide) (by decide) (by decide) (by decide) (by decide)) kw_Nine_73 kv_Bytes_putFour 0 0 rfl rfl ⟨by decide, by decide⟩ ⟨by decide, by decide⟩ (wr := [(x, .inr (9, [.ref tp, .ref pi, .ref nw, .ref tr, .ref ps, .ref k, .ref k2, .ref rd, .ref pl, .int 1]))]) [1, 2] [0] rfl rfl (by decide) (by decide) (by decide) (As := [.int v3]) (rest := []) rfl (nb rfl) rfl d_Nine_feed_39 (fun u3 _ => ?_)
  refine j_ws (ws' := [(x, .inr (9, [.ref tp, .ref pi, .ref nw, .ref tr, .ref ps, .ref k, .ref k2, .ref rd, .ref pl, .int 1])), (tp, .inr (0, [.ref td, .int 12])), (td, .inl (y 0, 1600, .inl u3))]) rfl ?_
  refine j_aload_n (pc := 42) C d_Nine_feed_42 rfl 0 rfl ?_
  refine j_get (pc := 43) C gf_Nine_14 0 rfl rfl d_Nine_feed_43 ?_
  refine j_iload (pc := 46) C d_Nine_feed_46 4 rfl ?_
  refine j_callVv (pc := 48) C (c_putFour_A l D y tp td u3 12 13 14 15 16 v4 (by decide) (by decide) (by decide) (by decide) (by decide) (by decide) (by decide) (by decide) (by decide) (by decide) (by decide) (by decide)) kw_Nine_73 kv_Bytes_putFour 0 0 rfl rfl ⟨by decide, by decide⟩ ⟨by decide, by decide⟩ (wr := [(x, .inr (9, [.ref tp, .ref pi, .ref nw, .ref tr, .ref ps, .ref k, .ref k2, .ref rd, .ref pl, .int 1]))]) [1, 2] [0] rfl rfl (by decide) (by decide) (by decide) (As := [.int v4]) (rest := []) rfl (nb rfl) rfl d_Nine_feed_48 (fun u4 _ => ?_)
  refine j_ws (ws' := [(x, .inr (9, [.ref tp, .ref pi, .ref nw, .ref tr, .ref ps, .ref k, .ref k2, .ref rd, .ref pl, .int 1])), (tp, .inr (0, [.ref td, .int 16])), (td, .inl (y 0, 1600, .inl u4))]) rfl ?_
  refine j_aload_n (pc := 51) C d_Nine_feed_51 rfl 0 rfl ?_
  refine j_get (pc := 52) C gf_Nine_14 0 rfl rfl d_Nine_feed_52 ?_
  refine j_iload (pc := 55) C d_Nine_feed_55 5 rfl ?_
  refine j_callVv (pc := 57) C (c_putFour_A l D y tp td u4 16 17 18 19 20 v5 (by decide) (by decide) (by decide) (by decide) (by decide) (by decide) (by decide) (by decide) (by decide) (by decide) (by decide) (by decide)) kw_Nine_73 kv_Bytes_putFour 0 0 rfl rfl ⟨by decide, by decide⟩ ⟨by decide, by decide⟩ (wr := [(x, .inr (9, [.ref tp, .ref pi, .ref nw, .ref tr, .ref ps, .ref k, .ref k2, .ref rd, .ref pl, .int 1]))]) [1, 2] [0] rfl rfl (by decide) (by decide) (by decide) (As := [.int v5]) (rest := []) rfl (nb rfl) rfl d_Nine_feed_57 (fun u5 _ => ?_)
  refine j_ws (ws' := [(x, .inr (9, [.ref tp, .ref pi, .ref nw, .ref tr, .ref ps, .ref k, .ref k2, .ref rd, .ref pl, .int 1])), (tp, .inr (0, [.ref td, .int 20])), (td, .inl (y 0, 1600, .inl u5))]) rfl ?_
  refine j_aload_n (pc := 60) C d_Nine_feed_60 rfl 0 rfl ?_
  refine j_get (pc := 61) C gf_Nine_14 0 rfl rfl d_Nine_feed_61 ?_
  refine j_get (pc := 64) C gf_Nine_70 1 rfl rfl d_Nine_feed_64 ?_
  exact j_iret (pc := 67) C hr rfl () rfl [] rfl (by decide) (by decide) (by decide) d_Nine_feed_67
theorem d_Nine_end_0 : decode prog_1_method_3_code 0 = .ok (.iload_n 1, 1) := by decide +kernel
theorem d_Nine_end_1 : decode prog_1_method_3_code 1 = .ok (.ifCond .lt 14, 3) := by decide +kernel
theorem d_Nine_end_15 : decode prog_1_method_3_code 15 = .ok (.iconst 0, 1) := by decide +kernel
theorem d_Nine_end_16 : decode prog_1_method_3_code 16 = .ok (.ireturn, 1) := by decide +kernel
theorem d_Nine_end_4 : decode prog_1_method_3_code 4 = .ok (.iload_n 1, 1) := by decide +kernel
theorem d_Nine_end_5 : decode prog_1_method_3_code 5 = .ok (.aload_n 0, 1) := by decide +kernel
theorem d_Nine_end_6 : decode prog_1_method_3_code 6 = .ok (.getfield 14, 3) := by decide +kernel
theorem d_Nine_end_9 : decode prog_1_method_3_code 9 = .ok (.getfield 70, 3) := by decide +kernel
theorem d_Nine_end_12 : decode prog_1_method_3_code 12 = .ok (.if_icmp .le 5, 3) := by decide +kernel
theorem d_Nine_end_17 : decode prog_1_method_3_code 17 = .ok (.aload_n 0, 1) := by decide +kernel
theorem d_Nine_end_18 : decode prog_1_method_3_code 18 = .ok (.getfield 14, 3) := by decide +kernel
theorem d_Nine_end_21 : decode prog_1_method_3_code 21 = .ok (.iload_n 1, 1) := by decide +kernel
theorem d_Nine_end_22 : decode prog_1_method_3_code 22 = .ok (.putfield 70, 3) := by decide +kernel
theorem pf_Nine_70 : PF "NineBoards" 70 0 1 (.int) false := ⟨_, _, _, ct_Bytes, rfl, ci_Bytes, by decide, (mt_1 (List.mem_of_getElem? (i := 39) rfl) rfl), cp_Bytes, cn_Bytes, rfl, by decide +kernel, (fun h => by cases h)⟩
theorem d_Nine_end_25 : decode prog_1_method_3_code 25 = .ok (.iconst 1, 1) := by decide +kernel
theorem d_Nine_end_26 : decode prog_1_method_3_code 26 = .ok (.ireturn, 1) := by decide +kernel
set_option maxHeartbeats 4000000 in
set_option maxRecDepth 100000 in
theorem c_N_end (l : Launch) (D : va_G) (y : Nat → ClassId) (x : Nat) (tp : Nat) (pi : Nat) (nw : Nat) (tr : Nat) (ps : Nat) (k : Nat) (k2 : Nat) (rd : Nat) (pl : Nat) (td : Nat) (n : Int32)  : CT l D y ⟨"NineBoards", "end", "(I)Z"⟩ prog_1_method_3_code 2 (some .boolean) ({ frames := 0, cells := 0, slots := 0, locals := 0 } : Room) [.ref x, .int n] [(x, .inr (9, [.ref tp, .ref pi, .ref nw, .ref tr, .ref ps, .ref k, .ref k2, .ref rd, .ref pl, .int 1])), (tp, .inr (0, [.ref td, .int 0]))] (QI D [(x, .inr (9, [.ref tp, .ref pi, .ref nw, .ref tr, .ref ps, .ref k, .ref k2, .ref rd, .ref pl, .int 1])), (tp, .inr (0, [.ref td, .int 0]))] (fun (r : Int32) (_ : Unit) => r = if n.toInt = 0 then 1 else 0) (fun _ => [])) := by
  refine CT.of (by decide) (nb rfl) ?_
  intro p e s m args below meth c C hr
  refine j_lv (lv' := [(0, .ref x), (1, .int n)]) rfl ?_
  refine j_iload_n (pc := 0) C d_Nine_end_0 rfl 1 rfl ?_
  refine j_if_lt (pc := 1) C (tgt := 15) d_Nine_end_1 (by decide) (fun c1 => ?_) (fun c1 => ?_)
  · refine j_iconst (pc := 15) C (v := 0) d_Nine_end_15 (by decide) ?_
    exact j_iret (pc := 16) C hr (by decide) () (by simp only [Int32.lt_iff_toInt_lt, Int32.le_iff_toInt_le, ← Int32.toInt_inj, (by decide : Int32.toInt 0 = 0)] at c1; (first | rw [if_pos (by omega)] | rw [if_neg (by omega)])) [] rfl (by decide) (by decide) (by decide) d_Nine_end_16
  · refine j_iload_n (pc := 4) C d_Nine_end_4 rfl 1 rfl ?_
    refine j_aload_n (pc := 5) C d_Nine_end_5 rfl 0 rfl ?_
    refine j_get (pc := 6) C gf_Nine_14 0 rfl rfl d_Nine_end_6 ?_
    refine j_get (pc := 9) C gf_Nine_70 1 rfl rfl d_Nine_end_9 ?_
    refine j_icmp_le (pc := 12) C (tgt := 17) d_Nine_end_12 (by decide) (fun c2 => ?_) (fun c2 => ?_)
    · refine j_aload_n (pc := 17) C d_Nine_end_17 rfl 0 rfl ?_
      refine j_get (pc := 18) C gf_Nine_14 0 rfl rfl d_Nine_end_18 ?_
      refine j_iload_n (pc := 21) C d_Nine_end_21 rfl 1 rfl ?_
      refine j_put (pc := 22) C pf_Nine_70 1 (ws' := [(x, .inr (9, [.ref tp, .ref pi, .ref nw, .ref tr, .ref ps, .ref k, .ref k2, .ref rd, .ref pl, .int 1])), (tp, .inr (0, [.ref td, .int n]))]) rfl rfl rfl (nl rfl) rfl d_Nine_end_22 ?_
      refine j_iconst (pc := 25) C (v := 1) d_Nine_end_25 (by decide) ?_
      exact j_iret (pc := 26) C hr (by decide) () (by simp only [Int32.lt_iff_toInt_lt, Int32.le_iff_toInt_le, ← Int32.toInt_inj, (by decide : Int32.toInt 0 = 0)] at c1 c2; (first | rw [if_pos (by omega)] | rw [if_neg (by omega)])) [] rfl (by decide) (by decide) (by decide) d_Nine_end_26
    · refine j_iconst (pc := 15) C (v := 0) d_Nine_end_15 (by decide) ?_
      exact j_iret (pc := 16) C hr (by decide) () (by simp only [Int32.lt_iff_toInt_lt, Int32.le_iff_toInt_le, ← Int32.toInt_inj, (by decide : Int32.toInt 0 = 0)] at c1 c2; (first | rw [if_pos (by omega)] | rw [if_neg (by omega)])) [] rfl (by decide) (by decide) (by decide) d_Nine_end_16
theorem d_Nine_fault_0 : decode prog_1_method_5_code 0 = .ok (.iload_n 1, 1) := by decide +kernel
theorem d_Nine_fault_1 : decode prog_1_method_5_code 1 = .ok (.lookupswitch 43 #[(0, 27), (1, 35)], 27) := by decide +kernel
theorem d_Nine_fault_28 : decode prog_1_method_5_code 28 = .ok (.aload_n 0, 1) := by decide +kernel
theorem d_Nine_fault_29 : decode prog_1_method_5_code 29 = .ok (.getfield 53, 3) := by decide +kernel
theorem gf_Nine_53 : GF "NineBoards" 53 9 7 := ⟨_, _, _, rfl, ci_Nine, by decide, (mt_2 (List.mem_of_getElem? (i := 238) rfl) rfl)⟩
theorem d_Nine_fault_32 : decode prog_1_method_5_code 32 = .ok (.getfield 79, 3) := by decide +kernel
theorem gf_Nine_79 : GF "NineBoards" 79 5 0 := ⟨_, _, _, rfl, ci_Reader, by decide, (mt_2 (List.mem_of_getElem? (i := 163) rfl) rfl)⟩
theorem d_Nine_fault_35 : decode prog_1_method_5_code 35 = .ok (.ireturn, 1) := by decide +kernel
theorem d_Nine_fault_36 : decode prog_1_method_5_code 36 = .ok (.aload_n 0, 1) := by decide +kernel
theorem d_Nine_fault_37 : decode prog_1_method_5_code 37 = .ok (.getfield 53, 3) := by decide +kernel
theorem d_Nine_fault_40 : decode prog_1_method_5_code 40 = .ok (.getfield 104, 3) := by decide +kernel
theorem gf_Nine_104 : GF "NineBoards" 104 5 1 := ⟨_, _, _, rfl, ci_Reader, by decide, (mt_2 (List.mem_of_getElem? (i := 165) rfl) rfl)⟩
theorem d_Nine_fault_43 : decode prog_1_method_5_code 43 = .ok (.ireturn, 1) := by decide +kernel
theorem lo_Nine_fault_1 {x : Int32} (h0 : ¬ x = 0) (h1 : ¬ x = 1) : Op.lookupswitch.offset [(0, 27), (1, 35)] 43 x.toInt = 43 := by
  rw [Op.lookupswitch.offset_cons, if_neg (fun e => h0 (Int32.toInt_inj.mp (e.symm.trans (by decide))))]
  rw [Op.lookupswitch.offset_cons, if_neg (fun e => h1 (Int32.toInt_inj.mp (e.symm.trans (by decide))))]
  rfl
theorem d_Nine_fault_44 : decode prog_1_method_5_code 44 = .ok (.iconst (-1), 1) := by decide +kernel
theorem d_Nine_fault_45 : decode prog_1_method_5_code 45 = .ok (.ireturn, 1) := by decide +kernel
set_option maxHeartbeats 4000000 in
set_option maxRecDepth 100000 in
theorem c_N_fault (l : Launch) (D : va_G) (y : Nat → ClassId) (x : Nat) (tp : Nat) (pi : Nat) (nw : Nat) (tr : Nat) (ps : Nat) (k : Nat) (k2 : Nat) (rd : Nat) (pl : Nat) (ow : Nat) (n : Int32)  : CT l D y ⟨"NineBoards", "fault", "(I)I"⟩ prog_1_method_5_code 2 (some .int) ({ frames := 0, cells := 0, slots := 0, locals := 0 } : Room) [.ref x, .int n] [(x, .inr (9, [.ref tp, .ref pi, .ref nw, .ref tr, .ref ps, .ref k, .ref k2, .ref rd, .ref pl, .int 1])), (rd, .inr (5, [.int 0, .int (-1), .ref ow, .ref tp, .ref k2, .int 0, .int 0, .int 0, .long 0, .int 0, .int 0, .int 0]))] (QI D [(x, .inr (9, [.ref tp, .ref pi, .ref nw, .ref tr, .ref ps, .ref k, .ref k2, .ref rd, .ref pl, .int 1])), (rd, .inr (5, [.int 0, .int (-1), .ref ow, .ref tp, .ref k2, .int 0, .int 0, .int 0, .long 0, .int 0, .int 0, .int 0]))] (fun (r : Int32) (_ : Unit) => r = if n.toInt = 0 then 0 else -1) (fun _ => [])) := by
  refine CT.of (by decide) (nb rfl) ?_
  intro p e s m args below meth c C hr
  refine j_lv (lv' := [(0, .ref x), (1, .int n)]) rfl ?_
  refine j_iload_n (pc := 0) C d_Nine_fault_0 rfl 1 rfl ?_
  by_cases c1_0 : n = 0
  · refine j_lookup (pc := 1) C (off := 27) (tgt := 28) d_Nine_fault_1 (by decide) (by rw [c1_0]; decide) (by decide) ?_
    refine j_aload_n (pc := 28) C d_Nine_fault_28 rfl 0 rfl ?_
    refine j_get (pc := 29) C gf_Nine_53 0 rfl rfl d_Nine_fault_29 ?_
    refine j_get (pc := 32) C gf_Nine_79 1 rfl rfl d_Nine_fault_32 ?_
    exact j_iret (pc := 35) C hr rfl () (by simp only [Int32.lt_iff_toInt_lt, Int32.le_iff_toInt_le, ← Int32.toInt_inj, (by decide : Int32.toInt 0 = 0)] at c1_0; (first | rw [if_pos (by omega)] | rw [if_neg (by omega)])) [] rfl (by decide) (by decide) (by decide) d_Nine_fault_35
  · by_cases c1_1 : n = 1
    · refine j_lookup (pc := 1) C (off := 35) (tgt := 36) d_Nine_fault_1 (by decide) (by rw [c1_1]; decide) (by decide) ?_
      refine j_aload_n (pc := 36) C d_Nine_fault_36 rfl 0 rfl ?_
      refine j_get (pc := 37) C gf_Nine_53 0 rfl rfl d_Nine_fault_37 ?_
      refine j_get (pc := 40) C gf_Nine_104 1 rfl rfl d_Nine_fault_40 ?_
      exact j_iret (pc := 43) C hr rfl () (by simp only [Int32.lt_iff_toInt_lt, Int32.le_iff_toInt_le, ← Int32.toInt_inj, (by decide : Int32.toInt 0 = 0), (by decide : Int32.toInt 1 = 1)] at c1_0 c1_1; (first | rw [if_pos (by omega)] | rw [if_neg (by omega)])) [] rfl (by decide) (by decide) (by decide) d_Nine_fault_43
    · refine j_lookup (pc := 1) C (off := 43) (tgt := 44) d_Nine_fault_1 (by decide) (lo_Nine_fault_1 c1_0 c1_1) (by decide) ?_
      refine j_iconst (pc := 44) C (v := (-1)) d_Nine_fault_44 (by decide) ?_
      exact j_iret (pc := 45) C hr rfl () (by simp only [Int32.lt_iff_toInt_lt, Int32.le_iff_toInt_le, ← Int32.toInt_inj, (by decide : Int32.toInt 0 = 0), (by decide : Int32.toInt 1 = 1)] at c1_0 c1_1; (first | rw [if_pos (by omega)] | rw [if_neg (by omega)])) [] rfl (by decide) (by decide) (by decide) d_Nine_fault_45
theorem d_Nine_letter_0 : decode prog_1_method_7_code 0 = .ok (.iload_n 3, 1) := by decide +kernel
theorem d_Nine_letter_1 : decode prog_1_method_7_code 1 = .ok (.ifCond .lt 9, 3) := by decide +kernel
theorem d_Nine_letter_10 : decode prog_1_method_7_code 10 = .ok (.iconst (-1), 1) := by decide +kernel
theorem d_Nine_letter_11 : decode prog_1_method_7_code 11 = .ok (.ireturn, 1) := by decide +kernel
theorem d_Nine_letter_4 : decode prog_1_method_7_code 4 = .ok (.iload_n 3, 1) := by decide +kernel
theorem d_Nine_letter_5 : decode prog_1_method_7_code 5 = .ok (.bipush 6, 2) := by decide +kernel
theorem d_Nine_letter_7 : decode prog_1_method_7_code 7 = .ok (.if_icmp .lt 5, 3) := by decide +kernel
theorem d_Nine_letter_12 : decode prog_1_method_7_code 12 = .ok (.iload_n 1, 1) := by decide +kernel
theorem d_Nine_letter_13 : decode prog_1_method_7_code 13 = .ok (.ifCond .ne 34, 3) := by decide +kernel
theorem d_Nine_letter_47 : decode prog_1_method_7_code 47 = .ok (.iload_n 1, 1) := by decide +kernel
theorem d_Nine_letter_48 : decode prog_1_method_7_code 48 = .ok (.iconst 1, 1) := by decide +kernel
theorem d_Nine_letter_49 : decode prog_1_method_7_code 49 = .ok (.if_icmp .ne 31, 3) := by decide +kernel
theorem d_Nine_letter_80 : decode prog_1_method_7_code 80 = .ok (.iconst (-1), 1) := by decide +kernel
theorem d_Nine_letter_81 : decode prog_1_method_7_code 81 = .ok (.ireturn, 1) := by decide +kernel
theorem d_Nine_letter_52 : decode prog_1_method_7_code 52 = .ok (.aload_n 0, 1) := by decide +kernel
theorem d_Nine_letter_53 : decode prog_1_method_7_code 53 = .ok (.getfield 41, 3) := by decide +kernel
theorem gf_Nine_41 : GF "NineBoards" 41 9 5 := ⟨_, _, _, rfl, ci_Nine, by decide, (mt_2 (List.mem_of_getElem? (i := 236) rfl) rfl)⟩
theorem d_Nine_letter_56 : decode prog_1_method_7_code 56 = .ok (.iload_n 2, 1) := by decide +kernel
theorem d_Nine_letter_57 : decode prog_1_method_7_code 57 = .ok (.invokevirtual 145, 3) := by decide +kernel
theorem kw_Nine_145 : KW "NineBoards" 145 ⟨"NineBoards$Lake", "hasVillage", "(I)Z"⟩ prog_5_method_4_code 2 (some .boolean) 1 := ⟨(mt_3 (List.mem_of_getElem? (i := 228) rfl) rfl), (mt_1 (List.mem_of_getElem? (i := 6) rfl) rfl), (mt_3 (List.mem_of_getElem? (i := 231) rfl) rfl), by decide +kernel⟩
theorem d_Nine_letter_60 : decode prog_1_method_7_code 60 = .ok (.ifCond .eq 20, 3) := by decide +kernel
theorem d_Nine_letter_16 : decode prog_1_method_7_code 16 = .ok (.aload_n 0, 1) := by decide +kernel
theorem d_Nine_letter_17 : decode prog_1_method_7_code 17 = .ok (.getfield 41, 3) := by decide +kernel
theorem d_Nine_letter_20 : decode prog_1_method_7_code 20 = .ok (.iload_n 2, 1) := by decide +kernel
theorem d_Nine_letter_21 : decode prog_1_method_7_code 21 = .ok (.invokevirtual 138, 3) := by decide +kernel
theorem kw_Nine_138 : KW "NineBoards" 138 ⟨"NineBoards$Lake", "hasGate", "(I)Z"⟩ prog_5_method_3_code 2 (some .boolean) 1 := ⟨(mt_3 (List.mem_of_getElem? (i := 224) rfl) rfl), (mt_1 (List.mem_of_getElem? (i := 6) rfl) rfl), (mt_3 (List.mem_of_getElem? (i := 227) rfl) rfl), by decide +kernel⟩
theorem kv_Lake_hasGate : Cond.instanceMethod ⟨"NineBoards$Lake", "hasGate", "(I)Z"⟩ ∈ TB ∧ Cond.selects "NineBoards$Lake" ⟨"NineBoards$Lake", "hasGate", "(I)Z"⟩ ⟨"NineBoards$Lake", "hasGate", "(I)Z"⟩ ∈ TB := ⟨(mt_3 (List.mem_of_getElem? (i := 225) rfl) rfl), (mt_3 (List.mem_of_getElem? (i := 226) rfl) rfl)⟩
theorem d_Nine_letter_24 : decode prog_1_method_7_code 24 = .ok (.ifCond .eq 23, 3) := by decide +kernel
set_option maxHeartbeats 4000000 in
set_option maxRecDepth 100000 in
theorem c_N_letter (l : Launch) (D : va_G) (y : Nat → ClassId) (x : Nat) (tp : Nat) (pi : Nat) (nw : Nat) (tr : Nat) (ps : Nat) (k : Nat) (k2 : Nat) (rd : Nat) (pl : Nat) (g : Nat) (vn : Nat) (vg : Nat) (t : Nat) (r : Nat) (g0 : Nat) (g1 : Nat) (g2 : Nat) (g3 : Nat) (g4 : Nat) (g5 : Nat) (g6 : Nat) (va : Int32) (vb : Int32) (vc : Int32)  : CT l D y ⟨"NineBoards", "letter", "(III)I"⟩ prog_1_method_7_code 4 (some .int) ({ frames := 1, cells := 0, slots := 0, locals := 21 } : Room) [.ref x, .int va, .int vb, .int vc] [(x, .inr (9, [.ref tp, .ref pi, .ref nw, .ref tr, .ref ps, .ref k, .ref k2, .ref rd, .ref pl, .int 1])), (k, .inr (2, [.int 0, .int 1, .int 1, .int 0, .ref g, .int 0, .ref vn, .ref vg, .ref t, .ref r, .int 0, .int 0, .int 9999, .int 0])), (g, .inr (1, [.int 0, .ref g0, .ref g1, .ref g2, .ref g3, .ref g4, .ref g5, .ref g6]))] (QI D [(x, .inr (9, [.ref tp, .ref pi, .ref nw, .ref tr, .ref ps, .ref k, .ref k2, .ref rd, .ref pl, .int 1])), (k, .inr (2, [.int 0, .int 1, .int 1, .int 0, .ref g, .int 0, .ref vn, .ref vg, .ref t, .ref r, .int 0, .int 0, .int 9999, .int 0])), (g, .inr (1, [.int 0, .ref g0, .ref g1, .ref g2, .ref g3, .ref g4, .ref g5, .ref g6]))] (fun (r : Int32) (_ : Unit) => r = (-1)) (fun _ => [])) := by
  refine CT.of (by decide) (nb rfl) ?_
  intro p e s m args below meth c C hr
  refine j_lv (lv' := [(0, .ref x), (1, .int va), (2, .int vb), (3, .int vc)]) rfl ?_
  refine j_iload_n (pc := 0) C d_Nine_letter_0 rfl 3 rfl ?_
  refine j_if_lt (pc := 1) C (tgt := 10) d_Nine_letter_1 (by decide) (fun c1 => ?_) (fun c1 => ?_)
  · refine j_iconst (pc := 10) C (v := (-1)) d_Nine_letter_10 (by decide) ?_
    exact j_iret (pc := 11) C hr rfl () rfl [] rfl (by decide) (by decide) (by decide) d_Nine_letter_11
  · refine j_iload_n (pc := 4) C d_Nine_letter_4 rfl 3 rfl ?_
    refine j_bipush (pc := 5) C (v := 6) d_Nine_letter_5 (by decide) ?_
    refine j_icmp_lt (pc := 7) C (tgt := 12) d_Nine_letter_7 (by decide) (fun c2 => ?_) (fun c2 => ?_)
    · refine j_iload_n (pc := 12) C d_Nine_letter_12 rfl 1 rfl ?_
      refine j_if_ne (pc := 13) C (tgt := 47) d_Nine_letter_13 (by decide) (fun c3 => ?_) (fun c3 => ?_)
      · refine j_iload_n (pc := 47) C d_Nine_letter_47 rfl 1 rfl ?_
        refine j_iconst (pc := 48) C (v := 1) d_Nine_letter_48 (by decide) ?_
        refine j_icmp_ne (pc := 49) C (tgt := 80) d_Nine_letter_49 (by decide) (fun c4 => ?_) (fun c4 => ?_)
        · refine j_iconst (pc := 80) C (v := (-1)) d_Nine_letter_80 (by decide) ?_
          exact j_iret (pc := 81) C hr rfl () rfl [] rfl (by decide) (by decide) (by decide) d_Nine_letter_81
        · refine j_aload_n (pc := 52) C d_Nine_letter_52 rfl 0 rfl ?_
          refine j_get (pc := 53) C gf_Nine_41 0 rfl rfl d_Nine_letter_53 ?_
          refine j_iload_n (pc := 56) C d_Nine_letter_56 rfl 2 rfl ?_
          refine j_callVi (pc := 57) C (c_hasVillage l D y k g vn vg t r vb) kw_Nine_145 kv_Lake_hasVillage 0 2 rfl rfl ⟨by decide, by decide⟩ ⟨by decide, by decide⟩ (wr := [(x, .inr (9, [.ref tp, .ref pi, .ref nw, .ref tr, .ref ps, .ref k, .ref k2, .ref rd, .ref pl, .int 1])), (g, .inr (1, [.int 0, .ref g0, .ref g1, .ref g2, .ref g3, .ref g4, .ref g5, .ref g6]))]) [1] [0, 2] rfl rfl (by decide) (by decide) (by decide) (As := [.int vb]) (rest := []) rfl (nb rfl) rfl d_Nine_letter_57 (fun r5 _ hr5 => ?_)
          subst hr5
          refine j_ws (ws' := [(x, .inr (9, [.ref tp, .ref pi, .ref nw, .ref tr, .ref ps, .ref k, .ref k2, .ref rd, .ref pl, .int 1])), (g, .inr (1, [.int 0, .ref g0, .ref g1, .ref g2, .ref g3, .ref g4, .ref g5, .ref g6])), (k, .inr (2, [.int 0, .int 1, .int 1, .int 0, .ref g, .int 0, .ref vn, .ref vg, .ref t, .ref r, .int 0, .int 0, .int 9999, .int 0]))]) rfl ?_
          refine j_st (st' := [.int 0]) rfl ?_
          refine j_if_eqT (pc := 60) C (tgt := 80) d_Nine_letter_60 (by decide) (by decide) ?_
          refine j_iconst (pc := 80) C (v := (-1)) d_Nine_letter_80 (by decide) ?_
          exact j_iret (pc := 81) C hr rfl () rfl [] rfl (by decide) (by decide) (by decide) d_Nine_letter_81
      · refine j_aload_n (pc := 16) C d_Nine_letter_16 rfl 0 rfl ?_
        refine j_get (pc := 17) C gf_Nine_41 0 rfl rfl d_Nine_letter_17 ?_
        refine j_iload_n (pc := 20) C d_Nine_letter_20 rfl 2 rfl ?_
        refine j_callVi (pc := 21) C (c_hasGate l D y k g vn vg t r g0 g1 g2 g3 g4 g5 g6 vb) kw_Nine_138 kv_Lake_hasGate 0 2 rfl rfl ⟨by decide, by decide⟩ ⟨by decide, by decide⟩ (wr := [(x, .inr (9, [.ref tp, .ref pi, .ref nw, .ref tr, .ref ps, .ref k, .ref k2, .ref rd, .ref pl, .int 1]))]) [1, 2] [0] rfl rfl (by decide) (by decide) (by decide) (As := [.int vb]) (rest := []) rfl (nb rfl) rfl d_Nine_letter_21 (fun r6 _ hr6 => ?_)
        subst hr6
        refine j_ws (ws' := [(x, .inr (9, [.ref tp, .ref pi, .ref nw, .ref tr, .ref ps, .ref k, .ref k2, .ref rd, .ref pl, .int 1])), (k, .inr (2, [.int 0, .int 1, .int 1, .int 0, .ref g, .int 0, .ref vn, .ref vg, .ref t, .ref r, .int 0, .int 0, .int 9999, .int 0])), (g, .inr (1, [.int 0, .ref g0, .ref g1, .ref g2, .ref g3, .ref g4, .ref g5, .ref g6]))]) rfl ?_
        refine j_st (st' := [.int 0]) rfl ?_
        refine j_if_eqT (pc := 24) C (tgt := 47) d_Nine_letter_24 (by decide) (by decide) ?_
        refine j_iload_n (pc := 47) C d_Nine_letter_47 rfl 1 rfl ?_
        refine j_iconst (pc := 48) C (v := 1) d_Nine_letter_48 (by decide) ?_
        refine j_icmp_ne (pc := 49) C (tgt := 80) d_Nine_letter_49 (by decide) (fun c7 => ?_) (fun c7 => ?_)
        · refine j_iconst (pc := 80) C (v := (-1)) d_Nine_letter_80 (by decide) ?_
          exact j_iret (pc := 81) C hr rfl () rfl [] rfl (by decide) (by decide) (by decide) d_Nine_letter_81
        · refine j_aload_n (pc := 52) C d_Nine_letter_52 rfl 0 rfl ?_
          refine j_get (pc := 53) C gf_Nine_41 0 rfl rfl d_Nine_letter_53 ?_
          refine j_iload_n (pc := 56) C d_Nine_letter_56 rfl 2 rfl ?_
          refine j_callVi (pc := 57) C (c_hasVillage l D y k g vn vg t r vb) kw_Nine_145 kv_Lake_hasVillage 0 2 rfl rfl ⟨by decide, by decide⟩ ⟨by decide, by decide⟩ (wr := [(x, .inr (9, [.ref tp, .ref pi, .ref nw, .ref tr, .ref ps, .ref k, .ref k2, .ref rd, .ref pl, .int 1])), (g, .inr (1, [.int 0, .ref g0, .ref g1, .ref g2, .ref g3, .ref g4, .ref g5, .ref g6]))]) [1] [0, 2] rfl rfl (by decide) (by decide) (by decide) (As := [.int vb]) (rest := []) rfl (nb rfl) rfl d_Nine_letter_57 (fun r8 _ hr8 => ?_)
          subst hr8
          refine j_ws (ws' := [(x, .inr (9, [.ref tp, .ref pi, .ref nw, .ref tr, .ref ps, .ref k, .ref k2, .ref rd, .ref pl, .int 1])), (g, .inr (1, [.int 0, .ref g0, .ref g1, .ref g2, .ref g3, .ref g4, .ref g5, .ref g6])), (k, .inr (2, [.int 0, .int 1, .int 1, .int 0, .ref g, .int 0, .ref vn, .ref vg, .ref t, .ref r, .int 0, .int 0, .int 9999, .int 0]))]) rfl ?_
          refine j_st (st' := [.int 0]) rfl ?_
          refine j_if_eqT (pc := 60) C (tgt := 80) d_Nine_letter_60 (by decide) (by decide) ?_
          refine j_iconst (pc := 80) C (v := (-1)) d_Nine_letter_80 (by decide) ?_
          exact j_iret (pc := 81) C hr rfl () rfl [] rfl (by decide) (by decide) (by decide) d_Nine_letter_81
    · refine j_iconst (pc := 10) C (v := (-1)) d_Nine_letter_10 (by decide) ?_
      exact j_iret (pc := 11) C hr rfl () rfl [] rfl (by decide) (by decide) (by decide) d_Nine_letter_11
theorem d_Nine_has_0 : decode prog_1_method_6_code 0 = .ok (.iload_n 1, 1) := by decide +kernel
theorem d_Nine_has_1 : decode prog_1_method_6_code 1 = .ok (.tableswitch 139 0 8 #[51, 62, 70, 81, 92, 100, 108, 123, 131], 51) := by decide +kernel
theorem d_Nine_has_52 : decode prog_1_method_6_code 52 = .ok (.aload_n 0, 1) := by decide +kernel
theorem d_Nine_has_53 : decode prog_1_method_6_code 53 = .ok (.getfield 41, 3) := by decide +kernel
theorem d_Nine_has_56 : decode prog_1_method_6_code 56 = .ok (.getfield 89, 3) := by decide +kernel
theorem gf_Nine_89 : GF "NineBoards" 89 2 4 := ⟨_, _, _, rfl, ci_Lake, by decide, (mt_2 (List.mem_of_getElem? (i := 44) rfl) rfl)⟩
theorem d_Nine_has_59 : decode prog_1_method_6_code 59 = .ok (.getfield 93, 3) := by decide +kernel
theorem gf_Nine_93 : GF "NineBoards" 93 1 0 := ⟨_, _, _, rfl, ci_Gates, by decide, (mt_1 (List.mem_of_getElem? (i := 141) rfl) rfl)⟩
theorem d_Nine_has_62 : decode prog_1_method_6_code 62 = .ok (.ireturn, 1) := by decide +kernel
theorem d_Nine_has_63 : decode prog_1_method_6_code 63 = .ok (.aload_n 0, 1) := by decide +kernel
theorem d_Nine_has_64 : decode prog_1_method_6_code 64 = .ok (.getfield 41, 3) := by decide +kernel
theorem d_Nine_has_67 : decode prog_1_method_6_code 67 = .ok (.getfield 107, 3) := by decide +kernel
theorem gf_Nine_107 : GF "NineBoards" 107 2 5 := ⟨_, _, _, rfl, ci_Lake, by decide, (mt_2 (List.mem_of_getElem? (i := 47) rfl) rfl)⟩
theorem d_Nine_has_70 : decode prog_1_method_6_code 70 = .ok (.ireturn, 1) := by decide +kernel
theorem d_Nine_has_71 : decode prog_1_method_6_code 71 = .ok (.aload_n 0, 1) := by decide +kernel
theorem d_Nine_has_72 : decode prog_1_method_6_code 72 = .ok (.getfield 41, 3) := by decide +kernel
theorem d_Nine_has_75 : decode prog_1_method_6_code 75 = .ok (.getfield 110, 3) := by decide +kernel
theorem gf_Nine_110 : GF "NineBoards" 110 2 8 := ⟨_, _, _, rfl, ci_Lake, by decide, (mt_2 (List.mem_of_getElem? (i := 59) rfl) rfl)⟩
theorem d_Nine_has_78 : decode prog_1_method_6_code 78 = .ok (.getfield 114, 3) := by decide +kernel
theorem gf_Nine_114 : GF "NineBoards" 114 8 0 := ⟨_, _, _, rfl, ci_Things, by decide, (mt_1 (List.mem_of_getElem? (i := 188) rfl) rfl)⟩
theorem d_Nine_has_81 : decode prog_1_method_6_code 81 = .ok (.ireturn, 1) := by decide +kernel
theorem d_Nine_has_82 : decode prog_1_method_6_code 82 = .ok (.aload_n 0, 1) := by decide +kernel
theorem d_Nine_has_83 : decode prog_1_method_6_code 83 = .ok (.getfield 41, 3) := by decide +kernel
theorem d_Nine_has_86 : decode prog_1_method_6_code 86 = .ok (.getfield 117, 3) := by decide +kernel
theorem gf_Nine_117 : GF "NineBoards" 117 2 9 := ⟨_, _, _, rfl, ci_Lake, by decide, (mt_2 (List.mem_of_getElem? (i := 64) rfl) rfl)⟩
theorem d_Nine_has_89 : decode prog_1_method_6_code 89 = .ok (.getfield 121, 3) := by decide +kernel
theorem gf_Nine_121 : GF "NineBoards" 121 6 0 := ⟨_, _, _, rfl, ci_Rules, by decide, (mt_1 (List.mem_of_getElem? (i := 234) rfl) rfl)⟩
theorem d_Nine_has_92 : decode prog_1_method_6_code 92 = .ok (.ireturn, 1) := by decide +kernel
theorem d_Nine_has_93 : decode prog_1_method_6_code 93 = .ok (.aload_n 0, 1) := by decide +kernel
theorem d_Nine_has_94 : decode prog_1_method_6_code 94 = .ok (.getfield 24, 3) := by decide +kernel
theorem gf_Nine_24 : GF "NineBoards" 24 9 2 := ⟨_, _, _, rfl, ci_Nine, by decide, (mt_2 (List.mem_of_getElem? (i := 233) rfl) rfl)⟩
theorem d_Nine_has_97 : decode prog_1_method_6_code 97 = .ok (.getfield 124, 3) := by decide +kernel
theorem gf_Nine_124 : GF "NineBoards" 124 7 0 := ⟨_, _, _, rfl, ci_State, by decide, (mt_1 (List.mem_of_getElem? (i := 56) rfl) rfl)⟩
theorem d_Nine_has_100 : decode prog_1_method_6_code 100 = .ok (.ireturn, 1) := by decide +kernel
theorem d_Nine_has_101 : decode prog_1_method_6_code 101 = .ok (.aload_n 0, 1) := by decide +kernel
theorem d_Nine_has_102 : decode prog_1_method_6_code 102 = .ok (.getfield 24, 3) := by decide +kernel
theorem d_Nine_has_105 : decode prog_1_method_6_code 105 = .ok (.getfield 127, 3) := by decide +kernel
theorem gf_Nine_127 : GF "NineBoards" 127 7 1 := ⟨_, _, _, rfl, ci_State, by decide, (mt_1 (List.mem_of_getElem? (i := 59) rfl) rfl)⟩
theorem d_Nine_has_108 : decode prog_1_method_6_code 108 = .ok (.ireturn, 1) := by decide +kernel
theorem d_Nine_has_109 : decode prog_1_method_6_code 109 = .ok (.aload_n 0, 1) := by decide +kernel
theorem d_Nine_has_110 : decode prog_1_method_6_code 110 = .ok (.getfield 41, 3) := by decide +kernel
theorem d_Nine_has_113 : decode prog_1_method_6_code 113 = .ok (.aload_n 0, 1) := by decide +kernel
theorem d_Nine_has_114 : decode prog_1_method_6_code 114 = .ok (.getfield 24, 3) := by decide +kernel
theorem d_Nine_has_117 : decode prog_1_method_6_code 117 = .ok (.getfield 127, 3) := by decide +kernel
theorem d_Nine_has_120 : decode prog_1_method_6_code 120 = .ok (.invokevirtual 130, 3) := by decide +kernel
theorem kw_Nine_130 : KW "NineBoards" 130 ⟨"NineBoards$Lake", "levelAt", "(I)I"⟩ prog_5_method_7_code 2 (some .int) 1 := ⟨(mt_3 (List.mem_of_getElem? (i := 213) rfl) rfl), (mt_1 (List.mem_of_getElem? (i := 6) rfl) rfl), (mt_3 (List.mem_of_getElem? (i := 216) rfl) rfl), by decide +kernel⟩
theorem d_Nine_has_123 : decode prog_1_method_6_code 123 = .ok (.ireturn, 1) := by decide +kernel
theorem d_Nine_has_124 : decode prog_1_method_6_code 124 = .ok (.aload_n 0, 1) := by decide +kernel
theorem d_Nine_has_125 : decode prog_1_method_6_code 125 = .ok (.getfield 24, 3) := by decide +kernel
theorem d_Nine_has_128 : decode prog_1_method_6_code 128 = .ok (.getfield 134, 3) := by decide +kernel
theorem gf_Nine_134 : GF "NineBoards" 134 7 2 := ⟨_, _, _, rfl, ci_State, by decide, (mt_1 (List.mem_of_getElem? (i := 62) rfl) rfl)⟩
theorem d_Nine_has_131 : decode prog_1_method_6_code 131 = .ok (.ireturn, 1) := by decide +kernel
theorem d_Nine_has_132 : decode prog_1_method_6_code 132 = .ok (.aload_n 0, 1) := by decide +kernel
theorem d_Nine_has_133 : decode prog_1_method_6_code 133 = .ok (.getfield 34, 3) := by decide +kernel
theorem gf_Nine_34 : GF "NineBoards" 34 9 4 := ⟨_, _, _, rfl, ci_Nine, by decide, (mt_2 (List.mem_of_getElem? (i := 235) rfl) rfl)⟩
theorem d_Nine_has_136 : decode prog_1_method_6_code 136 = .ok (.getfield 137, 3) := by decide +kernel
theorem gf_Nine_137 : GF "NineBoards" 137 3 0 := ⟨_, _, _, rfl, ci_Past, by decide, (mt_1 (List.mem_of_getElem? (i := 117) rfl) rfl)⟩
theorem d_Nine_has_139 : decode prog_1_method_6_code 139 = .ok (.ireturn, 1) := by decide +kernel
theorem to_0_8 {x : Int32} (h0 : ¬ x = 0) (h1 : ¬ x = 1) (h2 : ¬ x = 2) (h3 : ¬ x = 3) (h4 : ¬ x = 4) (h5 : ¬ x = 5) (h6 : ¬ x = 6) (h7 : ¬ x = 7) (h8 : ¬ x = 8) : x.toInt < 0 ∨ 8 < x.toInt := by
  have g0 : x.toInt ≠ 0 := fun e => h0 (Int32.toInt_inj.mp (e.trans (by decide)))
  have g1 : x.toInt ≠ 1 := fun e => h1 (Int32.toInt_inj.mp (e.trans (by decide)))
  have g2 : x.toInt ≠ 2 := fun e => h2 (Int32.toInt_inj.mp (e.trans (by decide)))
  have g3 : x.toInt ≠ 3 := fun e => h3 (Int32.toInt_inj.mp (e.trans (by decide)))
  have g4 : x.toInt ≠ 4 := fun e => h4 (Int32.toInt_inj.mp (e.trans (by decide)))
  have g5 : x.toInt ≠ 5 := fun e => h5 (Int32.toInt_inj.mp (e.trans (by decide)))
  have g6 : x.toInt ≠ 6 := fun e => h6 (Int32.toInt_inj.mp (e.trans (by decide)))
  have g7 : x.toInt ≠ 7 := fun e => h7 (Int32.toInt_inj.mp (e.trans (by decide)))
  have g8 : x.toInt ≠ 8 := fun e => h8 (Int32.toInt_inj.mp (e.trans (by decide)))
  omega
theorem d_Nine_has_140 : decode prog_1_method_6_code 140 = .ok (.iconst (-1), 1) := by decide +kernel
theorem d_Nine_has_141 : decode prog_1_method_6_code 141 = .ok (.ireturn, 1) := by decide +kernel
set_option maxHeartbeats 4000000 in
set_option maxRecDepth 100000 in
theorem c_N_has (l : Launch) (D : va_G) (y : Nat → ClassId) (x : Nat) (tp : Nat) (pi : Nat) (nw : Nat) (tr : Nat) (ps : Nat) (k : Nat) (k2 : Nat) (rd : Nat) (pl : Nat) (g : Nat) (vn : Nat) (vg : Nat) (t : Nat) (r : Nat) (g0 : Nat) (g1 : Nat) (g2 : Nat) (g3 : Nat) (g4 : Nat) (g5 : Nat) (g6 : Nat) (t0 : Nat) (t1 : Nat) (t2 : Nat) (t3 : Nat) (t4 : Nat) (t5 : Nat) (t6 : Nat) (r0 : Nat) (r1 : Nat) (r2 : Nat) (r3 : Nat) (r4 : Nat) (r5 : Nat) (n0 : Nat) (n1 : Nat) (n2 : Nat) (n3 : Nat) (n4 : Nat) (n5 : Nat) (n6 : Nat) (kp : Nat) (n : Int32)  : CT l D y ⟨"NineBoards", "has", "(I)I"⟩ prog_1_method_6_code 2 (some .int) ({ frames := 2, cells := 0, slots := 0, locals := 43 } : Room) [.ref x, .int n] [(x, .inr (9, [.ref tp, .ref pi, .ref nw, .ref tr, .ref ps, .ref k, .ref k2, .ref rd, .ref pl, .int 1])), (k, .inr (2, [.int 0, .int 1, .int 1, .int 0, .ref g, .int 0, .ref vn, .ref vg, .ref t, .ref r, .int 0, .int 0, .int 9999, .int 0])), (g, .inr (1, [.int 0, .ref g0, .ref g1, .ref g2, .ref g3, .ref g4, .ref g5, .ref g6])), (t, .inr (8, [.int 0, .ref t0, .ref t1, .ref t2, .ref t3, .ref t4, .ref t5, .ref t6])), (r, .inr (6, [.int 0, .int 0, .ref r0, .ref r1, .ref r2, .ref r3, .ref r4, .ref r5])), (nw, .inr (7, [.int 0, .int 0, .int 0, .ref n0, .ref n1, .ref n2, .ref n3, .ref n4, .ref n5, .ref n6])), (ps, .inr (3, [.int 0, .int 0, .ref kp]))] (QI D [(x, .inr (9, [.ref tp, .ref pi, .ref nw, .ref tr, .ref ps, .ref k, .ref k2, .ref rd, .ref pl, .int 1])), (k, .inr (2, [.int 0, .int 1, .int 1, .int 0, .ref g, .int 0, .ref vn, .ref vg, .ref t, .ref r, .int 0, .int 0, .int 9999, .int 0])), (g, .inr (1, [.int 0, .ref g0, .ref g1, .ref g2, .ref g3, .ref g4, .ref g5, .ref g6])), (t, .inr (8, [.int 0, .ref t0, .ref t1, .ref t2, .ref t3, .ref t4, .ref t5, .ref t6])), (r, .inr (6, [.int 0, .int 0, .ref r0, .ref r1, .ref r2, .ref r3, .ref r4, .ref r5])), (nw, .inr (7, [.int 0, .int 0, .int 0, .ref n0, .ref n1, .ref n2, .ref n3, .ref n4, .ref n5, .ref n6])), (ps, .inr (3, [.int 0, .int 0, .ref kp]))] (fun (r : Int32) (_ : Unit) => r = if 0 ≤ n.toInt ∧ n.toInt ≤ 8 then 0 else -1) (fun _ => [])) := by
  refine CT.of (by decide) (nb rfl) ?_
  intro p e s m args below meth c C hr
  refine j_lv (lv' := [(0, .ref x), (1, .int n)]) rfl ?_
  refine j_iload_n (pc := 0) C d_Nine_has_0 rfl 1 rfl ?_
  by_cases c1_0 : n = 0
  · refine j_tabIn (pc := 1) C (off := 51) (tgt := 52) d_Nine_has_1 (by rw [c1_0]; decide) (by rw [c1_0]; decide) (by rw [c1_0]; decide) (by decide) ?_
    refine j_aload_n (pc := 52) C d_Nine_has_52 rfl 0 rfl ?_
    refine j_get (pc := 53) C gf_Nine_41 0 rfl rfl d_Nine_has_53 ?_
    refine j_get (pc := 56) C gf_Nine_89 1 rfl rfl d_Nine_has_56 ?_
    refine j_get (pc := 59) C gf_Nine_93 2 rfl rfl d_Nine_has_59 ?_
    exact j_iret (pc := 62) C hr rfl () (by simp only [Int32.lt_iff_toInt_lt, Int32.le_iff_toInt_le, ← Int32.toInt_inj, (by decide : Int32.toInt 0 = 0)] at c1_0; (first | rw [if_pos (by omega)] | rw [if_neg (by omega)])) [] rfl (by decide) (by decide) (by decide) d_Nine_has_62
  · by_cases c1_1 : n = 1
    · refine j_tabIn (pc := 1) C (off := 62) (tgt := 63) d_Nine_has_1 (by rw [c1_1]; decide) (by rw [c1_1]; decide) (by rw [c1_1]; decide) (by decide) ?_
      refine j_aload_n (pc := 63) C d_Nine_has_63 rfl 0 rfl ?_
      refine j_get (pc := 64) C gf_Nine_41 0 rfl rfl d_Nine_has_64 ?_
      refine j_get (pc := 67) C gf_Nine_107 1 rfl rfl d_Nine_has_67 ?_
      exact j_iret (pc := 70) C hr rfl () (by simp only [Int32.lt_iff_toInt_lt, Int32.le_iff_toInt_le, ← Int32.toInt_inj, (by decide : Int32.toInt 0 = 0), (by decide : Int32.toInt 1 = 1)] at c1_0 c1_1; (first | rw [if_pos (by omega)] | rw [if_neg (by omega)])) [] rfl (by decide) (by decide) (by decide) d_Nine_has_70
    · by_cases c1_2 : n = 2
      · refine j_tabIn (pc := 1) C (off := 70) (tgt := 71) d_Nine_has_1 (by rw [c1_2]; decide) (by rw [c1_2]; decide) (by rw [c1_2]; decide) (by decide) ?_
        refine j_aload_n (pc := 71) C d_Nine_has_71 rfl 0 rfl ?_
        refine j_get (pc := 72) C gf_Nine_41 0 rfl rfl d_Nine_has_72 ?_
        refine j_get (pc := 75) C gf_Nine_110 1 rfl rfl d_Nine_has_75 ?_
        refine j_get (pc := 78) C gf_Nine_114 3 rfl rfl d_Nine_has_78 ?_
        exact j_iret (pc := 81) C hr rfl () (by simp only [Int32.lt_iff_toInt_lt, Int32.le_iff_toInt_le, ← Int32.toInt_inj, (by decide : Int32.toInt 0 = 0), (by decide : Int32.toInt 1 = 1), (by decide : Int32.toInt 2 = 2)] at c1_0 c1_1 c1_2; (first | rw [if_pos (by omega)] | rw [if_neg (by omega)])) [] rfl (by decide) (by decide) (by decide) d_Nine_has_81
      · by_cases c1_3 : n = 3
        · refine j_tabIn (pc := 1) C (off := 81) (tgt := 82) d_Nine_has_1 (by rw [c1_3]; decide) (by rw [c1_3]; decide) (by rw [c1_3]; decide) (by decide) ?_
          refine j_aload_n (pc := 82) C d_Nine_has_82 rfl 0 rfl ?_
          refine j_get (pc := 83) C gf_Nine_41 0 rfl rfl d_Nine_has_83 ?_
          refine j_get (pc := 86) C gf_Nine_117 1 rfl rfl d_Nine_has_86 ?_
          refine j_get (pc := 89) C gf_Nine_121 4 rfl rfl d_Nine_has_89 ?_
          exact j_iret (pc := 92) C hr rfl () (by simp only [Int32.lt_iff_toInt_lt, Int32.le_iff_toInt_le, ← Int32.toInt_inj, (by decide : Int32.toInt 0 = 0), (by decide : Int32.toInt 1 = 1), (by decide : Int32.toInt 2 = 2), (by decide : Int32.toInt 3 = 3)] at c1_0 c1_1 c1_2 c1_3; (first | rw [if_pos (by omega)] | rw [if_neg (by omega)])) [] rfl (by decide) (by decide) (by decide) d_Nine_has_92
        · by_cases c1_4 : n = 4
          · refine j_tabIn (pc := 1) C (off := 92) (tgt := 93) d_Nine_has_1 (by rw [c1_4]; decide) (by rw [c1_4]; decide) (by rw [c1_4]; decide) (by decide) ?_
            refine j_aload_n (pc := 93) C d_Nine_has_93 rfl 0 rfl ?_
            refine j_get (pc := 94) C gf_Nine_24 0 rfl rfl d_Nine_has_94 ?_
            refine j_get (pc := 97) C gf_Nine_124 5 rfl rfl d_Nine_has_97 ?_
            exact j_iret (pc := 100) C hr rfl () (by simp only [Int32.lt_iff_toInt_lt, Int32.le_iff_toInt_le, ← Int32.toInt_inj, (by decide : Int32.toInt 0 = 0), (by decide : Int32.toInt 1 = 1), (by decide : Int32.toInt 2 = 2), (by decide : Int32.toInt 3 = 3), (by decide : Int32.toInt 4 = 4)] at c1_0 c1_1 c1_2 c1_3 c1_4; (first | rw [if_pos (by omega)] | rw [if_neg (by omega)])) [] rfl (by decide) (by decide) (by decide) d_Nine_has_100
          · by_cases c1_5 : n = 5
            · refine j_tabIn (pc := 1) C (off := 100) (tgt := 101) d_Nine_has_1 (by rw [c1_5]; decide) (by rw [c1_5]; decide) (by rw [c1_5]; decide) (by decide) ?_
              refine j_aload_n (pc := 101) C d_Nine_has_101 rfl 0 rfl ?_
              refine j_get (pc := 102) C gf_Nine_24 0 rfl rfl d_Nine_has_102 ?_
              refine j_get (pc := 105) C gf_Nine_127 5 rfl rfl d_Nine_has_105 ?_
              exact j_iret (pc := 108) C hr rfl () (by simp only [Int32.lt_iff_toInt_lt, Int32.le_iff_toInt_le, ← Int32.toInt_inj, (by decide : Int32.toInt 0 = 0), (by decide : Int32.toInt 1 = 1), (by decide : Int32.toInt 2 = 2), (by decide : Int32.toInt 3 = 3), (by decide : Int32.toInt 4 = 4), (by decide : Int32.toInt 5 = 5)] at c1_0 c1_1 c1_2 c1_3 c1_4 c1_5; (first | rw [if_pos (by omega)] | rw [if_neg (by omega)])) [] rfl (by decide) (by decide) (by decide) d_Nine_has_108
            · by_cases c1_6 : n = 6
              · refine j_tabIn (pc := 1) C (off := 108) (tgt := 109) d_Nine_has_1 (by rw [c1_6]; decide) (by rw [c1_6]; decide) (by rw [c1_6]; decide) (by decide) ?_
                refine j_aload_n (pc := 109) C d_Nine_has_109 rfl 0 rfl ?_
                refine j_get (pc := 110) C gf_Nine_41 0 rfl rfl d_Nine_has_110 ?_
                refine j_aload_n (pc := 113) C d_Nine_has_113 rfl 0 rfl ?_
                refine j_get (pc := 114) C gf_Nine_24 0 rfl rfl d_Nine_has_114 ?_
                refine j_get (pc := 117) C gf_Nine_127 5 rfl rfl d_Nine_has_117 ?_
                refine j_callVi (pc := 120) C (c_levelAt_0 l D y k g vn vg t r) kw_Nine_130 kv_Lake_levelAt 0 2 rfl rfl ⟨by decide, by decide⟩ ⟨by decide, by decide⟩ (wr := [(x, .inr (9, [.ref tp, .ref pi, .ref nw, .ref tr, .ref ps, .ref k, .ref k2, .ref rd, .ref pl, .int 1])), (g, .inr (1, [.int 0, .ref g0, .ref g1, .ref g2, .ref g3, .ref g4, .ref g5, .ref g6])), (t, .inr (8, [.int 0, .ref t0, .ref t1, .ref t2, .ref t3, .ref t4, .ref t5, .ref t6])), (r, .inr (6, [.int 0, .int 0, .ref r0, .ref r1, .ref r2, .ref r3, .ref r4, .ref r5])), (nw, .inr (7, [.int 0, .int 0, .int 0, .ref n0, .ref n1, .ref n2, .ref n3, .ref n4, .ref n5, .ref n6])), (ps, .inr (3, [.int 0, .int 0, .ref kp]))]) [1] [0, 2, 3, 4, 5, 6] rfl rfl (by decide) (by decide) (by decide) (As := [.int 0]) (rest := []) rfl (nb rfl) rfl d_Nine_has_120 (fun r6 _ hr6 => ?_)
                subst hr6
                refine j_ws (ws' := [(x, .inr (9, [.ref tp, .ref pi, .ref nw, .ref tr, .ref ps, .ref k, .ref k2, .ref rd, .ref pl, .int 1])), (g, .inr (1, [.int 0, .ref g0, .ref g1, .ref g2, .ref g3, .ref g4, .ref g5, .ref g6])), (t, .inr (8, [.int 0, .ref t0, .ref t1, .ref t2, .ref t3, .ref t4, .ref t5, .ref t6])), (r, .inr (6, [.int 0, .int 0, .ref r0, .ref r1, .ref r2, .ref r3, .ref r4, .ref r5])), (nw, .inr (7, [.int 0, .int 0, .int 0, .ref n0, .ref n1, .ref n2, .ref n3, .ref n4, .ref n5, .ref n6])), (ps, .inr (3, [.int 0, .int 0, .ref kp])), (k, .inr (2, [.int 0, .int 1, .int 1, .int 0, .ref g, .int 0, .ref vn, .ref vg, .ref t, .ref r, .int 0, .int 0, .int 9999, .int 0]))]) rfl ?_
                refine j_st (st' := [.int 0]) rfl ?_
                exact j_iret (pc := 123) C hr rfl () (by simp only [Int32.lt_iff_toInt_lt, Int32.le_iff_toInt_le, ← Int32.toInt_inj, (by decide : Int32.toInt 0 = 0), (by decide : Int32.toInt 1 = 1), (by decide : Int32.toInt 2 = 2), (by decide : Int32.toInt 3 = 3), (by decide : Int32.toInt 4 = 4), (by decide : Int32.toInt 5 = 5), (by decide : Int32.toInt 6 = 6)] at c1_0 c1_1 c1_2 c1_3 c1_4 c1_5 c1_6; (first | rw [if_pos (by omega)] | rw [if_neg (by omega)])) [] rfl (by decide) (by decide) (by decide) d_Nine_has_123
              · by_cases c1_7 : n = 7
                · refine j_tabIn (pc := 1) C (off := 123) (tgt := 124) d_Nine_has_1 (by rw [c1_7]; decide) (by rw [c1_7]; decide) (by rw [c1_7]; decide) (by decide) ?_
                  refine j_aload_n (pc := 124) C d_Nine_has_124 rfl 0 rfl ?_
                  refine j_get (pc := 125) C gf_Nine_24 0 rfl rfl d_Nine_has_125 ?_
                  refine j_get (pc := 128) C gf_Nine_134 5 rfl rfl d_Nine_has_128 ?_
                  exact j_iret (pc := 131) C hr rfl () (by simp only [Int32.lt_iff_toInt_lt, Int32.le_iff_toInt_le, ← Int32.toInt_inj, (by decide : Int32.toInt 0 = 0), (by decide : Int32.toInt 1 = 1), (by decide : Int32.toInt 2 = 2), (by decide : Int32.toInt 3 = 3), (by decide : Int32.toInt 4 = 4), (by decide : Int32.toInt 5 = 5), (by decide : Int32.toInt 6 = 6), (by decide : Int32.toInt 7 = 7)] at c1_0 c1_1 c1_2 c1_3 c1_4 c1_5 c1_6 c1_7; (first | rw [if_pos (by omega)] | rw [if_neg (by omega)])) [] rfl (by decide) (by decide) (by decide) d_Nine_has_131
                · by_cases c1_8 : n = 8
                  · refine j_tabIn (pc := 1) C (off := 131) (tgt := 132) d_Nine_has_1 (by rw [c1_8]; decide) (by rw [c1_8]; decide) (by rw [c1_8]; decide) (by decide) ?_
                    refine j_aload_n (pc := 132) C d_Nine_has_132 rfl 0 rfl ?_
                    refine j_get (pc := 133) C gf_Nine_34 0 rfl rfl d_Nine_has_133 ?_
                    refine j_get (pc := 136) C gf_Nine_137 6 rfl rfl d_Nine_has_136 ?_
                    exact j_iret (pc := 139) C hr rfl () (by simp only [Int32.lt_iff_toInt_lt, Int32.le_iff_toInt_le, ← Int32.toInt_inj, (by decide : Int32.toInt 0 = 0), (by decide : Int32.toInt 1 = 1), (by decide : Int32.toInt 2 = 2), (by decide : Int32.toInt 3 = 3), (by decide : Int32.toInt 4 = 4), (by decide : Int32.toInt 5 = 5), (by decide : Int32.toInt 6 = 6), (by decide : Int32.toInt 7 = 7), (by decide : Int32.toInt 8 = 8)] at c1_0 c1_1 c1_2 c1_3 c1_4 c1_5 c1_6 c1_7 c1_8; (first | rw [if_pos (by omega)] | rw [if_neg (by omega)])) [] rfl (by decide) (by decide) (by decide) d_Nine_has_139
                  · refine j_tabOut (pc := 1) C (tgt := 140) d_Nine_has_1 (by exact to_0_8 c1_0 c1_1 c1_2 c1_3 c1_4 c1_5 c1_6 c1_7 c1_8) (by decide) ?_
                    refine j_iconst (pc := 140) C (v := (-1)) d_Nine_has_140 (by decide) ?_
                    exact j_iret (pc := 141) C hr rfl () (by simp only [Int32.lt_iff_toInt_lt, Int32.le_iff_toInt_le, ← Int32.toInt_inj, (by decide : Int32.toInt 0 = 0), (by decide : Int32.toInt 1 = 1), (by decide : Int32.toInt 2 = 2), (by decide : Int32.toInt 3 = 3), (by decide : Int32.toInt 4 = 4), (by decide : Int32.toInt 5 = 5), (by decide : Int32.toInt 6 = 6), (by decide : Int32.toInt 7 = 7), (by decide : Int32.toInt 8 = 8)] at c1_0 c1_1 c1_2 c1_3 c1_4 c1_5 c1_6 c1_7 c1_8; (first | rw [if_pos (by omega)] | rw [if_neg (by omega)])) [] rfl (by decide) (by decide) (by decide) d_Nine_has_141
theorem d_Nine_gate_0 : decode prog_1_method_8_code 0 = .ok (.aload_n 0, 1) := by decide +kernel
theorem d_Nine_gate_1 : decode prog_1_method_8_code 1 = .ok (.getfield 41, 3) := by decide +kernel
theorem d_Nine_gate_4 : decode prog_1_method_8_code 4 = .ok (.iload_n 1, 1) := by decide +kernel
theorem d_Nine_gate_5 : decode prog_1_method_8_code 5 = .ok (.invokevirtual 138, 3) := by decide +kernel
theorem d_Nine_gate_8 : decode prog_1_method_8_code 8 = .ok (.ifCond .ne 5, 3) := by decide +kernel
theorem d_Nine_gate_11 : decode prog_1_method_8_code 11 = .ok (.iconst (-1), 1) := by decide +kernel
theorem d_Nine_gate_12 : decode prog_1_method_8_code 12 = .ok (.ireturn, 1) := by decide +kernel
set_option maxHeartbeats 4000000 in
set_option maxRecDepth 100000 in
theorem c_N_gate (l : Launch) (D : va_G) (y : Nat → ClassId) (x : Nat) (tp : Nat) (pi : Nat) (nw : Nat) (tr : Nat) (ps : Nat) (k : Nat) (k2 : Nat) (rd : Nat) (pl : Nat) (g : Nat) (vn : Nat) (vg : Nat) (t : Nat) (r : Nat) (g0 : Nat) (g1 : Nat) (g2 : Nat) (g3 : Nat) (g4 : Nat) (g5 : Nat) (g6 : Nat) (a : Int32) (b : Int32)  : CT l D y ⟨"NineBoards", "gate", "(II)I"⟩ prog_1_method_8_code 3 (some .int) ({ frames := 1, cells := 0, slots := 0, locals := 21 } : Room) [.ref x, .int a, .int b] [(x, .inr (9, [.ref tp, .ref pi, .ref nw, .ref tr, .ref ps, .ref k, .ref k2, .ref rd, .ref pl, .int 1])), (k, .inr (2, [.int 0, .int 1, .int 1, .int 0, .ref g, .int 0, .ref vn, .ref vg, .ref t, .ref r, .int 0, .int 0, .int 9999, .int 0])), (g, .inr (1, [.int 0, .ref g0, .ref g1, .ref g2, .ref g3, .ref g4, .ref g5, .ref g6]))] (QI D [(x, .inr (9, [.ref tp, .ref pi, .ref nw, .ref tr, .ref ps, .ref k, .ref k2, .ref rd, .ref pl, .int 1])), (k, .inr (2, [.int 0, .int 1, .int 1, .int 0, .ref g, .int 0, .ref vn, .ref vg, .ref t, .ref r, .int 0, .int 0, .int 9999, .int 0])), (g, .inr (1, [.int 0, .ref g0, .ref g1, .ref g2, .ref g3, .ref g4, .ref g5, .ref g6]))] (fun (r : Int32) (_ : Unit) => r = (-1)) (fun _ => [])) := by
  refine CT.of (by decide) (nb rfl) ?_
  intro p e s m args below meth c C hr
  refine j_lv (lv' := [(0, .ref x), (1, .int a), (2, .int b)]) rfl ?_
  refine j_aload_n (pc := 0) C d_Nine_gate_0 rfl 0 rfl ?_
  refine j_get (pc := 1) C gf_Nine_41 0 rfl rfl d_Nine_gate_1 ?_
  refine j_iload_n (pc := 4) C d_Nine_gate_4 rfl 1 rfl ?_
  refine j_callVi (pc := 5) C (c_hasGate l D y k g vn vg t r g0 g1 g2 g3 g4 g5 g6 a) kw_Nine_138 kv_Lake_hasGate 0 2 rfl rfl ⟨by decide, by decide⟩ ⟨by decide, by decide⟩ (wr := [(x, .inr (9, [.ref tp, .ref pi, .ref nw, .ref tr, .ref ps, .ref k, .ref k2, .ref rd, .ref pl, .int 1]))]) [1, 2] [0] rfl rfl (by decide) (by decide) (by decide) (As := [.int a]) (rest := []) rfl (nb rfl) rfl d_Nine_gate_5 (fun r1 _ hr1 => ?_)
  subst hr1
  refine j_ws (ws' := [(x, .inr (9, [.ref tp, .ref pi, .ref nw, .ref tr, .ref ps, .ref k, .ref k2, .ref rd, .ref pl, .int 1])), (k, .inr (2, [.int 0, .int 1, .int 1, .int 0, .ref g, .int 0, .ref vn, .ref vg, .ref t, .ref r, .int 0, .int 0, .int 9999, .int 0])), (g, .inr (1, [.int 0, .ref g0, .ref g1, .ref g2, .ref g3, .ref g4, .ref g5, .ref g6]))]) rfl ?_
  refine j_st (st' := [.int 0]) rfl ?_
  refine j_if_neF (pc := 8) C (tgt := 13) d_Nine_gate_8 (by decide) (by decide) ?_
  refine j_iconst (pc := 11) C (v := (-1)) d_Nine_gate_11 (by decide) ?_
  exact j_iret (pc := 12) C hr rfl () rfl [] rfl (by decide) (by decide) (by decide) d_Nine_gate_12
theorem d_Nine_stream_0 : decode prog_1_method_9_code 0 = .ok (.aload_n 0, 1) := by decide +kernel
theorem d_Nine_stream_1 : decode prog_1_method_9_code 1 = .ok (.getfield 41, 3) := by decide +kernel
theorem d_Nine_stream_4 : decode prog_1_method_9_code 4 = .ok (.iload_n 1, 1) := by decide +kernel
theorem d_Nine_stream_5 : decode prog_1_method_9_code 5 = .ok (.invokevirtual 138, 3) := by decide +kernel
theorem d_Nine_stream_8 : decode prog_1_method_9_code 8 = .ok (.ifCond .eq 15, 3) := by decide +kernel
theorem d_Nine_stream_23 : decode prog_1_method_9_code 23 = .ok (.ldc2_w 177, 3) := by decide +kernel
theorem d_Nine_stream_26 : decode prog_1_method_9_code 26 = .ok (.lreturn, 1) := by decide +kernel
set_option maxHeartbeats 4000000 in
set_option maxRecDepth 100000 in
theorem c_N_stream (l : Launch) (D : va_G) (y : Nat → ClassId) (x : Nat) (tp : Nat) (pi : Nat) (nw : Nat) (tr : Nat) (ps : Nat) (k : Nat) (k2 : Nat) (rd : Nat) (pl : Nat) (g : Nat) (vn : Nat) (vg : Nat) (t : Nat) (r : Nat) (g0 : Nat) (g1 : Nat) (g2 : Nat) (g3 : Nat) (g4 : Nat) (g5 : Nat) (g6 : Nat) (a : Int32)  : CT l D y ⟨"NineBoards", "stream", "(I)J"⟩ prog_1_method_9_code 2 (some .long) ({ frames := 1, cells := 0, slots := 0, locals := 21 } : Room) [.ref x, .int a] [(x, .inr (9, [.ref tp, .ref pi, .ref nw, .ref tr, .ref ps, .ref k, .ref k2, .ref rd, .ref pl, .int 1])), (k, .inr (2, [.int 0, .int 1, .int 1, .int 0, .ref g, .int 0, .ref vn, .ref vg, .ref t, .ref r, .int 0, .int 0, .int 9999, .int 0])), (g, .inr (1, [.int 0, .ref g0, .ref g1, .ref g2, .ref g3, .ref g4, .ref g5, .ref g6]))] (QL D [(x, .inr (9, [.ref tp, .ref pi, .ref nw, .ref tr, .ref ps, .ref k, .ref k2, .ref rd, .ref pl, .int 1])), (k, .inr (2, [.int 0, .int 1, .int 1, .int 0, .ref g, .int 0, .ref vn, .ref vg, .ref t, .ref r, .int 0, .int 0, .int 9999, .int 0])), (g, .inr (1, [.int 0, .ref g0, .ref g1, .ref g2, .ref g3, .ref g4, .ref g5, .ref g6]))] (fun (r : Int64) (_ : Unit) => r = (-1)) (fun _ => [])) := by
  refine CT.of (by decide) (nb rfl) ?_
  intro p e s m args below meth c C hr
  refine j_lv (lv' := [(0, .ref x), (1, .int a)]) rfl ?_
  refine j_aload_n (pc := 0) C d_Nine_stream_0 rfl 0 rfl ?_
  refine j_get (pc := 1) C gf_Nine_41 0 rfl rfl d_Nine_stream_1 ?_
  refine j_iload_n (pc := 4) C d_Nine_stream_4 rfl 1 rfl ?_
  refine j_callVi (pc := 5) C (c_hasGate l D y k g vn vg t r g0 g1 g2 g3 g4 g5 g6 a) kw_Nine_138 kv_Lake_hasGate 0 2 rfl rfl ⟨by decide, by decide⟩ ⟨by decide, by decide⟩ (wr := [(x, .inr (9, [.ref tp, .ref pi, .ref nw, .ref tr, .ref ps, .ref k, .ref k2, .ref rd, .ref pl, .int 1]))]) [1, 2] [0] rfl rfl (by decide) (by decide) (by decide) (As := [.int a]) (rest := []) rfl (nb rfl) rfl d_Nine_stream_5 (fun r1 _ hr1 => ?_)
  subst hr1
  refine j_ws (ws' := [(x, .inr (9, [.ref tp, .ref pi, .ref nw, .ref tr, .ref ps, .ref k, .ref k2, .ref rd, .ref pl, .int 1])), (k, .inr (2, [.int 0, .int 1, .int 1, .int 0, .ref g, .int 0, .ref vn, .ref vg, .ref t, .ref r, .int 0, .int 0, .int 9999, .int 0])), (g, .inr (1, [.int 0, .ref g0, .ref g1, .ref g2, .ref g3, .ref g4, .ref g5, .ref g6]))]) rfl ?_
  refine j_st (st' := [.int 0]) rfl ?_
  refine j_if_eqT (pc := 8) C (tgt := 23) d_Nine_stream_8 (by decide) (by decide) ?_
  refine j_ldc2 (pc := 23) C (v := (-1)) (mt_4 (List.mem_of_getElem? (i := 17) rfl) rfl) d_Nine_stream_23 ?_
  exact j_lret (pc := 26) C hr () rfl [] rfl (by decide) (by decide) (by decide) d_Nine_stream_26
theorem d_Nine_all_0 : decode prog_1_method_10_code 0 = .ok (.iload_n 1, 1) := by decide +kernel
theorem d_Nine_all_1 : decode prog_1_method_10_code 1 = .ok (.ifCond .lt 20, 3) := by decide +kernel
theorem d_Nine_all_21 : decode prog_1_method_10_code 21 = .ok (.ldc2_w 177, 3) := by decide +kernel
theorem d_Nine_all_24 : decode prog_1_method_10_code 24 = .ok (.lreturn, 1) := by decide +kernel
theorem d_Nine_all_4 : decode prog_1_method_10_code 4 = .ok (.iload_n 1, 1) := by decide +kernel
theorem d_Nine_all_5 : decode prog_1_method_10_code 5 = .ok (.iconst 5, 1) := by decide +kernel
theorem d_Nine_all_6 : decode prog_1_method_10_code 6 = .ok (.if_icmp .ge 15, 3) := by decide +kernel
theorem d_Nine_all_9 : decode prog_1_method_10_code 9 = .ok (.aload_n 0, 1) := by decide +kernel
theorem d_Nine_all_10 : decode prog_1_method_10_code 10 = .ok (.getfield 24, 3) := by decide +kernel
theorem d_Nine_all_13 : decode prog_1_method_10_code 13 = .ok (.getfield 179, 3) := by decide +kernel
theorem gf_Nine_179 : GF "NineBoards" 179 7 9 := ⟨_, _, _, rfl, ci_State, by decide, (mt_1 (List.mem_of_getElem? (i := 84) rfl) rfl)⟩
theorem d_Nine_all_16 : decode prog_1_method_10_code 16 = .ok (.iload_n 1, 1) := by decide +kernel
theorem d_Nine_all_17 : decode prog_1_method_10_code 17 = .ok (.laload, 1) := by decide +kernel
theorem d_Nine_all_18 : decode prog_1_method_10_code 18 = .ok (.goto 6, 3) := by decide +kernel
set_option maxHeartbeats 4000000 in
set_option maxRecDepth 100000 in
theorem c_N_all (l : Launch) (D : va_G) (y : Nat → ClassId) (x : Nat) (tp : Nat) (pi : Nat) (nw : Nat) (tr : Nat) (ps : Nat) (k : Nat) (k2 : Nat) (rd : Nat) (pl : Nat) (n0 : Nat) (n1 : Nat) (n2 : Nat) (n3 : Nat) (n4 : Nat) (n5 : Nat) (n6 : Nat) (n : Int32)  : CT l D y ⟨"NineBoards", "all", "(I)J"⟩ prog_1_method_10_code 2 (some .long) ({ frames := 0, cells := 0, slots := 0, locals := 0 } : Room) [.ref x, .int n] [(x, .inr (9, [.ref tp, .ref pi, .ref nw, .ref tr, .ref ps, .ref k, .ref k2, .ref rd, .ref pl, .int 1])), (nw, .inr (7, [.int 0, .int 0, .int 0, .ref n0, .ref n1, .ref n2, .ref n3, .ref n4, .ref n5, .ref n6])), (n6, .inl (y 1, 5, .inr (.inl (fun _ => 0))))] (QL D [(x, .inr (9, [.ref tp, .ref pi, .ref nw, .ref tr, .ref ps, .ref k, .ref k2, .ref rd, .ref pl, .int 1])), (nw, .inr (7, [.int 0, .int 0, .int 0, .ref n0, .ref n1, .ref n2, .ref n3, .ref n4, .ref n5, .ref n6])), (n6, .inl (y 1, 5, .inr (.inl (fun _ => 0))))] (fun (r : Int64) (_ : Unit) => r = if 0 ≤ n.toInt ∧ n.toInt ≤ 4 then 0 else -1) (fun _ => [])) := by
  refine CT.of (by decide) (nb rfl) ?_
  intro p e s m args below meth c C hr
  refine j_lv (lv' := [(0, .ref x), (1, .int n)]) rfl ?_
  refine j_iload_n (pc := 0) C d_Nine_all_0 rfl 1 rfl ?_
  refine j_if_lt (pc := 1) C (tgt := 21) d_Nine_all_1 (by decide) (fun c1 => ?_) (fun c1 => ?_)
  · refine j_ldc2 (pc := 21) C (v := (-1)) (mt_4 (List.mem_of_getElem? (i := 17) rfl) rfl) d_Nine_all_21 ?_
    exact j_lret (pc := 24) C hr () (by simp only [Int32.lt_iff_toInt_lt, Int32.le_iff_toInt_le, ← Int32.toInt_inj, (by decide : Int32.toInt 0 = 0)] at c1; (first | rw [if_pos (by omega)] | rw [if_neg (by omega)])) [] rfl (by decide) (by decide) (by decide) d_Nine_all_24
  · refine j_iload_n (pc := 4) C d_Nine_all_4 rfl 1 rfl ?_
    refine j_iconst (pc := 5) C (v := 5) d_Nine_all_5 (by decide) ?_
    refine j_icmp_ge (pc := 6) C (tgt := 21) d_Nine_all_6 (by decide) (fun c2 => ?_) (fun c2 => ?_)
    · refine j_ldc2 (pc := 21) C (v := (-1)) (mt_4 (List.mem_of_getElem? (i := 17) rfl) rfl) d_Nine_all_21 ?_
      exact j_lret (pc := 24) C hr () (by simp only [Int32.lt_iff_toInt_lt, Int32.le_iff_toInt_le, ← Int32.toInt_inj, (by decide : Int32.toInt 0 = 0), (by decide : Int32.toInt 5 = 5)] at c1 c2; (first | rw [if_pos (by omega)] | rw [if_neg (by omega)])) [] rfl (by decide) (by decide) (by decide) d_Nine_all_24
    · refine j_aload_n (pc := 9) C d_Nine_all_9 rfl 0 rfl ?_
      refine j_get (pc := 10) C gf_Nine_24 0 rfl rfl d_Nine_all_10 ?_
      refine j_get (pc := 13) C gf_Nine_179 1 rfl rfl d_Nine_all_13 ?_
      refine j_iload_n (pc := 16) C d_Nine_all_16 rfl 1 rfl ?_
      refine j_lald (pc := 17) C 2 rfl (v := 0) (pk_in2 c1 c2) rfl d_Nine_all_17 ?_
      refine j_goto (pc := 18) C (tgt := 24) d_Nine_all_18 (by decide) ?_
      exact j_lret (pc := 24) C hr () (by simp only [Int32.lt_iff_toInt_lt, Int32.le_iff_toInt_le, ← Int32.toInt_inj, (by decide : Int32.toInt 0 = 0), (by decide : Int32.toInt 5 = 5)] at c1 c2; (first | rw [if_pos (by omega)] | rw [if_neg (by omega)])) [] rfl (by decide) (by decide) (by decide) d_Nine_all_24
theorem d_Nine_village_0 : decode prog_1_method_11_code 0 = .ok (.aload_n 0, 1) := by decide +kernel
theorem d_Nine_village_1 : decode prog_1_method_11_code 1 = .ok (.getfield 41, 3) := by decide +kernel
theorem d_Nine_village_4 : decode prog_1_method_11_code 4 = .ok (.iload_n 1, 1) := by decide +kernel
theorem d_Nine_village_5 : decode prog_1_method_11_code 5 = .ok (.invokevirtual 145, 3) := by decide +kernel
theorem d_Nine_village_8 : decode prog_1_method_11_code 8 = .ok (.ifCond .ne 6, 3) := by decide +kernel
theorem d_Nine_village_11 : decode prog_1_method_11_code 11 = .ok (.ldc 182, 2) := by decide +kernel
theorem d_Nine_village_13 : decode prog_1_method_11_code 13 = .ok (.ireturn, 1) := by decide +kernel
set_option maxHeartbeats 4000000 in
set_option maxRecDepth 100000 in
theorem c_N_village (l : Launch) (D : va_G) (y : Nat → ClassId) (x : Nat) (tp : Nat) (pi : Nat) (nw : Nat) (tr : Nat) (ps : Nat) (k : Nat) (k2 : Nat) (rd : Nat) (pl : Nat) (g : Nat) (vn : Nat) (vg : Nat) (t : Nat) (r : Nat) (a : Int32) (b : Int32)  : CT l D y ⟨"NineBoards", "village", "(II)I"⟩ prog_1_method_11_code 3 (some .int) ({ frames := 1, cells := 0, slots := 0, locals := 21 } : Room) [.ref x, .int a, .int b] [(x, .inr (9, [.ref tp, .ref pi, .ref nw, .ref tr, .ref ps, .ref k, .ref k2, .ref rd, .ref pl, .int 1])), (k, .inr (2, [.int 0, .int 1, .int 1, .int 0, .ref g, .int 0, .ref vn, .ref vg, .ref t, .ref r, .int 0, .int 0, .int 9999, .int 0]))] (QI D [(x, .inr (9, [.ref tp, .ref pi, .ref nw, .ref tr, .ref ps, .ref k, .ref k2, .ref rd, .ref pl, .int 1])), (k, .inr (2, [.int 0, .int 1, .int 1, .int 0, .ref g, .int 0, .ref vn, .ref vg, .ref t, .ref r, .int 0, .int 0, .int 9999, .int 0]))] (fun (r : Int32) (_ : Unit) => r = (-1000000000)) (fun _ => [])) := by
  refine CT.of (by decide) (nb rfl) ?_
  intro p e s m args below meth c C hr
  refine j_lv (lv' := [(0, .ref x), (1, .int a), (2, .int b)]) rfl ?_
  refine j_aload_n (pc := 0) C d_Nine_village_0 rfl 0 rfl ?_
  refine j_get (pc := 1) C gf_Nine_41 0 rfl rfl d_Nine_village_1 ?_
  refine j_iload_n (pc := 4) C d_Nine_village_4 rfl 1 rfl ?_
  refine j_callVi (pc := 5) C (c_hasVillage l D y k g vn vg t r a) kw_Nine_145 kv_Lake_hasVillage 0 2 rfl rfl ⟨by decide, by decide⟩ ⟨by decide, by decide⟩ (wr := [(x, .inr (9, [.ref tp, .ref pi, .ref nw, .ref tr, .ref ps, .ref k, .ref k2, .ref rd, .ref pl, .int 1]))]) [1] [0] rfl rfl (by decide) (by decide) (by decide) (As := [.int a]) (rest := []) rfl (nb rfl) rfl d_Nine_village_5 (fun r1 _ hr1 => ?_)
  subst hr1
  refine j_ws (ws' := [(x, .inr (9, [.ref tp, .ref pi, .ref nw, .ref tr, .ref ps, .ref k, .ref k2, .ref rd, .ref pl, .int 1])), (k, .inr (2, [.int 0, .int 1, .int 1, .int 0, .ref g, .int 0, .ref vn, .ref vg, .ref t, .ref r, .int 0, .int 0, .int 9999, .int 0]))]) rfl ?_
  refine j_st (st' := [.int 0]) rfl ?_
  refine j_if_neF (pc := 8) C (tgt := 14) d_Nine_village_8 (by decide) (by decide) ?_
  refine j_ldc (pc := 11) C (v := (-1000000000)) (mt_4 (List.mem_of_getElem? (i := 26) rfl) rfl) d_Nine_village_11 ?_
  exact j_iret (pc := 13) C hr rfl () rfl [] rfl (by decide) (by decide) (by decide) d_Nine_village_13
theorem d_Nine_served_0 : decode prog_1_method_12_code 0 = .ok (.aload_n 0, 1) := by decide +kernel
theorem d_Nine_served_1 : decode prog_1_method_12_code 1 = .ok (.getfield 41, 3) := by decide +kernel
theorem d_Nine_served_4 : decode prog_1_method_12_code 4 = .ok (.iload_n 1, 1) := by decide +kernel
theorem d_Nine_served_5 : decode prog_1_method_12_code 5 = .ok (.invokevirtual 200, 3) := by decide +kernel
theorem kw_Nine_200 : KW "NineBoards" 200 ⟨"NineBoards$Lake", "hasThing", "(I)Z"⟩ prog_5_method_5_code 2 (some .boolean) 1 := ⟨(mt_4 (List.mem_of_getElem? (i := 48) rfl) rfl), (mt_1 (List.mem_of_getElem? (i := 6) rfl) rfl), (mt_4 (List.mem_of_getElem? (i := 51) rfl) rfl), by decide +kernel⟩
theorem kv_Lake_hasThing : Cond.instanceMethod ⟨"NineBoards$Lake", "hasThing", "(I)Z"⟩ ∈ TB ∧ Cond.selects "NineBoards$Lake" ⟨"NineBoards$Lake", "hasThing", "(I)Z"⟩ ⟨"NineBoards$Lake", "hasThing", "(I)Z"⟩ ∈ TB := ⟨(mt_4 (List.mem_of_getElem? (i := 49) rfl) rfl), (mt_4 (List.mem_of_getElem? (i := 50) rfl) rfl)⟩
theorem d_Nine_served_8 : decode prog_1_method_12_code 8 = .ok (.ifCond .eq 15, 3) := by decide +kernel
theorem d_Nine_served_23 : decode prog_1_method_12_code 23 = .ok (.iconst (-1), 1) := by decide +kernel
theorem d_Nine_served_24 : decode prog_1_method_12_code 24 = .ok (.ireturn, 1) := by decide +kernel
set_option maxHeartbeats 4000000 in
set_option maxRecDepth 100000 in
theorem c_N_served (l : Launch) (D : va_G) (y : Nat → ClassId) (x : Nat) (tp : Nat) (pi : Nat) (nw : Nat) (tr : Nat) (ps : Nat) (k : Nat) (k2 : Nat) (rd : Nat) (pl : Nat) (g : Nat) (vn : Nat) (vg : Nat) (t : Nat) (r : Nat) (t0 : Nat) (t1 : Nat) (t2 : Nat) (t3 : Nat) (t4 : Nat) (t5 : Nat) (t6 : Nat) (a : Int32)  : CT l D y ⟨"NineBoards", "served", "(I)I"⟩ prog_1_method_12_code 2 (some .int) ({ frames := 1, cells := 0, slots := 0, locals := 21 } : Room) [.ref x, .int a] [(x, .inr (9, [.ref tp, .ref pi, .ref nw, .ref tr, .ref ps, .ref k, .ref k2, .ref rd, .ref pl, .int 1])), (k, .inr (2, [.int 0, .int 1, .int 1, .int 0, .ref g, .int 0, .ref vn, .ref vg, .ref t, .ref r, .int 0, .int 0, .int 9999, .int 0])), (t, .inr (8, [.int 0, .ref t0, .ref t1, .ref t2, .ref t3, .ref t4, .ref t5, .ref t6]))] (QI D [(x, .inr (9, [.ref tp, .ref pi, .ref nw, .ref tr, .ref ps, .ref k, .ref k2, .ref rd, .ref pl, .int 1])), (k, .inr (2, [.int 0, .int 1, .int 1, .int 0, .ref g, .int 0, .ref vn, .ref vg, .ref t, .ref r, .int 0, .int 0, .int 9999, .int 0])), (t, .inr (8, [.int 0, .ref t0, .ref t1, .ref t2, .ref t3, .ref t4, .ref t5, .ref t6]))] (fun (r : Int32) (_ : Unit) => r = (-1)) (fun _ => [])) := by
  refine CT.of (by decide) (nb rfl) ?_
  intro p e s m args below meth c C hr
  refine j_lv (lv' := [(0, .ref x), (1, .int a)]) rfl ?_
  refine j_aload_n (pc := 0) C d_Nine_served_0 rfl 0 rfl ?_
  refine j_get (pc := 1) C gf_Nine_41 0 rfl rfl d_Nine_served_1 ?_
  refine j_iload_n (pc := 4) C d_Nine_served_4 rfl 1 rfl ?_
  refine j_callVi (pc := 5) C (c_hasThing l D y k g vn vg t r t0 t1 t2 t3 t4 t5 t6 a) kw_Nine_200 kv_Lake_hasThing 0 2 rfl rfl ⟨by decide, by decide⟩ ⟨by decide, by decide⟩ (wr := [(x, .inr (9, [.ref tp, .ref pi, .ref nw, .ref tr, .ref ps, .ref k, .ref k2, .ref rd, .ref pl, .int 1]))]) [1, 2] [0] rfl rfl (by decide) (by decide) (by decide) (As := [.int a]) (rest := []) rfl (nb rfl) rfl d_Nine_served_5 (fun r1 _ hr1 => ?_)
  subst hr1
  refine j_ws (ws' := [(x, .inr (9, [.ref tp, .ref pi, .ref nw, .ref tr, .ref ps, .ref k, .ref k2, .ref rd, .ref pl, .int 1])), (k, .inr (2, [.int 0, .int 1, .int 1, .int 0, .ref g, .int 0, .ref vn, .ref vg, .ref t, .ref r, .int 0, .int 0, .int 9999, .int 0])), (t, .inr (8, [.int 0, .ref t0, .ref t1, .ref t2, .ref t3, .ref t4, .ref t5, .ref t6]))]) rfl ?_
  refine j_st (st' := [.int 0]) rfl ?_
  refine j_if_eqT (pc := 8) C (tgt := 23) d_Nine_served_8 (by decide) (by decide) ?_
  refine j_iconst (pc := 23) C (v := (-1)) d_Nine_served_23 (by decide) ?_
  exact j_iret (pc := 24) C hr rfl () rfl [] rfl (by decide) (by decide) (by decide) d_Nine_served_24
theorem d_Past_bringBack_0 : decode prog_6_method_3_code 0 = .ok (.aload_n 0, 1) := by decide +kernel
theorem d_Past_bringBack_1 : decode prog_6_method_3_code 1 = .ok (.getfield 26, 3) := by decide +kernel
theorem gf_Past_26 : GF "NineBoards$Past" 26 3 0 := ⟨_, _, _, rfl, ci_Past, by decide, (mt_1 (List.mem_of_getElem? (i := 116) rfl) rfl)⟩
theorem d_Past_bringBack_4 : decode prog_6_method_3_code 4 = .ok (.ifCond .gt 5, 3) := by decide +kernel
theorem d_Past_bringBack_7 : decode prog_6_method_3_code 7 = .ok (.iconst 0, 1) := by decide +kernel
theorem d_Past_bringBack_8 : decode prog_6_method_3_code 8 = .ok (.ireturn, 1) := by decide +kernel
set_option maxHeartbeats 4000000 in
set_option maxRecDepth 100000 in
theorem c_bringBack (l : Launch) (D : va_G) (y : Nat → ClassId) (ps : Nat) (nw : Nat) (kp : Nat)  : CT l D y ⟨"NineBoards$Past", "bringBack", "(LNineBoards$State;)Z"⟩ prog_6_method_3_code 2 (some .boolean) ({ frames := 0, cells := 0, slots := 0, locals := 0 } : Room) [.ref ps, .ref nw] [(ps, .inr (3, [.int 0, .int 0, .ref kp]))] (QI D [(ps, .inr (3, [.int 0, .int 0, .ref kp]))] (fun (r : Int32) (_ : Unit) => r = 0) (fun _ => [])) := by
  refine CT.of (by decide) (nb rfl) ?_
  intro p e s m args below meth c C hr
  refine j_lv (lv' := [(0, .ref ps), (1, .ref nw)]) rfl ?_
  refine j_aload_n (pc := 0) C d_Past_bringBack_0 rfl 0 rfl ?_
  refine j_get (pc := 1) C gf_Past_26 0 rfl rfl d_Past_bringBack_1 ?_
  refine j_if_gtF (pc := 4) C (tgt := 9) d_Past_bringBack_4 (by decide) (by decide) ?_
  refine j_iconst (pc := 7) C (v := 0) d_Past_bringBack_7 (by decide) ?_
  exact j_iret (pc := 8) C hr (by decide) () rfl [] rfl (by decide) (by decide) (by decide) d_Past_bringBack_8
theorem d_Nine_undo_0 : decode prog_1_method_15_code 0 = .ok (.aload_n 0, 1) := by decide +kernel
theorem d_Nine_undo_1 : decode prog_1_method_15_code 1 = .ok (.getfield 34, 3) := by decide +kernel
theorem d_Nine_undo_4 : decode prog_1_method_15_code 4 = .ok (.aload_n 0, 1) := by decide +kernel
theorem d_Nine_undo_5 : decode prog_1_method_15_code 5 = .ok (.getfield 24, 3) := by decide +kernel
theorem d_Nine_undo_8 : decode prog_1_method_15_code 8 = .ok (.invokevirtual 220, 3) := by decide +kernel
theorem kw_Nine_220 : KW "NineBoards" 220 ⟨"NineBoards$Past", "bringBack", "(LNineBoards$State;)Z"⟩ prog_6_method_3_code 2 (some .boolean) 1 := ⟨(mt_4 (List.mem_of_getElem? (i := 118) rfl) rfl), (mt_1 (List.mem_of_getElem? (i := 5) rfl) rfl), (mt_4 (List.mem_of_getElem? (i := 121) rfl) rfl), by decide +kernel⟩
theorem kv_Past_bringBack : Cond.instanceMethod ⟨"NineBoards$Past", "bringBack", "(LNineBoards$State;)Z"⟩ ∈ TB ∧ Cond.selects "NineBoards$Past" ⟨"NineBoards$Past", "bringBack", "(LNineBoards$State;)Z"⟩ ⟨"NineBoards$Past", "bringBack", "(LNineBoards$State;)Z"⟩ ∈ TB := ⟨(mt_4 (List.mem_of_getElem? (i := 119) rfl) rfl), (mt_4 (List.mem_of_getElem? (i := 120) rfl) rfl)⟩
theorem d_Nine_undo_11 : decode prog_1_method_15_code 11 = .ok (.ireturn, 1) := by decide +kernel
set_option maxHeartbeats 4000000 in
set_option maxRecDepth 100000 in
theorem c_N_undo (l : Launch) (D : va_G) (y : Nat → ClassId) (x : Nat) (tp : Nat) (pi : Nat) (nw : Nat) (tr : Nat) (ps : Nat) (k : Nat) (k2 : Nat) (rd : Nat) (pl : Nat) (kp : Nat)  : CT l D y ⟨"NineBoards", "undo", "()Z"⟩ prog_1_method_15_code 1 (some .boolean) ({ frames := 1, cells := 0, slots := 0, locals := 21 } : Room) [.ref x] [(x, .inr (9, [.ref tp, .ref pi, .ref nw, .ref tr, .ref ps, .ref k, .ref k2, .ref rd, .ref pl, .int 1])), (ps, .inr (3, [.int 0, .int 0, .ref kp]))] (QI D [(x, .inr (9, [.ref tp, .ref pi, .ref nw, .ref tr, .ref ps, .ref k, .ref k2, .ref rd, .ref pl, .int 1])), (ps, .inr (3, [.int 0, .int 0, .ref kp]))] (fun (r : Int32) (_ : Unit) => r = 0) (fun _ => [])) := by
  refine CT.of (by decide) (nb rfl) ?_
  intro p e s m args below meth c C hr
  refine j_lv (lv' := [(0, .ref x)]) rfl ?_
  refine j_aload_n (pc := 0) C d_Nine_undo_0 rfl 0 rfl ?_
  refine j_get (pc := 1) C gf_Nine_34 0 rfl rfl d_Nine_undo_1 ?_
  refine j_aload_n (pc := 4) C d_Nine_undo_4 rfl 0 rfl ?_
  refine j_get (pc := 5) C gf_Nine_24 0 rfl rfl d_Nine_undo_5 ?_
  refine j_callVi (pc := 8) C (c_bringBack l D y ps nw kp) kw_Nine_220 kv_Past_bringBack 0 3 rfl rfl ⟨by decide, by decide⟩ ⟨by decide, by decide⟩ (wr := [(x, .inr (9, [.ref tp, .ref pi, .ref nw, .ref tr, .ref ps, .ref k, .ref k2, .ref rd, .ref pl, .int 1]))]) [1] [0] rfl rfl (by decide) (by decide) (by decide) (As := [.ref nw]) (rest := []) rfl (nb rfl) rfl d_Nine_undo_8 (fun r1 _ hr1 => ?_)
  subst hr1
  refine j_ws (ws' := [(x, .inr (9, [.ref tp, .ref pi, .ref nw, .ref tr, .ref ps, .ref k, .ref k2, .ref rd, .ref pl, .int 1]))]) rfl ?_
  refine j_st (st' := [.int 0]) rfl ?_
  exact j_iret (pc := 11) C hr (by decide) () rfl [] rfl (by decide) (by decide) (by decide) d_Nine_undo_11
theorem min_z {b : Int32} (h : ¬ b < 0) : (if b < 0 then b else 0) = 0 := if_neg h
theorem d_Nine_weather_0 : decode prog_1_method_16_code 0 = .ok (.iload_n 1, 1) := by decide +kernel
theorem d_Nine_weather_1 : decode prog_1_method_16_code 1 = .ok (.ifCond .lt 21, 3) := by decide +kernel
theorem d_Nine_weather_22 : decode prog_1_method_16_code 22 = .ok (.iconst (-1), 1) := by decide +kernel
theorem d_Nine_weather_23 : decode prog_1_method_16_code 23 = .ok (.ireturn, 1) := by decide +kernel
theorem d_Nine_weather_4 : decode prog_1_method_16_code 4 = .ok (.iload_n 1, 1) := by decide +kernel
theorem d_Nine_weather_5 : decode prog_1_method_16_code 5 = .ok (.sipush 999, 3) := by decide +kernel
theorem d_Nine_weather_8 : decode prog_1_method_16_code 8 = .ok (.if_icmp .ge 14, 3) := by decide +kernel
theorem d_Nine_weather_11 : decode prog_1_method_16_code 11 = .ok (.iload_n 2, 1) := by decide +kernel
theorem d_Nine_weather_12 : decode prog_1_method_16_code 12 = .ok (.ifCond .lt 10, 3) := by decide +kernel
theorem d_Nine_weather_15 : decode prog_1_method_16_code 15 = .ok (.iload_n 2, 1) := by decide +kernel
theorem d_Nine_weather_16 : decode prog_1_method_16_code 16 = .ok (.sipush 9999, 3) := by decide +kernel
theorem d_Nine_weather_19 : decode prog_1_method_16_code 19 = .ok (.if_icmp .le 5, 3) := by decide +kernel
theorem d_Nine_weather_24 : decode prog_1_method_16_code 24 = .ok (.aload_n 0, 1) := by decide +kernel
theorem d_Nine_weather_25 : decode prog_1_method_16_code 25 = .ok (.getfield 41, 3) := by decide +kernel
theorem d_Nine_weather_28 : decode prog_1_method_16_code 28 = .ok (.getfield 117, 3) := by decide +kernel
theorem d_Nine_weather_31 : decode prog_1_method_16_code 31 = .ok (.iload_n 3, 1) := by decide +kernel
theorem d_Nine_weather_32 : decode prog_1_method_16_code 32 = .ok (.ifCond .eq 7, 3) := by decide +kernel
theorem d_Nine_weather_39 : decode prog_1_method_16_code 39 = .ok (.iconst 0, 1) := by decide +kernel
theorem d_Nine_weather_40 : decode prog_1_method_16_code 40 = .ok (.iload_n 1, 1) := by decide +kernel
theorem d_Nine_weather_41 : decode prog_1_method_16_code 41 = .ok (.aload_n 0, 1) := by decide +kernel
theorem d_Nine_weather_42 : decode prog_1_method_16_code 42 = .ok (.getfield 41, 3) := by decide +kernel
theorem d_Nine_weather_45 : decode prog_1_method_16_code 45 = .ok (.iload_n 2, 1) := by decide +kernel
theorem d_Nine_weather_46 : decode prog_1_method_16_code 46 = .ok (.invokevirtual 130, 3) := by decide +kernel
theorem d_Nine_weather_49 : decode prog_1_method_16_code 49 = .ok (.iload_n 2, 1) := by decide +kernel
theorem d_Nine_weather_50 : decode prog_1_method_16_code 50 = .ok (.invokevirtual 224, 3) := by decide +kernel
theorem kw_Nine_224 : KW "NineBoards" 224 ⟨"NineBoards$Rules", "amount", "(IIII)I"⟩ prog_9_method_3_code 7 (some .int) 4 := ⟨(mt_4 (List.mem_of_getElem? (i := 126) rfl) rfl), (mt_1 (List.mem_of_getElem? (i := 9) rfl) rfl), (mt_4 (List.mem_of_getElem? (i := 84) rfl) rfl), by decide +kernel⟩
theorem d_Nine_weather_53 : decode prog_1_method_16_code 53 = .ok (.istore 4, 2) := by decide +kernel
theorem d_Nine_weather_55 : decode prog_1_method_16_code 55 = .ok (.iload_n 3, 1) := by decide +kernel
theorem d_Nine_weather_56 : decode prog_1_method_16_code 56 = .ok (.ifCond .eq 12, 3) := by decide +kernel
theorem d_Nine_weather_68 : decode prog_1_method_16_code 68 = .ok (.iload 4, 2) := by decide +kernel
theorem d_Nine_weather_70 : decode prog_1_method_16_code 70 = .ok (.ireturn, 1) := by decide +kernel
theorem d_Nine_weather_59 : decode prog_1_method_16_code 59 = .ok (.iload 4, 2) := by decide +kernel
theorem d_Nine_weather_61 : decode prog_1_method_16_code 61 = .ok (.iload_n 2, 1) := by decide +kernel
theorem d_Nine_weather_62 : decode prog_1_method_16_code 62 = .ok (.invokestatic 228, 3) := by decide +kernel
theorem d_Nine_weather_65 : decode prog_1_method_16_code 65 = .ok (.goto 5, 3) := by decide +kernel
theorem d_Nine_weather_35 : decode prog_1_method_16_code 35 = .ok (.iconst 1, 1) := by decide +kernel
theorem d_Nine_weather_36 : decode prog_1_method_16_code 36 = .ok (.goto 4, 3) := by decide +kernel
set_option maxHeartbeats 4000000 in
set_option maxRecDepth 100000 in
theorem c_N_weather (l : Launch) (D : va_G) (y : Nat → ClassId) (x : Nat) (tp : Nat) (pi : Nat) (nw : Nat) (tr : Nat) (ps : Nat) (k : Nat) (k2 : Nat) (rd : Nat) (pl : Nat) (g : Nat) (vn : Nat) (vg : Nat) (t : Nat) (r : Nat) (r0 : Nat) (r1 : Nat) (r2 : Nat) (r3 : Nat) (r4 : Nat) (r5 : Nat) (va : Int32) (vb : Int32) (vc : Int32)  : CT l D y ⟨"NineBoards", "weather", "(IIZ)I"⟩ prog_1_method_16_code 5 (some .int) ({ frames := 2, cells := 0, slots := 0, locals := 43 } : Room) [.ref x, .int va, .int vb, .int vc] [(x, .inr (9, [.ref tp, .ref pi, .ref nw, .ref tr, .ref ps, .ref k, .ref k2, .ref rd, .ref pl, .int 1])), (k, .inr (2, [.int 0, .int 1, .int 1, .int 0, .ref g, .int 0, .ref vn, .ref vg, .ref t, .ref r, .int 0, .int 0, .int 9999, .int 0])), (r, .inr (6, [.int 0, .int 0, .ref r0, .ref r1, .ref r2, .ref r3, .ref r4, .ref r5]))] (QI D [(x, .inr (9, [.ref tp, .ref pi, .ref nw, .ref tr, .ref ps, .ref k, .ref k2, .ref rd, .ref pl, .int 1])), (k, .inr (2, [.int 0, .int 1, .int 1, .int 0, .ref g, .int 0, .ref vn, .ref vg, .ref t, .ref r, .int 0, .int 0, .int 9999, .int 0])), (r, .inr (6, [.int 0, .int 0, .ref r0, .ref r1, .ref r2, .ref r3, .ref r4, .ref r5]))] (fun (r : Int32) (_ : Unit) => r = if 0 ≤ va.toInt ∧ va.toInt < 999 ∧ 0 ≤ vb.toInt ∧ vb.toInt ≤ 9999 then 0 else -1) (fun _ => [])) := by
  refine CT.of (by decide) (nb rfl) ?_
  intro p e s m args below meth c C hr
  refine j_lv (lv' := [(0, .ref x), (1, .int va), (2, .int vb), (3, .int vc)]) rfl ?_
  refine j_iload_n (pc := 0) C d_Nine_weather_0 rfl 1 rfl ?_
  refine j_if_lt (pc := 1) C (tgt := 22) d_Nine_weather_1 (by decide) (fun c1 => ?_) (fun c1 => ?_)
  · refine j_iconst (pc := 22) C (v := (-1)) d_Nine_weather_22 (by decide) ?_
    exact j_iret (pc := 23) C hr rfl () (by simp only [Int32.lt_iff_toInt_lt, Int32.le_iff_toInt_le, ← Int32.toInt_inj, (by decide : Int32.toInt 0 = 0)] at c1; (first | rw [if_pos (by omega)] | rw [if_neg (by omega)])) [] rfl (by decide) (by decide) (by decide) d_Nine_weather_23
  · refine j_iload_n (pc := 4) C d_Nine_weather_4 rfl 1 rfl ?_
    refine j_sipush (pc := 5) C (v := 999) d_Nine_weather_5 (by decide) ?_
    refine j_icmp_ge (pc := 8) C (tgt := 22) d_Nine_weather_8 (by decide) (fun c2 => ?_) (fun c2 => ?_)
    · refine j_iconst (pc := 22) C (v := (-1)) d_Nine_weather_22 (by decide) ?_
      exact j_iret (pc := 23) C hr rfl () (by simp only [Int32.lt_iff_toInt_lt, Int32.le_iff_toInt_le, ← Int32.toInt_inj, (by decide : Int32.toInt 0 = 0), (by decide : Int32.toInt 999 = 999)] at c1 c2; (first | rw [if_pos (by omega)] | rw [if_neg (by omega)])) [] rfl (by decide) (by decide) (by decide) d_Nine_weather_23
    · refine j_iload_n (pc := 11) C d_Nine_weather_11 rfl 2 rfl ?_
      refine j_if_lt (pc := 12) C (tgt := 22) d_Nine_weather_12 (by decide) (fun c3 => ?_) (fun c3 => ?_)
      · refine j_iconst (pc := 22) C (v := (-1)) d_Nine_weather_22 (by decide) ?_
        exact j_iret (pc := 23) C hr rfl () (by simp only [Int32.lt_iff_toInt_lt, Int32.le_iff_toInt_le, ← Int32.toInt_inj, (by decide : Int32.toInt 0 = 0), (by decide : Int32.toInt 999 = 999)] at c1 c2 c3; (first | rw [if_pos (by omega)] | rw [if_neg (by omega)])) [] rfl (by decide) (by decide) (by decide) d_Nine_weather_23
      · refine j_iload_n (pc := 15) C d_Nine_weather_15 rfl 2 rfl ?_
        refine j_sipush (pc := 16) C (v := 9999) d_Nine_weather_16 (by decide) ?_
        refine j_icmp_le (pc := 19) C (tgt := 24) d_Nine_weather_19 (by decide) (fun c4 => ?_) (fun c4 => ?_)
        · refine j_aload_n (pc := 24) C d_Nine_weather_24 rfl 0 rfl ?_
          refine j_get (pc := 25) C gf_Nine_41 0 rfl rfl d_Nine_weather_25 ?_
          refine j_get (pc := 28) C gf_Nine_117 1 rfl rfl d_Nine_weather_28 ?_
          refine j_iload_n (pc := 31) C d_Nine_weather_31 rfl 3 rfl ?_
          refine j_if_eq (pc := 32) C (tgt := 39) d_Nine_weather_32 (by decide) (fun c5 => ?_) (fun c5 => ?_)
          · refine j_iconst (pc := 39) C (v := 0) d_Nine_weather_39 (by decide) ?_
            refine j_iload_n (pc := 40) C d_Nine_weather_40 rfl 1 rfl ?_
            refine j_aload_n (pc := 41) C d_Nine_weather_41 rfl 0 rfl ?_
            refine j_get (pc := 42) C gf_Nine_41 0 rfl rfl d_Nine_weather_42 ?_
            refine j_iload_n (pc := 45) C d_Nine_weather_45 rfl 2 rfl ?_
            refine j_callVi (pc := 46) C (c_levelAt_x l D y k g vn vg t r vb) kw_Nine_130 kv_Lake_levelAt 0 2 rfl rfl ⟨by decide, by decide⟩ ⟨by decide, by decide⟩ (wr := [(x, .inr (9, [.ref tp, .ref pi, .ref nw, .ref tr, .ref ps, .ref k, .ref k2, .ref rd, .ref pl, .int 1])), (r, .inr (6, [.int 0, .int 0, .ref r0, .ref r1, .ref r2, .ref r3, .ref r4, .ref r5]))]) [1] [0, 2] rfl rfl (by decide) (by decide) (by decide) (As := [.int vb]) (rest := [.int va, .int 0, .ref r]) rfl (nb rfl) rfl d_Nine_weather_46 (fun r6 _ hr6 => ?_)
            refine j_ws (ws' := [(x, .inr (9, [.ref tp, .ref pi, .ref nw, .ref tr, .ref ps, .ref k, .ref k2, .ref rd, .ref pl, .int 1])), (r, .inr (6, [.int 0, .int 0, .ref r0, .ref r1, .ref r2, .ref r3, .ref r4, .ref r5])), (k, .inr (2, [.int 0, .int 1, .int 1, .int 0, .ref g, .int 0, .ref vn, .ref vg, .ref t, .ref r, .int 0, .int 0, .int 9999, .int 0]))]) rfl ?_
            refine j_iload_n (pc := 49) C d_Nine_weather_49 rfl 2 rfl ?_
            refine j_callVi (pc := 50) C (c_amount l D y r r0 r1 r2 r3 r4 r5 0 va r6 vb) kw_Nine_224 kv_Rules_amount 0 6 rfl rfl ⟨by decide, by decide⟩ ⟨by decide, by decide⟩ (wr := [(x, .inr (9, [.ref tp, .ref pi, .ref nw, .ref tr, .ref ps, .ref k, .ref k2, .ref rd, .ref pl, .int 1])), (k, .inr (2, [.int 0, .int 1, .int 1, .int 0, .ref g, .int 0, .ref vn, .ref vg, .ref t, .ref r, .int 0, .int 0, .int 9999, .int 0]))]) [1] [0, 2] rfl rfl (by decide) (by decide) (by decide) (As := [.int 0, .int va, .int r6, .int vb]) (rest := []) rfl (nb rfl) rfl d_Nine_weather_50 (fun r7 _ hr7 => ?_)
            subst hr7
            refine j_ws (ws' := [(x, .inr (9, [.ref tp, .ref pi, .ref nw, .ref tr, .ref ps, .ref k, .ref k2, .ref rd, .ref pl, .int 1])), (k, .inr (2, [.int 0, .int 1, .int 1, .int 0, .ref g, .int 0, .ref vn, .ref vg, .ref t, .ref r, .int 0, .int 0, .int 9999, .int 0])), (r, .inr (6, [.int 0, .int 0, .ref r0, .ref r1, .ref r2, .ref r3, .ref r4, .ref r5]))]) rfl ?_
            refine j_st (st' := [.int 0]) rfl ?_
            refine j_istore (pc := 53) C (lv' := [(4, .int 0), (0, .ref x), (1, .int va), (2, .int vb), (3, .int vc)]) d_Nine_weather_53 (by decide) rfl ?_
            refine j_iload_n (pc := 55) C d_Nine_weather_55 rfl 4 rfl ?_
            refine j_if_eq (pc := 56) C (tgt := 68) d_Nine_weather_56 (by decide) (fun c8 => ?_) (fun c8 => ?_)
            · refine j_iload (pc := 68) C d_Nine_weather_68 0 rfl ?_
              exact j_iret (pc := 70) C hr rfl () (by simp only [Int32.lt_iff_toInt_lt, Int32.le_iff_toInt_le, ← Int32.toInt_inj, (by decide : Int32.toInt 0 = 0), (by decide : Int32.toInt 999 = 999), (by decide : Int32.toInt 9999 = 9999)] at c1 c2 c3 c4 c5 c8; (first | rw [if_pos (by omega)] | rw [if_neg (by omega)])) [] rfl (by decide) (by decide) (by decide) d_Nine_weather_70
            · refine j_iload (pc := 59) C d_Nine_weather_59 0 rfl ?_
              refine j_iload_n (pc := 61) C d_Nine_weather_61 rfl 3 rfl ?_
              refine j_mmin (pc := 62) C (mt_4 (List.mem_of_getElem? (i := 127) rfl) rfl) (mt_3 (List.mem_of_getElem? (i := 56) rfl) rfl) (mt_1 (List.mem_of_getElem? (i := 3) rfl) rfl) (mt_3 (List.mem_of_getElem? (i := 57) rfl) rfl) (v := 0) (min_z c3) (by decide) (nb rfl) (by decide) (by decide) d_Nine_weather_62 ?_
              refine j_goto (pc := 65) C (tgt := 70) d_Nine_weather_65 (by decide) ?_
              exact j_iret (pc := 70) C hr rfl () (by simp only [Int32.lt_iff_toInt_lt, Int32.le_iff_toInt_le, ← Int32.toInt_inj, (by decide : Int32.toInt 0 = 0), (by decide : Int32.toInt 999 = 999), (by decide : Int32.toInt 9999 = 9999)] at c1 c2 c3 c4 c5 c8; (first | rw [if_pos (by omega)] | rw [if_neg (by omega)])) [] rfl (by decide) (by decide) (by decide) d_Nine_weather_70
          · refine j_iconst (pc := 35) C (v := 1) d_Nine_weather_35 (by decide) ?_
            refine j_goto (pc := 36) C (tgt := 40) d_Nine_weather_36 (by decide) ?_
            refine j_iload_n (pc := 40) C d_Nine_weather_40 rfl 1 rfl ?_
            refine j_aload_n (pc := 41) C d_Nine_weather_41 rfl 0 rfl ?_
            refine j_get (pc := 42) C gf_Nine_41 0 rfl rfl d_Nine_weather_42 ?_
            refine j_iload_n (pc := 45) C d_Nine_weather_45 rfl 2 rfl ?_
            refine j_callVi (pc := 46) C (c_levelAt_x l D y k g vn vg t r vb) kw_Nine_130 kv_Lake_levelAt 0 2 rfl rfl ⟨by decide, by decide⟩ ⟨by decide, by decide⟩ (wr := [(x, .inr (9, [.ref tp, .ref pi, .ref nw, .ref tr, .ref ps, .ref k, .ref k2, .ref rd, .ref pl, .int 1])), (r, .inr (6, [.int 0, .int 0, .ref r0, .ref r1, .ref r2, .ref r3, .ref r4, .ref r5]))]) [1] [0, 2] rfl rfl (by decide) (by decide) (by decide) (As := [.int vb]) (rest := [.int va, .int 1, .ref r]) rfl (nb rfl) rfl d_Nine_weather_46 (fun r9 _ hr9 => ?_)
            refine j_ws (ws' := [(x, .inr (9, [.ref tp, .ref pi, .ref nw, .ref tr, .ref ps, .ref k, .ref k2, .ref rd, .ref pl, .int 1])), (r, .inr (6, [.int 0, .int 0, .ref r0, .ref r1, .ref r2, .ref r3, .ref r4, .ref r5])), (k, .inr (2, [.int 0, .int 1, .int 1, .int 0, .ref g, .int 0, .ref vn, .ref vg, .ref t, .ref r, .int 0, .int 0, .int 9999, .int 0]))]) rfl ?_
            refine j_iload_n (pc := 49) C d_Nine_weather_49 rfl 2 rfl ?_
            refine j_callVi (pc := 50) C (c_amount l D y r r0 r1 r2 r3 r4 r5 1 va r9 vb) kw_Nine_224 kv_Rules_amount 0 6 rfl rfl ⟨by decide, by decide⟩ ⟨by decide, by decide⟩ (wr := [(x, .inr (9, [.ref tp, .ref pi, .ref nw, .ref tr, .ref ps, .ref k, .ref k2, .ref rd, .ref pl, .int 1])), (k, .inr (2, [.int 0, .int 1, .int 1, .int 0, .ref g, .int 0, .ref vn, .ref vg, .ref t, .ref r, .int 0, .int 0, .int 9999, .int 0]))]) [1] [0, 2] rfl rfl (by decide) (by decide) (by decide) (As := [.int 1, .int va, .int r9, .int vb]) (rest := []) rfl (nb rfl) rfl d_Nine_weather_50 (fun r10 _ hr10 => ?_)
            subst hr10
            refine j_ws (ws' := [(x, .inr (9, [.ref tp, .ref pi, .ref nw, .ref tr, .ref ps, .ref k, .ref k2, .ref rd, .ref pl, .int 1])), (k, .inr (2, [.int 0, .int 1, .int 1, .int 0, .ref g, .int 0, .ref vn, .ref vg, .ref t, .ref r, .int 0, .int 0, .int 9999, .int 0])), (r, .inr (6, [.int 0, .int 0, .ref r0, .ref r1, .ref r2, .ref r3, .ref r4, .ref r5]))]) rfl ?_
            refine j_st (st' := [.int 0]) rfl ?_
            refine j_istore (pc := 53) C (lv' := [(4, .int 0), (0, .ref x), (1, .int va), (2, .int vb), (3, .int vc)]) d_Nine_weather_53 (by decide) rfl ?_
            refine j_iload_n (pc := 55) C d_Nine_weather_55 rfl 4 rfl ?_
            refine j_if_eq (pc := 56) C (tgt := 68) d_Nine_weather_56 (by decide) (fun c11 => ?_) (fun c11 => ?_)
            · refine j_iload (pc := 68) C d_Nine_weather_68 0 rfl ?_
              exact j_iret (pc := 70) C hr rfl () (by simp only [Int32.lt_iff_toInt_lt, Int32.le_iff_toInt_le, ← Int32.toInt_inj, (by decide : Int32.toInt 0 = 0), (by decide : Int32.toInt 999 = 999), (by decide : Int32.toInt 9999 = 9999)] at c1 c2 c3 c4 c5 c11; (first | rw [if_pos (by omega)] | rw [if_neg (by omega)])) [] rfl (by decide) (by decide) (by decide) d_Nine_weather_70
            · refine j_iload (pc := 59) C d_Nine_weather_59 0 rfl ?_
              refine j_iload_n (pc := 61) C d_Nine_weather_61 rfl 3 rfl ?_
              refine j_mmin (pc := 62) C (mt_4 (List.mem_of_getElem? (i := 127) rfl) rfl) (mt_3 (List.mem_of_getElem? (i := 56) rfl) rfl) (mt_1 (List.mem_of_getElem? (i := 3) rfl) rfl) (mt_3 (List.mem_of_getElem? (i := 57) rfl) rfl) (v := 0) (min_z c3) (by decide) (nb rfl) (by decide) (by decide) d_Nine_weather_62 ?_
              refine j_goto (pc := 65) C (tgt := 70) d_Nine_weather_65 (by decide) ?_
              exact j_iret (pc := 70) C hr rfl () (by simp only [Int32.lt_iff_toInt_lt, Int32.le_iff_toInt_le, ← Int32.toInt_inj, (by decide : Int32.toInt 0 = 0), (by decide : Int32.toInt 999 = 999), (by decide : Int32.toInt 9999 = 9999)] at c1 c2 c3 c4 c5 c11; (first | rw [if_pos (by omega)] | rw [if_neg (by omega)])) [] rfl (by decide) (by decide) (by decide) d_Nine_weather_70
        · refine j_iconst (pc := 22) C (v := (-1)) d_Nine_weather_22 (by decide) ?_
          exact j_iret (pc := 23) C hr rfl () (by simp only [Int32.lt_iff_toInt_lt, Int32.le_iff_toInt_le, ← Int32.toInt_inj, (by decide : Int32.toInt 0 = 0), (by decide : Int32.toInt 999 = 999), (by decide : Int32.toInt 9999 = 9999)] at c1 c2 c3 c4; (first | rw [if_pos (by omega)] | rw [if_neg (by omega)])) [] rfl (by decide) (by decide) (by decide) d_Nine_weather_23
theorem d_Nine_would_0 : decode prog_1_method_17_code 0 = .ok (.aload_n 0, 1) := by decide +kernel
theorem d_Nine_would_1 : decode prog_1_method_17_code 1 = .ok (.getfield 41, 3) := by decide +kernel
theorem d_Nine_would_4 : decode prog_1_method_17_code 4 = .ok (.iload_n 1, 1) := by decide +kernel
theorem d_Nine_would_5 : decode prog_1_method_17_code 5 = .ok (.invokevirtual 138, 3) := by decide +kernel
theorem d_Nine_would_8 : decode prog_1_method_17_code 8 = .ok (.ifCond .eq 13, 3) := by decide +kernel
theorem d_Nine_would_21 : decode prog_1_method_17_code 21 = .ok (.iconst (-1), 1) := by decide +kernel
theorem d_Nine_would_22 : decode prog_1_method_17_code 22 = .ok (.ireturn, 1) := by decide +kernel
set_option maxHeartbeats 4000000 in
set_option maxRecDepth 100000 in
theorem c_N_would (l : Launch) (D : va_G) (y : Nat → ClassId) (x : Nat) (tp : Nat) (pi : Nat) (nw : Nat) (tr : Nat) (ps : Nat) (k : Nat) (k2 : Nat) (rd : Nat) (pl : Nat) (g : Nat) (vn : Nat) (vg : Nat) (t : Nat) (r : Nat) (g0 : Nat) (g1 : Nat) (g2 : Nat) (g3 : Nat) (g4 : Nat) (g5 : Nat) (g6 : Nat) (a : Int32) (b : Int32)  : CT l D y ⟨"NineBoards", "would", "(II)I"⟩ prog_1_method_17_code 3 (some .int) ({ frames := 1, cells := 0, slots := 0, locals := 21 } : Room) [.ref x, .int a, .int b] [(x, .inr (9, [.ref tp, .ref pi, .ref nw, .ref tr, .ref ps, .ref k, .ref k2, .ref rd, .ref pl, .int 1])), (k, .inr (2, [.int 0, .int 1, .int 1, .int 0, .ref g, .int 0, .ref vn, .ref vg, .ref t, .ref r, .int 0, .int 0, .int 9999, .int 0])), (g, .inr (1, [.int 0, .ref g0, .ref g1, .ref g2, .ref g3, .ref g4, .ref g5, .ref g6]))] (QI D [(x, .inr (9, [.ref tp, .ref pi, .ref nw, .ref tr, .ref ps, .ref k, .ref k2, .ref rd, .ref pl, .int 1])), (k, .inr (2, [.int 0, .int 1, .int 1, .int 0, .ref g, .int 0, .ref vn, .ref vg, .ref t, .ref r, .int 0, .int 0, .int 9999, .int 0])), (g, .inr (1, [.int 0, .ref g0, .ref g1, .ref g2, .ref g3, .ref g4, .ref g5, .ref g6]))] (fun (r : Int32) (_ : Unit) => r = (-1)) (fun _ => [])) := by
  refine CT.of (by decide) (nb rfl) ?_
  intro p e s m args below meth c C hr
  refine j_lv (lv' := [(0, .ref x), (1, .int a), (2, .int b)]) rfl ?_
  refine j_aload_n (pc := 0) C d_Nine_would_0 rfl 0 rfl ?_
  refine j_get (pc := 1) C gf_Nine_41 0 rfl rfl d_Nine_would_1 ?_
  refine j_iload_n (pc := 4) C d_Nine_would_4 rfl 1 rfl ?_
  refine j_callVi (pc := 5) C (c_hasGate l D y k g vn vg t r g0 g1 g2 g3 g4 g5 g6 a) kw_Nine_138 kv_Lake_hasGate 0 2 rfl rfl ⟨by decide, by decide⟩ ⟨by decide, by decide⟩ (wr := [(x, .inr (9, [.ref tp, .ref pi, .ref nw, .ref tr, .ref ps, .ref k, .ref k2, .ref rd, .ref pl, .int 1]))]) [1, 2] [0] rfl rfl (by decide) (by decide) (by decide) (As := [.int a]) (rest := []) rfl (nb rfl) rfl d_Nine_would_5 (fun r1 _ hr1 => ?_)
  subst hr1
  refine j_ws (ws' := [(x, .inr (9, [.ref tp, .ref pi, .ref nw, .ref tr, .ref ps, .ref k, .ref k2, .ref rd, .ref pl, .int 1])), (k, .inr (2, [.int 0, .int 1, .int 1, .int 0, .ref g, .int 0, .ref vn, .ref vg, .ref t, .ref r, .int 0, .int 0, .int 9999, .int 0])), (g, .inr (1, [.int 0, .ref g0, .ref g1, .ref g2, .ref g3, .ref g4, .ref g5, .ref g6]))]) rfl ?_
  refine j_st (st' := [.int 0]) rfl ?_
  refine j_if_eqT (pc := 8) C (tgt := 21) d_Nine_would_8 (by decide) (by decide) ?_
  refine j_iconst (pc := 21) C (v := (-1)) d_Nine_would_21 (by decide) ?_
  exact j_iret (pc := 22) C hr rfl () rfl [] rfl (by decide) (by decide) (by decide) d_Nine_would_22
theorem d_Nine_need_0 : decode prog_1_method_18_code 0 = .ok (.aload_n 0, 1) := by decide +kernel
theorem d_Nine_need_1 : decode prog_1_method_18_code 1 = .ok (.getfield 41, 3) := by decide +kernel
theorem d_Nine_need_4 : decode prog_1_method_18_code 4 = .ok (.iload_n 1, 1) := by decide +kernel
theorem d_Nine_need_5 : decode prog_1_method_18_code 5 = .ok (.invokevirtual 200, 3) := by decide +kernel
theorem d_Nine_need_8 : decode prog_1_method_18_code 8 = .ok (.ifCond .ne 5, 3) := by decide +kernel
theorem d_Nine_need_11 : decode prog_1_method_18_code 11 = .ok (.iconst (-1), 1) := by decide +kernel
theorem d_Nine_need_12 : decode prog_1_method_18_code 12 = .ok (.ireturn, 1) := by decide +kernel
set_option maxHeartbeats 4000000 in
set_option maxRecDepth 100000 in
theorem c_N_need (l : Launch) (D : va_G) (y : Nat → ClassId) (x : Nat) (tp : Nat) (pi : Nat) (nw : Nat) (tr : Nat) (ps : Nat) (k : Nat) (k2 : Nat) (rd : Nat) (pl : Nat) (g : Nat) (vn : Nat) (vg : Nat) (t : Nat) (r : Nat) (t0 : Nat) (t1 : Nat) (t2 : Nat) (t3 : Nat) (t4 : Nat) (t5 : Nat) (t6 : Nat) (a : Int32)  : CT l D y ⟨"NineBoards", "need", "(I)I"⟩ prog_1_method_18_code 3 (some .int) ({ frames := 1, cells := 0, slots := 0, locals := 21 } : Room) [.ref x, .int a] [(x, .inr (9, [.ref tp, .ref pi, .ref nw, .ref tr, .ref ps, .ref k, .ref k2, .ref rd, .ref pl, .int 1])), (k, .inr (2, [.int 0, .int 1, .int 1, .int 0, .ref g, .int 0, .ref vn, .ref vg, .ref t, .ref r, .int 0, .int 0, .int 9999, .int 0])), (t, .inr (8, [.int 0, .ref t0, .ref t1, .ref t2, .ref t3, .ref t4, .ref t5, .ref t6]))] (QI D [(x, .inr (9, [.ref tp, .ref pi, .ref nw, .ref tr, .ref ps, .ref k, .ref k2, .ref rd, .ref pl, .int 1])), (k, .inr (2, [.int 0, .int 1, .int 1, .int 0, .ref g, .int 0, .ref vn, .ref vg, .ref t, .ref r, .int 0, .int 0, .int 9999, .int 0])), (t, .inr (8, [.int 0, .ref t0, .ref t1, .ref t2, .ref t3, .ref t4, .ref t5, .ref t6]))] (fun (r : Int32) (_ : Unit) => r = (-1)) (fun _ => [])) := by
  refine CT.of (by decide) (nb rfl) ?_
  intro p e s m args below meth c C hr
  refine j_lv (lv' := [(0, .ref x), (1, .int a)]) rfl ?_
  refine j_aload_n (pc := 0) C d_Nine_need_0 rfl 0 rfl ?_
  refine j_get (pc := 1) C gf_Nine_41 0 rfl rfl d_Nine_need_1 ?_
  refine j_iload_n (pc := 4) C d_Nine_need_4 rfl 1 rfl ?_
  refine j_callVi (pc := 5) C (c_hasThing l D y k g vn vg t r t0 t1 t2 t3 t4 t5 t6 a) kw_Nine_200 kv_Lake_hasThing 0 2 rfl rfl ⟨by decide, by decide⟩ ⟨by decide, by decide⟩ (wr := [(x, .inr (9, [.ref tp, .ref pi, .ref nw, .ref tr, .ref ps, .ref k, .ref k2, .ref rd, .ref pl, .int 1]))]) [1, 2] [0] rfl rfl (by decide) (by decide) (by decide) (As := [.int a]) (rest := []) rfl (nb rfl) rfl d_Nine_need_5 (fun r1 _ hr1 => ?_)
  subst hr1
  refine j_ws (ws' := [(x, .inr (9, [.ref tp, .ref pi, .ref nw, .ref tr, .ref ps, .ref k, .ref k2, .ref rd, .ref pl, .int 1])), (k, .inr (2, [.int 0, .int 1, .int 1, .int 0, .ref g, .int 0, .ref vn, .ref vg, .ref t, .ref r, .int 0, .int 0, .int 9999, .int 0])), (t, .inr (8, [.int 0, .ref t0, .ref t1, .ref t2, .ref t3, .ref t4, .ref t5, .ref t6]))]) rfl ?_
  refine j_st (st' := [.int 0]) rfl ?_
  refine j_if_neF (pc := 8) C (tgt := 13) d_Nine_need_8 (by decide) (by decide) ?_
  refine j_iconst (pc := 11) C (v := (-1)) d_Nine_need_11 (by decide) ?_
  exact j_iret (pc := 12) C hr rfl () rfl [] rfl (by decide) (by decide) (by decide) d_Nine_need_12
theorem d_Nine_both_0 : decode prog_1_method_19_code 0 = .ok (.aload_n 0, 1) := by decide +kernel
theorem d_Nine_both_1 : decode prog_1_method_19_code 1 = .ok (.getfield 41, 3) := by decide +kernel
theorem d_Nine_both_4 : decode prog_1_method_19_code 4 = .ok (.iload_n 1, 1) := by decide +kernel
theorem d_Nine_both_5 : decode prog_1_method_19_code 5 = .ok (.invokevirtual 200, 3) := by decide +kernel
theorem d_Nine_both_8 : decode prog_1_method_19_code 8 = .ok (.ifCond .eq 19, 3) := by decide +kernel
theorem d_Nine_both_27 : decode prog_1_method_19_code 27 = .ok (.iconst (-1), 1) := by decide +kernel
theorem d_Nine_both_28 : decode prog_1_method_19_code 28 = .ok (.ireturn, 1) := by decide +kernel
set_option maxHeartbeats 4000000 in
set_option maxRecDepth 100000 in
theorem c_N_both (l : Launch) (D : va_G) (y : Nat → ClassId) (x : Nat) (tp : Nat) (pi : Nat) (nw : Nat) (tr : Nat) (ps : Nat) (k : Nat) (k2 : Nat) (rd : Nat) (pl : Nat) (g : Nat) (vn : Nat) (vg : Nat) (t : Nat) (r : Nat) (t0 : Nat) (t1 : Nat) (t2 : Nat) (t3 : Nat) (t4 : Nat) (t5 : Nat) (t6 : Nat) (a : Int32) (b : Int32)  : CT l D y ⟨"NineBoards", "both", "(II)I"⟩ prog_1_method_19_code 9 (some .int) ({ frames := 1, cells := 0, slots := 0, locals := 21 } : Room) [.ref x, .int a, .int b] [(x, .inr (9, [.ref tp, .ref pi, .ref nw, .ref tr, .ref ps, .ref k, .ref k2, .ref rd, .ref pl, .int 1])), (k, .inr (2, [.int 0, .int 1, .int 1, .int 0, .ref g, .int 0, .ref vn, .ref vg, .ref t, .ref r, .int 0, .int 0, .int 9999, .int 0])), (t, .inr (8, [.int 0, .ref t0, .ref t1, .ref t2, .ref t3, .ref t4, .ref t5, .ref t6]))] (QI D [(x, .inr (9, [.ref tp, .ref pi, .ref nw, .ref tr, .ref ps, .ref k, .ref k2, .ref rd, .ref pl, .int 1])), (k, .inr (2, [.int 0, .int 1, .int 1, .int 0, .ref g, .int 0, .ref vn, .ref vg, .ref t, .ref r, .int 0, .int 0, .int 9999, .int 0])), (t, .inr (8, [.int 0, .ref t0, .ref t1, .ref t2, .ref t3, .ref t4, .ref t5, .ref t6]))] (fun (r : Int32) (_ : Unit) => r = (-1)) (fun _ => [])) := by
  refine CT.of (by decide) (nb rfl) ?_
  intro p e s m args below meth c C hr
  refine j_lv (lv' := [(0, .ref x), (1, .int a), (2, .int b)]) rfl ?_
  refine j_aload_n (pc := 0) C d_Nine_both_0 rfl 0 rfl ?_
  refine j_get (pc := 1) C gf_Nine_41 0 rfl rfl d_Nine_both_1 ?_
  refine j_iload_n (pc := 4) C d_Nine_both_4 rfl 1 rfl ?_
  refine j_callVi (pc := 5) C (c_hasThing l D y k g vn vg t r t0 t1 t2 t3 t4 t5 t6 a) kw_Nine_200 kv_Lake_hasThing 0 2 rfl rfl ⟨by decide, by decide⟩ ⟨by decide, by decide⟩ (wr := [(x, .inr (9, [.ref tp, .ref pi, .ref nw, .ref tr, .ref ps, .ref k, .ref k2, .ref rd, .ref pl, .int 1]))]) [1, 2] [0] rfl rfl (by decide) (by decide) (by decide) (As := [.int a]) (rest := []) rfl (nb rfl) rfl d_Nine_both_5 (fun r1 _ hr1 => ?_)
  subst hr1
  refine j_ws (ws' := [(x, .inr (9, [.ref tp, .ref pi, .ref nw, .ref tr, .ref ps, .ref k, .ref k2, .ref rd, .ref pl, .int 1])), (k, .inr (2, [.int 0, .int 1, .int 1, .int 0, .ref g, .int 0, .ref vn, .ref vg, .ref t, .ref r, .int 0, .int 0, .int 9999, .int 0])), (t, .inr (8, [.int 0, .ref t0, .ref t1, .ref t2, .ref t3, .ref t4, .ref t5, .ref t6]))]) rfl ?_
  refine j_st (st' := [.int 0]) rfl ?_
  refine j_if_eqT (pc := 8) C (tgt := 27) d_Nine_both_8 (by decide) (by decide) ?_
  refine j_iconst (pc := 27) C (v := (-1)) d_Nine_both_27 (by decide) ?_
  exact j_iret (pc := 28) C hr rfl () rfl [] rfl (by decide) (by decide) (by decide) d_Nine_both_28
theorem d_Nine_first_0 : decode prog_1_method_26_code 0 = .ok (.iload_n 1, 1) := by decide +kernel
theorem d_Nine_first_1 : decode prog_1_method_26_code 1 = .ok (.ifCond .lt 33, 3) := by decide +kernel
theorem d_Nine_first_34 : decode prog_1_method_26_code 34 = .ok (.iconst (-1), 1) := by decide +kernel
theorem d_Nine_first_35 : decode prog_1_method_26_code 35 = .ok (.ireturn, 1) := by decide +kernel
theorem d_Nine_first_4 : decode prog_1_method_26_code 4 = .ok (.iload_n 1, 1) := by decide +kernel
theorem d_Nine_first_5 : decode prog_1_method_26_code 5 = .ok (.sipush 9999, 3) := by decide +kernel
theorem d_Nine_first_8 : decode prog_1_method_26_code 8 = .ok (.if_icmp .gt 26, 3) := by decide +kernel
theorem d_Nine_first_11 : decode prog_1_method_26_code 11 = .ok (.iload_n 2, 1) := by decide +kernel
theorem d_Nine_first_12 : decode prog_1_method_26_code 12 = .ok (.ifCond .lt 22, 3) := by decide +kernel
theorem d_Nine_first_15 : decode prog_1_method_26_code 15 = .ok (.iload_n 2, 1) := by decide +kernel
theorem d_Nine_first_16 : decode prog_1_method_26_code 16 = .ok (.bipush 100, 2) := by decide +kernel
theorem d_Nine_first_18 : decode prog_1_method_26_code 18 = .ok (.if_icmp .gt 16, 3) := by decide +kernel
theorem d_Nine_first_21 : decode prog_1_method_26_code 21 = .ok (.aload_n 0, 1) := by decide +kernel
theorem d_Nine_first_22 : decode prog_1_method_26_code 22 = .ok (.getfield 24, 3) := by decide +kernel
theorem d_Nine_first_25 : decode prog_1_method_26_code 25 = .ok (.getfield 124, 3) := by decide +kernel
theorem d_Nine_first_28 : decode prog_1_method_26_code 28 = .ok (.sipush 999, 3) := by decide +kernel
theorem d_Nine_first_31 : decode prog_1_method_26_code 31 = .ok (.if_icmp .lt 5, 3) := by decide +kernel
theorem d_Nine_first_36 : decode prog_1_method_26_code 36 = .ok (.iconst (-1), 1) := by decide +kernel
theorem d_Nine_first_37 : decode prog_1_method_26_code 37 = .ok (.istore_n 3, 1) := by decide +kernel
theorem d_Nine_first_38 : decode prog_1_method_26_code 38 = .ok (.iconst 0, 1) := by decide +kernel
theorem d_Nine_first_39 : decode prog_1_method_26_code 39 = .ok (.istore 4, 2) := by decide +kernel
theorem d_Nine_first_41 : decode prog_1_method_26_code 41 = .ok (.iconst 0, 1) := by decide +kernel
theorem d_Nine_first_42 : decode prog_1_method_26_code 42 = .ok (.istore 5, 2) := by decide +kernel
theorem d_Nine_first_44 : decode prog_1_method_26_code 44 = .ok (.iload 5, 2) := by decide +kernel
theorem d_Nine_first_46 : decode prog_1_method_26_code 46 = .ok (.aload_n 0, 1) := by decide +kernel
theorem d_Nine_first_47 : decode prog_1_method_26_code 47 = .ok (.getfield 41, 3) := by decide +kernel
theorem d_Nine_first_50 : decode prog_1_method_26_code 50 = .ok (.getfield 89, 3) := by decide +kernel
theorem d_Nine_first_53 : decode prog_1_method_26_code 53 = .ok (.getfield 93, 3) := by decide +kernel
theorem d_Nine_first_56 : decode prog_1_method_26_code 56 = .ok (.if_icmp .ge 113, 3) := by decide +kernel
theorem d_Nine_first_169 : decode prog_1_method_26_code 169 = .ok (.iload_n 3, 1) := by decide +kernel
theorem d_Nine_first_170 : decode prog_1_method_26_code 170 = .ok (.ireturn, 1) := by decide +kernel
set_option maxHeartbeats 4000000 in
set_option maxRecDepth 100000 in
theorem c_N_first (l : Launch) (D : va_G) (y : Nat → ClassId) (x : Nat) (tp : Nat) (pi : Nat) (nw : Nat) (tr : Nat) (ps : Nat) (k : Nat) (k2 : Nat) (rd : Nat) (pl : Nat) (g : Nat) (vn : Nat) (vg : Nat) (t : Nat) (r : Nat) (g0 : Nat) (g1 : Nat) (g2 : Nat) (g3 : Nat) (g4 : Nat) (g5 : Nat) (g6 : Nat) (n0 : Nat) (n1 : Nat) (n2 : Nat) (n3 : Nat) (n4 : Nat) (n5 : Nat) (n6 : Nat) (a : Int32) (b : Int32)  : CT l D y ⟨"NineBoards", "first", "(II)I"⟩ prog_1_method_26_code 8 (some .int) ({ frames := 0, cells := 0, slots := 0, locals := 0 } : Room) [.ref x, .int a, .int b] [(x, .inr (9, [.ref tp, .ref pi, .ref nw, .ref tr, .ref ps, .ref k, .ref k2, .ref rd, .ref pl, .int 1])), (k, .inr (2, [.int 0, .int 1, .int 1, .int 0, .ref g, .int 0, .ref vn, .ref vg, .ref t, .ref r, .int 0, .int 0, .int 9999, .int 0])), (g, .inr (1, [.int 0, .ref g0, .ref g1, .ref g2, .ref g3, .ref g4, .ref g5, .ref g6])), (nw, .inr (7, [.int 0, .int 0, .int 0, .ref n0, .ref n1, .ref n2, .ref n3, .ref n4, .ref n5, .ref n6]))] (QI D [(x, .inr (9, [.ref tp, .ref pi, .ref nw, .ref tr, .ref ps, .ref k, .ref k2, .ref rd, .ref pl, .int 1])), (k, .inr (2, [.int 0, .int 1, .int 1, .int 0, .ref g, .int 0, .ref vn, .ref vg, .ref t, .ref r, .int 0, .int 0, .int 9999, .int 0])), (g, .inr (1, [.int 0, .ref g0, .ref g1, .ref g2, .ref g3, .ref g4, .ref g5, .ref g6])), (nw, .inr (7, [.int 0, .int 0, .int 0, .ref n0, .ref n1, .ref n2, .ref n3, .ref n4, .ref n5, .ref n6]))] (fun (r : Int32) (_ : Unit) => r = (-1)) (fun _ => [])) := by
  refine CT.of (by decide) (nb rfl) ?_
  intro p e s m args below meth c C hr
  refine j_lv (lv' := [(0, .ref x), (1, .int a), (2, .int b)]) rfl ?_
  refine j_iload_n (pc := 0) C d_Nine_first_0 rfl 1 rfl ?_
  refine j_if_lt (pc := 1) C (tgt := 34) d_Nine_first_1 (by decide) (fun c1 => ?_) (fun c1 => ?_)
  · refine j_iconst (pc := 34) C (v := (-1)) d_Nine_first_34 (by decide) ?_
    exact j_iret (pc := 35) C hr rfl () rfl [] rfl (by decide) (by decide) (by decide) d_Nine_first_35
  · refine j_iload_n (pc := 4) C d_Nine_first_4 rfl 1 rfl ?_
    refine j_sipush (pc := 5) C (v := 9999) d_Nine_first_5 (by decide) ?_
    refine j_icmp_gt (pc := 8) C (tgt := 34) d_Nine_first_8 (by decide) (fun c2 => ?_) (fun c2 => ?_)
    · refine j_iconst (pc := 34) C (v := (-1)) d_Nine_first_34 (by decide) ?_
      exact j_iret (pc := 35) C hr rfl () rfl [] rfl (by decide) (by decide) (by decide) d_Nine_first_35
    · refine j_iload_n (pc := 11) C d_Nine_first_11 rfl 2 rfl ?_
      refine j_if_lt (pc := 12) C (tgt := 34) d_Nine_first_12 (by decide) (fun c3 => ?_) (fun c3 => ?_)
      · refine j_iconst (pc := 34) C (v := (-1)) d_Nine_first_34 (by decide) ?_
        exact j_iret (pc := 35) C hr rfl () rfl [] rfl (by decide) (by decide) (by decide) d_Nine_first_35
      · refine j_iload_n (pc := 15) C d_Nine_first_15 rfl 2 rfl ?_
        refine j_bipush (pc := 16) C (v := 100) d_Nine_first_16 (by decide) ?_
        refine j_icmp_gt (pc := 18) C (tgt := 34) d_Nine_first_18 (by decide) (fun c4 => ?_) (fun c4 => ?_)
        · refine j_iconst (pc := 34) C (v := (-1)) d_Nine_first_34 (by decide) ?_
          exact j_iret (pc := 35) C hr rfl () rfl [] rfl (by decide) (by decide) (by decide) d_Nine_first_35
        · refine j_aload_n (pc := 21) C d_Nine_first_21 rfl 0 rfl ?_
          refine j_get (pc := 22) C gf_Nine_24 0 rfl rfl d_Nine_first_22 ?_
          refine j_get (pc := 25) C gf_Nine_124 3 rfl rfl d_Nine_first_25 ?_
          refine j_sipush (pc := 28) C (v := 999) d_Nine_first_28 (by decide) ?_
          refine j_icmp_ltT (pc := 31) C (tgt := 36) d_Nine_first_31 (by decide) (by decide) ?_
          refine j_iconst (pc := 36) C (v := (-1)) d_Nine_first_36 (by decide) ?_
          refine j_istore_n (pc := 37) C (lv' := [(3, .int (-1)), (0, .ref x), (1, .int a), (2, .int b)]) d_Nine_first_37 rfl (by decide) rfl ?_
          refine j_iconst (pc := 38) C (v := 0) d_Nine_first_38 (by decide) ?_
          refine j_istore (pc := 39) C (lv' := [(4, .int 0), (3, .int (-1)), (0, .ref x), (1, .int a), (2, .int b)]) d_Nine_first_39 (by decide) rfl ?_
          refine j_iconst (pc := 41) C (v := 0) d_Nine_first_41 (by decide) ?_
          refine j_istore (pc := 42) C (lv' := [(5, .int 0), (4, .int 0), (3, .int (-1)), (0, .ref x), (1, .int a), (2, .int b)]) d_Nine_first_42 (by decide) rfl ?_
          refine j_iload (pc := 44) C d_Nine_first_44 0 rfl ?_
          refine j_aload_n (pc := 46) C d_Nine_first_46 rfl 3 rfl ?_
          refine j_get (pc := 47) C gf_Nine_41 0 rfl rfl d_Nine_first_47 ?_
          refine j_get (pc := 50) C gf_Nine_89 1 rfl rfl d_Nine_first_50 ?_
          refine j_get (pc := 53) C gf_Nine_93 2 rfl rfl d_Nine_first_53 ?_
          refine j_icmp_geT (pc := 56) C (tgt := 169) d_Nine_first_56 (by decide) (by decide) ?_
          refine j_iload_n (pc := 169) C d_Nine_first_169 rfl 2 rfl ?_
          exact j_iret (pc := 170) C hr rfl () rfl [] rfl (by decide) (by decide) (by decide) d_Nine_first_170
theorem d_Nine_steal_0 : decode prog_1_method_27_code 0 = .ok (.aload_n 0, 1) := by decide +kernel
theorem d_Nine_steal_1 : decode prog_1_method_27_code 1 = .ok (.getfield 41, 3) := by decide +kernel
theorem d_Nine_steal_4 : decode prog_1_method_27_code 4 = .ok (.iload_n 1, 1) := by decide +kernel
theorem d_Nine_steal_5 : decode prog_1_method_27_code 5 = .ok (.invokevirtual 138, 3) := by decide +kernel
theorem d_Nine_steal_8 : decode prog_1_method_27_code 8 = .ok (.ifCond .eq 18, 3) := by decide +kernel
theorem d_Nine_steal_26 : decode prog_1_method_27_code 26 = .ok (.iconst (-1), 1) := by decide +kernel
theorem d_Nine_steal_27 : decode prog_1_method_27_code 27 = .ok (.ireturn, 1) := by decide +kernel
set_option maxHeartbeats 4000000 in
set_option maxRecDepth 100000 in
theorem c_N_steal (l : Launch) (D : va_G) (y : Nat → ClassId) (x : Nat) (tp : Nat) (pi : Nat) (nw : Nat) (tr : Nat) (ps : Nat) (k : Nat) (k2 : Nat) (rd : Nat) (pl : Nat) (g : Nat) (vn : Nat) (vg : Nat) (t : Nat) (r : Nat) (g0 : Nat) (g1 : Nat) (g2 : Nat) (g3 : Nat) (g4 : Nat) (g5 : Nat) (g6 : Nat) (a : Int32)  : CT l D y ⟨"NineBoards", "steal", "(I)I"⟩ prog_1_method_27_code 2 (some .int) ({ frames := 1, cells := 0, slots := 0, locals := 21 } : Room) [.ref x, .int a] [(x, .inr (9, [.ref tp, .ref pi, .ref nw, .ref tr, .ref ps, .ref k, .ref k2, .ref rd, .ref pl, .int 1])), (k, .inr (2, [.int 0, .int 1, .int 1, .int 0, .ref g, .int 0, .ref vn, .ref vg, .ref t, .ref r, .int 0, .int 0, .int 9999, .int 0])), (g, .inr (1, [.int 0, .ref g0, .ref g1, .ref g2, .ref g3, .ref g4, .ref g5, .ref g6]))] (QI D [(x, .inr (9, [.ref tp, .ref pi, .ref nw, .ref tr, .ref ps, .ref k, .ref k2, .ref rd, .ref pl, .int 1])), (k, .inr (2, [.int 0, .int 1, .int 1, .int 0, .ref g, .int 0, .ref vn, .ref vg, .ref t, .ref r, .int 0, .int 0, .int 9999, .int 0])), (g, .inr (1, [.int 0, .ref g0, .ref g1, .ref g2, .ref g3, .ref g4, .ref g5, .ref g6]))] (fun (r : Int32) (_ : Unit) => r = (-1)) (fun _ => [])) := by
  refine CT.of (by decide) (nb rfl) ?_
  intro p e s m args below meth c C hr
  refine j_lv (lv' := [(0, .ref x), (1, .int a)]) rfl ?_
  refine j_aload_n (pc := 0) C d_Nine_steal_0 rfl 0 rfl ?_
  refine j_get (pc := 1) C gf_Nine_41 0 rfl rfl d_Nine_steal_1 ?_
  refine j_iload_n (pc := 4) C d_Nine_steal_4 rfl 1 rfl ?_
  refine j_callVi (pc := 5) C (c_hasGate l D y k g vn vg t r g0 g1 g2 g3 g4 g5 g6 a) kw_Nine_138 kv_Lake_hasGate 0 2 rfl rfl ⟨by decide, by decide⟩ ⟨by decide, by decide⟩ (wr := [(x, .inr (9, [.ref tp, .ref pi, .ref nw, .ref tr, .ref ps, .ref k, .ref k2, .ref rd, .ref pl, .int 1]))]) [1, 2] [0] rfl rfl (by decide) (by decide) (by decide) (As := [.int a]) (rest := []) rfl (nb rfl) rfl d_Nine_steal_5 (fun r1 _ hr1 => ?_)
  subst hr1
  refine j_ws (ws' := [(x, .inr (9, [.ref tp, .ref pi, .ref nw, .ref tr, .ref ps, .ref k, .ref k2, .ref rd, .ref pl, .int 1])), (k, .inr (2, [.int 0, .int 1, .int 1, .int 0, .ref g, .int 0, .ref vn, .ref vg, .ref t, .ref r, .int 0, .int 0, .int 9999, .int 0])), (g, .inr (1, [.int 0, .ref g0, .ref g1, .ref g2, .ref g3, .ref g4, .ref g5, .ref g6]))]) rfl ?_
  refine j_st (st' := [.int 0]) rfl ?_
  refine j_if_eqT (pc := 8) C (tgt := 26) d_Nine_steal_8 (by decide) (by decide) ?_
  refine j_iconst (pc := 26) C (v := (-1)) d_Nine_steal_26 (by decide) ?_
  exact j_iret (pc := 27) C hr rfl () rfl [] rfl (by decide) (by decide) (by decide) d_Nine_steal_27
theorem d_Nine_seed_0 : decode prog_1_method_30_code 0 = .ok (.iload_n 1, 1) := by decide +kernel
theorem d_Nine_seed_1 : decode prog_1_method_30_code 1 = .ok (.ifCond .ge 5, 3) := by decide +kernel
theorem d_Nine_seed_6 : decode prog_1_method_30_code 6 = .ok (.aload_n 0, 1) := by decide +kernel
theorem d_Nine_seed_7 : decode prog_1_method_30_code 7 = .ok (.iload_n 1, 1) := by decide +kernel
theorem d_Nine_seed_8 : decode prog_1_method_30_code 8 = .ok (.putfield 66, 3) := by decide +kernel
theorem pf_Nine_66 : PF "NineBoards" 66 9 9 (.int) false := ⟨_, _, _, ct_Nine, rfl, ci_Nine, by decide, (mt_3 (List.mem_of_getElem? (i := 0) rfl) rfl), cp_Nine, cn_Nine, rfl, by decide +kernel, (fun h => by cases h)⟩
theorem d_Nine_seed_11 : decode prog_1_method_30_code 11 = .ok (.iconst 1, 1) := by decide +kernel
theorem d_Nine_seed_12 : decode prog_1_method_30_code 12 = .ok (.ireturn, 1) := by decide +kernel
theorem d_Nine_seed_4 : decode prog_1_method_30_code 4 = .ok (.iconst 0, 1) := by decide +kernel
theorem d_Nine_seed_5 : decode prog_1_method_30_code 5 = .ok (.ireturn, 1) := by decide +kernel
set_option maxHeartbeats 4000000 in
set_option maxRecDepth 100000 in
theorem c_N_seed (l : Launch) (D : va_G) (y : Nat → ClassId) (x : Nat) (tp : Nat) (pi : Nat) (nw : Nat) (tr : Nat) (ps : Nat) (k : Nat) (k2 : Nat) (rd : Nat) (pl : Nat) (n : Int32)  : CT l D y ⟨"NineBoards", "seed", "(I)Z"⟩ prog_1_method_30_code 2 (some .boolean) ({ frames := 0, cells := 0, slots := 0, locals := 0 } : Room) [.ref x, .int n] [(x, .inr (9, [.ref tp, .ref pi, .ref nw, .ref tr, .ref ps, .ref k, .ref k2, .ref rd, .ref pl, .int 1]))] (QI D [(x, .inr (9, [.ref tp, .ref pi, .ref nw, .ref tr, .ref ps, .ref k, .ref k2, .ref rd, .ref pl, .int 1]))] (fun (r : Int32) (_ : Unit) => r = if n.toInt < 0 then 0 else 1) (fun _ => [])) := by
  refine CT.of (by decide) (nb rfl) ?_
  intro p e s m args below meth c C hr
  refine j_lv (lv' := [(0, .ref x), (1, .int n)]) rfl ?_
  refine j_iload_n (pc := 0) C d_Nine_seed_0 rfl 1 rfl ?_
  refine j_if_ge (pc := 1) C (tgt := 6) d_Nine_seed_1 (by decide) (fun c1 => ?_) (fun c1 => ?_)
  · refine j_aload_n (pc := 6) C d_Nine_seed_6 rfl 0 rfl ?_
    refine j_iload_n (pc := 7) C d_Nine_seed_7 rfl 1 rfl ?_
    refine j_put (pc := 8) C pf_Nine_66 0 (ws' := [(x, .inr (9, [.ref tp, .ref pi, .ref nw, .ref tr, .ref ps, .ref k, .ref k2, .ref rd, .ref pl, .int n]))]) rfl rfl rfl (nl rfl) rfl d_Nine_seed_8 ?_
    refine j_iconst (pc := 11) C (v := 1) d_Nine_seed_11 (by decide) ?_
    exact j_iret (pc := 12) C hr (by decide) () (by simp only [Int32.lt_iff_toInt_lt, Int32.le_iff_toInt_le, ← Int32.toInt_inj, (by decide : Int32.toInt 0 = 0)] at c1; (first | rw [if_pos (by omega)] | rw [if_neg (by omega)])) [] rfl (by decide) (by decide) (by decide) d_Nine_seed_12
  · refine j_iconst (pc := 4) C (v := 0) d_Nine_seed_4 (by decide) ?_
    exact j_iret (pc := 5) C hr (by decide) () (by simp only [Int32.lt_iff_toInt_lt, Int32.le_iff_toInt_le, ← Int32.toInt_inj, (by decide : Int32.toInt 0 = 0)] at c1; (first | rw [if_pos (by omega)] | rw [if_neg (by omega)])) [] rfl (by decide) (by decide) (by decide) d_Nine_seed_5
theorem d_Nine_octet_0 : decode prog_1_method_33_code 0 = .ok (.aload_n 0, 1) := by decide +kernel
theorem d_Nine_octet_1 : decode prog_1_method_33_code 1 = .ok (.getfield 18, 3) := by decide +kernel
theorem gf_Nine_18 : GF "NineBoards" 18 9 1 := ⟨_, _, _, rfl, ci_Nine, by decide, (mt_2 (List.mem_of_getElem? (i := 232) rfl) rfl)⟩
theorem d_Nine_octet_4 : decode prog_1_method_33_code 4 = .ok (.iload_n 1, 1) := by decide +kernel
theorem d_Nine_octet_5 : decode prog_1_method_33_code 5 = .ok (.invokevirtual 314, 3) := by decide +kernel
theorem kw_Nine_314 : KW "NineBoards" 314 ⟨"NineBoards$Bytes", "at", "(I)I"⟩ prog_2_method_5_code 2 (some .int) 1 := ⟨(mt_5 (List.mem_of_getElem? (i := 73) rfl) rfl), (mt_1 (List.mem_of_getElem? (i := 2) rfl) rfl), (mt_5 (List.mem_of_getElem? (i := 30) rfl) rfl), by decide +kernel⟩
theorem kv_Bytes_at : Cond.instanceMethod ⟨"NineBoards$Bytes", "at", "(I)I"⟩ ∈ TB ∧ Cond.selects "NineBoards$Bytes" ⟨"NineBoards$Bytes", "at", "(I)I"⟩ ⟨"NineBoards$Bytes", "at", "(I)I"⟩ ∈ TB := ⟨(mt_5 (List.mem_of_getElem? (i := 28) rfl) rfl), (mt_5 (List.mem_of_getElem? (i := 29) rfl) rfl)⟩
theorem d_Nine_octet_8 : decode prog_1_method_33_code 8 = .ok (.ireturn, 1) := by decide +kernel
set_option maxHeartbeats 4000000 in
set_option maxRecDepth 100000 in
theorem c_N_octet (l : Launch) (D : va_G) (y : Nat → ClassId) (x : Nat) (tp : Nat) (pi : Nat) (nw : Nat) (tr : Nat) (ps : Nat) (k : Nat) (k2 : Nat) (rd : Nat) (pl : Nat) (pd : Nat) (n : Int32)  : CT l D y ⟨"NineBoards", "octet", "(I)I"⟩ prog_1_method_33_code 2 (some .int) ({ frames := 1, cells := 0, slots := 0, locals := 21 } : Room) [.ref x, .int n] [(x, .inr (9, [.ref tp, .ref pi, .ref nw, .ref tr, .ref ps, .ref k, .ref k2, .ref rd, .ref pl, .int 1])), (pi, .inr (0, [.ref pd, .int 0]))] (QI D [(x, .inr (9, [.ref tp, .ref pi, .ref nw, .ref tr, .ref ps, .ref k, .ref k2, .ref rd, .ref pl, .int 1])), (pi, .inr (0, [.ref pd, .int 0]))] (fun (r : Int32) (_ : Unit) => r = (-1)) (fun _ => [])) := by
  refine CT.of (by decide) (nb rfl) ?_
  intro p e s m args below meth c C hr
  refine j_lv (lv' := [(0, .ref x), (1, .int n)]) rfl ?_
  refine j_aload_n (pc := 0) C d_Nine_octet_0 rfl 0 rfl ?_
  refine j_get (pc := 1) C gf_Nine_18 0 rfl rfl d_Nine_octet_1 ?_
  refine j_iload_n (pc := 4) C d_Nine_octet_4 rfl 1 rfl ?_
  refine j_callVi (pc := 5) C (c_at_0 l D y pi pd n) kw_Nine_314 kv_Bytes_at 0 0 rfl rfl ⟨by decide, by decide⟩ ⟨by decide, by decide⟩ (wr := [(x, .inr (9, [.ref tp, .ref pi, .ref nw, .ref tr, .ref ps, .ref k, .ref k2, .ref rd, .ref pl, .int 1]))]) [1] [0] rfl rfl (by decide) (by decide) (by decide) (As := [.int n]) (rest := []) rfl (nb rfl) rfl d_Nine_octet_5 (fun r1 _ hr1 => ?_)
  subst hr1
  refine j_ws (ws' := [(x, .inr (9, [.ref tp, .ref pi, .ref nw, .ref tr, .ref ps, .ref k, .ref k2, .ref rd, .ref pl, .int 1]))]) rfl ?_
  refine j_st (st' := [.int (-1)]) rfl ?_
  exact j_iret (pc := 8) C hr rfl () rfl [] rfl (by decide) (by decide) (by decide) d_Nine_octet_8
theorem d_Nine_image_0 : decode prog_1_method_32_code 0 = .ok (.aload_n 0, 1) := by decide +kernel
theorem d_Nine_image_1 : decode prog_1_method_32_code 1 = .ok (.getfield 18, 3) := by decide +kernel
theorem d_Nine_image_4 : decode prog_1_method_32_code 4 = .ok (.iconst 0, 1) := by decide +kernel
theorem d_Nine_image_5 : decode prog_1_method_32_code 5 = .ok (.putfield 70, 3) := by decide +kernel
theorem d_Nine_image_8 : decode prog_1_method_32_code 8 = .ok (.aload_n 0, 1) := by decide +kernel
theorem d_Nine_image_9 : decode prog_1_method_32_code 9 = .ok (.getfield 18, 3) := by decide +kernel
theorem d_Nine_image_12 : decode prog_1_method_32_code 12 = .ok (.aload_n 0, 1) := by decide +kernel
theorem d_Nine_image_13 : decode prog_1_method_32_code 13 = .ok (.getfield 24, 3) := by decide +kernel
theorem d_Nine_image_16 : decode prog_1_method_32_code 16 = .ok (.getfield 124, 3) := by decide +kernel
theorem d_Nine_image_19 : decode prog_1_method_32_code 19 = .ok (.invokevirtual 305, 3) := by decide +kernel
theorem kw_Nine_305 : KW "NineBoards" 305 ⟨"NineBoards$Bytes", "putTwo", "(I)V"⟩ prog_2_method_3_code 2 none 1 := ⟨(mt_5 (List.mem_of_getElem? (i := 63) rfl) rfl), (mt_1 (List.mem_of_getElem? (i := 2) rfl) rfl), (mt_3 (List.mem_of_getElem? (i := 33) rfl) rfl), by decide +kernel⟩
theorem d_Nine_image_22 : decode prog_1_method_32_code 22 = .ok (.aload_n 0, 1) := by decide +kernel
theorem d_Nine_image_23 : decode prog_1_method_32_code 23 = .ok (.getfield 18, 3) := by decide +kernel
theorem d_Nine_image_26 : decode prog_1_method_32_code 26 = .ok (.aload_n 0, 1) := by decide +kernel
theorem d_Nine_image_27 : decode prog_1_method_32_code 27 = .ok (.getfield 24, 3) := by decide +kernel
theorem d_Nine_image_30 : decode prog_1_method_32_code 30 = .ok (.getfield 127, 3) := by decide +kernel
theorem d_Nine_image_33 : decode prog_1_method_32_code 33 = .ok (.invokevirtual 305, 3) := by decide +kernel
theorem d_Nine_image_36 : decode prog_1_method_32_code 36 = .ok (.aload_n 0, 1) := by decide +kernel
theorem d_Nine_image_37 : decode prog_1_method_32_code 37 = .ok (.getfield 18, 3) := by decide +kernel
theorem d_Nine_image_40 : decode prog_1_method_32_code 40 = .ok (.aload_n 0, 1) := by decide +kernel
theorem d_Nine_image_41 : decode prog_1_method_32_code 41 = .ok (.getfield 24, 3) := by decide +kernel
theorem d_Nine_image_44 : decode prog_1_method_32_code 44 = .ok (.getfield 134, 3) := by decide +kernel
theorem d_Nine_image_47 : decode prog_1_method_32_code 47 = .ok (.invokevirtual 308, 3) := by decide +kernel
theorem kw_Nine_308 : KW "NineBoards" 308 ⟨"NineBoards$Bytes", "put", "(I)V"⟩ prog_2_method_2_code 2 none 1 := ⟨(mt_5 (List.mem_of_getElem? (i := 64) rfl) rfl), (mt_1 (List.mem_of_getElem? (i := 2) rfl) rfl), (mt_3 (List.mem_of_getElem? (i := 37) rfl) rfl), by decide +kernel⟩
theorem d_Nine_image_50 : decode prog_1_method_32_code 50 = .ok (.iconst 0, 1) := by decide +kernel
theorem d_Nine_image_51 : decode prog_1_method_32_code 51 = .ok (.istore_n 1, 1) := by decide +kernel
theorem d_Nine_image_52 : decode prog_1_method_32_code 52 = .ok (.iload_n 1, 1) := by decide +kernel
theorem d_Nine_image_53 : decode prog_1_method_32_code 53 = .ok (.aload_n 0, 1) := by decide +kernel
theorem d_Nine_image_54 : decode prog_1_method_32_code 54 = .ok (.getfield 41, 3) := by decide +kernel
theorem d_Nine_image_57 : decode prog_1_method_32_code 57 = .ok (.getfield 89, 3) := by decide +kernel
theorem d_Nine_image_60 : decode prog_1_method_32_code 60 = .ok (.getfield 93, 3) := by decide +kernel
theorem d_Nine_image_63 : decode prog_1_method_32_code 63 = .ok (.if_icmp .ge 25, 3) := by decide +kernel
theorem d_Nine_image_88 : decode prog_1_method_32_code 88 = .ok (.aload_n 0, 1) := by decide +kernel
theorem d_Nine_image_89 : decode prog_1_method_32_code 89 = .ok (.getfield 18, 3) := by decide +kernel
theorem d_Nine_image_92 : decode prog_1_method_32_code 92 = .ok (.aload_n 0, 1) := by decide +kernel
theorem d_Nine_image_93 : decode prog_1_method_32_code 93 = .ok (.getfield 18, 3) := by decide +kernel
theorem d_Nine_image_96 : decode prog_1_method_32_code 96 = .ok (.aload_n 0, 1) := by decide +kernel
theorem d_Nine_image_97 : decode prog_1_method_32_code 97 = .ok (.getfield 18, 3) := by decide +kernel
theorem d_Nine_image_100 : decode prog_1_method_32_code 100 = .ok (.getfield 70, 3) := by decide +kernel
theorem d_Nine_image_103 : decode prog_1_method_32_code 103 = .ok (.invokevirtual 311, 3) := by decide +kernel
theorem kw_Nine_311 : KW "NineBoards" 311 ⟨"NineBoards$Bytes", "check", "(I)I"⟩ prog_2_method_7_code 4 (some .int) 1 := ⟨(mt_5 (List.mem_of_getElem? (i := 65) rfl) rfl), (mt_1 (List.mem_of_getElem? (i := 2) rfl) rfl), (mt_5 (List.mem_of_getElem? (i := 68) rfl) rfl), by decide +kernel⟩
theorem kv_Bytes_check : Cond.instanceMethod ⟨"NineBoards$Bytes", "check", "(I)I"⟩ ∈ TB ∧ Cond.selects "NineBoards$Bytes" ⟨"NineBoards$Bytes", "check", "(I)I"⟩ ⟨"NineBoards$Bytes", "check", "(I)I"⟩ ∈ TB := ⟨(mt_5 (List.mem_of_getElem? (i := 66) rfl) rfl), (mt_5 (List.mem_of_getElem? (i := 67) rfl) rfl)⟩
theorem d_Nine_image_106 : decode prog_1_method_32_code 106 = .ok (.invokevirtual 308, 3) := by decide +kernel
theorem d_Nine_image_109 : decode prog_1_method_32_code 109 = .ok (.aload_n 0, 1) := by decide +kernel
theorem d_Nine_image_110 : decode prog_1_method_32_code 110 = .ok (.getfield 18, 3) := by decide +kernel
theorem d_Nine_image_113 : decode prog_1_method_32_code 113 = .ok (.getfield 70, 3) := by decide +kernel
theorem d_Nine_image_116 : decode prog_1_method_32_code 116 = .ok (.ireturn, 1) := by decide +kernel
set_option maxHeartbeats 4000000 in
set_option maxRecDepth 100000 in
theorem c_N_image (l : Launch) (D : va_G) (y : Nat → ClassId) (x : Nat) (tp : Nat) (pi : Nat) (nw : Nat) (tr : Nat) (ps : Nat) (k : Nat) (k2 : Nat) (rd : Nat) (pl : Nat) (pd : Nat) (n0 : Nat) (n1 : Nat) (n2 : Nat) (n3 : Nat) (n4 : Nat) (n5 : Nat) (n6 : Nat) (g : Nat) (vn : Nat) (vg : Nat) (t : Nat) (r : Nat) (g0 : Nat) (g1 : Nat) (g2 : Nat) (g3 : Nat) (g4 : Nat) (g5 : Nat) (g6 : Nat)  : CT l D y ⟨"NineBoards", "image", "()I"⟩ prog_1_method_32_code 2 (some .int) ({ frames := 2, cells := 0, slots := 0, locals := 42 } : Room) [.ref x] [(x, .inr (9, [.ref tp, .ref pi, .ref nw, .ref tr, .ref ps, .ref k, .ref k2, .ref rd, .ref pl, .int 1])), (pi, .inr (0, [.ref pd, .int 0])), (pd, .inl (y 0, 15, .inl (fun _ => 0))), (nw, .inr (7, [.int 0, .int 0, .int 0, .ref n0, .ref n1, .ref n2, .ref n3, .ref n4, .ref n5, .ref n6])), (k, .inr (2, [.int 0, .int 1, .int 1, .int 0, .ref g, .int 0, .ref vn, .ref vg, .ref t, .ref r, .int 0, .int 0, .int 9999, .int 0])), (g, .inr (1, [.int 0, .ref g0, .ref g1, .ref g2, .ref g3, .ref g4, .ref g5, .ref g6]))] (QI D [(x, .inr (9, [.ref tp, .ref pi, .ref nw, .ref tr, .ref ps, .ref k, .ref k2, .ref rd, .ref pl, .int 1])), (pi, .inr (0, [.ref pd, .int 0])), (pd, .inl (y 0, 15, .inl (fun _ => 0))), (nw, .inr (7, [.int 0, .int 0, .int 0, .ref n0, .ref n1, .ref n2, .ref n3, .ref n4, .ref n5, .ref n6])), (k, .inr (2, [.int 0, .int 1, .int 1, .int 0, .ref g, .int 0, .ref vn, .ref vg, .ref t, .ref r, .int 0, .int 0, .int 9999, .int 0])), (g, .inr (1, [.int 0, .ref g0, .ref g1, .ref g2, .ref g3, .ref g4, .ref g5, .ref g6]))] (fun (r : Int32) (_ : Unit) => r = 6) (fun _ => [])) := by
  refine CT.of (by decide) (nb rfl) ?_
  intro p e s m args below meth c C hr
  refine j_lv (lv' := [(0, .ref x)]) rfl ?_
  refine j_aload_n (pc := 0) C d_Nine_image_0 rfl 0 rfl ?_
  refine j_get (pc := 1) C gf_Nine_18 0 rfl rfl d_Nine_image_1 ?_
  refine j_iconst (pc := 4) C (v := 0) d_Nine_image_4 (by decide) ?_
  refine j_put (pc := 5) C pf_Nine_70 1 (ws' := [(x, .inr (9, [.ref tp, .ref pi, .ref nw, .ref tr, .ref ps, .ref k, .ref k2, .ref rd, .ref pl, .int 1])), (pi, .inr (0, [.ref pd, .int 0])), (pd, .inl (y 0, 15, .inl (fun _ => 0))), (nw, .inr (7, [.int 0, .int 0, .int 0, .ref n0, .ref n1, .ref n2, .ref n3, .ref n4, .ref n5, .ref n6])), (k, .inr (2, [.int 0, .int 1, .int 1, .int 0, .ref g, .int 0, .ref vn, .ref vg, .ref t, .ref r, .int 0, .int 0, .int 9999, .int 0])), (g, .inr (1, [.int 0, .ref g0, .ref g1, .ref g2, .ref g3, .ref g4, .ref g5, .ref g6]))]) rfl rfl rfl (nl rfl) rfl d_Nine_image_5 ?_
  refine j_aload_n (pc := 8) C d_Nine_image_8 rfl 0 rfl ?_
  refine j_get (pc := 9) C gf_Nine_18 0 rfl rfl d_Nine_image_9 ?_
  refine j_aload_n (pc := 12) C d_Nine_image_12 rfl 0 rfl ?_
  refine j_get (pc := 13) C gf_Nine_24 0 rfl rfl d_Nine_image_13 ?_
  refine j_get (pc := 16) C gf_Nine_124 3 rfl rfl d_Nine_image_16 ?_
  refine j_callVv (pc := 19) C (c_putTwo_Z l D y pi pd 0 1 2 (by decide) (by decide) (by decide) (by decide) (by decide) (by decide)) kw_Nine_305 kv_Bytes_putTwo 0 0 rfl rfl ⟨by decide, by decide⟩ ⟨by decide, by decide⟩ (wr := [(x, .inr (9, [.ref tp, .ref pi, .ref nw, .ref tr, .ref ps, .ref k, .ref k2, .ref rd, .ref pl, .int 1])), (nw, .inr (7, [.int 0, .int 0, .int 0, .ref n0, .ref n1, .ref n2, .ref n3, .ref n4, .ref n5, .ref n6])), (k, .inr (2, [.int 0, .int 1, .int 1, .int 0, .ref g, .int 0, .ref vn, .ref vg, .ref t, .ref r, .int 0, .int 0, .int 9999, .int 0])), (g, .inr (1, [.int 0, .ref g0, .ref g1, .ref g2, .ref g3, .ref g4, .ref g5, .ref g6]))]) [1, 2] [0, 3, 4, 5] rfl rfl (by decide) (by decide) (by decide) (As := [.int 0]) (rest := []) rfl (nb rfl) rfl d_Nine_image_19 (fun _ _ => ?_)
  refine j_ws (ws' := [(x, .inr (9, [.ref tp, .ref pi, .ref nw, .ref tr, .ref ps, .ref k, .ref k2, .ref rd, .ref pl, .int 1])), (nw, .inr (7, [.int 0, .int 0, .int 0, .ref n0, .ref n1, .ref n2, .ref n3, .ref n4, .ref n5, .ref n6])), (k, .inr (2, [.int 0, .int 1, .int 1, .int 0, .ref g, .int 0, .ref vn, .ref vg, .ref t, .ref r, .int 0, .int 0, .int 9999, .int 0])), (g, .inr (1, [.int 0, .ref g0, .ref g1, .ref g2, .ref g3, .ref g4, .ref g5, .ref g6])), (pi, .inr (0, [.ref pd, .int 2])), (pd, .inl (y 0, 15, .inl (fun _ => 0)))]) rfl ?_
  refine j_aload_n (pc := 22) C d_Nine_image_22 rfl 0 rfl ?_
  refine j_get (pc := 23) C gf_Nine_18 0 rfl rfl d_Nine_image_23 ?_
  refine j_aload_n (pc := 26) C d_Nine_image_26 rfl 0 rfl ?_
  refine j_get (pc := 27) C gf_Nine_24 0 rfl rfl d_Nine_image_27 ?_
  refine j_get (pc := 30) C gf_Nine_127 1 rfl rfl d_Nine_image_30 ?_
  refine j_callVv (pc := 33) C (c_putTwo_Z l D y pi pd 2 3 4 (by decide) (by decide) (by decide) (by decide) (by decide) (by decide)) kw_Nine_305 kv_Bytes_putTwo 0 0 rfl rfl ⟨by decide, by decide⟩ ⟨by decide, by decide⟩ (wr := [(x, .inr (9, [.ref tp, .ref pi, .ref nw, .ref tr, .ref ps, .ref k, .ref k2, .ref rd, .ref pl, .int 1])), (nw, .inr (7, [.int 0, .int 0, .int 0, .ref n0, .ref n1, .ref n2, .ref n3, .ref n4, .ref n5, .ref n6])), (k, .inr (2, [.int 0, .int 1, .int 1, .int 0, .ref g, .int 0, .ref vn, .ref vg, .ref t, .ref r, .int 0, .int 0, .int 9999, .int 0])), (g, .inr (1, [.int 0, .ref g0, .ref g1, .ref g2, .ref g3, .ref g4, .ref g5, .ref g6]))]) [4, 5] [0, 1, 2, 3] rfl rfl (by decide) (by decide) (by decide) (As := [.int 0]) (rest := []) rfl (nb rfl) rfl d_Nine_image_33 (fun _ _ => ?_)
  refine j_ws (ws' := [(x, .inr (9, [.ref tp, .ref pi, .ref nw, .ref tr, .ref ps, .ref k, .ref k2, .ref rd, .ref pl, .int 1])), (nw, .inr (7, [.int 0, .int 0, .int 0, .ref n0, .ref n1, .ref n2, .ref n3, .ref n4, .ref n5, .ref n6])), (k, .inr (2, [.int 0, .int 1, .int 1, .int 0, .ref g, .int 0, .ref vn, .ref vg, .ref t, .ref r, .int 0, .int 0, .int 9999, .int 0])), (g, .inr (1, [.int 0, .ref g0, .ref g1, .ref g2, .ref g3, .ref g4, .ref g5, .ref g6])), (pi, .inr (0, [.ref pd, .int 4])), (pd, .inl (y 0, 15, .inl (fun _ => 0)))]) rfl ?_
  refine j_aload_n (pc := 36) C d_Nine_image_36 rfl 0 rfl ?_
  refine j_get (pc := 37) C gf_Nine_18 0 rfl rfl d_Nine_image_37 ?_
  refine j_aload_n (pc := 40) C d_Nine_image_40 rfl 0 rfl ?_
  refine j_get (pc := 41) C gf_Nine_24 0 rfl rfl d_Nine_image_41 ?_
  refine j_get (pc := 44) C gf_Nine_134 1 rfl rfl d_Nine_image_44 ?_
  refine j_callVv (pc := 47) C (c_put_Z l D y pi pd 4 5 (by decide) (by decide) (by decide)) kw_Nine_308 kv_Bytes_put 0 0 rfl rfl ⟨by decide, by decide⟩ ⟨by decide, by decide⟩ (wr := [(x, .inr (9, [.ref tp, .ref pi, .ref nw, .ref tr, .ref ps, .ref k, .ref k2, .ref rd, .ref pl, .int 1])), (nw, .inr (7, [.int 0, .int 0, .int 0, .ref n0, .ref n1, .ref n2, .ref n3, .ref n4, .ref n5, .ref n6])), (k, .inr (2, [.int 0, .int 1, .int 1, .int 0, .ref g, .int 0, .ref vn, .ref vg, .ref t, .ref r, .int 0, .int 0, .int 9999, .int 0])), (g, .inr (1, [.int 0, .ref g0, .ref g1, .ref g2, .ref g3, .ref g4, .ref g5, .ref g6]))]) [4, 5] [0, 1, 2, 3] rfl rfl (by decide) (by decide) (by decide) (As := [.int 0]) (rest := []) rfl (nb rfl) rfl d_Nine_image_47 (fun _ _ => ?_)
  refine j_ws (ws' := [(x, .inr (9, [.ref tp, .ref pi, .ref nw, .ref tr, .ref ps, .ref k, .ref k2, .ref rd, .ref pl, .int 1])), (nw, .inr (7, [.int 0, .int 0, .int 0, .ref n0, .ref n1, .ref n2, .ref n3, .ref n4, .ref n5, .ref n6])), (k, .inr (2, [.int 0, .int 1, .int 1, .int 0, .ref g, .int 0, .ref vn, .ref vg, .ref t, .ref r, .int 0, .int 0, .int 9999, .int 0])), (g, .inr (1, [.int 0, .ref g0, .ref g1, .ref g2, .ref g3, .ref g4, .ref g5, .ref g6])), (pi, .inr (0, [.ref pd, .int 5])), (pd, .inl (y 0, 15, .inl (fun _ => 0)))]) rfl ?_
  refine j_iconst (pc := 50) C (v := 0) d_Nine_image_50 (by decide) ?_
  refine j_istore_n (pc := 51) C (lv' := [(1, .int 0), (0, .ref x)]) d_Nine_image_51 rfl (by decide) rfl ?_
  refine j_iload_n (pc := 52) C d_Nine_image_52 rfl 0 rfl ?_
  refine j_aload_n (pc := 53) C d_Nine_image_53 rfl 1 rfl ?_
  refine j_get (pc := 54) C gf_Nine_41 0 rfl rfl d_Nine_image_54 ?_
  refine j_get (pc := 57) C gf_Nine_89 2 rfl rfl d_Nine_image_57 ?_
  refine j_get (pc := 60) C gf_Nine_93 3 rfl rfl d_Nine_image_60 ?_
  refine j_icmp_geT (pc := 63) C (tgt := 88) d_Nine_image_63 (by decide) (by decide) ?_
  refine j_aload_n (pc := 88) C d_Nine_image_88 rfl 1 rfl ?_
  refine j_get (pc := 89) C gf_Nine_18 0 rfl rfl d_Nine_image_89 ?_
  refine j_aload_n (pc := 92) C d_Nine_image_92 rfl 1 rfl ?_
  refine j_get (pc := 93) C gf_Nine_18 0 rfl rfl d_Nine_image_93 ?_
  refine j_aload_n (pc := 96) C d_Nine_image_96 rfl 1 rfl ?_
  refine j_get (pc := 97) C gf_Nine_18 0 rfl rfl d_Nine_image_97 ?_
  refine j_get (pc := 100) C gf_Nine_70 4 rfl rfl d_Nine_image_100 ?_
  refine j_callVi (pc := 103) C (c_check_5 l D y pi pd) kw_Nine_311 kv_Bytes_check 0 0 rfl rfl ⟨by decide, by decide⟩ ⟨by decide, by decide⟩ (wr := [(x, .inr (9, [.ref tp, .ref pi, .ref nw, .ref tr, .ref ps, .ref k, .ref k2, .ref rd, .ref pl, .int 1])), (nw, .inr (7, [.int 0, .int 0, .int 0, .ref n0, .ref n1, .ref n2, .ref n3, .ref n4, .ref n5, .ref n6])), (k, .inr (2, [.int 0, .int 1, .int 1, .int 0, .ref g, .int 0, .ref vn, .ref vg, .ref t, .ref r, .int 0, .int 0, .int 9999, .int 0])), (g, .inr (1, [.int 0, .ref g0, .ref g1, .ref g2, .ref g3, .ref g4, .ref g5, .ref g6]))]) [4, 5] [0, 1, 2, 3] rfl rfl (by decide) (by decide) (by decide) (As := [.int 5]) (rest := [.ref pi]) rfl (nb rfl) rfl d_Nine_image_103 (fun r1 _ hr1 => ?_)
  subst hr1
  refine j_ws (ws' := [(x, .inr (9, [.ref tp, .ref pi, .ref nw, .ref tr, .ref ps, .ref k, .ref k2, .ref rd, .ref pl, .int 1])), (nw, .inr (7, [.int 0, .int 0, .int 0, .ref n0, .ref n1, .ref n2, .ref n3, .ref n4, .ref n5, .ref n6])), (k, .inr (2, [.int 0, .int 1, .int 1, .int 0, .ref g, .int 0, .ref vn, .ref vg, .ref t, .ref r, .int 0, .int 0, .int 9999, .int 0])), (g, .inr (1, [.int 0, .ref g0, .ref g1, .ref g2, .ref g3, .ref g4, .ref g5, .ref g6])), (pi, .inr (0, [.ref pd, .int 5])), (pd, .inl (y 0, 15, .inl (fun _ => 0)))]) rfl ?_
  refine j_st (st' := [.int 217, .ref pi]) rfl ?_
  refine j_callVv (pc := 106) C (c_put_B l D y pi pd (fun _ => 0) 5 6 217 (by decide) (by decide) (by decide)) kw_Nine_308 kv_Bytes_put 0 0 rfl rfl ⟨by decide, by decide⟩ ⟨by decide, by decide⟩ (wr := [(x, .inr (9, [.ref tp, .ref pi, .ref nw, .ref tr, .ref ps, .ref k, .ref k2, .ref rd, .ref pl, .int 1])), (nw, .inr (7, [.int 0, .int 0, .int 0, .ref n0, .ref n1, .ref n2, .ref n3, .ref n4, .ref n5, .ref n6])), (k, .inr (2, [.int 0, .int 1, .int 1, .int 0, .ref g, .int 0, .ref vn, .ref vg, .ref t, .ref r, .int 0, .int 0, .int 9999, .int 0])), (g, .inr (1, [.int 0, .ref g0, .ref g1, .ref g2, .ref g3, .ref g4, .ref g5, .ref g6]))]) [4, 5] [0, 1, 2, 3] rfl rfl (by decide) (by decide) (by decide) (As := [.int 217]) (rest := []) rfl (nb rfl) rfl d_Nine_image_106 (fun u2 _ => ?_)
  refine j_ws (ws' := [(x, .inr (9, [.ref tp, .ref pi, .ref nw, .ref tr, .ref ps, .ref k, .ref k2, .ref rd, .ref pl, .int 1])), (nw, .inr (7, [.int 0, .int 0, .int 0, .ref n0, .ref n1, .ref n2, .ref n3, .ref n4, .ref n5, .ref n6])), (k, .inr (2, [.int 0, .int 1, .int 1, .int 0, .ref g, .int 0, .ref vn, .ref vg, .ref t, .ref r, .int 0, .int 0, .int 9999, .int 0])), (g, .inr (1, [.int 0, .ref g0, .ref g1, .ref g2, .ref g3, .ref g4, .ref g5, .ref g6])), (pi, .inr (0, [.ref pd, .int 6])), (pd, .inl (y 0, 15, .inl u2))]) rfl ?_
  refine j_aload_n (pc := 109) C d_Nine_image_109 rfl 1 rfl ?_
  refine j_get (pc := 110) C gf_Nine_18 0 rfl rfl d_Nine_image_110 ?_
  refine j_get (pc := 113) C gf_Nine_70 4 rfl rfl d_Nine_image_113 ?_
  exact j_iret (pc := 116) C hr rfl () rfl [] rfl (by decide) (by decide) (by decide) d_Nine_image_116
theorem d_Nine_tapeIsImage_0 : decode prog_1_method_46_code 0 = .ok (.aload_n 0, 1) := by decide +kernel
theorem d_Nine_tapeIsImage_1 : decode prog_1_method_46_code 1 = .ok (.getfield 41, 3) := by decide +kernel
theorem d_Nine_tapeIsImage_4 : decode prog_1_method_46_code 4 = .ok (.getfield 89, 3) := by decide +kernel
theorem d_Nine_tapeIsImage_7 : decode prog_1_method_46_code 7 = .ok (.getfield 93, 3) := by decide +kernel
theorem d_Nine_tapeIsImage_10 : decode prog_1_method_46_code 10 = .ok (.istore_n 1, 1) := by decide +kernel
theorem d_Nine_tapeIsImage_11 : decode prog_1_method_46_code 11 = .ok (.aload_n 0, 1) := by decide +kernel
theorem d_Nine_tapeIsImage_12 : decode prog_1_method_46_code 12 = .ok (.getfield 14, 3) := by decide +kernel
theorem d_Nine_tapeIsImage_15 : decode prog_1_method_46_code 15 = .ok (.getfield 70, 3) := by decide +kernel
theorem d_Nine_tapeIsImage_18 : decode prog_1_method_46_code 18 = .ok (.iconst 5, 1) := by decide +kernel
theorem d_Nine_tapeIsImage_19 : decode prog_1_method_46_code 19 = .ok (.iload_n 1, 1) := by decide +kernel
theorem d_Nine_tapeIsImage_20 : decode prog_1_method_46_code 20 = .ok (.iadd, 1) := by decide +kernel
theorem d_Nine_tapeIsImage_21 : decode prog_1_method_46_code 21 = .ok (.iconst 1, 1) := by decide +kernel
theorem d_Nine_tapeIsImage_22 : decode prog_1_method_46_code 22 = .ok (.iadd, 1) := by decide +kernel
theorem d_Nine_tapeIsImage_23 : decode prog_1_method_46_code 23 = .ok (.if_icmp .ne 38, 3) := by decide +kernel
theorem d_Nine_tapeIsImage_61 : decode prog_1_method_46_code 61 = .ok (.iconst 0, 1) := by decide +kernel
theorem d_Nine_tapeIsImage_62 : decode prog_1_method_46_code 62 = .ok (.ireturn, 1) := by decide +kernel
set_option maxHeartbeats 4000000 in
set_option maxRecDepth 100000 in
theorem c_N_isImage (l : Launch) (D : va_G) (y : Nat → ClassId) (x : Nat) (tp : Nat) (pi : Nat) (nw : Nat) (tr : Nat) (ps : Nat) (k : Nat) (k2 : Nat) (rd : Nat) (pl : Nat) (td : Nat) (g : Nat) (vn : Nat) (vg : Nat) (t : Nat) (r : Nat) (g0 : Nat) (g1 : Nat) (g2 : Nat) (g3 : Nat) (g4 : Nat) (g5 : Nat) (g6 : Nat)  : CT l D y ⟨"NineBoards", "tapeIsImage", "()Z"⟩ prog_1_method_46_code 3 (some .boolean) ({ frames := 0, cells := 0, slots := 0, locals := 0 } : Room) [.ref x] [(x, .inr (9, [.ref tp, .ref pi, .ref nw, .ref tr, .ref ps, .ref k, .ref k2, .ref rd, .ref pl, .int 1])), (tp, .inr (0, [.ref td, .int 0])), (k, .inr (2, [.int 0, .int 1, .int 1, .int 0, .ref g, .int 0, .ref vn, .ref vg, .ref t, .ref r, .int 0, .int 0, .int 9999, .int 0])), (g, .inr (1, [.int 0, .ref g0, .ref g1, .ref g2, .ref g3, .ref g4, .ref g5, .ref g6]))] (QI D [(x, .inr (9, [.ref tp, .ref pi, .ref nw, .ref tr, .ref ps, .ref k, .ref k2, .ref rd, .ref pl, .int 1])), (tp, .inr (0, [.ref td, .int 0])), (k, .inr (2, [.int 0, .int 1, .int 1, .int 0, .ref g, .int 0, .ref vn, .ref vg, .ref t, .ref r, .int 0, .int 0, .int 9999, .int 0])), (g, .inr (1, [.int 0, .ref g0, .ref g1, .ref g2, .ref g3, .ref g4, .ref g5, .ref g6]))] (fun (r : Int32) (_ : Unit) => r = 0) (fun _ => [(x, .inr (9, [.ref tp, .ref pi, .ref nw, .ref tr, .ref ps, .ref k, .ref k2, .ref rd, .ref pl, .int 1])), (tp, .inr (0, [.ref td, .int 0]))])) := by
  refine CT.of (by decide) (nb rfl) ?_
  intro p e s m args below meth c C hr
  refine j_lv (lv' := [(0, .ref x)]) rfl ?_
  refine j_aload_n (pc := 0) C d_Nine_tapeIsImage_0 rfl 0 rfl ?_
  refine j_get (pc := 1) C gf_Nine_41 0 rfl rfl d_Nine_tapeIsImage_1 ?_
  refine j_get (pc := 4) C gf_Nine_89 2 rfl rfl d_Nine_tapeIsImage_4 ?_
  refine j_get (pc := 7) C gf_Nine_93 3 rfl rfl d_Nine_tapeIsImage_7 ?_
  refine j_istore_n (pc := 10) C (lv' := [(1, .int 0), (0, .ref x)]) d_Nine_tapeIsImage_10 rfl (by decide) rfl ?_
  refine j_aload_n (pc := 11) C d_Nine_tapeIsImage_11 rfl 1 rfl ?_
  refine j_get (pc := 12) C gf_Nine_14 0 rfl rfl d_Nine_tapeIsImage_12 ?_
  refine j_get (pc := 15) C gf_Nine_70 1 rfl rfl d_Nine_tapeIsImage_15 ?_
  refine j_iconst (pc := 18) C (v := 5) d_Nine_tapeIsImage_18 (by decide) ?_
  refine j_iload_n (pc := 19) C d_Nine_tapeIsImage_19 rfl 0 rfl ?_
  refine j_iadd (pc := 20) C (v := 5) d_Nine_tapeIsImage_20 (by decide) ?_
  refine j_iconst (pc := 21) C (v := 1) d_Nine_tapeIsImage_21 (by decide) ?_
  refine j_iadd (pc := 22) C (v := 6) d_Nine_tapeIsImage_22 (by decide) ?_
  refine j_icmp_neT (pc := 23) C (tgt := 61) d_Nine_tapeIsImage_23 (by decide) (by decide) ?_
  refine j_iconst (pc := 61) C (v := 0) d_Nine_tapeIsImage_61 (by decide) ?_
  exact j_iret (pc := 62) C hr (by decide) () rfl [0, 1] rfl (by decide) (by decide) (by decide) d_Nine_tapeIsImage_62
theorem d_Nine_on_0 : decode prog_1_method_34_code 0 = .ok (.aload_n 0, 1) := by decide +kernel
theorem d_Nine_on_1 : decode prog_1_method_34_code 1 = .ok (.invokevirtual 317, 3) := by decide +kernel
theorem kw_Nine_317 : KW "NineBoards" 317 ⟨"NineBoards", "tapeIsImage", "()Z"⟩ prog_1_method_46_code 3 (some .boolean) 0 := ⟨(mt_5 (List.mem_of_getElem? (i := 78) rfl) rfl), (mt_1 (List.mem_of_getElem? (i := 1) rfl) rfl), (mt_5 (List.mem_of_getElem? (i := 81) rfl) rfl), by decide +kernel⟩
theorem kv_Nine_tapeIsImage : Cond.instanceMethod ⟨"NineBoards", "tapeIsImage", "()Z"⟩ ∈ TB ∧ Cond.selects "NineBoards" ⟨"NineBoards", "tapeIsImage", "()Z"⟩ ⟨"NineBoards", "tapeIsImage", "()Z"⟩ ∈ TB := ⟨(mt_5 (List.mem_of_getElem? (i := 80) rfl) rfl), (ms_0 (List.mem_map.mpr ⟨(⟨"NineBoards", "tapeIsImage", "()Z"⟩, 10), List.mem_of_getElem? (i := 48) (by decide +kernel), rfl⟩) rfl)⟩
theorem d_Nine_on_4 : decode prog_1_method_34_code 4 = .ok (.istore_n 1, 1) := by decide +kernel
theorem d_Nine_on_5 : decode prog_1_method_34_code 5 = .ok (.iload_n 1, 1) := by decide +kernel
theorem d_Nine_on_6 : decode prog_1_method_34_code 6 = .ok (.ifCond .eq 72, 3) := by decide +kernel
theorem d_Nine_on_78 : decode prog_1_method_34_code 78 = .ok (.aload_n 0, 1) := by decide +kernel
theorem d_Nine_on_79 : decode prog_1_method_34_code 79 = .ok (.getfield 14, 3) := by decide +kernel
theorem d_Nine_on_82 : decode prog_1_method_34_code 82 = .ok (.iconst 0, 1) := by decide +kernel
theorem d_Nine_on_83 : decode prog_1_method_34_code 83 = .ok (.putfield 70, 3) := by decide +kernel
theorem d_Nine_on_86 : decode prog_1_method_34_code 86 = .ok (.iload_n 1, 1) := by decide +kernel
theorem d_Nine_on_87 : decode prog_1_method_34_code 87 = .ok (.ireturn, 1) := by decide +kernel
set_option maxHeartbeats 4000000 in
set_option maxRecDepth 100000 in
theorem c_N_on (l : Launch) (D : va_G) (y : Nat → ClassId) (x : Nat) (tp : Nat) (pi : Nat) (nw : Nat) (tr : Nat) (ps : Nat) (k : Nat) (k2 : Nat) (rd : Nat) (pl : Nat) (td : Nat) (g : Nat) (vn : Nat) (vg : Nat) (t : Nat) (r : Nat) (g0 : Nat) (g1 : Nat) (g2 : Nat) (g3 : Nat) (g4 : Nat) (g5 : Nat) (g6 : Nat)  : CT l D y ⟨"NineBoards", "on", "()Z"⟩ prog_1_method_34_code 3 (some .boolean) ({ frames := 1, cells := 0, slots := 0, locals := 22 } : Room) [.ref x] [(x, .inr (9, [.ref tp, .ref pi, .ref nw, .ref tr, .ref ps, .ref k, .ref k2, .ref rd, .ref pl, .int 1])), (tp, .inr (0, [.ref td, .int 0])), (k, .inr (2, [.int 0, .int 1, .int 1, .int 0, .ref g, .int 0, .ref vn, .ref vg, .ref t, .ref r, .int 0, .int 0, .int 9999, .int 0])), (g, .inr (1, [.int 0, .ref g0, .ref g1, .ref g2, .ref g3, .ref g4, .ref g5, .ref g6]))] (QI D [(x, .inr (9, [.ref tp, .ref pi, .ref nw, .ref tr, .ref ps, .ref k, .ref k2, .ref rd, .ref pl, .int 1])), (tp, .inr (0, [.ref td, .int 0])), (k, .inr (2, [.int 0, .int 1, .int 1, .int 0, .ref g, .int 0, .ref vn, .ref vg, .ref t, .ref r, .int 0, .int 0, .int 9999, .int 0])), (g, .inr (1, [.int 0, .ref g0, .ref g1, .ref g2, .ref g3, .ref g4, .ref g5, .ref g6]))] (fun (r : Int32) (_ : Unit) => r = 0) (fun _ => [])) := by
  refine CT.of (by decide) (nb rfl) ?_
  intro p e s m args below meth c C hr
  refine j_lv (lv' := [(0, .ref x)]) rfl ?_
  refine j_aload_n (pc := 0) C d_Nine_on_0 rfl 0 rfl ?_
  refine j_callVi (pc := 1) C (c_N_isImage l D y x tp pi nw tr ps k k2 rd pl td g vn vg t r g0 g1 g2 g3 g4 g5 g6) kw_Nine_317 kv_Nine_tapeIsImage 0 9 rfl rfl ⟨by decide, by decide⟩ ⟨by decide, by decide⟩ (wr := []) [0, 1, 2, 3] [] rfl rfl (by decide) (by decide) (by decide) (As := []) (rest := []) rfl (nb rfl) rfl d_Nine_on_1 (fun r1 _ hr1 => ?_)
  subst hr1
  refine j_ws (ws' := [(x, .inr (9, [.ref tp, .ref pi, .ref nw, .ref tr, .ref ps, .ref k, .ref k2, .ref rd, .ref pl, .int 1])), (tp, .inr (0, [.ref td, .int 0]))]) rfl ?_
  refine j_st (st' := [.int 0]) rfl ?_
  refine j_istore_n (pc := 4) C (lv' := [(1, .int 0), (0, .ref x)]) d_Nine_on_4 rfl (by decide) rfl ?_
  refine j_iload_n (pc := 5) C d_Nine_on_5 rfl 0 rfl ?_
  refine j_if_eqT (pc := 6) C (tgt := 78) d_Nine_on_6 (by decide) (by decide) ?_
  refine j_aload_n (pc := 78) C d_Nine_on_78 rfl 1 rfl ?_
  refine j_get (pc := 79) C gf_Nine_14 0 rfl rfl d_Nine_on_79 ?_
  refine j_iconst (pc := 82) C (v := 0) d_Nine_on_82 (by decide) ?_
  refine j_put (pc := 83) C pf_Nine_70 1 (ws' := [(x, .inr (9, [.ref tp, .ref pi, .ref nw, .ref tr, .ref ps, .ref k, .ref k2, .ref rd, .ref pl, .int 1])), (tp, .inr (0, [.ref td, .int 0]))]) rfl rfl rfl (nl rfl) rfl d_Nine_on_83 ?_
  refine j_iload_n (pc := 86) C d_Nine_on_86 rfl 0 rfl ?_
  exact j_iret (pc := 87) C hr (by decide) () rfl [] rfl (by decide) (by decide) (by decide) d_Nine_on_87
theorem d_Nine_canLookAtDawn_0 : decode prog_1_method_40_code 0 = .ok (.aload_n 0, 1) := by decide +kernel
theorem d_Nine_canLookAtDawn_1 : decode prog_1_method_40_code 1 = .ok (.getfield 24, 3) := by decide +kernel
theorem d_Nine_canLookAtDawn_4 : decode prog_1_method_40_code 4 = .ok (.getfield 124, 3) := by decide +kernel
theorem d_Nine_canLookAtDawn_7 : decode prog_1_method_40_code 7 = .ok (.sipush 999, 3) := by decide +kernel
theorem d_Nine_canLookAtDawn_10 : decode prog_1_method_40_code 10 = .ok (.if_icmp .ge 29, 3) := by decide +kernel
theorem d_Nine_canLookAtDawn_13 : decode prog_1_method_40_code 13 = .ok (.aload_n 0, 1) := by decide +kernel
theorem d_Nine_canLookAtDawn_14 : decode prog_1_method_40_code 14 = .ok (.getfield 14, 3) := by decide +kernel
theorem d_Nine_canLookAtDawn_17 : decode prog_1_method_40_code 17 = .ok (.getfield 70, 3) := by decide +kernel
theorem d_Nine_canLookAtDawn_20 : decode prog_1_method_40_code 20 = .ok (.iconst 2, 1) := by decide +kernel
theorem d_Nine_canLookAtDawn_21 : decode prog_1_method_40_code 21 = .ok (.aload_n 0, 1) := by decide +kernel
theorem d_Nine_canLookAtDawn_22 : decode prog_1_method_40_code 22 = .ok (.getfield 41, 3) := by decide +kernel
theorem d_Nine_canLookAtDawn_25 : decode prog_1_method_40_code 25 = .ok (.getfield 89, 3) := by decide +kernel
theorem d_Nine_canLookAtDawn_28 : decode prog_1_method_40_code 28 = .ok (.getfield 93, 3) := by decide +kernel
theorem d_Nine_canLookAtDawn_31 : decode prog_1_method_40_code 31 = .ok (.imul, 1) := by decide +kernel
theorem d_Nine_canLookAtDawn_32 : decode prog_1_method_40_code 32 = .ok (.if_icmp .ne 7, 3) := by decide +kernel
theorem d_Nine_canLookAtDawn_35 : decode prog_1_method_40_code 35 = .ok (.iconst 1, 1) := by decide +kernel
theorem d_Nine_canLookAtDawn_36 : decode prog_1_method_40_code 36 = .ok (.goto 4, 3) := by decide +kernel
theorem d_Nine_canLookAtDawn_40 : decode prog_1_method_40_code 40 = .ok (.ireturn, 1) := by decide +kernel
set_option maxHeartbeats 4000000 in
set_option maxRecDepth 100000 in
theorem c_N_canLook (l : Launch) (D : va_G) (y : Nat → ClassId) (x : Nat) (tp : Nat) (pi : Nat) (nw : Nat) (tr : Nat) (ps : Nat) (k : Nat) (k2 : Nat) (rd : Nat) (pl : Nat) (n0 : Nat) (n1 : Nat) (n2 : Nat) (n3 : Nat) (n4 : Nat) (n5 : Nat) (n6 : Nat) (td : Nat) (g : Nat) (vn : Nat) (vg : Nat) (t : Nat) (r : Nat) (g0 : Nat) (g1 : Nat) (g2 : Nat) (g3 : Nat) (g4 : Nat) (g5 : Nat) (g6 : Nat)  : CT l D y ⟨"NineBoards", "canLookAtDawn", "()Z"⟩ prog_1_method_40_code 1 (some .boolean) ({ frames := 0, cells := 0, slots := 0, locals := 0 } : Room) [.ref x] [(x, .inr (9, [.ref tp, .ref pi, .ref nw, .ref tr, .ref ps, .ref k, .ref k2, .ref rd, .ref pl, .int 1])), (nw, .inr (7, [.int 0, .int 0, .int 0, .ref n0, .ref n1, .ref n2, .ref n3, .ref n4, .ref n5, .ref n6])), (tp, .inr (0, [.ref td, .int 0])), (k, .inr (2, [.int 0, .int 1, .int 1, .int 0, .ref g, .int 0, .ref vn, .ref vg, .ref t, .ref r, .int 0, .int 0, .int 9999, .int 0])), (g, .inr (1, [.int 0, .ref g0, .ref g1, .ref g2, .ref g3, .ref g4, .ref g5, .ref g6]))] (QI D [(x, .inr (9, [.ref tp, .ref pi, .ref nw, .ref tr, .ref ps, .ref k, .ref k2, .ref rd, .ref pl, .int 1])), (nw, .inr (7, [.int 0, .int 0, .int 0, .ref n0, .ref n1, .ref n2, .ref n3, .ref n4, .ref n5, .ref n6])), (tp, .inr (0, [.ref td, .int 0])), (k, .inr (2, [.int 0, .int 1, .int 1, .int 0, .ref g, .int 0, .ref vn, .ref vg, .ref t, .ref r, .int 0, .int 0, .int 9999, .int 0])), (g, .inr (1, [.int 0, .ref g0, .ref g1, .ref g2, .ref g3, .ref g4, .ref g5, .ref g6]))] (fun (r : Int32) (_ : Unit) => r = 1) (fun _ => [(x, .inr (9, [.ref tp, .ref pi, .ref nw, .ref tr, .ref ps, .ref k, .ref k2, .ref rd, .ref pl, .int 1])), (nw, .inr (7, [.int 0, .int 0, .int 0, .ref n0, .ref n1, .ref n2, .ref n3, .ref n4, .ref n5, .ref n6])), (tp, .inr (0, [.ref td, .int 0])), (k, .inr (2, [.int 0, .int 1, .int 1, .int 0, .ref g, .int 0, .ref vn, .ref vg, .ref t, .ref r, .int 0, .int 0, .int 9999, .int 0])), (g, .inr (1, [.int 0, .ref g0, .ref g1, .ref g2, .ref g3, .ref g4, .ref g5, .ref g6]))])) := by
  refine CT.of (by decide) (nb rfl) ?_
  intro p e s m args below meth c C hr
  refine j_lv (lv' := [(0, .ref x)]) rfl ?_
  refine j_aload_n (pc := 0) C d_Nine_canLookAtDawn_0 rfl 0 rfl ?_
  refine j_get (pc := 1) C gf_Nine_24 0 rfl rfl d_Nine_canLookAtDawn_1 ?_
  refine j_get (pc := 4) C gf_Nine_124 1 rfl rfl d_Nine_canLookAtDawn_4 ?_
  refine j_sipush (pc := 7) C (v := 999) d_Nine_canLookAtDawn_7 (by decide) ?_
  refine j_icmp_geF (pc := 10) C (tgt := 39) d_Nine_canLookAtDawn_10 (by decide) (by decide) ?_
  refine j_aload_n (pc := 13) C d_Nine_canLookAtDawn_13 rfl 0 rfl ?_
  refine j_get (pc := 14) C gf_Nine_14 0 rfl rfl d_Nine_canLookAtDawn_14 ?_
  refine j_get (pc := 17) C gf_Nine_70 2 rfl rfl d_Nine_canLookAtDawn_17 ?_
  refine j_iconst (pc := 20) C (v := 2) d_Nine_canLookAtDawn_20 (by decide) ?_
  refine j_aload_n (pc := 21) C d_Nine_canLookAtDawn_21 rfl 0 rfl ?_
  refine j_get (pc := 22) C gf_Nine_41 0 rfl rfl d_Nine_canLookAtDawn_22 ?_
  refine j_get (pc := 25) C gf_Nine_89 3 rfl rfl d_Nine_canLookAtDawn_25 ?_
  refine j_get (pc := 28) C gf_Nine_93 4 rfl rfl d_Nine_canLookAtDawn_28 ?_
  refine j_imul (pc := 31) C (v := 0) d_Nine_canLookAtDawn_31 (by decide) ?_
  refine j_icmp_neF (pc := 32) C (tgt := 39) d_Nine_canLookAtDawn_32 (by decide) (by decide) ?_
  refine j_iconst (pc := 35) C (v := 1) d_Nine_canLookAtDawn_35 (by decide) ?_
  refine j_goto (pc := 36) C (tgt := 40) d_Nine_canLookAtDawn_36 (by decide) ?_
  exact j_iret (pc := 40) C hr (by decide) () rfl [0, 1, 2, 3, 4] rfl (by decide) (by decide) (by decide) d_Nine_canLookAtDawn_40
theorem d_Nine_trialIsSeen_0 : decode prog_1_method_42_code 0 = .ok (.aload_n 0, 1) := by decide +kernel
theorem d_Nine_trialIsSeen_1 : decode prog_1_method_42_code 1 = .ok (.getfield 41, 3) := by decide +kernel
theorem d_Nine_trialIsSeen_4 : decode prog_1_method_42_code 4 = .ok (.aload_n 0, 1) := by decide +kernel
theorem d_Nine_trialIsSeen_5 : decode prog_1_method_42_code 5 = .ok (.getfield 28, 3) := by decide +kernel
theorem gf_Nine_28 : GF "NineBoards" 28 9 3 := ⟨_, _, _, rfl, ci_Nine, by decide, (mt_2 (List.mem_of_getElem? (i := 234) rfl) rfl)⟩
theorem d_Nine_trialIsSeen_8 : decode prog_1_method_42_code 8 = .ok (.invokestatic 164, 3) := by decide +kernel
theorem kw_Nine_164 : KW "NineBoards" 164 ⟨"NineBoards$Days", "setFlows", "(LNineBoards$Lake;LNineBoards$State;)I"⟩ prog_3_method_8_code 5 (some .int) 2 := ⟨(mt_4 (List.mem_of_getElem? (i := 3) rfl) rfl), (mt_1 (List.mem_of_getElem? (i := 18) rfl) rfl), (mt_4 (List.mem_of_getElem? (i := 5) rfl) rfl), by decide +kernel⟩
theorem d_Nine_trialIsSeen_11 : decode prog_1_method_42_code 11 = .ok (.pop, 1) := by decide +kernel
theorem d_Nine_trialIsSeen_12 : decode prog_1_method_42_code 12 = .ok (.iconst 0, 1) := by decide +kernel
theorem d_Nine_trialIsSeen_13 : decode prog_1_method_42_code 13 = .ok (.istore_n 1, 1) := by decide +kernel
theorem d_Nine_trialIsSeen_14 : decode prog_1_method_42_code 14 = .ok (.iload_n 1, 1) := by decide +kernel
theorem d_Nine_trialIsSeen_15 : decode prog_1_method_42_code 15 = .ok (.aload_n 0, 1) := by decide +kernel
theorem d_Nine_trialIsSeen_16 : decode prog_1_method_42_code 16 = .ok (.getfield 41, 3) := by decide +kernel
theorem d_Nine_trialIsSeen_19 : decode prog_1_method_42_code 19 = .ok (.getfield 89, 3) := by decide +kernel
theorem d_Nine_trialIsSeen_22 : decode prog_1_method_42_code 22 = .ok (.getfield 93, 3) := by decide +kernel
theorem d_Nine_trialIsSeen_25 : decode prog_1_method_42_code 25 = .ok (.if_icmp .ge 33, 3) := by decide +kernel
theorem d_Nine_trialIsSeen_58 : decode prog_1_method_42_code 58 = .ok (.iconst 1, 1) := by decide +kernel
theorem d_Nine_trialIsSeen_59 : decode prog_1_method_42_code 59 = .ok (.ireturn, 1) := by decide +kernel
set_option maxHeartbeats 4000000 in
set_option maxRecDepth 100000 in
theorem c_N_seen (l : Launch) (D : va_G) (y : Nat → ClassId) (x : Nat) (tp : Nat) (pi : Nat) (nw : Nat) (tr : Nat) (ps : Nat) (k : Nat) (k2 : Nat) (rd : Nat) (pl : Nat) (g : Nat) (vn : Nat) (vg : Nat) (t : Nat) (r : Nat) (g0 : Nat) (g1 : Nat) (g2 : Nat) (g3 : Nat) (g4 : Nat) (g5 : Nat) (g6 : Nat) (dt : Int32) (m0 : Nat) (m1 : Nat) (m2 : Nat) (m3 : Nat) (m4 : Nat) (m5 : Nat) (m6 : Nat)  : CT l D y ⟨"NineBoards", "trialIsSeen", "()Z"⟩ prog_1_method_42_code 2 (some .boolean) ({ frames := 3, cells := 0, slots := 0, locals := 67 } : Room) [.ref x] [(x, .inr (9, [.ref tp, .ref pi, .ref nw, .ref tr, .ref ps, .ref k, .ref k2, .ref rd, .ref pl, .int 1])), (k, .inr (2, [.int 0, .int 1, .int 1, .int 0, .ref g, .int 0, .ref vn, .ref vg, .ref t, .ref r, .int 0, .int 0, .int 9999, .int 0])), (g, .inr (1, [.int 0, .ref g0, .ref g1, .ref g2, .ref g3, .ref g4, .ref g5, .ref g6])), (tr, .inr (7, [.int dt, .int 0, .int 0, .ref m0, .ref m1, .ref m2, .ref m3, .ref m4, .ref m5, .ref m6]))] (QI D [(x, .inr (9, [.ref tp, .ref pi, .ref nw, .ref tr, .ref ps, .ref k, .ref k2, .ref rd, .ref pl, .int 1])), (k, .inr (2, [.int 0, .int 1, .int 1, .int 0, .ref g, .int 0, .ref vn, .ref vg, .ref t, .ref r, .int 0, .int 0, .int 9999, .int 0])), (g, .inr (1, [.int 0, .ref g0, .ref g1, .ref g2, .ref g3, .ref g4, .ref g5, .ref g6])), (tr, .inr (7, [.int dt, .int 0, .int 0, .ref m0, .ref m1, .ref m2, .ref m3, .ref m4, .ref m5, .ref m6]))] (fun (r : Int32) (_ : Unit) => r = 1) (fun _ => [(x, .inr (9, [.ref tp, .ref pi, .ref nw, .ref tr, .ref ps, .ref k, .ref k2, .ref rd, .ref pl, .int 1])), (k, .inr (2, [.int 0, .int 1, .int 1, .int 0, .ref g, .int 0, .ref vn, .ref vg, .ref t, .ref r, .int 0, .int 0, .int 9999, .int 0])), (g, .inr (1, [.int 0, .ref g0, .ref g1, .ref g2, .ref g3, .ref g4, .ref g5, .ref g6]))])) := by
  refine CT.of (by decide) (nb rfl) ?_
  intro p e s m args below meth c C hr
  refine j_lv (lv' := [(0, .ref x)]) rfl ?_
  refine j_aload_n (pc := 0) C d_Nine_trialIsSeen_0 rfl 0 rfl ?_
  refine j_get (pc := 1) C gf_Nine_41 0 rfl rfl d_Nine_trialIsSeen_1 ?_
  refine j_aload_n (pc := 4) C d_Nine_trialIsSeen_4 rfl 0 rfl ?_
  refine j_get (pc := 5) C gf_Nine_28 0 rfl rfl d_Nine_trialIsSeen_5 ?_
  refine j_callSi (pc := 8) C (c_setFlows l D y k g vn vg t r g0 g1 g2 g3 g4 g5 g6 tr m0 m1 m2 m3 m4 m5 m6 dt) kw_Nine_164 ks_Days_setFlows ⟨by decide, by decide⟩ ⟨by decide, by decide⟩ (wr := [(x, .inr (9, [.ref tp, .ref pi, .ref nw, .ref tr, .ref ps, .ref k, .ref k2, .ref rd, .ref pl, .int 1]))]) [1, 2, 3] [0] rfl rfl (by decide) (by decide) (by decide) (As := [.ref k, .ref tr]) (rest := []) rfl (nb rfl) rfl d_Nine_trialIsSeen_8 (fun r1 _ hr1 => ?_)
  subst hr1
  refine j_ws (ws' := [(x, .inr (9, [.ref tp, .ref pi, .ref nw, .ref tr, .ref ps, .ref k, .ref k2, .ref rd, .ref pl, .int 1])), (k, .inr (2, [.int 0, .int 1, .int 1, .int 0, .ref g, .int 0, .ref vn, .ref vg, .ref t, .ref r, .int 0, .int 0, .int 9999, .int 0])), (g, .inr (1, [.int 0, .ref g0, .ref g1, .ref g2, .ref g3, .ref g4, .ref g5, .ref g6])), (tr, .inr (7, [.int dt, .int 0, .int 0, .ref m0, .ref m1, .ref m2, .ref m3, .ref m4, .ref m5, .ref m6]))]) rfl ?_
  refine j_st (st' := [.int 0]) rfl ?_
  refine j_pop (pc := 11) C d_Nine_trialIsSeen_11 rfl ?_
  refine j_iconst (pc := 12) C (v := 0) d_Nine_trialIsSeen_12 (by decide) ?_
  refine j_istore_n (pc := 13) C (lv' := [(1, .int 0), (0, .ref x)]) d_Nine_trialIsSeen_13 rfl (by decide) rfl ?_
  refine j_iload_n (pc := 14) C d_Nine_trialIsSeen_14 rfl 0 rfl ?_
  refine j_aload_n (pc := 15) C d_Nine_trialIsSeen_15 rfl 1 rfl ?_
  refine j_get (pc := 16) C gf_Nine_41 0 rfl rfl d_Nine_trialIsSeen_16 ?_
  refine j_get (pc := 19) C gf_Nine_89 1 rfl rfl d_Nine_trialIsSeen_19 ?_
  refine j_get (pc := 22) C gf_Nine_93 2 rfl rfl d_Nine_trialIsSeen_22 ?_
  refine j_icmp_geT (pc := 25) C (tgt := 58) d_Nine_trialIsSeen_25 (by decide) (by decide) ?_
  refine j_iconst (pc := 58) C (v := 1) d_Nine_trialIsSeen_58 (by decide) ?_
  exact j_iret (pc := 59) C hr (by decide) () rfl [0, 1, 2] rfl (by decide) (by decide) (by decide) d_Nine_trialIsSeen_59
theorem d_Nine_suspects_0 : decode prog_1_method_41_code 0 = .ok (.aload_n 0, 1) := by decide +kernel
theorem d_Nine_suspects_1 : decode prog_1_method_41_code 1 = .ok (.getfield 28, 3) := by decide +kernel
theorem d_Nine_suspects_4 : decode prog_1_method_41_code 4 = .ok (.aload_n 0, 1) := by decide +kernel
theorem d_Nine_suspects_5 : decode prog_1_method_41_code 5 = .ok (.getfield 24, 3) := by decide +kernel
theorem d_Nine_suspects_8 : decode prog_1_method_41_code 8 = .ok (.invokevirtual 160, 3) := by decide +kernel
theorem kw_Nine_160 : KW "NineBoards" 160 ⟨"NineBoards$State", "take", "(LNineBoards$State;)V"⟩ prog_10_method_3_code 2 none 1 := ⟨(mt_3 (List.mem_of_getElem? (i := 236) rfl) rfl), (mt_1 (List.mem_of_getElem? (i := 4) rfl) rfl), (mt_3 (List.mem_of_getElem? (i := 239) rfl) rfl), by decide +kernel⟩
theorem kv_State_take : Cond.instanceMethod ⟨"NineBoards$State", "take", "(LNineBoards$State;)V"⟩ ∈ TB ∧ Cond.selects "NineBoards$State" ⟨"NineBoards$State", "take", "(LNineBoards$State;)V"⟩ ⟨"NineBoards$State", "take", "(LNineBoards$State;)V"⟩ ∈ TB := ⟨(mt_3 (List.mem_of_getElem? (i := 237) rfl) rfl), (mt_3 (List.mem_of_getElem? (i := 238) rfl) rfl)⟩
theorem d_Nine_suspects_11 : decode prog_1_method_41_code 11 = .ok (.aload_n 0, 1) := by decide +kernel
theorem d_Nine_suspects_12 : decode prog_1_method_41_code 12 = .ok (.invokevirtual 330, 3) := by decide +kernel
theorem kw_Nine_330 : KW "NineBoards" 330 ⟨"NineBoards", "trialIsSeen", "()Z"⟩ prog_1_method_42_code 2 (some .boolean) 0 := ⟨(mt_5 (List.mem_of_getElem? (i := 19) rfl) rfl), (mt_1 (List.mem_of_getElem? (i := 1) rfl) rfl), (mt_5 (List.mem_of_getElem? (i := 22) rfl) rfl), by decide +kernel⟩
theorem kv_Nine_trialIsSeen : Cond.instanceMethod ⟨"NineBoards", "trialIsSeen", "()Z"⟩ ∈ TB ∧ Cond.selects "NineBoards" ⟨"NineBoards", "trialIsSeen", "()Z"⟩ ⟨"NineBoards", "trialIsSeen", "()Z"⟩ ∈ TB := ⟨(mt_5 (List.mem_of_getElem? (i := 21) rfl) rfl), (ms_0 (List.mem_map.mpr ⟨(⟨"NineBoards", "trialIsSeen", "()Z"⟩, 10), List.mem_of_getElem? (i := 44) (by decide +kernel), rfl⟩) rfl)⟩
theorem d_Nine_suspects_15 : decode prog_1_method_41_code 15 = .ok (.ifCond .eq 9, 3) := by decide +kernel
theorem d_Nine_suspects_18 : decode prog_1_method_41_code 18 = .ok (.sipush 512, 3) := by decide +kernel
theorem d_Nine_suspects_21 : decode prog_1_method_41_code 21 = .ok (.goto 4, 3) := by decide +kernel
theorem d_Nine_suspects_25 : decode prog_1_method_41_code 25 = .ok (.istore_n 1, 1) := by decide +kernel
theorem d_Nine_suspects_26 : decode prog_1_method_41_code 26 = .ok (.iconst 0, 1) := by decide +kernel
theorem d_Nine_suspects_27 : decode prog_1_method_41_code 27 = .ok (.istore_n 2, 1) := by decide +kernel
theorem d_Nine_suspects_28 : decode prog_1_method_41_code 28 = .ok (.iload_n 2, 1) := by decide +kernel
theorem d_Nine_suspects_29 : decode prog_1_method_41_code 29 = .ok (.aload_n 0, 1) := by decide +kernel
theorem d_Nine_suspects_30 : decode prog_1_method_41_code 30 = .ok (.getfield 41, 3) := by decide +kernel
theorem d_Nine_suspects_33 : decode prog_1_method_41_code 33 = .ok (.getfield 89, 3) := by decide +kernel
theorem d_Nine_suspects_36 : decode prog_1_method_41_code 36 = .ok (.getfield 93, 3) := by decide +kernel
theorem d_Nine_suspects_39 : decode prog_1_method_41_code 39 = .ok (.if_icmp .ge 64, 3) := by decide +kernel
theorem d_Nine_suspects_103 : decode prog_1_method_41_code 103 = .ok (.iload_n 1, 1) := by decide +kernel
theorem d_Nine_suspects_104 : decode prog_1_method_41_code 104 = .ok (.ireturn, 1) := by decide +kernel
set_option maxHeartbeats 4000000 in
set_option maxRecDepth 100000 in
theorem c_N_suspects (l : Launch) (D : va_G) (y : Nat → ClassId) (x : Nat) (tp : Nat) (pi : Nat) (nw : Nat) (tr : Nat) (ps : Nat) (k : Nat) (k2 : Nat) (rd : Nat) (pl : Nat) (g : Nat) (vn : Nat) (vg : Nat) (t : Nat) (r : Nat) (g0 : Nat) (g1 : Nat) (g2 : Nat) (g3 : Nat) (g4 : Nat) (g5 : Nat) (g6 : Nat) (dt : Int32) (m0 : Nat) (m1 : Nat) (m2 : Nat) (m3 : Nat) (m4 : Nat) (m5 : Nat) (m6 : Nat) (n0 : Nat) (n1 : Nat) (n2 : Nat) (n3 : Nat) (n4 : Nat) (n5 : Nat) (n6 : Nat)  : CT l D y ⟨"NineBoards", "suspects", "()I"⟩ prog_1_method_41_code 3 (some .int) ({ frames := 4, cells := 0, slots := 0, locals := 88 } : Room) [.ref x] [(x, .inr (9, [.ref tp, .ref pi, .ref nw, .ref tr, .ref ps, .ref k, .ref k2, .ref rd, .ref pl, .int 1])), (k, .inr (2, [.int 0, .int 1, .int 1, .int 0, .ref g, .int 0, .ref vn, .ref vg, .ref t, .ref r, .int 0, .int 0, .int 9999, .int 0])), (g, .inr (1, [.int 0, .ref g0, .ref g1, .ref g2, .ref g3, .ref g4, .ref g5, .ref g6])), (tr, .inr (7, [.int dt, .int 0, .int 0, .ref m0, .ref m1, .ref m2, .ref m3, .ref m4, .ref m5, .ref m6])), (m0, .inl (y 0, 9, .inl (fun _ => 0))), (m1, .inl (y 0, 9, .inl (fun _ => 0))), (m2, .inl (y 1, 9, .inr (.inl (fun _ => 0)))), (m3, .inl (y 0, 6, .inl (fun _ => 0))), (m4, .inl (y 0, 6, .inl (fun _ => 0))), (m5, .inl (y 0, 16, .inl (fun _ => 0))), (m6, .inl (y 1, 5, .inr (.inl (fun _ => 0)))), (nw, .inr (7, [.int 0, .int 0, .int 0, .ref n0, .ref n1, .ref n2, .ref n3, .ref n4, .ref n5, .ref n6])), (n0, .inl (y 0, 9, .inl (fun _ => 0))), (n1, .inl (y 0, 9, .inl (fun _ => 0))), (n2, .inl (y 1, 9, .inr (.inl (fun _ => 0)))), (n3, .inl (y 0, 6, .inl (fun _ => 0))), (n4, .inl (y 0, 6, .inl (fun _ => 0))), (n5, .inl (y 0, 16, .inl (fun _ => 0))), (n6, .inl (y 1, 5, .inr (.inl (fun _ => 0))))] (QI D [(x, .inr (9, [.ref tp, .ref pi, .ref nw, .ref tr, .ref ps, .ref k, .ref k2, .ref rd, .ref pl, .int 1])), (k, .inr (2, [.int 0, .int 1, .int 1, .int 0, .ref g, .int 0, .ref vn, .ref vg, .ref t, .ref r, .int 0, .int 0, .int 9999, .int 0])), (g, .inr (1, [.int 0, .ref g0, .ref g1, .ref g2, .ref g3, .ref g4, .ref g5, .ref g6])), (tr, .inr (7, [.int dt, .int 0, .int 0, .ref m0, .ref m1, .ref m2, .ref m3, .ref m4, .ref m5, .ref m6])), (m0, .inl (y 0, 9, .inl (fun _ => 0))), (m1, .inl (y 0, 9, .inl (fun _ => 0))), (m2, .inl (y 1, 9, .inr (.inl (fun _ => 0)))), (m3, .inl (y 0, 6, .inl (fun _ => 0))), (m4, .inl (y 0, 6, .inl (fun _ => 0))), (m5, .inl (y 0, 16, .inl (fun _ => 0))), (m6, .inl (y 1, 5, .inr (.inl (fun _ => 0)))), (nw, .inr (7, [.int 0, .int 0, .int 0, .ref n0, .ref n1, .ref n2, .ref n3, .ref n4, .ref n5, .ref n6])), (n0, .inl (y 0, 9, .inl (fun _ => 0))), (n1, .inl (y 0, 9, .inl (fun _ => 0))), (n2, .inl (y 1, 9, .inr (.inl (fun _ => 0)))), (n3, .inl (y 0, 6, .inl (fun _ => 0))), (n4, .inl (y 0, 6, .inl (fun _ => 0))), (n5, .inl (y 0, 16, .inl (fun _ => 0))), (n6, .inl (y 1, 5, .inr (.inl (fun _ => 0))))] (fun (r : Int32) (_ : Unit) => r = 512) (fun _ => [(x, .inr (9, [.ref tp, .ref pi, .ref nw, .ref tr, .ref ps, .ref k, .ref k2, .ref rd, .ref pl, .int 1]))])) := by
  refine CT.of (by decide) (nb rfl) ?_
  intro p e s m args below meth c C hr
  refine j_lv (lv' := [(0, .ref x)]) rfl ?_
  refine j_aload_n (pc := 0) C d_Nine_suspects_0 rfl 0 rfl ?_
  refine j_get (pc := 1) C gf_Nine_28 0 rfl rfl d_Nine_suspects_1 ?_
  refine j_aload_n (pc := 4) C d_Nine_suspects_4 rfl 0 rfl ?_
  refine j_get (pc := 5) C gf_Nine_24 0 rfl rfl d_Nine_suspects_5 ?_
  refine j_callVv (pc := 8) C (c_take l D y tr m0 m1 m2 m3 m4 m5 m6 dt nw n0 n1 n2 n3 n4 n5 n6 0) kw_Nine_160 kv_State_take 0 7 rfl rfl ⟨by decide, by decide⟩ ⟨by decide, by decide⟩ (wr := [(x, .inr (9, [.ref tp, .ref pi, .ref nw, .ref tr, .ref ps, .ref k, .ref k2, .ref rd, .ref pl, .int 1])), (k, .inr (2, [.int 0, .int 1, .int 1, .int 0, .ref g, .int 0, .ref vn, .ref vg, .ref t, .ref r, .int 0, .int 0, .int 9999, .int 0])), (g, .inr (1, [.int 0, .ref g0, .ref g1, .ref g2, .ref g3, .ref g4, .ref g5, .ref g6]))]) [3, 4, 5, 6, 7, 8, 9, 10, 11, 12, 13, 14, 15, 16, 17, 18] [0, 1, 2] rfl rfl (by decide) (by decide) (by decide) (As := [.ref nw]) (rest := []) rfl (nb rfl) rfl d_Nine_suspects_8 (fun _ _ => ?_)
  refine j_ws (ws' := [(x, .inr (9, [.ref tp, .ref pi, .ref nw, .ref tr, .ref ps, .ref k, .ref k2, .ref rd, .ref pl, .int 1])), (k, .inr (2, [.int 0, .int 1, .int 1, .int 0, .ref g, .int 0, .ref vn, .ref vg, .ref t, .ref r, .int 0, .int 0, .int 9999, .int 0])), (g, .inr (1, [.int 0, .ref g0, .ref g1, .ref g2, .ref g3, .ref g4, .ref g5, .ref g6])), (tr, .inr (7, [.int 0, .int 0, .int 0, .ref m0, .ref m1, .ref m2, .ref m3, .ref m4, .ref m5, .ref m6])), (m0, .inl (y 0, 9, .inl (fun _ => 0))), (m1, .inl (y 0, 9, .inl (fun _ => 0))), (m2, .inl (y 1, 9, .inr (.inl (fun _ => 0)))), (m3, .inl (y 0, 6, .inl (fun _ => 0))), (m4, .inl (y 0, 6, .inl (fun _ => 0))), (m5, .inl (y 0, 16, .inl (fun _ => 0))), (m6, .inl (y 1, 5, .inr (.inl (fun _ => 0)))), (nw, .inr (7, [.int 0, .int 0, .int 0, .ref n0, .ref n1, .ref n2, .ref n3, .ref n4, .ref n5, .ref n6])), (n0, .inl (y 0, 9, .inl (fun _ => 0))), (n1, .inl (y 0, 9, .inl (fun _ => 0))), (n2, .inl (y 1, 9, .inr (.inl (fun _ => 0)))), (n3, .inl (y 0, 6, .inl (fun _ => 0))), (n4, .inl (y 0, 6, .inl (fun _ => 0))), (n5, .inl (y 0, 16, .inl (fun _ => 0))), (n6, .inl (y 1, 5, .inr (.inl (fun _ => 0))))]) rfl ?_
  refine j_aload_n (pc := 11) C d_Nine_suspects_11 rfl 0 rfl ?_
  refine j_callVi (pc := 12) C (c_N_seen l D y x tp pi nw tr ps k k2 rd pl g vn vg t r g0 g1 g2 g3 g4 g5 g6 0 m0 m1 m2 m3 m4 m5 m6) kw_Nine_330 kv_Nine_trialIsSeen 0 9 rfl rfl ⟨by decide, by decide⟩ ⟨by decide, by decide⟩ (wr := [(m0, .inl (y 0, 9, .inl (fun _ => 0))), (m1, .inl (y 0, 9, .inl (fun _ => 0))), (m2, .inl (y 1, 9, .inr (.inl (fun _ => 0)))), (m3, .inl (y 0, 6, .inl (fun _ => 0))), (m4, .inl (y 0, 6, .inl (fun _ => 0))), (m5, .inl (y 0, 16, .inl (fun _ => 0))), (m6, .inl (y 1, 5, .inr (.inl (fun _ => 0)))), (nw, .inr (7, [.int 0, .int 0, .int 0, .ref n0, .ref n1, .ref n2, .ref n3, .ref n4, .ref n5, .ref n6])), (n0, .inl (y 0, 9, .inl (fun _ => 0))), (n1, .inl (y 0, 9, .inl (fun _ => 0))), (n2, .inl (y 1, 9, .inr (.inl (fun _ => 0)))), (n3, .inl (y 0, 6, .inl (fun _ => 0))), (n4, .inl (y 0, 6, .inl (fun _ => 0))), (n5, .inl (y 0, 16, .inl (fun _ => 0))), (n6, .inl (y 1, 5, .inr (.inl (fun _ => 0))))]) [0, 1, 2, 3] [4, 5, 6, 7, 8, 9, 10, 11, 12, 13, 14, 15, 16, 17, 18] rfl rfl (by decide) (by decide) (by decide) (As := []) (rest := []) rfl (nb rfl) rfl d_Nine_suspects_12 (fun r1 _ hr1 => ?_)
  subst hr1
  refine j_ws (ws' := [(m0, .inl (y 0, 9, .inl (fun _ => 0))), (m1, .inl (y 0, 9, .inl (fun _ => 0))), (m2, .inl (y 1, 9, .inr (.inl (fun _ => 0)))), (m3, .inl (y 0, 6, .inl (fun _ => 0))), (m4, .inl (y 0, 6, .inl (fun _ => 0))), (m5, .inl (y 0, 16, .inl (fun _ => 0))), (m6, .inl (y 1, 5, .inr (.inl (fun _ => 0)))), (nw, .inr (7, [.int 0, .int 0, .int 0, .ref n0, .ref n1, .ref n2, .ref n3, .ref n4, .ref n5, .ref n6])), (n0, .inl (y 0, 9, .inl (fun _ => 0))), (n1, .inl (y 0, 9, .inl (fun _ => 0))), (n2, .inl (y 1, 9, .inr (.inl (fun _ => 0)))), (n3, .inl (y 0, 6, .inl (fun _ => 0))), (n4, .inl (y 0, 6, .inl (fun _ => 0))), (n5, .inl (y 0, 16, .inl (fun _ => 0))), (n6, .inl (y 1, 5, .inr (.inl (fun _ => 0)))), (x, .inr (9, [.ref tp, .ref pi, .ref nw, .ref tr, .ref ps, .ref k, .ref k2, .ref rd, .ref pl, .int 1])), (k, .inr (2, [.int 0, .int 1, .int 1, .int 0, .ref g, .int 0, .ref vn, .ref vg, .ref t, .ref r, .int 0, .int 0, .int 9999, .int 0])), (g, .inr (1, [.int 0, .ref g0, .ref g1, .ref g2, .ref g3, .ref g4, .ref g5, .ref g6]))]) rfl ?_
  refine j_st (st' := [.int 1]) rfl ?_
  refine j_if_eqF (pc := 15) C (tgt := 24) d_Nine_suspects_15 (by decide) (by decide) ?_
  refine j_sipush (pc := 18) C (v := 512) d_Nine_suspects_18 (by decide) ?_
  refine j_goto (pc := 21) C (tgt := 25) d_Nine_suspects_21 (by decide) ?_
  refine j_istore_n (pc := 25) C (lv' := [(1, .int 512), (0, .ref x)]) d_Nine_suspects_25 rfl (by decide) rfl ?_
  refine j_iconst (pc := 26) C (v := 0) d_Nine_suspects_26 (by decide) ?_
  refine j_istore_n (pc := 27) C (lv' := [(2, .int 0), (1, .int 512), (0, .ref x)]) d_Nine_suspects_27 rfl (by decide) rfl ?_
  refine j_iload_n (pc := 28) C d_Nine_suspects_28 rfl 0 rfl ?_
  refine j_aload_n (pc := 29) C d_Nine_suspects_29 rfl 2 rfl ?_
  refine j_get (pc := 30) C gf_Nine_41 15 rfl rfl d_Nine_suspects_30 ?_
  refine j_get (pc := 33) C gf_Nine_89 16 rfl rfl d_Nine_suspects_33 ?_
  refine j_get (pc := 36) C gf_Nine_93 17 rfl rfl d_Nine_suspects_36 ?_
  refine j_icmp_geT (pc := 39) C (tgt := 103) d_Nine_suspects_39 (by decide) (by decide) ?_
  refine j_iload_n (pc := 103) C d_Nine_suspects_103 rfl 1 rfl ?_
  exact j_iret (pc := 104) C hr rfl () rfl [15] rfl (by decide) (by decide) (by decide) d_Nine_suspects_104
theorem d_Nine_dammedGate_0 : decode prog_1_method_43_code 0 = .ok (.aload_n 0, 1) := by decide +kernel
theorem d_Nine_dammedGate_1 : decode prog_1_method_43_code 1 = .ok (.getfield 28, 3) := by decide +kernel
theorem d_Nine_dammedGate_4 : decode prog_1_method_43_code 4 = .ok (.aload_n 0, 1) := by decide +kernel
theorem d_Nine_dammedGate_5 : decode prog_1_method_43_code 5 = .ok (.getfield 24, 3) := by decide +kernel
theorem d_Nine_dammedGate_8 : decode prog_1_method_43_code 8 = .ok (.invokevirtual 160, 3) := by decide +kernel
theorem d_Nine_dammedGate_11 : decode prog_1_method_43_code 11 = .ok (.aload_n 0, 1) := by decide +kernel
theorem d_Nine_dammedGate_12 : decode prog_1_method_43_code 12 = .ok (.getfield 41, 3) := by decide +kernel
theorem d_Nine_dammedGate_15 : decode prog_1_method_43_code 15 = .ok (.aload_n 0, 1) := by decide +kernel
theorem d_Nine_dammedGate_16 : decode prog_1_method_43_code 16 = .ok (.getfield 28, 3) := by decide +kernel
theorem d_Nine_dammedGate_19 : decode prog_1_method_43_code 19 = .ok (.invokestatic 164, 3) := by decide +kernel
theorem d_Nine_dammedGate_22 : decode prog_1_method_43_code 22 = .ok (.pop, 1) := by decide +kernel
theorem d_Nine_dammedGate_23 : decode prog_1_method_43_code 23 = .ok (.iconst (-1), 1) := by decide +kernel
theorem d_Nine_dammedGate_24 : decode prog_1_method_43_code 24 = .ok (.istore_n 1, 1) := by decide +kernel
theorem d_Nine_dammedGate_25 : decode prog_1_method_43_code 25 = .ok (.iconst 0, 1) := by decide +kernel
theorem d_Nine_dammedGate_26 : decode prog_1_method_43_code 26 = .ok (.istore_n 2, 1) := by decide +kernel
theorem d_Nine_dammedGate_27 : decode prog_1_method_43_code 27 = .ok (.iload_n 2, 1) := by decide +kernel
theorem d_Nine_dammedGate_28 : decode prog_1_method_43_code 28 = .ok (.aload_n 0, 1) := by decide +kernel
theorem d_Nine_dammedGate_29 : decode prog_1_method_43_code 29 = .ok (.getfield 41, 3) := by decide +kernel
theorem d_Nine_dammedGate_32 : decode prog_1_method_43_code 32 = .ok (.getfield 89, 3) := by decide +kernel
theorem d_Nine_dammedGate_35 : decode prog_1_method_43_code 35 = .ok (.getfield 93, 3) := by decide +kernel
theorem d_Nine_dammedGate_38 : decode prog_1_method_43_code 38 = .ok (.if_icmp .ge 55, 3) := by decide +kernel
theorem d_Nine_dammedGate_93 : decode prog_1_method_43_code 93 = .ok (.iload_n 1, 1) := by decide +kernel
theorem d_Nine_dammedGate_94 : decode prog_1_method_43_code 94 = .ok (.ireturn, 1) := by decide +kernel
set_option maxHeartbeats 4000000 in
set_option maxRecDepth 100000 in
theorem c_N_dammed (l : Launch) (D : va_G) (y : Nat → ClassId) (x : Nat) (tp : Nat) (pi : Nat) (nw : Nat) (tr : Nat) (ps : Nat) (k : Nat) (k2 : Nat) (rd : Nat) (pl : Nat) (g : Nat) (vn : Nat) (vg : Nat) (t : Nat) (r : Nat) (g0 : Nat) (g1 : Nat) (g2 : Nat) (g3 : Nat) (g4 : Nat) (g5 : Nat) (g6 : Nat) (dt : Int32) (m0 : Nat) (m1 : Nat) (m2 : Nat) (m3 : Nat) (m4 : Nat) (m5 : Nat) (m6 : Nat) (n0 : Nat) (n1 : Nat) (n2 : Nat) (n3 : Nat) (n4 : Nat) (n5 : Nat) (n6 : Nat)  : CT l D y ⟨"NineBoards", "dammedGate", "()I"⟩ prog_1_method_43_code 4 (some .int) ({ frames := 3, cells := 0, slots := 0, locals := 85 } : Room) [.ref x] [(x, .inr (9, [.ref tp, .ref pi, .ref nw, .ref tr, .ref ps, .ref k, .ref k2, .ref rd, .ref pl, .int 1])), (k, .inr (2, [.int 0, .int 1, .int 1, .int 0, .ref g, .int 0, .ref vn, .ref vg, .ref t, .ref r, .int 0, .int 0, .int 9999, .int 0])), (g, .inr (1, [.int 0, .ref g0, .ref g1, .ref g2, .ref g3, .ref g4, .ref g5, .ref g6])), (tr, .inr (7, [.int dt, .int 0, .int 0, .ref m0, .ref m1, .ref m2, .ref m3, .ref m4, .ref m5, .ref m6])), (m0, .inl (y 0, 9, .inl (fun _ => 0))), (m1, .inl (y 0, 9, .inl (fun _ => 0))), (m2, .inl (y 1, 9, .inr (.inl (fun _ => 0)))), (m3, .inl (y 0, 6, .inl (fun _ => 0))), (m4, .inl (y 0, 6, .inl (fun _ => 0))), (m5, .inl (y 0, 16, .inl (fun _ => 0))), (m6, .inl (y 1, 5, .inr (.inl (fun _ => 0)))), (nw, .inr (7, [.int 0, .int 0, .int 0, .ref n0, .ref n1, .ref n2, .ref n3, .ref n4, .ref n5, .ref n6])), (n0, .inl (y 0, 9, .inl (fun _ => 0))), (n1, .inl (y 0, 9, .inl (fun _ => 0))), (n2, .inl (y 1, 9, .inr (.inl (fun _ => 0)))), (n3, .inl (y 0, 6, .inl (fun _ => 0))), (n4, .inl (y 0, 6, .inl (fun _ => 0))), (n5, .inl (y 0, 16, .inl (fun _ => 0))), (n6, .inl (y 1, 5, .inr (.inl (fun _ => 0))))] (QI D [(x, .inr (9, [.ref tp, .ref pi, .ref nw, .ref tr, .ref ps, .ref k, .ref k2, .ref rd, .ref pl, .int 1])), (k, .inr (2, [.int 0, .int 1, .int 1, .int 0, .ref g, .int 0, .ref vn, .ref vg, .ref t, .ref r, .int 0, .int 0, .int 9999, .int 0])), (g, .inr (1, [.int 0, .ref g0, .ref g1, .ref g2, .ref g3, .ref g4, .ref g5, .ref g6])), (tr, .inr (7, [.int dt, .int 0, .int 0, .ref m0, .ref m1, .ref m2, .ref m3, .ref m4, .ref m5, .ref m6])), (m0, .inl (y 0, 9, .inl (fun _ => 0))), (m1, .inl (y 0, 9, .inl (fun _ => 0))), (m2, .inl (y 1, 9, .inr (.inl (fun _ => 0)))), (m3, .inl (y 0, 6, .inl (fun _ => 0))), (m4, .inl (y 0, 6, .inl (fun _ => 0))), (m5, .inl (y 0, 16, .inl (fun _ => 0))), (m6, .inl (y 1, 5, .inr (.inl (fun _ => 0)))), (nw, .inr (7, [.int 0, .int 0, .int 0, .ref n0, .ref n1, .ref n2, .ref n3, .ref n4, .ref n5, .ref n6])), (n0, .inl (y 0, 9, .inl (fun _ => 0))), (n1, .inl (y 0, 9, .inl (fun _ => 0))), (n2, .inl (y 1, 9, .inr (.inl (fun _ => 0)))), (n3, .inl (y 0, 6, .inl (fun _ => 0))), (n4, .inl (y 0, 6, .inl (fun _ => 0))), (n5, .inl (y 0, 16, .inl (fun _ => 0))), (n6, .inl (y 1, 5, .inr (.inl (fun _ => 0))))] (fun (r : Int32) (_ : Unit) => r = (-1)) (fun _ => [(x, .inr (9, [.ref tp, .ref pi, .ref nw, .ref tr, .ref ps, .ref k, .ref k2, .ref rd, .ref pl, .int 1]))])) := by
  refine CT.of (by decide) (nb rfl) ?_
  intro p e s m args below meth c C hr
  refine j_lv (lv' := [(0, .ref x)]) rfl ?_
  refine j_aload_n (pc := 0) C d_Nine_dammedGate_0 rfl 0 rfl ?_
  refine j_get (pc := 1) C gf_Nine_28 0 rfl rfl d_Nine_dammedGate_1 ?_
  refine j_aload_n (pc := 4) C d_Nine_dammedGate_4 rfl 0 rfl ?_
  refine j_get (pc := 5) C gf_Nine_24 0 rfl rfl d_Nine_dammedGate_5 ?_
  refine j_callVv (pc := 8) C (c_take l D y tr m0 m1 m2 m3 m4 m5 m6 dt nw n0 n1 n2 n3 n4 n5 n6 0) kw_Nine_160 kv_State_take 0 7 rfl rfl ⟨by decide, by decide⟩ ⟨by decide, by decide⟩ (wr := [(x, .inr (9, [.ref tp, .ref pi, .ref nw, .ref tr, .ref ps, .ref k, .ref k2, .ref rd, .ref pl, .int 1])), (k, .inr (2, [.int 0, .int 1, .int 1, .int 0, .ref g, .int 0, .ref vn, .ref vg, .ref t, .ref r, .int 0, .int 0, .int 9999, .int 0])), (g, .inr (1, [.int 0, .ref g0, .ref g1, .ref g2, .ref g3, .ref g4, .ref g5, .ref g6]))]) [3, 4, 5, 6, 7, 8, 9, 10, 11, 12, 13, 14, 15, 16, 17, 18] [0, 1, 2] rfl rfl (by decide) (by decide) (by decide) (As := [.ref nw]) (rest := []) rfl (nb rfl) rfl d_Nine_dammedGate_8 (fun _ _ => ?_)
  refine j_ws (ws' := [(x, .inr (9, [.ref tp, .ref pi, .ref nw, .ref tr, .ref ps, .ref k, .ref k2, .ref rd, .ref pl, .int 1])), (k, .inr (2, [.int 0, .int 1, .int 1, .int 0, .ref g, .int 0, .ref vn, .ref vg, .ref t, .ref r, .int 0, .int 0, .int 9999, .int 0])), (g, .inr (1, [.int 0, .ref g0, .ref g1, .ref g2, .ref g3, .ref g4, .ref g5, .ref g6])), (tr, .inr (7, [.int 0, .int 0, .int 0, .ref m0, .ref m1, .ref m2, .ref m3, .ref m4, .ref m5, .ref m6])), (m0, .inl (y 0, 9, .inl (fun _ => 0))), (m1, .inl (y 0, 9, .inl (fun _ => 0))), (m2, .inl (y 1, 9, .inr (.inl (fun _ => 0)))), (m3, .inl (y 0, 6, .inl (fun _ => 0))), (m4, .inl (y 0, 6, .inl (fun _ => 0))), (m5, .inl (y 0, 16, .inl (fun _ => 0))), (m6, .inl (y 1, 5, .inr (.inl (fun _ => 0)))), (nw, .inr (7, [.int 0, .int 0, .int 0, .ref n0, .ref n1, .ref n2, .ref n3, .ref n4, .ref n5, .ref n6])), (n0, .inl (y 0, 9, .inl (fun _ => 0))), (n1, .inl (y 0, 9, .inl (fun _ => 0))), (n2, .inl (y 1, 9, .inr (.inl (fun _ => 0)))), (n3, .inl (y 0, 6, .inl (fun _ => 0))), (n4, .inl (y 0, 6, .inl (fun _ => 0))), (n5, .inl (y 0, 16, .inl (fun _ => 0))), (n6, .inl (y 1, 5, .inr (.inl (fun _ => 0))))]) rfl ?_
  refine j_aload_n (pc := 11) C d_Nine_dammedGate_11 rfl 0 rfl ?_
  refine j_get (pc := 12) C gf_Nine_41 0 rfl rfl d_Nine_dammedGate_12 ?_
  refine j_aload_n (pc := 15) C d_Nine_dammedGate_15 rfl 0 rfl ?_
  refine j_get (pc := 16) C gf_Nine_28 0 rfl rfl d_Nine_dammedGate_16 ?_
  refine j_callSi (pc := 19) C (c_setFlows l D y k g vn vg t r g0 g1 g2 g3 g4 g5 g6 tr m0 m1 m2 m3 m4 m5 m6 0) kw_Nine_164 ks_Days_setFlows ⟨by decide, by decide⟩ ⟨by decide, by decide⟩ (wr := [(x, .inr (9, [.ref tp, .ref pi, .ref nw, .ref tr, .ref ps, .ref k, .ref k2, .ref rd, .ref pl, .int 1])), (m0, .inl (y 0, 9, .inl (fun _ => 0))), (m1, .inl (y 0, 9, .inl (fun _ => 0))), (m2, .inl (y 1, 9, .inr (.inl (fun _ => 0)))), (m3, .inl (y 0, 6, .inl (fun _ => 0))), (m4, .inl (y 0, 6, .inl (fun _ => 0))), (m5, .inl (y 0, 16, .inl (fun _ => 0))), (m6, .inl (y 1, 5, .inr (.inl (fun _ => 0)))), (nw, .inr (7, [.int 0, .int 0, .int 0, .ref n0, .ref n1, .ref n2, .ref n3, .ref n4, .ref n5, .ref n6])), (n0, .inl (y 0, 9, .inl (fun _ => 0))), (n1, .inl (y 0, 9, .inl (fun _ => 0))), (n2, .inl (y 1, 9, .inr (.inl (fun _ => 0)))), (n3, .inl (y 0, 6, .inl (fun _ => 0))), (n4, .inl (y 0, 6, .inl (fun _ => 0))), (n5, .inl (y 0, 16, .inl (fun _ => 0))), (n6, .inl (y 1, 5, .inr (.inl (fun _ => 0))))]) [1, 2, 3] [0, 4, 5, 6, 7, 8, 9, 10, 11, 12, 13, 14, 15, 16, 17, 18] rfl rfl (by decide) (by decide) (by decide) (As := [.ref k, .ref tr]) (rest := []) rfl (nb rfl) rfl d_Nine_dammedGate_19 (fun r1 _ hr1 => ?_)
  subst hr1
  refine j_ws (ws' := [(x, .inr (9, [.ref tp, .ref pi, .ref nw, .ref tr, .ref ps, .ref k, .ref k2, .ref rd, .ref pl, .int 1])), (m0, .inl (y 0, 9, .inl (fun _ => 0))), (m1, .inl (y 0, 9, .inl (fun _ => 0))), (m2, .inl (y 1, 9, .inr (.inl (fun _ => 0)))), (m3, .inl (y 0, 6, .inl (fun _ => 0))), (m4, .inl (y 0, 6, .inl (fun _ => 0))), (m5, .inl (y 0, 16, .inl (fun _ => 0))), (m6, .inl (y 1, 5, .inr (.inl (fun _ => 0)))), (nw, .inr (7, [.int 0, .int 0, .int 0, .ref n0, .ref n1, .ref n2, .ref n3, .ref n4, .ref n5, .ref n6])), (n0, .inl (y 0, 9, .inl (fun _ => 0))), (n1, .inl (y 0, 9, .inl (fun _ => 0))), (n2, .inl (y 1, 9, .inr (.inl (fun _ => 0)))), (n3, .inl (y 0, 6, .inl (fun _ => 0))), (n4, .inl (y 0, 6, .inl (fun _ => 0))), (n5, .inl (y 0, 16, .inl (fun _ => 0))), (n6, .inl (y 1, 5, .inr (.inl (fun _ => 0)))), (k, .inr (2, [.int 0, .int 1, .int 1, .int 0, .ref g, .int 0, .ref vn, .ref vg, .ref t, .ref r, .int 0, .int 0, .int 9999, .int 0])), (g, .inr (1, [.int 0, .ref g0, .ref g1, .ref g2, .ref g3, .ref g4, .ref g5, .ref g6])), (tr, .inr (7, [.int 0, .int 0, .int 0, .ref m0, .ref m1, .ref m2, .ref m3, .ref m4, .ref m5, .ref m6]))]) rfl ?_
  refine j_st (st' := [.int 0]) rfl ?_
  refine j_pop (pc := 22) C d_Nine_dammedGate_22 rfl ?_
  refine j_iconst (pc := 23) C (v := (-1)) d_Nine_dammedGate_23 (by decide) ?_
  refine j_istore_n (pc := 24) C (lv' := [(1, .int (-1)), (0, .ref x)]) d_Nine_dammedGate_24 rfl (by decide) rfl ?_
  refine j_iconst (pc := 25) C (v := 0) d_Nine_dammedGate_25 (by decide) ?_
  refine j_istore_n (pc := 26) C (lv' := [(2, .int 0), (1, .int (-1)), (0, .ref x)]) d_Nine_dammedGate_26 rfl (by decide) rfl ?_
  refine j_iload_n (pc := 27) C d_Nine_dammedGate_27 rfl 0 rfl ?_
  refine j_aload_n (pc := 28) C d_Nine_dammedGate_28 rfl 2 rfl ?_
  refine j_get (pc := 29) C gf_Nine_41 0 rfl rfl d_Nine_dammedGate_29 ?_
  refine j_get (pc := 32) C gf_Nine_89 16 rfl rfl d_Nine_dammedGate_32 ?_
  refine j_get (pc := 35) C gf_Nine_93 17 rfl rfl d_Nine_dammedGate_35 ?_
  refine j_icmp_geT (pc := 38) C (tgt := 93) d_Nine_dammedGate_38 (by decide) (by decide) ?_
  refine j_iload_n (pc := 93) C d_Nine_dammedGate_93 rfl 1 rfl ?_
  exact j_iret (pc := 94) C hr rfl () rfl [0] rfl (by decide) (by decide) (by decide) d_Nine_dammedGate_94
theorem d_Nine_thief_0 : decode prog_1_method_28_code 0 = .ok (.aload_n 0, 1) := by decide +kernel
theorem d_Nine_thief_1 : decode prog_1_method_28_code 1 = .ok (.invokevirtual 289, 3) := by decide +kernel
theorem kw_Nine_289 : KW "NineBoards" 289 ⟨"NineBoards", "canLookAtDawn", "()Z"⟩ prog_1_method_40_code 1 (some .boolean) 0 := ⟨(mt_5 (List.mem_of_getElem? (i := 11) rfl) rfl), (mt_1 (List.mem_of_getElem? (i := 1) rfl) rfl), (mt_5 (List.mem_of_getElem? (i := 14) rfl) rfl), by decide +kernel⟩
theorem kv_Nine_canLookAtDawn : Cond.instanceMethod ⟨"NineBoards", "canLookAtDawn", "()Z"⟩ ∈ TB ∧ Cond.selects "NineBoards" ⟨"NineBoards", "canLookAtDawn", "()Z"⟩ ⟨"NineBoards", "canLookAtDawn", "()Z"⟩ ∈ TB := ⟨(mt_5 (List.mem_of_getElem? (i := 13) rfl) rfl), (ms_0 (List.mem_map.mpr ⟨(⟨"NineBoards", "canLookAtDawn", "()Z"⟩, 10), List.mem_of_getElem? (i := 42) (by decide +kernel), rfl⟩) rfl)⟩
theorem d_Nine_thief_4 : decode prog_1_method_28_code 4 = .ok (.ifCond .eq 10, 3) := by decide +kernel
theorem d_Nine_thief_7 : decode prog_1_method_28_code 7 = .ok (.aload_n 0, 1) := by decide +kernel
theorem d_Nine_thief_8 : decode prog_1_method_28_code 8 = .ok (.invokevirtual 293, 3) := by decide +kernel
theorem kw_Nine_293 : KW "NineBoards" 293 ⟨"NineBoards", "suspects", "()I"⟩ prog_1_method_41_code 3 (some .int) 0 := ⟨(mt_5 (List.mem_of_getElem? (i := 15) rfl) rfl), (mt_1 (List.mem_of_getElem? (i := 1) rfl) rfl), (mt_5 (List.mem_of_getElem? (i := 18) rfl) rfl), by decide +kernel⟩
theorem kv_Nine_suspects : Cond.instanceMethod ⟨"NineBoards", "suspects", "()I"⟩ ∈ TB ∧ Cond.selects "NineBoards" ⟨"NineBoards", "suspects", "()I"⟩ ⟨"NineBoards", "suspects", "()I"⟩ ∈ TB := ⟨(mt_5 (List.mem_of_getElem? (i := 17) rfl) rfl), (ms_0 (List.mem_map.mpr ⟨(⟨"NineBoards", "suspects", "()I"⟩, 10), List.mem_of_getElem? (i := 43) (by decide +kernel), rfl⟩) rfl)⟩
theorem d_Nine_thief_11 : decode prog_1_method_28_code 11 = .ok (.goto 4, 3) := by decide +kernel
theorem d_Nine_thief_15 : decode prog_1_method_28_code 15 = .ok (.istore_n 1, 1) := by decide +kernel
theorem d_Nine_thief_16 : decode prog_1_method_28_code 16 = .ok (.aload_n 0, 1) := by decide +kernel
theorem d_Nine_thief_17 : decode prog_1_method_28_code 17 = .ok (.getfield 14, 3) := by decide +kernel
theorem d_Nine_thief_20 : decode prog_1_method_28_code 20 = .ok (.iconst 0, 1) := by decide +kernel
theorem d_Nine_thief_21 : decode prog_1_method_28_code 21 = .ok (.putfield 70, 3) := by decide +kernel
theorem d_Nine_thief_24 : decode prog_1_method_28_code 24 = .ok (.iload_n 1, 1) := by decide +kernel
theorem d_Nine_thief_25 : decode prog_1_method_28_code 25 = .ok (.ireturn, 1) := by decide +kernel
set_option maxHeartbeats 4000000 in
set_option maxRecDepth 100000 in
theorem c_N_thief (l : Launch) (D : va_G) (y : Nat → ClassId) (x : Nat) (tp : Nat) (pi : Nat) (nw : Nat) (tr : Nat) (ps : Nat) (k : Nat) (k2 : Nat) (rd : Nat) (pl : Nat) (g : Nat) (vn : Nat) (vg : Nat) (t : Nat) (r : Nat) (g0 : Nat) (g1 : Nat) (g2 : Nat) (g3 : Nat) (g4 : Nat) (g5 : Nat) (g6 : Nat) (dt : Int32) (m0 : Nat) (m1 : Nat) (m2 : Nat) (m3 : Nat) (m4 : Nat) (m5 : Nat) (m6 : Nat) (n0 : Nat) (n1 : Nat) (n2 : Nat) (n3 : Nat) (n4 : Nat) (n5 : Nat) (n6 : Nat) (td : Nat)  : CT l D y ⟨"NineBoards", "thief", "()I"⟩ prog_1_method_28_code 2 (some .int) ({ frames := 5, cells := 0, slots := 0, locals := 110 } : Room) [.ref x] [(x, .inr (9, [.ref tp, .ref pi, .ref nw, .ref tr, .ref ps, .ref k, .ref k2, .ref rd, .ref pl, .int 1])), (k, .inr (2, [.int 0, .int 1, .int 1, .int 0, .ref g, .int 0, .ref vn, .ref vg, .ref t, .ref r, .int 0, .int 0, .int 9999, .int 0])), (g, .inr (1, [.int 0, .ref g0, .ref g1, .ref g2, .ref g3, .ref g4, .ref g5, .ref g6])), (tr, .inr (7, [.int dt, .int 0, .int 0, .ref m0, .ref m1, .ref m2, .ref m3, .ref m4, .ref m5, .ref m6])), (m0, .inl (y 0, 9, .inl (fun _ => 0))), (m1, .inl (y 0, 9, .inl (fun _ => 0))), (m2, .inl (y 1, 9, .inr (.inl (fun _ => 0)))), (m3, .inl (y 0, 6, .inl (fun _ => 0))), (m4, .inl (y 0, 6, .inl (fun _ => 0))), (m5, .inl (y 0, 16, .inl (fun _ => 0))), (m6, .inl (y 1, 5, .inr (.inl (fun _ => 0)))), (nw, .inr (7, [.int 0, .int 0, .int 0, .ref n0, .ref n1, .ref n2, .ref n3, .ref n4, .ref n5, .ref n6])), (n0, .inl (y 0, 9, .inl (fun _ => 0))), (n1, .inl (y 0, 9, .inl (fun _ => 0))), (n2, .inl (y 1, 9, .inr (.inl (fun _ => 0)))), (n3, .inl (y 0, 6, .inl (fun _ => 0))), (n4, .inl (y 0, 6, .inl (fun _ => 0))), (n5, .inl (y 0, 16, .inl (fun _ => 0))), (n6, .inl (y 1, 5, .inr (.inl (fun _ => 0)))), (tp, .inr (0, [.ref td, .int 0]))] (QI D [(x, .inr (9, [.ref tp, .ref pi, .ref nw, .ref tr, .ref ps, .ref k, .ref k2, .ref rd, .ref pl, .int 1])), (k, .inr (2, [.int 0, .int 1, .int 1, .int 0, .ref g, .int 0, .ref vn, .ref vg, .ref t, .ref r, .int 0, .int 0, .int 9999, .int 0])), (g, .inr (1, [.int 0, .ref g0, .ref g1, .ref g2, .ref g3, .ref g4, .ref g5, .ref g6])), (tr, .inr (7, [.int dt, .int 0, .int 0, .ref m0, .ref m1, .ref m2, .ref m3, .ref m4, .ref m5, .ref m6])), (m0, .inl (y 0, 9, .inl (fun _ => 0))), (m1, .inl (y 0, 9, .inl (fun _ => 0))), (m2, .inl (y 1, 9, .inr (.inl (fun _ => 0)))), (m3, .inl (y 0, 6, .inl (fun _ => 0))), (m4, .inl (y 0, 6, .inl (fun _ => 0))), (m5, .inl (y 0, 16, .inl (fun _ => 0))), (m6, .inl (y 1, 5, .inr (.inl (fun _ => 0)))), (nw, .inr (7, [.int 0, .int 0, .int 0, .ref n0, .ref n1, .ref n2, .ref n3, .ref n4, .ref n5, .ref n6])), (n0, .inl (y 0, 9, .inl (fun _ => 0))), (n1, .inl (y 0, 9, .inl (fun _ => 0))), (n2, .inl (y 1, 9, .inr (.inl (fun _ => 0)))), (n3, .inl (y 0, 6, .inl (fun _ => 0))), (n4, .inl (y 0, 6, .inl (fun _ => 0))), (n5, .inl (y 0, 16, .inl (fun _ => 0))), (n6, .inl (y 1, 5, .inr (.inl (fun _ => 0)))), (tp, .inr (0, [.ref td, .int 0]))] (fun (r : Int32) (_ : Unit) => r = 512) (fun _ => [])) := by
  refine CT.of (by decide) (nb rfl) ?_
  intro p e s m args below meth c C hr
  refine j_lv (lv' := [(0, .ref x)]) rfl ?_
  refine j_aload_n (pc := 0) C d_Nine_thief_0 rfl 0 rfl ?_
  refine j_callVi (pc := 1) C (c_N_canLook l D y x tp pi nw tr ps k k2 rd pl n0 n1 n2 n3 n4 n5 n6 td g vn vg t r g0 g1 g2 g3 g4 g5 g6) kw_Nine_289 kv_Nine_canLookAtDawn 0 9 rfl rfl ⟨by decide, by decide⟩ ⟨by decide, by decide⟩ (wr := [(tr, .inr (7, [.int dt, .int 0, .int 0, .ref m0, .ref m1, .ref m2, .ref m3, .ref m4, .ref m5, .ref m6])), (m0, .inl (y 0, 9, .inl (fun _ => 0))), (m1, .inl (y 0, 9, .inl (fun _ => 0))), (m2, .inl (y 1, 9, .inr (.inl (fun _ => 0)))), (m3, .inl (y 0, 6, .inl (fun _ => 0))), (m4, .inl (y 0, 6, .inl (fun _ => 0))), (m5, .inl (y 0, 16, .inl (fun _ => 0))), (m6, .inl (y 1, 5, .inr (.inl (fun _ => 0)))), (n0, .inl (y 0, 9, .inl (fun _ => 0))), (n1, .inl (y 0, 9, .inl (fun _ => 0))), (n2, .inl (y 1, 9, .inr (.inl (fun _ => 0)))), (n3, .inl (y 0, 6, .inl (fun _ => 0))), (n4, .inl (y 0, 6, .inl (fun _ => 0))), (n5, .inl (y 0, 16, .inl (fun _ => 0))), (n6, .inl (y 1, 5, .inr (.inl (fun _ => 0))))]) [0, 11, 19, 1, 2] [3, 4, 5, 6, 7, 8, 9, 10, 12, 13, 14, 15, 16, 17, 18] rfl rfl (by decide) (by decide) (by decide) (As := []) (rest := []) rfl (nb rfl) rfl d_Nine_thief_1 (fun r1 _ hr1 => ?_)
  subst hr1
  refine j_ws (ws' := [(tr, .inr (7, [.int dt, .int 0, .int 0, .ref m0, .ref m1, .ref m2, .ref m3, .ref m4, .ref m5, .ref m6])), (m0, .inl (y 0, 9, .inl (fun _ => 0))), (m1, .inl (y 0, 9, .inl (fun _ => 0))), (m2, .inl (y 1, 9, .inr (.inl (fun _ => 0)))), (m3, .inl (y 0, 6, .inl (fun _ => 0))), (m4, .inl (y 0, 6, .inl (fun _ => 0))), (m5, .inl (y 0, 16, .inl (fun _ => 0))), (m6, .inl (y 1, 5, .inr (.inl (fun _ => 0)))), (n0, .inl (y 0, 9, .inl (fun _ => 0))), (n1, .inl (y 0, 9, .inl (fun _ => 0))), (n2, .inl (y 1, 9, .inr (.inl (fun _ => 0)))), (n3, .inl (y 0, 6, .inl (fun _ => 0))), (n4, .inl (y 0, 6, .inl (fun _ => 0))), (n5, .inl (y 0, 16, .inl (fun _ => 0))), (n6, .inl (y 1, 5, .inr (.inl (fun _ => 0)))), (x, .inr (9, [.ref tp, .ref pi, .ref nw, .ref tr, .ref ps, .ref k, .ref k2, .ref rd, .ref pl, .int 1])), (nw, .inr (7, [.int 0, .int 0, .int 0, .ref n0, .ref n1, .ref n2, .ref n3, .ref n4, .ref n5, .ref n6])), (tp, .inr (0, [.ref td, .int 0])), (k, .inr (2, [.int 0, .int 1, .int 1, .int 0, .ref g, .int 0, .ref vn, .ref vg, .ref t, .ref r, .int 0, .int 0, .int 9999, .int 0])), (g, .inr (1, [.int 0, .ref g0, .ref g1, .ref g2, .ref g3, .ref g4, .ref g5, .ref g6]))]) rfl ?_
  refine j_st (st' := [.int 1]) rfl ?_
  refine j_if_eqF (pc := 4) C (tgt := 14) d_Nine_thief_4 (by decide) (by decide) ?_
  refine j_aload_n (pc := 7) C d_Nine_thief_7 rfl 0 rfl ?_
  refine j_callVi (pc := 8) C (c_N_suspects l D y x tp pi nw tr ps k k2 rd pl g vn vg t r g0 g1 g2 g3 g4 g5 g6 dt m0 m1 m2 m3 m4 m5 m6 n0 n1 n2 n3 n4 n5 n6) kw_Nine_293 kv_Nine_suspects 0 9 rfl rfl ⟨by decide, by decide⟩ ⟨by decide, by decide⟩ (wr := [(tp, .inr (0, [.ref td, .int 0]))]) [15, 18, 19, 0, 1, 2, 3, 4, 5, 6, 7, 16, 8, 9, 10, 11, 12, 13, 14] [17] rfl rfl (by decide) (by decide) (by decide) (As := []) (rest := []) rfl (nb rfl) rfl d_Nine_thief_8 (fun r2 _ hr2 => ?_)
  subst hr2
  refine j_ws (ws' := [(tp, .inr (0, [.ref td, .int 0])), (x, .inr (9, [.ref tp, .ref pi, .ref nw, .ref tr, .ref ps, .ref k, .ref k2, .ref rd, .ref pl, .int 1]))]) rfl ?_
  refine j_st (st' := [.int 512]) rfl ?_
  refine j_goto (pc := 11) C (tgt := 15) d_Nine_thief_11 (by decide) ?_
  refine j_istore_n (pc := 15) C (lv' := [(1, .int 512), (0, .ref x)]) d_Nine_thief_15 rfl (by decide) rfl ?_
  refine j_aload_n (pc := 16) C d_Nine_thief_16 rfl 1 rfl ?_
  refine j_get (pc := 17) C gf_Nine_14 1 rfl rfl d_Nine_thief_17 ?_
  refine j_iconst (pc := 20) C (v := 0) d_Nine_thief_20 (by decide) ?_
  refine j_put (pc := 21) C pf_Nine_70 0 (ws' := [(tp, .inr (0, [.ref td, .int 0])), (x, .inr (9, [.ref tp, .ref pi, .ref nw, .ref tr, .ref ps, .ref k, .ref k2, .ref rd, .ref pl, .int 1]))]) rfl rfl rfl (nl rfl) rfl d_Nine_thief_21 ?_
  refine j_iload_n (pc := 24) C d_Nine_thief_24 rfl 0 rfl ?_
  exact j_iret (pc := 25) C hr rfl () rfl [] rfl (by decide) (by decide) (by decide) d_Nine_thief_25
theorem d_Nine_beaver_0 : decode prog_1_method_29_code 0 = .ok (.aload_n 0, 1) := by decide +kernel
theorem d_Nine_beaver_1 : decode prog_1_method_29_code 1 = .ok (.invokevirtual 289, 3) := by decide +kernel
theorem d_Nine_beaver_4 : decode prog_1_method_29_code 4 = .ok (.ifCond .eq 10, 3) := by decide +kernel
theorem d_Nine_beaver_7 : decode prog_1_method_29_code 7 = .ok (.aload_n 0, 1) := by decide +kernel
theorem d_Nine_beaver_8 : decode prog_1_method_29_code 8 = .ok (.invokevirtual 296, 3) := by decide +kernel
theorem kw_Nine_296 : KW "NineBoards" 296 ⟨"NineBoards", "dammedGate", "()I"⟩ prog_1_method_43_code 4 (some .int) 0 := ⟨(mt_5 (List.mem_of_getElem? (i := 35) rfl) rfl), (mt_1 (List.mem_of_getElem? (i := 1) rfl) rfl), (mt_5 (List.mem_of_getElem? (i := 38) rfl) rfl), by decide +kernel⟩
theorem kv_Nine_dammedGate : Cond.instanceMethod ⟨"NineBoards", "dammedGate", "()I"⟩ ∈ TB ∧ Cond.selects "NineBoards" ⟨"NineBoards", "dammedGate", "()I"⟩ ⟨"NineBoards", "dammedGate", "()I"⟩ ∈ TB := ⟨(mt_5 (List.mem_of_getElem? (i := 37) rfl) rfl), (ms_0 (List.mem_map.mpr ⟨(⟨"NineBoards", "dammedGate", "()I"⟩, 10), List.mem_of_getElem? (i := 45) (by decide +kernel), rfl⟩) rfl)⟩
theorem d_Nine_beaver_11 : decode prog_1_method_29_code 11 = .ok (.goto 4, 3) := by decide +kernel
theorem d_Nine_beaver_15 : decode prog_1_method_29_code 15 = .ok (.istore_n 1, 1) := by decide +kernel
theorem d_Nine_beaver_16 : decode prog_1_method_29_code 16 = .ok (.aload_n 0, 1) := by decide +kernel
theorem d_Nine_beaver_17 : decode prog_1_method_29_code 17 = .ok (.getfield 14, 3) := by decide +kernel
theorem d_Nine_beaver_20 : decode prog_1_method_29_code 20 = .ok (.iconst 0, 1) := by decide +kernel
theorem d_Nine_beaver_21 : decode prog_1_method_29_code 21 = .ok (.putfield 70, 3) := by decide +kernel
theorem d_Nine_beaver_24 : decode prog_1_method_29_code 24 = .ok (.iload_n 1, 1) := by decide +kernel
theorem d_Nine_beaver_25 : decode prog_1_method_29_code 25 = .ok (.ireturn, 1) := by decide +kernel
set_option maxHeartbeats 4000000 in
set_option maxRecDepth 100000 in
theorem c_N_beaver (l : Launch) (D : va_G) (y : Nat → ClassId) (x : Nat) (tp : Nat) (pi : Nat) (nw : Nat) (tr : Nat) (ps : Nat) (k : Nat) (k2 : Nat) (rd : Nat) (pl : Nat) (g : Nat) (vn : Nat) (vg : Nat) (t : Nat) (r : Nat) (g0 : Nat) (g1 : Nat) (g2 : Nat) (g3 : Nat) (g4 : Nat) (g5 : Nat) (g6 : Nat) (dt : Int32) (m0 : Nat) (m1 : Nat) (m2 : Nat) (m3 : Nat) (m4 : Nat) (m5 : Nat) (m6 : Nat) (n0 : Nat) (n1 : Nat) (n2 : Nat) (n3 : Nat) (n4 : Nat) (n5 : Nat) (n6 : Nat) (td : Nat)  : CT l D y ⟨"NineBoards", "beaver", "()I"⟩ prog_1_method_29_code 2 (some .int) ({ frames := 4, cells := 0, slots := 0, locals := 108 } : Room) [.ref x] [(x, .inr (9, [.ref tp, .ref pi, .ref nw, .ref tr, .ref ps, .ref k, .ref k2, .ref rd, .ref pl, .int 1])), (k, .inr (2, [.int 0, .int 1, .int 1, .int 0, .ref g, .int 0, .ref vn, .ref vg, .ref t, .ref r, .int 0, .int 0, .int 9999, .int 0])), (g, .inr (1, [.int 0, .ref g0, .ref g1, .ref g2, .ref g3, .ref g4, .ref g5, .ref g6])), (tr, .inr (7, [.int dt, .int 0, .int 0, .ref m0, .ref m1, .ref m2, .ref m3, .ref m4, .ref m5, .ref m6])), (m0, .inl (y 0, 9, .inl (fun _ => 0))), (m1, .inl (y 0, 9, .inl (fun _ => 0))), (m2, .inl (y 1, 9, .inr (.inl (fun _ => 0)))), (m3, .inl (y 0, 6, .inl (fun _ => 0))), (m4, .inl (y 0, 6, .inl (fun _ => 0))), (m5, .inl (y 0, 16, .inl (fun _ => 0))), (m6, .inl (y 1, 5, .inr (.inl (fun _ => 0)))), (nw, .inr (7, [.int 0, .int 0, .int 0, .ref n0, .ref n1, .ref n2, .ref n3, .ref n4, .ref n5, .ref n6])), (n0, .inl (y 0, 9, .inl (fun _ => 0))), (n1, .inl (y 0, 9, .inl (fun _ => 0))), (n2, .inl (y 1, 9, .inr (.inl (fun _ => 0)))), (n3, .inl (y 0, 6, .inl (fun _ => 0))), (n4, .inl (y 0, 6, .inl (fun _ => 0))), (n5, .inl (y 0, 16, .inl (fun _ => 0))), (n6, .inl (y 1, 5, .inr (.inl (fun _ => 0)))), (tp, .inr (0, [.ref td, .int 0]))] (QI D [(x, .inr (9, [.ref tp, .ref pi, .ref nw, .ref tr, .ref ps, .ref k, .ref k2, .ref rd, .ref pl, .int 1])), (k, .inr (2, [.int 0, .int 1, .int 1, .int 0, .ref g, .int 0, .ref vn, .ref vg, .ref t, .ref r, .int 0, .int 0, .int 9999, .int 0])), (g, .inr (1, [.int 0, .ref g0, .ref g1, .ref g2, .ref g3, .ref g4, .ref g5, .ref g6])), (tr, .inr (7, [.int dt, .int 0, .int 0, .ref m0, .ref m1, .ref m2, .ref m3, .ref m4, .ref m5, .ref m6])), (m0, .inl (y 0, 9, .inl (fun _ => 0))), (m1, .inl (y 0, 9, .inl (fun _ => 0))), (m2, .inl (y 1, 9, .inr (.inl (fun _ => 0)))), (m3, .inl (y 0, 6, .inl (fun _ => 0))), (m4, .inl (y 0, 6, .inl (fun _ => 0))), (m5, .inl (y 0, 16, .inl (fun _ => 0))), (m6, .inl (y 1, 5, .inr (.inl (fun _ => 0)))), (nw, .inr (7, [.int 0, .int 0, .int 0, .ref n0, .ref n1, .ref n2, .ref n3, .ref n4, .ref n5, .ref n6])), (n0, .inl (y 0, 9, .inl (fun _ => 0))), (n1, .inl (y 0, 9, .inl (fun _ => 0))), (n2, .inl (y 1, 9, .inr (.inl (fun _ => 0)))), (n3, .inl (y 0, 6, .inl (fun _ => 0))), (n4, .inl (y 0, 6, .inl (fun _ => 0))), (n5, .inl (y 0, 16, .inl (fun _ => 0))), (n6, .inl (y 1, 5, .inr (.inl (fun _ => 0)))), (tp, .inr (0, [.ref td, .int 0]))] (fun (r : Int32) (_ : Unit) => r = (-1)) (fun _ => [])) := by
  refine CT.of (by decide) (nb rfl) ?_
  intro p e s m args below meth c C hr
  refine j_lv (lv' := [(0, .ref x)]) rfl ?_
  refine j_aload_n (pc := 0) C d_Nine_beaver_0 rfl 0 rfl ?_
  refine j_callVi (pc := 1) C (c_N_canLook l D y x tp pi nw tr ps k k2 rd pl n0 n1 n2 n3 n4 n5 n6 td g vn vg t r g0 g1 g2 g3 g4 g5 g6) kw_Nine_289 kv_Nine_canLookAtDawn 0 9 rfl rfl ⟨by decide, by decide⟩ ⟨by decide, by decide⟩ (wr := [(tr, .inr (7, [.int dt, .int 0, .int 0, .ref m0, .ref m1, .ref m2, .ref m3, .ref m4, .ref m5, .ref m6])), (m0, .inl (y 0, 9, .inl (fun _ => 0))), (m1, .inl (y 0, 9, .inl (fun _ => 0))), (m2, .inl (y 1, 9, .inr (.inl (fun _ => 0)))), (m3, .inl (y 0, 6, .inl (fun _ => 0))), (m4, .inl (y 0, 6, .inl (fun _ => 0))), (m5, .inl (y 0, 16, .inl (fun _ => 0))), (m6, .inl (y 1, 5, .inr (.inl (fun _ => 0)))), (n0, .inl (y 0, 9, .inl (fun _ => 0))), (n1, .inl (y 0, 9, .inl (fun _ => 0))), (n2, .inl (y 1, 9, .inr (.inl (fun _ => 0)))), (n3, .inl (y 0, 6, .inl (fun _ => 0))), (n4, .inl (y 0, 6, .inl (fun _ => 0))), (n5, .inl (y 0, 16, .inl (fun _ => 0))), (n6, .inl (y 1, 5, .inr (.inl (fun _ => 0))))]) [0, 11, 19, 1, 2] [3, 4, 5, 6, 7, 8, 9, 10, 12, 13, 14, 15, 16, 17, 18] rfl rfl (by decide) (by decide) (by decide) (As := []) (rest := []) rfl (nb rfl) rfl d_Nine_beaver_1 (fun r1 _ hr1 => ?_)
  subst hr1
  refine j_ws (ws' := [(tr, .inr (7, [.int dt, .int 0, .int 0, .ref m0, .ref m1, .ref m2, .ref m3, .ref m4, .ref m5, .ref m6])), (m0, .inl (y 0, 9, .inl (fun _ => 0))), (m1, .inl (y 0, 9, .inl (fun _ => 0))), (m2, .inl (y 1, 9, .inr (.inl (fun _ => 0)))), (m3, .inl (y 0, 6, .inl (fun _ => 0))), (m4, .inl (y 0, 6, .inl (fun _ => 0))), (m5, .inl (y 0, 16, .inl (fun _ => 0))), (m6, .inl (y 1, 5, .inr (.inl (fun _ => 0)))), (n0, .inl (y 0, 9, .inl (fun _ => 0))), (n1, .inl (y 0, 9, .inl (fun _ => 0))), (n2, .inl (y 1, 9, .inr (.inl (fun _ => 0)))), (n3, .inl (y 0, 6, .inl (fun _ => 0))), (n4, .inl (y 0, 6, .inl (fun _ => 0))), (n5, .inl (y 0, 16, .inl (fun _ => 0))), (n6, .inl (y 1, 5, .inr (.inl (fun _ => 0)))), (x, .inr (9, [.ref tp, .ref pi, .ref nw, .ref tr, .ref ps, .ref k, .ref k2, .ref rd, .ref pl, .int 1])), (nw, .inr (7, [.int 0, .int 0, .int 0, .ref n0, .ref n1, .ref n2, .ref n3, .ref n4, .ref n5, .ref n6])), (tp, .inr (0, [.ref td, .int 0])), (k, .inr (2, [.int 0, .int 1, .int 1, .int 0, .ref g, .int 0, .ref vn, .ref vg, .ref t, .ref r, .int 0, .int 0, .int 9999, .int 0])), (g, .inr (1, [.int 0, .ref g0, .ref g1, .ref g2, .ref g3, .ref g4, .ref g5, .ref g6]))]) rfl ?_
  refine j_st (st' := [.int 1]) rfl ?_
  refine j_if_eqF (pc := 4) C (tgt := 14) d_Nine_beaver_4 (by decide) (by decide) ?_
  refine j_aload_n (pc := 7) C d_Nine_beaver_7 rfl 0 rfl ?_
  refine j_callVi (pc := 8) C (c_N_dammed l D y x tp pi nw tr ps k k2 rd pl g vn vg t r g0 g1 g2 g3 g4 g5 g6 dt m0 m1 m2 m3 m4 m5 m6 n0 n1 n2 n3 n4 n5 n6) kw_Nine_296 kv_Nine_dammedGate 0 9 rfl rfl ⟨by decide, by decide⟩ ⟨by decide, by decide⟩ (wr := [(tp, .inr (0, [.ref td, .int 0]))]) [15, 18, 19, 0, 1, 2, 3, 4, 5, 6, 7, 16, 8, 9, 10, 11, 12, 13, 14] [17] rfl rfl (by decide) (by decide) (by decide) (As := []) (rest := []) rfl (nb rfl) rfl d_Nine_beaver_8 (fun r2 _ hr2 => ?_)
  subst hr2
  refine j_ws (ws' := [(tp, .inr (0, [.ref td, .int 0])), (x, .inr (9, [.ref tp, .ref pi, .ref nw, .ref tr, .ref ps, .ref k, .ref k2, .ref rd, .ref pl, .int 1]))]) rfl ?_
  refine j_st (st' := [.int (-1)]) rfl ?_
  refine j_goto (pc := 11) C (tgt := 15) d_Nine_beaver_11 (by decide) ?_
  refine j_istore_n (pc := 15) C (lv' := [(1, .int (-1)), (0, .ref x)]) d_Nine_beaver_15 rfl (by decide) rfl ?_
  refine j_aload_n (pc := 16) C d_Nine_beaver_16 rfl 1 rfl ?_
  refine j_get (pc := 17) C gf_Nine_14 1 rfl rfl d_Nine_beaver_17 ?_
  refine j_iconst (pc := 20) C (v := 0) d_Nine_beaver_20 (by decide) ?_
  refine j_put (pc := 21) C pf_Nine_70 0 (ws' := [(tp, .inr (0, [.ref td, .int 0])), (x, .inr (9, [.ref tp, .ref pi, .ref nw, .ref tr, .ref ps, .ref k, .ref k2, .ref rd, .ref pl, .int 1]))]) rfl rfl rfl (nl rfl) rfl d_Nine_beaver_21 ?_
  refine j_iload_n (pc := 24) C d_Nine_beaver_24 rfl 0 rfl ?_
  exact j_iret (pc := 25) C hr rfl () rfl [] rfl (by decide) (by decide) (by decide) d_Nine_beaver_25
theorem d_Reader_fail_0 : decode prog_8_method_31_code 0 = .ok (.aload_n 0, 1) := by decide +kernel
theorem d_Reader_fail_1 : decode prog_8_method_31_code 1 = .ok (.getfield 44, 3) := by decide +kernel
theorem gf_Reader_44 : GF "NineBoards$Reader" 44 5 0 := ⟨_, _, _, rfl, ci_Reader, by decide, (mt_2 (List.mem_of_getElem? (i := 162) rfl) rfl)⟩
theorem d_Reader_fail_4 : decode prog_8_method_31_code 4 = .ok (.ifCond .ne 13, 3) := by decide +kernel
theorem d_Reader_fail_7 : decode prog_8_method_31_code 7 = .ok (.aload_n 0, 1) := by decide +kernel
theorem d_Reader_fail_8 : decode prog_8_method_31_code 8 = .ok (.iload_n 1, 1) := by decide +kernel
theorem d_Reader_fail_9 : decode prog_8_method_31_code 9 = .ok (.putfield 44, 3) := by decide +kernel
theorem pf_Reader_44 : PF "NineBoards$Reader" 44 5 0 (.int) false := ⟨_, _, _, ct_Reader, rfl, ci_Reader, by decide, (mt_2 (List.mem_of_getElem? (i := 162) rfl) rfl), cp_Reader, cn_Reader, rfl, by decide +kernel, (fun h => by cases h)⟩
theorem d_Reader_fail_12 : decode prog_8_method_31_code 12 = .ok (.aload_n 0, 1) := by decide +kernel
theorem d_Reader_fail_13 : decode prog_8_method_31_code 13 = .ok (.iload_n 2, 1) := by decide +kernel
theorem d_Reader_fail_14 : decode prog_8_method_31_code 14 = .ok (.putfield 9, 3) := by decide +kernel
theorem pf_Reader_9 : PF "NineBoards$Reader" 9 5 1 (.int) false := ⟨_, _, _, ct_Reader, rfl, ci_Reader, by decide, (mt_2 (List.mem_of_getElem? (i := 164) rfl) rfl), cp_Reader, cn_Reader, rfl, by decide +kernel, (fun h => by cases h)⟩
theorem d_Reader_fail_17 : decode prog_8_method_31_code 17 = .ok (.aload_n 0, 1) := by decide +kernel
theorem d_Reader_fail_18 : decode prog_8_method_31_code 18 = .ok (.aload_n 0, 1) := by decide +kernel
theorem d_Reader_fail_19 : decode prog_8_method_31_code 19 = .ok (.getfield 19, 3) := by decide +kernel
theorem gf_Reader_19 : GF "NineBoards$Reader" 19 5 3 := ⟨_, _, _, rfl, ci_Reader, by decide, (mt_2 (List.mem_of_getElem? (i := 167) rfl) rfl)⟩
theorem d_Reader_fail_22 : decode prog_8_method_31_code 22 = .ok (.getfield 285, 3) := by decide +kernel
theorem gf_Reader_285 : GF "NineBoards$Reader" 285 0 1 := ⟨_, _, _, rfl, ci_Bytes, by decide, (mt_1 (List.mem_of_getElem? (i := 40) rfl) rfl)⟩
theorem d_Reader_fail_25 : decode prog_8_method_31_code 25 = .ok (.putfield 47, 3) := by decide +kernel
theorem pf_Reader_47 : PF "NineBoards$Reader" 47 5 5 (.int) false := ⟨_, _, _, ct_Reader, rfl, ci_Reader, by decide, (mt_2 (List.mem_of_getElem? (i := 169) rfl) rfl), cp_Reader, cn_Reader, rfl, by decide +kernel, (fun h => by cases h)⟩
theorem d_Reader_fail_28 : decode prog_8_method_31_code 28 = .ok (.aload_n 0, 1) := by decide +kernel
theorem d_Reader_fail_29 : decode prog_8_method_31_code 29 = .ok (.aload_n 0, 1) := by decide +kernel
theorem d_Reader_fail_30 : decode prog_8_method_31_code 30 = .ok (.getfield 47, 3) := by decide +kernel
theorem gf_Reader_47 : GF "NineBoards$Reader" 47 5 5 := ⟨_, _, _, rfl, ci_Reader, by decide, (mt_2 (List.mem_of_getElem? (i := 169) rfl) rfl)⟩
theorem d_Reader_fail_33 : decode prog_8_method_31_code 33 = .ok (.putfield 62, 3) := by decide +kernel
theorem pf_Reader_62 : PF "NineBoards$Reader" 62 5 7 (.int) false := ⟨_, _, _, ct_Reader, rfl, ci_Reader, by decide, (mt_2 (List.mem_of_getElem? (i := 171) rfl) rfl), cp_Reader, cn_Reader, rfl, by decide +kernel, (fun h => by cases h)⟩
theorem d_Reader_fail_36 : decode prog_8_method_31_code 36 = .ok (.aload_n 0, 1) := by decide +kernel
theorem d_Reader_fail_37 : decode prog_8_method_31_code 37 = .ok (.iconst 0, 1) := by decide +kernel
theorem d_Reader_fail_38 : decode prog_8_method_31_code 38 = .ok (.putfield 50, 3) := by decide +kernel
theorem pf_Reader_50 : PF "NineBoards$Reader" 50 5 6 (.int) false := ⟨_, _, _, ct_Reader, rfl, ci_Reader, by decide, (mt_2 (List.mem_of_getElem? (i := 170) rfl) rfl), cp_Reader, cn_Reader, rfl, by decide +kernel, (fun h => by cases h)⟩
theorem d_Reader_fail_41 : decode prog_8_method_31_code 41 = .ok (.return_, 1) := by decide +kernel
set_option maxHeartbeats 4000000 in
set_option maxRecDepth 100000 in
theorem c_R_fail_0 (l : Launch) (D : va_G) (y : Nat → ClassId) (rd : Nat) (ow : Nat) (tp : Nat) (k2 : Nat) (td : Nat)  : CT l D y ⟨"NineBoards$Reader", "fail", "(II)V"⟩ prog_8_method_31_code 3 none ({ frames := 0, cells := 0, slots := 0, locals := 0 } : Room) [.ref rd, .int 1, .int 0] [(rd, .inr (5, [.int 0, .int (-1), .ref ow, .ref tp, .ref k2, .int 0, .int 0, .int 0, .long 0, .int 0, .int 0, .int 0])), (tp, .inr (0, [.ref td, .int 0]))] (QV D [(rd, .inr (5, [.int 0, .int (-1), .ref ow, .ref tp, .ref k2, .int 0, .int 0, .int 0, .long 0, .int 0, .int 0, .int 0])), (tp, .inr (0, [.ref td, .int 0]))] (fun (_ : Unit) => True) (fun _ => [(rd, .inr (5, [.int 1, .int 0, .ref ow, .ref tp, .ref k2, .int 0, .int 0, .int 0, .long 0, .int 0, .int 0, .int 0])), (tp, .inr (0, [.ref td, .int 0]))])) := by
  refine CT.of (by decide) (nb rfl) ?_
  intro p e s m args below meth c C hr
  refine j_lv (lv' := [(0, .ref rd), (1, .int 1), (2, .int 0)]) rfl ?_
  refine j_aload_n (pc := 0) C d_Reader_fail_0 rfl 0 rfl ?_
  refine j_get (pc := 1) C gf_Reader_44 0 rfl rfl d_Reader_fail_1 ?_
  refine j_if_neF (pc := 4) C (tgt := 17) d_Reader_fail_4 (by decide) (by decide) ?_
  refine j_aload_n (pc := 7) C d_Reader_fail_7 rfl 0 rfl ?_
  refine j_iload_n (pc := 8) C d_Reader_fail_8 rfl 1 rfl ?_
  refine j_put (pc := 9) C pf_Reader_44 0 (ws' := [(rd, .inr (5, [.int 1, .int (-1), .ref ow, .ref tp, .ref k2, .int 0, .int 0, .int 0, .long 0, .int 0, .int 0, .int 0])), (tp, .inr (0, [.ref td, .int 0]))]) rfl rfl rfl (nl rfl) rfl d_Reader_fail_9 ?_
  refine j_aload_n (pc := 12) C d_Reader_fail_12 rfl 0 rfl ?_
  refine j_iload_n (pc := 13) C d_Reader_fail_13 rfl 2 rfl ?_
  refine j_put (pc := 14) C pf_Reader_9 0 (ws' := [(rd, .inr (5, [.int 1, .int 0, .ref ow, .ref tp, .ref k2, .int 0, .int 0, .int 0, .long 0, .int 0, .int 0, .int 0])), (tp, .inr (0, [.ref td, .int 0]))]) rfl rfl rfl (nl rfl) rfl d_Reader_fail_14 ?_
  refine j_aload_n (pc := 17) C d_Reader_fail_17 rfl 0 rfl ?_
  refine j_aload_n (pc := 18) C d_Reader_fail_18 rfl 0 rfl ?_
  refine j_get (pc := 19) C gf_Reader_19 0 rfl rfl d_Reader_fail_19 ?_
  refine j_get (pc := 22) C gf_Reader_285 1 rfl rfl d_Reader_fail_22 ?_
  refine j_put (pc := 25) C pf_Reader_47 0 (ws' := [(rd, .inr (5, [.int 1, .int 0, .ref ow, .ref tp, .ref k2, .int 0, .int 0, .int 0, .long 0, .int 0, .int 0, .int 0])), (tp, .inr (0, [.ref td, .int 0]))]) rfl rfl rfl (nl rfl) rfl d_Reader_fail_25 ?_
  refine j_aload_n (pc := 28) C d_Reader_fail_28 rfl 0 rfl ?_
  refine j_aload_n (pc := 29) C d_Reader_fail_29 rfl 0 rfl ?_
  refine j_get (pc := 30) C gf_Reader_47 0 rfl rfl d_Reader_fail_30 ?_
  refine j_put (pc := 33) C pf_Reader_62 0 (ws' := [(rd, .inr (5, [.int 1, .int 0, .ref ow, .ref tp, .ref k2, .int 0, .int 0, .int 0, .long 0, .int 0, .int 0, .int 0])), (tp, .inr (0, [.ref td, .int 0]))]) rfl rfl rfl (nl rfl) rfl d_Reader_fail_33 ?_
  refine j_aload_n (pc := 36) C d_Reader_fail_36 rfl 0 rfl ?_
  refine j_iconst (pc := 37) C (v := 0) d_Reader_fail_37 (by decide) ?_
  refine j_put (pc := 38) C pf_Reader_50 0 (ws' := [(rd, .inr (5, [.int 1, .int 0, .ref ow, .ref tp, .ref k2, .int 0, .int 0, .int 0, .long 0, .int 0, .int 0, .int 0])), (tp, .inr (0, [.ref td, .int 0]))]) rfl rfl rfl (nl rfl) rfl d_Reader_fail_38 ?_
  exact j_vret (pc := 41) C hr () trivial [0, 1] rfl (by decide) (by decide) (by decide) d_Reader_fail_41
theorem d_Reader_isWord_0 : decode prog_8_method_23_code 0 = .ok (.aload_n 0, 1) := by decide +kernel
theorem d_Reader_isWord_1 : decode prog_8_method_23_code 1 = .ok (.getfield 50, 3) := by decide +kernel
theorem gf_Reader_50 : GF "NineBoards$Reader" 50 5 6 := ⟨_, _, _, rfl, ci_Reader, by decide, (mt_2 (List.mem_of_getElem? (i := 170) rfl) rfl)⟩
theorem d_Reader_isWord_4 : decode prog_8_method_23_code 4 = .ok (.iconst 1, 1) := by decide +kernel
theorem d_Reader_isWord_5 : decode prog_8_method_23_code 5 = .ok (.if_icmp .ne 15, 3) := by decide +kernel
theorem d_Reader_isWord_20 : decode prog_8_method_23_code 20 = .ok (.iconst 0, 1) := by decide +kernel
theorem d_Reader_isWord_21 : decode prog_8_method_23_code 21 = .ok (.ireturn, 1) := by decide +kernel
set_option maxHeartbeats 4000000 in
set_option maxRecDepth 100000 in
theorem c_R_isWord_0 (l : Launch) (D : va_G) (y : Nat → ClassId) (rd : Nat) (ow : Nat) (tp : Nat) (k2 : Nat) (v : Int32)  : CT l D y ⟨"NineBoards$Reader", "isWord", "(I)Z"⟩ prog_8_method_23_code 2 (some .boolean) ({ frames := 0, cells := 0, slots := 0, locals := 0 } : Room) [.ref rd, .int v] [(rd, .inr (5, [.int 0, .int (-1), .ref ow, .ref tp, .ref k2, .int 0, .int 0, .int 0, .long 0, .int 0, .int 0, .int 0]))] (QI D [(rd, .inr (5, [.int 0, .int (-1), .ref ow, .ref tp, .ref k2, .int 0, .int 0, .int 0, .long 0, .int 0, .int 0, .int 0]))] (fun (r : Int32) (_ : Unit) => r = 0) (fun _ => [(rd, .inr (5, [.int 0, .int (-1), .ref ow, .ref tp, .ref k2, .int 0, .int 0, .int 0, .long 0, .int 0, .int 0, .int 0]))])) := by
  refine CT.of (by decide) (nb rfl) ?_
  intro p e s m args below meth c C hr
  refine j_lv (lv' := [(0, .ref rd), (1, .int v)]) rfl ?_
  refine j_aload_n (pc := 0) C d_Reader_isWord_0 rfl 0 rfl ?_
  refine j_get (pc := 1) C gf_Reader_50 0 rfl rfl d_Reader_isWord_1 ?_
  refine j_iconst (pc := 4) C (v := 1) d_Reader_isWord_4 (by decide) ?_
  refine j_icmp_neT (pc := 5) C (tgt := 20) d_Reader_isWord_5 (by decide) (by decide) ?_
  refine j_iconst (pc := 20) C (v := 0) d_Reader_isWord_20 (by decide) ?_
  exact j_iret (pc := 21) C hr (by decide) () rfl [0] rfl (by decide) (by decide) (by decide) d_Reader_isWord_21
theorem d_Reader_readWord_0 : decode prog_8_method_25_code 0 = .ok (.aload_n 0, 1) := by decide +kernel
theorem d_Reader_readWord_1 : decode prog_8_method_25_code 1 = .ok (.iload_n 1, 1) := by decide +kernel
theorem d_Reader_readWord_2 : decode prog_8_method_25_code 2 = .ok (.invokevirtual 69, 3) := by decide +kernel
theorem kw_Reader_69 : KW "NineBoards$Reader" 69 ⟨"NineBoards$Reader", "isWord", "(I)Z"⟩ prog_8_method_23_code 2 (some .boolean) 1 := ⟨(mt_3 (List.mem_of_getElem? (i := 77) rfl) rfl), (mt_1 (List.mem_of_getElem? (i := 10) rfl) rfl), (mt_3 (List.mem_of_getElem? (i := 80) rfl) rfl), by decide +kernel⟩
theorem kv_Reader_isWord : Cond.instanceMethod ⟨"NineBoards$Reader", "isWord", "(I)Z"⟩ ∈ TB ∧ Cond.selects "NineBoards$Reader" ⟨"NineBoards$Reader", "isWord", "(I)Z"⟩ ⟨"NineBoards$Reader", "isWord", "(I)Z"⟩ ∈ TB := ⟨(mt_3 (List.mem_of_getElem? (i := 79) rfl) rfl), (ms_0 (List.mem_map.mpr ⟨(⟨"NineBoards$Reader", "isWord", "(I)Z"⟩, 12), List.mem_of_getElem? (i := 5) (by decide +kernel), rfl⟩) rfl)⟩
theorem d_Reader_readWord_5 : decode prog_8_method_25_code 5 = .ok (.ifCond .eq 10, 3) := by decide +kernel
theorem d_Reader_readWord_15 : decode prog_8_method_25_code 15 = .ok (.aload_n 0, 1) := by decide +kernel
theorem d_Reader_readWord_16 : decode prog_8_method_25_code 16 = .ok (.iconst 1, 1) := by decide +kernel
theorem d_Reader_readWord_17 : decode prog_8_method_25_code 17 = .ok (.aload_n 0, 1) := by decide +kernel
theorem d_Reader_readWord_18 : decode prog_8_method_25_code 18 = .ok (.getfield 62, 3) := by decide +kernel
theorem gf_Reader_62 : GF "NineBoards$Reader" 62 5 7 := ⟨_, _, _, rfl, ci_Reader, by decide, (mt_2 (List.mem_of_getElem? (i := 171) rfl) rfl)⟩
theorem d_Reader_readWord_21 : decode prog_8_method_25_code 21 = .ok (.invokevirtual 65, 3) := by decide +kernel
theorem kw_Reader_65 : KW "NineBoards$Reader" 65 ⟨"NineBoards$Reader", "fail", "(II)V"⟩ prog_8_method_31_code 3 none 2 := ⟨(mt_3 (List.mem_of_getElem? (i := 81) rfl) rfl), (mt_1 (List.mem_of_getElem? (i := 10) rfl) rfl), (mt_3 (List.mem_of_getElem? (i := 84) rfl) rfl), by decide +kernel⟩
theorem kv_Reader_fail : Cond.instanceMethod ⟨"NineBoards$Reader", "fail", "(II)V"⟩ ∈ TB ∧ Cond.selects "NineBoards$Reader" ⟨"NineBoards$Reader", "fail", "(II)V"⟩ ⟨"NineBoards$Reader", "fail", "(II)V"⟩ ∈ TB := ⟨(mt_3 (List.mem_of_getElem? (i := 83) rfl) rfl), (ms_0 (List.mem_map.mpr ⟨(⟨"NineBoards$Reader", "fail", "(II)V"⟩, 12), List.mem_of_getElem? (i := 6) (by decide +kernel), rfl⟩) rfl)⟩
theorem d_Reader_readWord_24 : decode prog_8_method_25_code 24 = .ok (.return_, 1) := by decide +kernel
set_option maxHeartbeats 4000000 in
set_option maxRecDepth 100000 in
theorem c_R_readWord_0 (l : Launch) (D : va_G) (y : Nat → ClassId) (rd : Nat) (ow : Nat) (tp : Nat) (k2 : Nat) (td : Nat) (v : Int32)  : CT l D y ⟨"NineBoards$Reader", "readWord", "(I)V"⟩ prog_8_method_25_code 2 none ({ frames := 1, cells := 0, slots := 0, locals := 22 } : Room) [.ref rd, .int v] [(rd, .inr (5, [.int 0, .int (-1), .ref ow, .ref tp, .ref k2, .int 0, .int 0, .int 0, .long 0, .int 0, .int 0, .int 0])), (tp, .inr (0, [.ref td, .int 0]))] (QV D [(rd, .inr (5, [.int 0, .int (-1), .ref ow, .ref tp, .ref k2, .int 0, .int 0, .int 0, .long 0, .int 0, .int 0, .int 0])), (tp, .inr (0, [.ref td, .int 0]))] (fun (_ : Unit) => True) (fun _ => [(rd, .inr (5, [.int 1, .int 0, .ref ow, .ref tp, .ref k2, .int 0, .int 0, .int 0, .long 0, .int 0, .int 0, .int 0])), (tp, .inr (0, [.ref td, .int 0]))])) := by
  refine CT.of (by decide) (nb rfl) ?_
  intro p e s m args below meth c C hr
  refine j_lv (lv' := [(0, .ref rd), (1, .int v)]) rfl ?_
  refine j_aload_n (pc := 0) C d_Reader_readWord_0 rfl 0 rfl ?_
  refine j_iload_n (pc := 1) C d_Reader_readWord_1 rfl 1 rfl ?_
  refine j_callVi (pc := 2) C (c_R_isWord_0 l D y rd ow tp k2 v) kw_Reader_69 kv_Reader_isWord 0 5 rfl rfl ⟨by decide, by decide⟩ ⟨by decide, by decide⟩ (wr := [(tp, .inr (0, [.ref td, .int 0]))]) [0] [1] rfl rfl (by decide) (by decide) (by decide) (As := [.int v]) (rest := []) rfl (nb rfl) rfl d_Reader_readWord_2 (fun r1 _ hr1 => ?_)
  subst hr1
  refine j_ws (ws' := [(tp, .inr (0, [.ref td, .int 0])), (rd, .inr (5, [.int 0, .int (-1), .ref ow, .ref tp, .ref k2, .int 0, .int 0, .int 0, .long 0, .int 0, .int 0, .int 0]))]) rfl ?_
  refine j_st (st' := [.int 0]) rfl ?_
  refine j_if_eqT (pc := 5) C (tgt := 15) d_Reader_readWord_5 (by decide) (by decide) ?_
  refine j_aload_n (pc := 15) C d_Reader_readWord_15 rfl 0 rfl ?_
  refine j_iconst (pc := 16) C (v := 1) d_Reader_readWord_16 (by decide) ?_
  refine j_aload_n (pc := 17) C d_Reader_readWord_17 rfl 0 rfl ?_
  refine j_get (pc := 18) C gf_Reader_62 1 rfl rfl d_Reader_readWord_18 ?_
  refine j_callVv (pc := 21) C (c_R_fail_0 l D y rd ow tp k2 td) kw_Reader_65 kv_Reader_fail 0 5 rfl rfl ⟨by decide, by decide⟩ ⟨by decide, by decide⟩ (wr := []) [1, 0] [] rfl rfl (by decide) (by decide) (by decide) (As := [.int 1, .int 0]) (rest := []) rfl (nb rfl) rfl d_Reader_readWord_21 (fun _ _ => ?_)
  refine j_ws (ws' := [(rd, .inr (5, [.int 1, .int 0, .ref ow, .ref tp, .ref k2, .int 0, .int 0, .int 0, .long 0, .int 0, .int 0, .int 0])), (tp, .inr (0, [.ref td, .int 0]))]) rfl ?_
  exact j_vret (pc := 24) C hr () trivial [0, 1] rfl (by decide) (by decide) (by decide) d_Reader_readWord_24
set_option maxHeartbeats 4000000 in
set_option maxRecDepth 100000 in
theorem c_R_fail_1 (l : Launch) (D : va_G) (y : Nat → ClassId) (rd : Nat) (ow : Nat) (tp : Nat) (k2 : Nat) (td : Nat)  : CT l D y ⟨"NineBoards$Reader", "fail", "(II)V"⟩ prog_8_method_31_code 3 none ({ frames := 0, cells := 0, slots := 0, locals := 0 } : Room) [.ref rd, .int 1, .int 0] [(rd, .inr (5, [.int 1, .int 0, .ref ow, .ref tp, .ref k2, .int 0, .int 0, .int 0, .long 0, .int 0, .int 0, .int 0])), (tp, .inr (0, [.ref td, .int 0]))] (QV D [(rd, .inr (5, [.int 1, .int 0, .ref ow, .ref tp, .ref k2, .int 0, .int 0, .int 0, .long 0, .int 0, .int 0, .int 0])), (tp, .inr (0, [.ref td, .int 0]))] (fun (_ : Unit) => True) (fun _ => [(rd, .inr (5, [.int 1, .int 0, .ref ow, .ref tp, .ref k2, .int 0, .int 0, .int 0, .long 0, .int 0, .int 0, .int 0])), (tp, .inr (0, [.ref td, .int 0]))])) := by
  refine CT.of (by decide) (nb rfl) ?_
  intro p e s m args below meth c C hr
  refine j_lv (lv' := [(0, .ref rd), (1, .int 1), (2, .int 0)]) rfl ?_
  refine j_aload_n (pc := 0) C d_Reader_fail_0 rfl 0 rfl ?_
  refine j_get (pc := 1) C gf_Reader_44 0 rfl rfl d_Reader_fail_1 ?_
  refine j_if_neT (pc := 4) C (tgt := 17) d_Reader_fail_4 (by decide) (by decide) ?_
  refine j_aload_n (pc := 17) C d_Reader_fail_17 rfl 0 rfl ?_
  refine j_aload_n (pc := 18) C d_Reader_fail_18 rfl 0 rfl ?_
  refine j_get (pc := 19) C gf_Reader_19 0 rfl rfl d_Reader_fail_19 ?_
  refine j_get (pc := 22) C gf_Reader_285 1 rfl rfl d_Reader_fail_22 ?_
  refine j_put (pc := 25) C pf_Reader_47 0 (ws' := [(rd, .inr (5, [.int 1, .int 0, .ref ow, .ref tp, .ref k2, .int 0, .int 0, .int 0, .long 0, .int 0, .int 0, .int 0])), (tp, .inr (0, [.ref td, .int 0]))]) rfl rfl rfl (nl rfl) rfl d_Reader_fail_25 ?_
  refine j_aload_n (pc := 28) C d_Reader_fail_28 rfl 0 rfl ?_
  refine j_aload_n (pc := 29) C d_Reader_fail_29 rfl 0 rfl ?_
  refine j_get (pc := 30) C gf_Reader_47 0 rfl rfl d_Reader_fail_30 ?_
  refine j_put (pc := 33) C pf_Reader_62 0 (ws' := [(rd, .inr (5, [.int 1, .int 0, .ref ow, .ref tp, .ref k2, .int 0, .int 0, .int 0, .long 0, .int 0, .int 0, .int 0])), (tp, .inr (0, [.ref td, .int 0]))]) rfl rfl rfl (nl rfl) rfl d_Reader_fail_33 ?_
  refine j_aload_n (pc := 36) C d_Reader_fail_36 rfl 0 rfl ?_
  refine j_iconst (pc := 37) C (v := 0) d_Reader_fail_37 (by decide) ?_
  refine j_put (pc := 38) C pf_Reader_50 0 (ws' := [(rd, .inr (5, [.int 1, .int 0, .ref ow, .ref tp, .ref k2, .int 0, .int 0, .int 0, .long 0, .int 0, .int 0, .int 0])), (tp, .inr (0, [.ref td, .int 0]))]) rfl rfl rfl (nl rfl) rfl d_Reader_fail_38 ?_
  exact j_vret (pc := 41) C hr () trivial [0, 1] rfl (by decide) (by decide) (by decide) d_Reader_fail_41
set_option maxHeartbeats 4000000 in
set_option maxRecDepth 100000 in
theorem c_R_isWord_1 (l : Launch) (D : va_G) (y : Nat → ClassId) (rd : Nat) (ow : Nat) (tp : Nat) (k2 : Nat) (v : Int32)  : CT l D y ⟨"NineBoards$Reader", "isWord", "(I)Z"⟩ prog_8_method_23_code 2 (some .boolean) ({ frames := 0, cells := 0, slots := 0, locals := 0 } : Room) [.ref rd, .int v] [(rd, .inr (5, [.int 1, .int 0, .ref ow, .ref tp, .ref k2, .int 0, .int 0, .int 0, .long 0, .int 0, .int 0, .int 0]))] (QI D [(rd, .inr (5, [.int 1, .int 0, .ref ow, .ref tp, .ref k2, .int 0, .int 0, .int 0, .long 0, .int 0, .int 0, .int 0]))] (fun (r : Int32) (_ : Unit) => r = 0) (fun _ => [(rd, .inr (5, [.int 1, .int 0, .ref ow, .ref tp, .ref k2, .int 0, .int 0, .int 0, .long 0, .int 0, .int 0, .int 0]))])) := by
  refine CT.of (by decide) (nb rfl) ?_
  intro p e s m args below meth c C hr
  refine j_lv (lv' := [(0, .ref rd), (1, .int v)]) rfl ?_
  refine j_aload_n (pc := 0) C d_Reader_isWord_0 rfl 0 rfl ?_
  refine j_get (pc := 1) C gf_Reader_50 0 rfl rfl d_Reader_isWord_1 ?_
  refine j_iconst (pc := 4) C (v := 1) d_Reader_isWord_4 (by decide) ?_
  refine j_icmp_neT (pc := 5) C (tgt := 20) d_Reader_isWord_5 (by decide) (by decide) ?_
  refine j_iconst (pc := 20) C (v := 0) d_Reader_isWord_20 (by decide) ?_
  exact j_iret (pc := 21) C hr (by decide) () rfl [0] rfl (by decide) (by decide) (by decide) d_Reader_isWord_21
set_option maxHeartbeats 4000000 in
set_option maxRecDepth 100000 in
theorem c_R_readWord_1 (l : Launch) (D : va_G) (y : Nat → ClassId) (rd : Nat) (ow : Nat) (tp : Nat) (k2 : Nat) (td : Nat) (v : Int32)  : CT l D y ⟨"NineBoards$Reader", "readWord", "(I)V"⟩ prog_8_method_25_code 2 none ({ frames := 1, cells := 0, slots := 0, locals := 22 } : Room) [.ref rd, .int v] [(rd, .inr (5, [.int 1, .int 0, .ref ow, .ref tp, .ref k2, .int 0, .int 0, .int 0, .long 0, .int 0, .int 0, .int 0])), (tp, .inr (0, [.ref td, .int 0]))] (QV D [(rd, .inr (5, [.int 1, .int 0, .ref ow, .ref tp, .ref k2, .int 0, .int 0, .int 0, .long 0, .int 0, .int 0, .int 0])), (tp, .inr (0, [.ref td, .int 0]))] (fun (_ : Unit) => True) (fun _ => [(rd, .inr (5, [.int 1, .int 0, .ref ow, .ref tp, .ref k2, .int 0, .int 0, .int 0, .long 0, .int 0, .int 0, .int 0])), (tp, .inr (0, [.ref td, .int 0]))])) := by
  refine CT.of (by decide) (nb rfl) ?_
  intro p e s m args below meth c C hr
  refine j_lv (lv' := [(0, .ref rd), (1, .int v)]) rfl ?_
  refine j_aload_n (pc := 0) C d_Reader_readWord_0 rfl 0 rfl ?_
  refine j_iload_n (pc := 1) C d_Reader_readWord_1 rfl 1 rfl ?_
  refine j_callVi (pc := 2) C (c_R_isWord_1 l D y rd ow tp k2 v) kw_Reader_69 kv_Reader_isWord 0 5 rfl rfl ⟨by decide, by decide⟩ ⟨by decide, by decide⟩ (wr := [(tp, .inr (0, [.ref td, .int 0]))]) [0] [1] rfl rfl (by decide) (by decide) (by decide) (As := [.int v]) (rest := []) rfl (nb rfl) rfl d_Reader_readWord_2 (fun r1 _ hr1 => ?_)
  subst hr1
  refine j_ws (ws' := [(tp, .inr (0, [.ref td, .int 0])), (rd, .inr (5, [.int 1, .int 0, .ref ow, .ref tp, .ref k2, .int 0, .int 0, .int 0, .long 0, .int 0, .int 0, .int 0]))]) rfl ?_
  refine j_st (st' := [.int 0]) rfl ?_
  refine j_if_eqT (pc := 5) C (tgt := 15) d_Reader_readWord_5 (by decide) (by decide) ?_
  refine j_aload_n (pc := 15) C d_Reader_readWord_15 rfl 0 rfl ?_
  refine j_iconst (pc := 16) C (v := 1) d_Reader_readWord_16 (by decide) ?_
  refine j_aload_n (pc := 17) C d_Reader_readWord_17 rfl 0 rfl ?_
  refine j_get (pc := 18) C gf_Reader_62 1 rfl rfl d_Reader_readWord_18 ?_
  refine j_callVv (pc := 21) C (c_R_fail_1 l D y rd ow tp k2 td) kw_Reader_65 kv_Reader_fail 0 5 rfl rfl ⟨by decide, by decide⟩ ⟨by decide, by decide⟩ (wr := []) [1, 0] [] rfl rfl (by decide) (by decide) (by decide) (As := [.int 1, .int 0]) (rest := []) rfl (nb rfl) rfl d_Reader_readWord_21 (fun _ _ => ?_)
  refine j_ws (ws' := [(rd, .inr (5, [.int 1, .int 0, .ref ow, .ref tp, .ref k2, .int 0, .int 0, .int 0, .long 0, .int 0, .int 0, .int 0])), (tp, .inr (0, [.ref td, .int 0]))]) rfl ?_
  exact j_vret (pc := 24) C hr () trivial [0, 1] rfl (by decide) (by decide) (by decide) d_Reader_readWord_24
theorem d_Reader_isSign_0 : decode prog_8_method_24_code 0 = .ok (.aload_n 0, 1) := by decide +kernel
theorem d_Reader_isSign_1 : decode prog_8_method_24_code 1 = .ok (.getfield 50, 3) := by decide +kernel
theorem d_Reader_isSign_4 : decode prog_8_method_24_code 4 = .ok (.iconst 3, 1) := by decide +kernel
theorem d_Reader_isSign_5 : decode prog_8_method_24_code 5 = .ok (.if_icmp .ne 15, 3) := by decide +kernel
theorem d_Reader_isSign_20 : decode prog_8_method_24_code 20 = .ok (.iconst 0, 1) := by decide +kernel
theorem d_Reader_isSign_21 : decode prog_8_method_24_code 21 = .ok (.ireturn, 1) := by decide +kernel
set_option maxHeartbeats 4000000 in
set_option maxRecDepth 100000 in
theorem c_R_isSign (l : Launch) (D : va_G) (y : Nat → ClassId) (rd : Nat) (ow : Nat) (tp : Nat) (k2 : Nat) (v : Int32)  : CT l D y ⟨"NineBoards$Reader", "isSign", "(C)Z"⟩ prog_8_method_24_code 2 (some .boolean) ({ frames := 0, cells := 0, slots := 0, locals := 0 } : Room) [.ref rd, .int v] [(rd, .inr (5, [.int 1, .int 0, .ref ow, .ref tp, .ref k2, .int 0, .int 0, .int 0, .long 0, .int 0, .int 0, .int 0]))] (QI D [(rd, .inr (5, [.int 1, .int 0, .ref ow, .ref tp, .ref k2, .int 0, .int 0, .int 0, .long 0, .int 0, .int 0, .int 0]))] (fun (r : Int32) (_ : Unit) => r = 0) (fun _ => [(rd, .inr (5, [.int 1, .int 0, .ref ow, .ref tp, .ref k2, .int 0, .int 0, .int 0, .long 0, .int 0, .int 0, .int 0]))])) := by
  refine CT.of (by decide) (nb rfl) ?_
  intro p e s m args below meth c C hr
  refine j_lv (lv' := [(0, .ref rd), (1, .int v)]) rfl ?_
  refine j_aload_n (pc := 0) C d_Reader_isSign_0 rfl 0 rfl ?_
  refine j_get (pc := 1) C gf_Reader_50 0 rfl rfl d_Reader_isSign_1 ?_
  refine j_iconst (pc := 4) C (v := 3) d_Reader_isSign_4 (by decide) ?_
  refine j_icmp_neT (pc := 5) C (tgt := 20) d_Reader_isSign_5 (by decide) (by decide) ?_
  refine j_iconst (pc := 20) C (v := 0) d_Reader_isSign_20 (by decide) ?_
  exact j_iret (pc := 21) C hr (by decide) () rfl [0] rfl (by decide) (by decide) (by decide) d_Reader_isSign_21
theorem d_Reader_readSign_0 : decode prog_8_method_26_code 0 = .ok (.aload_n 0, 1) := by decide +kernel
theorem d_Reader_readSign_1 : decode prog_8_method_26_code 1 = .ok (.iload_n 1, 1) := by decide +kernel
theorem d_Reader_readSign_2 : decode prog_8_method_26_code 2 = .ok (.invokevirtual 259, 3) := by decide +kernel
theorem kw_Reader_259 : KW "NineBoards$Reader" 259 ⟨"NineBoards$Reader", "isSign", "(C)Z"⟩ prog_8_method_24_code 2 (some .boolean) 1 := ⟨(mt_3 (List.mem_of_getElem? (i := 97) rfl) rfl), (mt_1 (List.mem_of_getElem? (i := 10) rfl) rfl), (mt_3 (List.mem_of_getElem? (i := 100) rfl) rfl), by decide +kernel⟩
theorem kv_Reader_isSign : Cond.instanceMethod ⟨"NineBoards$Reader", "isSign", "(C)Z"⟩ ∈ TB ∧ Cond.selects "NineBoards$Reader" ⟨"NineBoards$Reader", "isSign", "(C)Z"⟩ ⟨"NineBoards$Reader", "isSign", "(C)Z"⟩ ∈ TB := ⟨(mt_3 (List.mem_of_getElem? (i := 99) rfl) rfl), (ms_0 (List.mem_map.mpr ⟨(⟨"NineBoards$Reader", "isSign", "(C)Z"⟩, 12), List.mem_of_getElem? (i := 10) (by decide +kernel), rfl⟩) rfl)⟩
theorem d_Reader_readSign_5 : decode prog_8_method_26_code 5 = .ok (.ifCond .eq 10, 3) := by decide +kernel
theorem d_Reader_readSign_15 : decode prog_8_method_26_code 15 = .ok (.aload_n 0, 1) := by decide +kernel
theorem d_Reader_readSign_16 : decode prog_8_method_26_code 16 = .ok (.iconst 1, 1) := by decide +kernel
theorem d_Reader_readSign_17 : decode prog_8_method_26_code 17 = .ok (.aload_n 0, 1) := by decide +kernel
theorem d_Reader_readSign_18 : decode prog_8_method_26_code 18 = .ok (.getfield 62, 3) := by decide +kernel
theorem d_Reader_readSign_21 : decode prog_8_method_26_code 21 = .ok (.invokevirtual 65, 3) := by decide +kernel
theorem d_Reader_readSign_24 : decode prog_8_method_26_code 24 = .ok (.return_, 1) := by decide +kernel
set_option maxHeartbeats 4000000 in
set_option maxRecDepth 100000 in
theorem c_R_readSign (l : Launch) (D : va_G) (y : Nat → ClassId) (rd : Nat) (ow : Nat) (tp : Nat) (k2 : Nat) (td : Nat) (v : Int32)  : CT l D y ⟨"NineBoards$Reader", "readSign", "(C)V"⟩ prog_8_method_26_code 2 none ({ frames := 1, cells := 0, slots := 0, locals := 22 } : Room) [.ref rd, .int v] [(rd, .inr (5, [.int 1, .int 0, .ref ow, .ref tp, .ref k2, .int 0, .int 0, .int 0, .long 0, .int 0, .int 0, .int 0])), (tp, .inr (0, [.ref td, .int 0]))] (QV D [(rd, .inr (5, [.int 1, .int 0, .ref ow, .ref tp, .ref k2, .int 0, .int 0, .int 0, .long 0, .int 0, .int 0, .int 0])), (tp, .inr (0, [.ref td, .int 0]))] (fun (_ : Unit) => True) (fun _ => [(rd, .inr (5, [.int 1, .int 0, .ref ow, .ref tp, .ref k2, .int 0, .int 0, .int 0, .long 0, .int 0, .int 0, .int 0])), (tp, .inr (0, [.ref td, .int 0]))])) := by
  refine CT.of (by decide) (nb rfl) ?_
  intro p e s m args below meth c C hr
  refine j_lv (lv' := [(0, .ref rd), (1, .int v)]) rfl ?_
  refine j_aload_n (pc := 0) C d_Reader_readSign_0 rfl 0 rfl ?_
  refine j_iload_n (pc := 1) C d_Reader_readSign_1 rfl 1 rfl ?_
  refine j_callVi (pc := 2) C (c_R_isSign l D y rd ow tp k2 v) kw_Reader_259 kv_Reader_isSign 0 5 rfl rfl ⟨by decide, by decide⟩ ⟨by decide, by decide⟩ (wr := [(tp, .inr (0, [.ref td, .int 0]))]) [0] [1] rfl rfl (by decide) (by decide) (by decide) (As := [.int v]) (rest := []) rfl (nb rfl) rfl d_Reader_readSign_2 (fun r1 _ hr1 => ?_)
  subst hr1
  refine j_ws (ws' := [(tp, .inr (0, [.ref td, .int 0])), (rd, .inr (5, [.int 1, .int 0, .ref ow, .ref tp, .ref k2, .int 0, .int 0, .int 0, .long 0, .int 0, .int 0, .int 0]))]) rfl ?_
  refine j_st (st' := [.int 0]) rfl ?_
  refine j_if_eqT (pc := 5) C (tgt := 15) d_Reader_readSign_5 (by decide) (by decide) ?_
  refine j_aload_n (pc := 15) C d_Reader_readSign_15 rfl 0 rfl ?_
  refine j_iconst (pc := 16) C (v := 1) d_Reader_readSign_16 (by decide) ?_
  refine j_aload_n (pc := 17) C d_Reader_readSign_17 rfl 0 rfl ?_
  refine j_get (pc := 18) C gf_Reader_62 1 rfl rfl d_Reader_readSign_18 ?_
  refine j_callVv (pc := 21) C (c_R_fail_1 l D y rd ow tp k2 td) kw_Reader_65 kv_Reader_fail 0 5 rfl rfl ⟨by decide, by decide⟩ ⟨by decide, by decide⟩ (wr := []) [1, 0] [] rfl rfl (by decide) (by decide) (by decide) (As := [.int 1, .int 0]) (rest := []) rfl (nb rfl) rfl d_Reader_readSign_21 (fun _ _ => ?_)
  refine j_ws (ws' := [(rd, .inr (5, [.int 1, .int 0, .ref ow, .ref tp, .ref k2, .int 0, .int 0, .int 0, .long 0, .int 0, .int 0, .int 0])), (tp, .inr (0, [.ref td, .int 0]))]) rfl ?_
  exact j_vret (pc := 24) C hr () trivial [0, 1] rfl (by decide) (by decide) (by decide) d_Reader_readSign_24
theorem d_Reader_readNumber_0 : decode prog_8_method_27_code 0 = .ok (.aload_n 0, 1) := by decide +kernel
theorem d_Reader_readNumber_1 : decode prog_8_method_27_code 1 = .ok (.getfield 62, 3) := by decide +kernel
theorem d_Reader_readNumber_4 : decode prog_8_method_27_code 4 = .ok (.istore_n 3, 1) := by decide +kernel
theorem d_Reader_readNumber_5 : decode prog_8_method_27_code 5 = .ok (.aload_n 0, 1) := by decide +kernel
theorem d_Reader_readNumber_6 : decode prog_8_method_27_code 6 = .ok (.getfield 275, 3) := by decide +kernel
theorem gf_Reader_275 : GF "NineBoards$Reader" 275 5 10 := ⟨_, _, _, rfl, ci_Reader, by decide, (mt_2 (List.mem_of_getElem? (i := 174) rfl) rfl)⟩
theorem d_Reader_readNumber_9 : decode prog_8_method_27_code 9 = .ok (.istore 4, 2) := by decide +kernel
theorem d_Reader_readNumber_11 : decode prog_8_method_27_code 11 = .ok (.aload_n 0, 1) := by decide +kernel
theorem d_Reader_readNumber_12 : decode prog_8_method_27_code 12 = .ok (.getfield 50, 3) := by decide +kernel
theorem d_Reader_readNumber_15 : decode prog_8_method_27_code 15 = .ok (.iconst 2, 1) := by decide +kernel
theorem d_Reader_readNumber_16 : decode prog_8_method_27_code 16 = .ok (.if_icmp .eq 11, 3) := by decide +kernel
theorem d_Reader_readNumber_19 : decode prog_8_method_27_code 19 = .ok (.aload_n 0, 1) := by decide +kernel
theorem d_Reader_readNumber_20 : decode prog_8_method_27_code 20 = .ok (.iconst 1, 1) := by decide +kernel
theorem d_Reader_readNumber_21 : decode prog_8_method_27_code 21 = .ok (.iload_n 3, 1) := by decide +kernel
theorem d_Reader_readNumber_22 : decode prog_8_method_27_code 22 = .ok (.invokevirtual 65, 3) := by decide +kernel
theorem d_Reader_readNumber_25 : decode prog_8_method_27_code 25 = .ok (.iload_n 1, 1) := by decide +kernel
theorem d_Reader_readNumber_26 : decode prog_8_method_27_code 26 = .ok (.ireturn, 1) := by decide +kernel
set_option maxHeartbeats 4000000 in
set_option maxRecDepth 100000 in
theorem c_R_readNumber (l : Launch) (D : va_G) (y : Nat → ClassId) (rd : Nat) (ow : Nat) (tp : Nat) (k2 : Nat) (td : Nat) (v : Int32) (w : Int32)  : CT l D y ⟨"NineBoards$Reader", "readNumber", "(II)I"⟩ prog_8_method_27_code 5 (some .int) ({ frames := 1, cells := 0, slots := 0, locals := 22 } : Room) [.ref rd, .int v, .int w] [(rd, .inr (5, [.int 1, .int 0, .ref ow, .ref tp, .ref k2, .int 0, .int 0, .int 0, .long 0, .int 0, .int 0, .int 0])), (tp, .inr (0, [.ref td, .int 0]))] (QI D [(rd, .inr (5, [.int 1, .int 0, .ref ow, .ref tp, .ref k2, .int 0, .int 0, .int 0, .long 0, .int 0, .int 0, .int 0])), (tp, .inr (0, [.ref td, .int 0]))] (fun (r : Int32) (_ : Unit) => r = v) (fun _ => [(rd, .inr (5, [.int 1, .int 0, .ref ow, .ref tp, .ref k2, .int 0, .int 0, .int 0, .long 0, .int 0, .int 0, .int 0])), (tp, .inr (0, [.ref td, .int 0]))])) := by
  refine CT.of (by decide) (nb rfl) ?_
  intro p e s m args below meth c C hr
  refine j_lv (lv' := [(0, .ref rd), (1, .int v), (2, .int w)]) rfl ?_
  refine j_aload_n (pc := 0) C d_Reader_readNumber_0 rfl 0 rfl ?_
  refine j_get (pc := 1) C gf_Reader_62 0 rfl rfl d_Reader_readNumber_1 ?_
  refine j_istore_n (pc := 4) C (lv' := [(3, .int 0), (0, .ref rd), (1, .int v), (2, .int w)]) d_Reader_readNumber_4 rfl (by decide) rfl ?_
  refine j_aload_n (pc := 5) C d_Reader_readNumber_5 rfl 1 rfl ?_
  refine j_get (pc := 6) C gf_Reader_275 0 rfl rfl d_Reader_readNumber_6 ?_
  refine j_istore (pc := 9) C (lv' := [(4, .int 0), (3, .int 0), (0, .ref rd), (1, .int v), (2, .int w)]) d_Reader_readNumber_9 (by decide) rfl ?_
  refine j_aload_n (pc := 11) C d_Reader_readNumber_11 rfl 2 rfl ?_
  refine j_get (pc := 12) C gf_Reader_50 0 rfl rfl d_Reader_readNumber_12 ?_
  refine j_iconst (pc := 15) C (v := 2) d_Reader_readNumber_15 (by decide) ?_
  refine j_icmp_eqF (pc := 16) C (tgt := 27) d_Reader_readNumber_16 (by decide) (by decide) ?_
  refine j_aload_n (pc := 19) C d_Reader_readNumber_19 rfl 2 rfl ?_
  refine j_iconst (pc := 20) C (v := 1) d_Reader_readNumber_20 (by decide) ?_
  refine j_iload_n (pc := 21) C d_Reader_readNumber_21 rfl 1 rfl ?_
  refine j_callVv (pc := 22) C (c_R_fail_1 l D y rd ow tp k2 td) kw_Reader_65 kv_Reader_fail 0 5 rfl rfl ⟨by decide, by decide⟩ ⟨by decide, by decide⟩ (wr := []) [0, 1] [] rfl rfl (by decide) (by decide) (by decide) (As := [.int 1, .int 0]) (rest := []) rfl (nb rfl) rfl d_Reader_readNumber_22 (fun _ _ => ?_)
  refine j_ws (ws' := [(rd, .inr (5, [.int 1, .int 0, .ref ow, .ref tp, .ref k2, .int 0, .int 0, .int 0, .long 0, .int 0, .int 0, .int 0])), (tp, .inr (0, [.ref td, .int 0]))]) rfl ?_
  refine j_iload_n (pc := 25) C d_Reader_readNumber_25 rfl 3 rfl ?_
  exact j_iret (pc := 26) C hr rfl () rfl [0, 1] rfl (by decide) (by decide) (by decide) d_Reader_readNumber_26
theorem d_Reader_advance_0 : decode prog_8_method_32_code 0 = .ok (.aload_n 0, 1) := by decide +kernel
theorem d_Reader_advance_1 : decode prog_8_method_32_code 1 = .ok (.getfield 50, 3) := by decide +kernel
theorem d_Reader_advance_4 : decode prog_8_method_32_code 4 = .ok (.iconst 1, 1) := by decide +kernel
theorem d_Reader_advance_5 : decode prog_8_method_32_code 5 = .ok (.if_icmp .eq 11, 3) := by decide +kernel
theorem d_Reader_advance_8 : decode prog_8_method_32_code 8 = .ok (.aload_n 0, 1) := by decide +kernel
theorem d_Reader_advance_9 : decode prog_8_method_32_code 9 = .ok (.getfield 50, 3) := by decide +kernel
theorem d_Reader_advance_12 : decode prog_8_method_32_code 12 = .ok (.iconst 2, 1) := by decide +kernel
theorem d_Reader_advance_13 : decode prog_8_method_32_code 13 = .ok (.if_icmp .ne 7, 3) := by decide +kernel
theorem d_Reader_advance_20 : decode prog_8_method_32_code 20 = .ok (.iconst 0, 1) := by decide +kernel
theorem d_Reader_advance_21 : decode prog_8_method_32_code 21 = .ok (.istore_n 1, 1) := by decide +kernel
theorem d_Reader_advance_22 : decode prog_8_method_32_code 22 = .ok (.aload_n 0, 1) := by decide +kernel
theorem d_Reader_advance_23 : decode prog_8_method_32_code 23 = .ok (.getfield 47, 3) := by decide +kernel
theorem d_Reader_advance_26 : decode prog_8_method_32_code 26 = .ok (.istore_n 2, 1) := by decide +kernel
theorem d_Reader_advance_27 : decode prog_8_method_32_code 27 = .ok (.aload_n 0, 1) := by decide +kernel
theorem d_Reader_advance_28 : decode prog_8_method_32_code 28 = .ok (.getfield 19, 3) := by decide +kernel
theorem d_Reader_advance_31 : decode prog_8_method_32_code 31 = .ok (.getfield 285, 3) := by decide +kernel
theorem d_Reader_advance_34 : decode prog_8_method_32_code 34 = .ok (.aload_n 0, 1) := by decide +kernel
theorem d_Reader_advance_35 : decode prog_8_method_32_code 35 = .ok (.getfield 19, 3) := by decide +kernel
theorem d_Reader_advance_38 : decode prog_8_method_32_code 38 = .ok (.getfield 288, 3) := by decide +kernel
theorem gf_Reader_288 : GF "NineBoards$Reader" 288 0 0 := ⟨_, _, _, rfl, ci_Bytes, by decide, (mt_1 (List.mem_of_getElem? (i := 37) rfl) rfl)⟩
theorem d_Reader_advance_41 : decode prog_8_method_32_code 41 = .ok (.arraylength, 1) := by decide +kernel
theorem d_Reader_advance_42 : decode prog_8_method_32_code 42 = .ok (.invokestatic 291, 3) := by decide +kernel
theorem d_Reader_advance_45 : decode prog_8_method_32_code 45 = .ok (.istore_n 3, 1) := by decide +kernel
theorem d_Reader_advance_46 : decode prog_8_method_32_code 46 = .ok (.aload_n 0, 1) := by decide +kernel
theorem d_Reader_advance_47 : decode prog_8_method_32_code 47 = .ok (.getfield 47, 3) := by decide +kernel
theorem d_Reader_advance_50 : decode prog_8_method_32_code 50 = .ok (.iload_n 3, 1) := by decide +kernel
theorem d_Reader_advance_51 : decode prog_8_method_32_code 51 = .ok (.if_icmp .ge 50, 3) := by decide +kernel
theorem d_Reader_advance_101 : decode prog_8_method_32_code 101 = .ok (.aload_n 0, 1) := by decide +kernel
theorem d_Reader_advance_102 : decode prog_8_method_32_code 102 = .ok (.aload_n 0, 1) := by decide +kernel
theorem d_Reader_advance_103 : decode prog_8_method_32_code 103 = .ok (.getfield 47, 3) := by decide +kernel
theorem d_Reader_advance_106 : decode prog_8_method_32_code 106 = .ok (.putfield 62, 3) := by decide +kernel
theorem d_Reader_advance_109 : decode prog_8_method_32_code 109 = .ok (.aload_n 0, 1) := by decide +kernel
theorem d_Reader_advance_110 : decode prog_8_method_32_code 110 = .ok (.getfield 47, 3) := by decide +kernel
theorem d_Reader_advance_113 : decode prog_8_method_32_code 113 = .ok (.iload_n 3, 1) := by decide +kernel
theorem d_Reader_advance_114 : decode prog_8_method_32_code 114 = .ok (.if_icmp .lt 9, 3) := by decide +kernel
theorem d_Reader_advance_117 : decode prog_8_method_32_code 117 = .ok (.aload_n 0, 1) := by decide +kernel
theorem d_Reader_advance_118 : decode prog_8_method_32_code 118 = .ok (.iconst 0, 1) := by decide +kernel
theorem d_Reader_advance_119 : decode prog_8_method_32_code 119 = .ok (.putfield 50, 3) := by decide +kernel
theorem d_Reader_advance_122 : decode prog_8_method_32_code 122 = .ok (.return_, 1) := by decide +kernel
set_option maxHeartbeats 4000000 in
set_option maxRecDepth 100000 in
theorem c_R_advance (l : Launch) (D : va_G) (y : Nat → ClassId) (rd : Nat) (ow : Nat) (tp : Nat) (k2 : Nat) (td : Nat)  : CT l D y ⟨"NineBoards$Reader", "advance", "()V"⟩ prog_8_method_32_code 4 none ({ frames := 1, cells := 0, slots := 0, locals := 13 } : Room) [.ref rd] [(rd, .inr (5, [.int 0, .int (-1), .ref ow, .ref tp, .ref k2, .int 0, .int 0, .int 0, .long 0, .int 0, .int 0, .int 0])), (tp, .inr (0, [.ref td, .int 0])), (td, .inl (y 0, 1600, .inl (fun _ => 0)))] (QV D [(rd, .inr (5, [.int 0, .int (-1), .ref ow, .ref tp, .ref k2, .int 0, .int 0, .int 0, .long 0, .int 0, .int 0, .int 0])), (tp, .inr (0, [.ref td, .int 0])), (td, .inl (y 0, 1600, .inl (fun _ => 0)))] (fun (_ : Unit) => True) (fun _ => [(rd, .inr (5, [.int 0, .int (-1), .ref ow, .ref tp, .ref k2, .int 0, .int 0, .int 0, .long 0, .int 0, .int 0, .int 0])), (tp, .inr (0, [.ref td, .int 0])), (td, .inl (y 0, 1600, .inl (fun _ => 0)))])) := by
  refine CT.of (by decide) (nb rfl) ?_
  intro p e s m args below meth c C hr
  refine j_lv (lv' := [(0, .ref rd)]) rfl ?_
  refine j_aload_n (pc := 0) C d_Reader_advance_0 rfl 0 rfl ?_
  refine j_get (pc := 1) C gf_Reader_50 0 rfl rfl d_Reader_advance_1 ?_
  refine j_iconst (pc := 4) C (v := 1) d_Reader_advance_4 (by decide) ?_
  refine j_icmp_eqF (pc := 5) C (tgt := 16) d_Reader_advance_5 (by decide) (by decide) ?_
  refine j_aload_n (pc := 8) C d_Reader_advance_8 rfl 0 rfl ?_
  refine j_get (pc := 9) C gf_Reader_50 0 rfl rfl d_Reader_advance_9 ?_
  refine j_iconst (pc := 12) C (v := 2) d_Reader_advance_12 (by decide) ?_
  refine j_icmp_neT (pc := 13) C (tgt := 20) d_Reader_advance_13 (by decide) (by decide) ?_
  refine j_iconst (pc := 20) C (v := 0) d_Reader_advance_20 (by decide) ?_
  refine j_istore_n (pc := 21) C (lv' := [(1, .int 0), (0, .ref rd)]) d_Reader_advance_21 rfl (by decide) rfl ?_
  refine j_aload_n (pc := 22) C d_Reader_advance_22 rfl 1 rfl ?_
  refine j_get (pc := 23) C gf_Reader_47 0 rfl rfl d_Reader_advance_23 ?_
  refine j_istore_n (pc := 26) C (lv' := [(2, .int 0), (1, .int 0), (0, .ref rd)]) d_Reader_advance_26 rfl (by decide) rfl ?_
  refine j_aload_n (pc := 27) C d_Reader_advance_27 rfl 2 rfl ?_
  refine j_get (pc := 28) C gf_Reader_19 0 rfl rfl d_Reader_advance_28 ?_
  refine j_get (pc := 31) C gf_Reader_285 1 rfl rfl d_Reader_advance_31 ?_
  refine j_aload_n (pc := 34) C d_Reader_advance_34 rfl 2 rfl ?_
  refine j_get (pc := 35) C gf_Reader_19 0 rfl rfl d_Reader_advance_35 ?_
  refine j_get (pc := 38) C gf_Reader_288 1 rfl rfl d_Reader_advance_38 ?_
  refine j_alen (pc := 41) C 2 0 rfl rfl (v := 1600) rfl d_Reader_advance_41 ?_
  refine j_mmin (pc := 42) C (mt_3 (List.mem_of_getElem? (i := 55) rfl) rfl) (mt_3 (List.mem_of_getElem? (i := 56) rfl) rfl) (mt_1 (List.mem_of_getElem? (i := 3) rfl) rfl) (mt_3 (List.mem_of_getElem? (i := 57) rfl) rfl) (v := 0) (by decide) (by decide) (nb rfl) (by decide) (by decide) d_Reader_advance_42 ?_
  refine j_istore_n (pc := 45) C (lv' := [(3, .int 0), (2, .int 0), (1, .int 0), (0, .ref rd)]) d_Reader_advance_45 rfl (by decide) rfl ?_
  refine j_aload_n (pc := 46) C d_Reader_advance_46 rfl 3 rfl ?_
  refine j_get (pc := 47) C gf_Reader_47 0 rfl rfl d_Reader_advance_47 ?_
  refine j_iload_n (pc := 50) C d_Reader_advance_50 rfl 0 rfl ?_
  refine j_icmp_geT (pc := 51) C (tgt := 101) d_Reader_advance_51 (by decide) (by decide) ?_
  refine j_aload_n (pc := 101) C d_Reader_advance_101 rfl 3 rfl ?_
  refine j_aload_n (pc := 102) C d_Reader_advance_102 rfl 3 rfl ?_
  refine j_get (pc := 103) C gf_Reader_47 0 rfl rfl d_Reader_advance_103 ?_
  refine j_put (pc := 106) C pf_Reader_62 0 (ws' := [(rd, .inr (5, [.int 0, .int (-1), .ref ow, .ref tp, .ref k2, .int 0, .int 0, .int 0, .long 0, .int 0, .int 0, .int 0])), (tp, .inr (0, [.ref td, .int 0])), (td, .inl (y 0, 1600, .inl (fun _ => 0)))]) rfl rfl rfl (nl rfl) rfl d_Reader_advance_106 ?_
  refine j_aload_n (pc := 109) C d_Reader_advance_109 rfl 3 rfl ?_
  refine j_get (pc := 110) C gf_Reader_47 0 rfl rfl d_Reader_advance_110 ?_
  refine j_iload_n (pc := 113) C d_Reader_advance_113 rfl 0 rfl ?_
  refine j_icmp_ltF (pc := 114) C (tgt := 123) d_Reader_advance_114 (by decide) (by decide) ?_
  refine j_aload_n (pc := 117) C d_Reader_advance_117 rfl 3 rfl ?_
  refine j_iconst (pc := 118) C (v := 0) d_Reader_advance_118 (by decide) ?_
  refine j_put (pc := 119) C pf_Reader_50 0 (ws' := [(rd, .inr (5, [.int 0, .int (-1), .ref ow, .ref tp, .ref k2, .int 0, .int 0, .int 0, .long 0, .int 0, .int 0, .int 0])), (tp, .inr (0, [.ref td, .int 0])), (td, .inl (y 0, 1600, .inl (fun _ => 0)))]) rfl rfl rfl (nl rfl) rfl d_Reader_advance_119 ?_
  exact j_vret (pc := 122) C hr () trivial [0, 1, 2] rfl (by decide) (by decide) (by decide) d_Reader_advance_122
theorem d_Reader_readLake_0 : decode prog_8_method_5_code 0 = .ok (.aload_n 0, 1) := by decide +kernel
theorem d_Reader_readLake_1 : decode prog_8_method_5_code 1 = .ok (.iconst 0, 1) := by decide +kernel
theorem d_Reader_readLake_2 : decode prog_8_method_5_code 2 = .ok (.invokevirtual 108, 3) := by decide +kernel
theorem kw_Reader_108 : KW "NineBoards$Reader" 108 ⟨"NineBoards$Reader", "readWord", "(I)V"⟩ prog_8_method_25_code 2 none 1 := ⟨(mt_3 (List.mem_of_getElem? (i := 73) rfl) rfl), (mt_1 (List.mem_of_getElem? (i := 10) rfl) rfl), (mt_3 (List.mem_of_getElem? (i := 76) rfl) rfl), by decide +kernel⟩
theorem kv_Reader_readWord : Cond.instanceMethod ⟨"NineBoards$Reader", "readWord", "(I)V"⟩ ∈ TB ∧ Cond.selects "NineBoards$Reader" ⟨"NineBoards$Reader", "readWord", "(I)V"⟩ ⟨"NineBoards$Reader", "readWord", "(I)V"⟩ ∈ TB := ⟨(mt_3 (List.mem_of_getElem? (i := 75) rfl) rfl), (ms_0 (List.mem_map.mpr ⟨(⟨"NineBoards$Reader", "readWord", "(I)V"⟩, 12), List.mem_of_getElem? (i := 4) (by decide +kernel), rfl⟩) rfl)⟩
theorem d_Reader_readLake_5 : decode prog_8_method_5_code 5 = .ok (.aload_n 0, 1) := by decide +kernel
theorem d_Reader_readLake_6 : decode prog_8_method_5_code 6 = .ok (.iconst 1, 1) := by decide +kernel
theorem d_Reader_readLake_7 : decode prog_8_method_5_code 7 = .ok (.invokevirtual 108, 3) := by decide +kernel
theorem d_Reader_readLake_10 : decode prog_8_method_5_code 10 = .ok (.aload_n 0, 1) := by decide +kernel
theorem d_Reader_readLake_11 : decode prog_8_method_5_code 11 = .ok (.getfield 23, 3) := by decide +kernel
theorem gf_Reader_23 : GF "NineBoards$Reader" 23 5 4 := ⟨_, _, _, rfl, ci_Reader, by decide, (mt_2 (List.mem_of_getElem? (i := 168) rfl) rfl)⟩
theorem d_Reader_readLake_14 : decode prog_8_method_5_code 14 = .ok (.aload_n 0, 1) := by decide +kernel
theorem d_Reader_readLake_15 : decode prog_8_method_5_code 15 = .ok (.iconst 1, 1) := by decide +kernel
theorem d_Reader_readLake_16 : decode prog_8_method_5_code 16 = .ok (.sipush 999, 3) := by decide +kernel
theorem d_Reader_readLake_19 : decode prog_8_method_5_code 19 = .ok (.invokevirtual 111, 3) := by decide +kernel
theorem kw_Reader_111 : KW "NineBoards$Reader" 111 ⟨"NineBoards$Reader", "readNumber", "(II)I"⟩ prog_8_method_27_code 5 (some .int) 2 := ⟨(mt_3 (List.mem_of_getElem? (i := 85) rfl) rfl), (mt_1 (List.mem_of_getElem? (i := 10) rfl) rfl), (mt_3 (List.mem_of_getElem? (i := 88) rfl) rfl), by decide +kernel⟩
theorem kv_Reader_readNumber : Cond.instanceMethod ⟨"NineBoards$Reader", "readNumber", "(II)I"⟩ ∈ TB ∧ Cond.selects "NineBoards$Reader" ⟨"NineBoards$Reader", "readNumber", "(II)I"⟩ ⟨"NineBoards$Reader", "readNumber", "(II)I"⟩ ∈ TB := ⟨(mt_3 (List.mem_of_getElem? (i := 87) rfl) rfl), (ms_0 (List.mem_map.mpr ⟨(⟨"NineBoards$Reader", "readNumber", "(II)I"⟩, 12), List.mem_of_getElem? (i := 7) (by decide +kernel), rfl⟩) rfl)⟩
theorem d_Reader_readLake_22 : decode prog_8_method_5_code 22 = .ok (.putfield 115, 3) := by decide +kernel
theorem pf_Reader_115 : PF "NineBoards$Reader" 115 2 1 (.int) false := ⟨_, _, _, ct_Lake, rfl, ci_Lake, by decide, (mt_2 (List.mem_of_getElem? (i := 34) rfl) rfl), cp_Lake, cn_Lake, rfl, by decide +kernel, (fun h => by cases h)⟩
theorem d_Reader_readLake_25 : decode prog_8_method_5_code 25 = .ok (.aload_n 0, 1) := by decide +kernel
theorem d_Reader_readLake_26 : decode prog_8_method_5_code 26 = .ok (.iconst 2, 1) := by decide +kernel
theorem d_Reader_readLake_27 : decode prog_8_method_5_code 27 = .ok (.invokevirtual 108, 3) := by decide +kernel
theorem d_Reader_readLake_30 : decode prog_8_method_5_code 30 = .ok (.aload_n 0, 1) := by decide +kernel
theorem d_Reader_readLake_31 : decode prog_8_method_5_code 31 = .ok (.getfield 23, 3) := by decide +kernel
theorem d_Reader_readLake_34 : decode prog_8_method_5_code 34 = .ok (.aload_n 0, 1) := by decide +kernel
theorem d_Reader_readLake_35 : decode prog_8_method_5_code 35 = .ok (.iconst 1, 1) := by decide +kernel
theorem d_Reader_readLake_36 : decode prog_8_method_5_code 36 = .ok (.sipush 9999, 3) := by decide +kernel
theorem d_Reader_readLake_39 : decode prog_8_method_5_code 39 = .ok (.invokevirtual 111, 3) := by decide +kernel
theorem d_Reader_readLake_42 : decode prog_8_method_5_code 42 = .ok (.putfield 118, 3) := by decide +kernel
theorem pf_Reader_118 : PF "NineBoards$Reader" 118 2 2 (.int) false := ⟨_, _, _, ct_Lake, rfl, ci_Lake, by decide, (mt_2 (List.mem_of_getElem? (i := 36) rfl) rfl), cp_Lake, cn_Lake, rfl, by decide +kernel, (fun h => by cases h)⟩
theorem d_Reader_readLake_45 : decode prog_8_method_5_code 45 = .ok (.aload_n 0, 1) := by decide +kernel
theorem d_Reader_readLake_46 : decode prog_8_method_5_code 46 = .ok (.iconst 3, 1) := by decide +kernel
theorem d_Reader_readLake_47 : decode prog_8_method_5_code 47 = .ok (.invokevirtual 108, 3) := by decide +kernel
theorem d_Reader_readLake_50 : decode prog_8_method_5_code 50 = .ok (.aload_n 0, 1) := by decide +kernel
theorem d_Reader_readLake_51 : decode prog_8_method_5_code 51 = .ok (.getfield 23, 3) := by decide +kernel
theorem d_Reader_readLake_54 : decode prog_8_method_5_code 54 = .ok (.aload_n 0, 1) := by decide +kernel
theorem d_Reader_readLake_55 : decode prog_8_method_5_code 55 = .ok (.iconst 0, 1) := by decide +kernel
theorem d_Reader_readLake_56 : decode prog_8_method_5_code 56 = .ok (.aload_n 0, 1) := by decide +kernel
theorem d_Reader_readLake_57 : decode prog_8_method_5_code 57 = .ok (.getfield 23, 3) := by decide +kernel
theorem d_Reader_readLake_60 : decode prog_8_method_5_code 60 = .ok (.getfield 118, 3) := by decide +kernel
theorem gf_Reader_118 : GF "NineBoards$Reader" 118 2 2 := ⟨_, _, _, rfl, ci_Lake, by decide, (mt_2 (List.mem_of_getElem? (i := 36) rfl) rfl)⟩
theorem d_Reader_readLake_63 : decode prog_8_method_5_code 63 = .ok (.invokevirtual 111, 3) := by decide +kernel
theorem d_Reader_readLake_66 : decode prog_8_method_5_code 66 = .ok (.putfield 121, 3) := by decide +kernel
theorem pf_Reader_121 : PF "NineBoards$Reader" 121 2 3 (.int) false := ⟨_, _, _, ct_Lake, rfl, ci_Lake, by decide, (mt_2 (List.mem_of_getElem? (i := 41) rfl) rfl), cp_Lake, cn_Lake, rfl, by decide +kernel, (fun h => by cases h)⟩
theorem d_Reader_readLake_69 : decode prog_8_method_5_code 69 = .ok (.return_, 1) := by decide +kernel
set_option maxHeartbeats 4000000 in
set_option maxRecDepth 100000 in
theorem c_R_readLake (l : Launch) (D : va_G) (y : Nat → ClassId) (rd : Nat) (ow : Nat) (tp : Nat) (k2 : Nat) (td : Nat) (gg : Nat) (wn : Nat) (wg : Nat) (tt : Nat) (rr : Nat)  : CT l D y ⟨"NineBoards$Reader", "readLake", "()V"⟩ prog_8_method_5_code 1 none ({ frames := 2, cells := 0, slots := 0, locals := 46 } : Room) [.ref rd] [(rd, .inr (5, [.int 0, .int (-1), .ref ow, .ref tp, .ref k2, .int 0, .int 0, .int 0, .long 0, .int 0, .int 0, .int 0])), (tp, .inr (0, [.ref td, .int 0])), (k2, .inr (2, [.int 0, .int 1, .int 1, .int 0, .ref gg, .int 0, .ref wn, .ref wg, .ref tt, .ref rr, .int 0, .int 0, .int 9999, .int 0]))] (QV D [(rd, .inr (5, [.int 0, .int (-1), .ref ow, .ref tp, .ref k2, .int 0, .int 0, .int 0, .long 0, .int 0, .int 0, .int 0])), (tp, .inr (0, [.ref td, .int 0])), (k2, .inr (2, [.int 0, .int 1, .int 1, .int 0, .ref gg, .int 0, .ref wn, .ref wg, .ref tt, .ref rr, .int 0, .int 0, .int 9999, .int 0]))] (fun (_ : Unit) => True) (fun _ => [(rd, .inr (5, [.int 1, .int 0, .ref ow, .ref tp, .ref k2, .int 0, .int 0, .int 0, .long 0, .int 0, .int 0, .int 0])), (tp, .inr (0, [.ref td, .int 0])), (k2, .inr (2, [.int 0, .int 1, .int 1, .int 0, .ref gg, .int 0, .ref wn, .ref wg, .ref tt, .ref rr, .int 0, .int 0, .int 9999, .int 0]))])) := by
  refine CT.of (by decide) (nb rfl) ?_
  intro p e s m args below meth c C hr
  refine j_lv (lv' := [(0, .ref rd)]) rfl ?_
  refine j_aload_n (pc := 0) C d_Reader_readLake_0 rfl 0 rfl ?_
  refine j_iconst (pc := 1) C (v := 0) d_Reader_readLake_1 (by decide) ?_
  refine j_callVv (pc := 2) C (c_R_readWord_0 l D y rd ow tp k2 td 0) kw_Reader_108 kv_Reader_readWord 0 5 rfl rfl ⟨by decide, by decide⟩ ⟨by decide, by decide⟩ (wr := [(k2, .inr (2, [.int 0, .int 1, .int 1, .int 0, .ref gg, .int 0, .ref wn, .ref wg, .ref tt, .ref rr, .int 0, .int 0, .int 9999, .int 0]))]) [0, 1] [2] rfl rfl (by decide) (by decide) (by decide) (As := [.int 0]) (rest := []) rfl (nb rfl) rfl d_Reader_readLake_2 (fun _ _ => ?_)
  refine j_ws (ws' := [(k2, .inr (2, [.int 0, .int 1, .int 1, .int 0, .ref gg, .int 0, .ref wn, .ref wg, .ref tt, .ref rr, .int 0, .int 0, .int 9999, .int 0])), (rd, .inr (5, [.int 1, .int 0, .ref ow, .ref tp, .ref k2, .int 0, .int 0, .int 0, .long 0, .int 0, .int 0, .int 0])), (tp, .inr (0, [.ref td, .int 0]))]) rfl ?_
  refine j_aload_n (pc := 5) C d_Reader_readLake_5 rfl 0 rfl ?_
  refine j_iconst (pc := 6) C (v := 1) d_Reader_readLake_6 (by decide) ?_
  refine j_callVv (pc := 7) C (c_R_readWord_1 l D y rd ow tp k2 td 1) kw_Reader_108 kv_Reader_readWord 0 5 rfl rfl ⟨by decide, by decide⟩ ⟨by decide, by decide⟩ (wr := [(k2, .inr (2, [.int 0, .int 1, .int 1, .int 0, .ref gg, .int 0, .ref wn, .ref wg, .ref tt, .ref rr, .int 0, .int 0, .int 9999, .int 0]))]) [1, 2] [0] rfl rfl (by decide) (by decide) (by decide) (As := [.int 1]) (rest := []) rfl (nb rfl) rfl d_Reader_readLake_7 (fun _ _ => ?_)
  refine j_ws (ws' := [(k2, .inr (2, [.int 0, .int 1, .int 1, .int 0, .ref gg, .int 0, .ref wn, .ref wg, .ref tt, .ref rr, .int 0, .int 0, .int 9999, .int 0])), (rd, .inr (5, [.int 1, .int 0, .ref ow, .ref tp, .ref k2, .int 0, .int 0, .int 0, .long 0, .int 0, .int 0, .int 0])), (tp, .inr (0, [.ref td, .int 0]))]) rfl ?_
  refine j_aload_n (pc := 10) C d_Reader_readLake_10 rfl 0 rfl ?_
  refine j_get (pc := 11) C gf_Reader_23 1 rfl rfl d_Reader_readLake_11 ?_
  refine j_aload_n (pc := 14) C d_Reader_readLake_14 rfl 0 rfl ?_
  refine j_iconst (pc := 15) C (v := 1) d_Reader_readLake_15 (by decide) ?_
  refine j_sipush (pc := 16) C (v := 999) d_Reader_readLake_16 (by decide) ?_
  refine j_callVi (pc := 19) C (c_R_readNumber l D y rd ow tp k2 td 1 999) kw_Reader_111 kv_Reader_readNumber 0 5 rfl rfl ⟨by decide, by decide⟩ ⟨by decide, by decide⟩ (wr := [(k2, .inr (2, [.int 0, .int 1, .int 1, .int 0, .ref gg, .int 0, .ref wn, .ref wg, .ref tt, .ref rr, .int 0, .int 0, .int 9999, .int 0]))]) [1, 2] [0] rfl rfl (by decide) (by decide) (by decide) (As := [.int 1, .int 999]) (rest := [.ref k2]) rfl (nb rfl) rfl d_Reader_readLake_19 (fun r1 _ hr1 => ?_)
  subst hr1
  refine j_ws (ws' := [(k2, .inr (2, [.int 0, .int 1, .int 1, .int 0, .ref gg, .int 0, .ref wn, .ref wg, .ref tt, .ref rr, .int 0, .int 0, .int 9999, .int 0])), (rd, .inr (5, [.int 1, .int 0, .ref ow, .ref tp, .ref k2, .int 0, .int 0, .int 0, .long 0, .int 0, .int 0, .int 0])), (tp, .inr (0, [.ref td, .int 0]))]) rfl ?_
  refine j_st (st' := [.int 1, .ref k2]) rfl ?_
  refine j_put (pc := 22) C pf_Reader_115 0 (ws' := [(k2, .inr (2, [.int 0, .int 1, .int 1, .int 0, .ref gg, .int 0, .ref wn, .ref wg, .ref tt, .ref rr, .int 0, .int 0, .int 9999, .int 0])), (rd, .inr (5, [.int 1, .int 0, .ref ow, .ref tp, .ref k2, .int 0, .int 0, .int 0, .long 0, .int 0, .int 0, .int 0])), (tp, .inr (0, [.ref td, .int 0]))]) rfl rfl rfl (nl rfl) rfl d_Reader_readLake_22 ?_
  refine j_aload_n (pc := 25) C d_Reader_readLake_25 rfl 0 rfl ?_
  refine j_iconst (pc := 26) C (v := 2) d_Reader_readLake_26 (by decide) ?_
  refine j_callVv (pc := 27) C (c_R_readWord_1 l D y rd ow tp k2 td 2) kw_Reader_108 kv_Reader_readWord 0 5 rfl rfl ⟨by decide, by decide⟩ ⟨by decide, by decide⟩ (wr := [(k2, .inr (2, [.int 0, .int 1, .int 1, .int 0, .ref gg, .int 0, .ref wn, .ref wg, .ref tt, .ref rr, .int 0, .int 0, .int 9999, .int 0]))]) [1, 2] [0] rfl rfl (by decide) (by decide) (by decide) (As := [.int 2]) (rest := []) rfl (nb rfl) rfl d_Reader_readLake_27 (fun _ _ => ?_)
  refine j_ws (ws' := [(k2, .inr (2, [.int 0, .int 1, .int 1, .int 0, .ref gg, .int 0, .ref wn, .ref wg, .ref tt, .ref rr, .int 0, .int 0, .int 9999, .int 0])), (rd, .inr (5, [.int 1, .int 0, .ref ow, .ref tp, .ref k2, .int 0, .int 0, .int 0, .long 0, .int 0, .int 0, .int 0])), (tp, .inr (0, [.ref td, .int 0]))]) rfl ?_
  refine j_aload_n (pc := 30) C d_Reader_readLake_30 rfl 0 rfl ?_
  refine j_get (pc := 31) C gf_Reader_23 1 rfl rfl d_Reader_readLake_31 ?_
  refine j_aload_n (pc := 34) C d_Reader_readLake_34 rfl 0 rfl ?_
  refine j_iconst (pc := 35) C (v := 1) d_Reader_readLake_35 (by decide) ?_
  refine j_sipush (pc := 36) C (v := 9999) d_Reader_readLake_36 (by decide) ?_
  refine j_callVi (pc := 39) C (c_R_readNumber l D y rd ow tp k2 td 1 9999) kw_Reader_111 kv_Reader_readNumber 0 5 rfl rfl ⟨by decide, by decide⟩ ⟨by decide, by decide⟩ (wr := [(k2, .inr (2, [.int 0, .int 1, .int 1, .int 0, .ref gg, .int 0, .ref wn, .ref wg, .ref tt, .ref rr, .int 0, .int 0, .int 9999, .int 0]))]) [1, 2] [0] rfl rfl (by decide) (by decide) (by decide) (As := [.int 1, .int 9999]) (rest := [.ref k2]) rfl (nb rfl) rfl d_Reader_readLake_39 (fun r2 _ hr2 => ?_)
  subst hr2
  refine j_ws (ws' := [(k2, .inr (2, [.int 0, .int 1, .int 1, .int 0, .ref gg, .int 0, .ref wn, .ref wg, .ref tt, .ref rr, .int 0, .int 0, .int 9999, .int 0])), (rd, .inr (5, [.int 1, .int 0, .ref ow, .ref tp, .ref k2, .int 0, .int 0, .int 0, .long 0, .int 0, .int 0, .int 0])), (tp, .inr (0, [.ref td, .int 0]))]) rfl ?_
  refine j_st (st' := [.int 1, .ref k2]) rfl ?_
  refine j_put (pc := 42) C pf_Reader_118 0 (ws' := [(k2, .inr (2, [.int 0, .int 1, .int 1, .int 0, .ref gg, .int 0, .ref wn, .ref wg, .ref tt, .ref rr, .int 0, .int 0, .int 9999, .int 0])), (rd, .inr (5, [.int 1, .int 0, .ref ow, .ref tp, .ref k2, .int 0, .int 0, .int 0, .long 0, .int 0, .int 0, .int 0])), (tp, .inr (0, [.ref td, .int 0]))]) rfl rfl rfl (nl rfl) rfl d_Reader_readLake_42 ?_
  refine j_aload_n (pc := 45) C d_Reader_readLake_45 rfl 0 rfl ?_
  refine j_iconst (pc := 46) C (v := 3) d_Reader_readLake_46 (by decide) ?_
  refine j_callVv (pc := 47) C (c_R_readWord_1 l D y rd ow tp k2 td 3) kw_Reader_108 kv_Reader_readWord 0 5 rfl rfl ⟨by decide, by decide⟩ ⟨by decide, by decide⟩ (wr := [(k2, .inr (2, [.int 0, .int 1, .int 1, .int 0, .ref gg, .int 0, .ref wn, .ref wg, .ref tt, .ref rr, .int 0, .int 0, .int 9999, .int 0]))]) [1, 2] [0] rfl rfl (by decide) (by decide) (by decide) (As := [.int 3]) (rest := []) rfl (nb rfl) rfl d_Reader_readLake_47 (fun _ _ => ?_)
  refine j_ws (ws' := [(k2, .inr (2, [.int 0, .int 1, .int 1, .int 0, .ref gg, .int 0, .ref wn, .ref wg, .ref tt, .ref rr, .int 0, .int 0, .int 9999, .int 0])), (rd, .inr (5, [.int 1, .int 0, .ref ow, .ref tp, .ref k2, .int 0, .int 0, .int 0, .long 0, .int 0, .int 0, .int 0])), (tp, .inr (0, [.ref td, .int 0]))]) rfl ?_
  refine j_aload_n (pc := 50) C d_Reader_readLake_50 rfl 0 rfl ?_
  refine j_get (pc := 51) C gf_Reader_23 1 rfl rfl d_Reader_readLake_51 ?_
  refine j_aload_n (pc := 54) C d_Reader_readLake_54 rfl 0 rfl ?_
  refine j_iconst (pc := 55) C (v := 0) d_Reader_readLake_55 (by decide) ?_
  refine j_aload_n (pc := 56) C d_Reader_readLake_56 rfl 0 rfl ?_
  refine j_get (pc := 57) C gf_Reader_23 1 rfl rfl d_Reader_readLake_57 ?_
  refine j_get (pc := 60) C gf_Reader_118 0 rfl rfl d_Reader_readLake_60 ?_
  refine j_callVi (pc := 63) C (c_R_readNumber l D y rd ow tp k2 td 0 1) kw_Reader_111 kv_Reader_readNumber 0 5 rfl rfl ⟨by decide, by decide⟩ ⟨by decide, by decide⟩ (wr := [(k2, .inr (2, [.int 0, .int 1, .int 1, .int 0, .ref gg, .int 0, .ref wn, .ref wg, .ref tt, .ref rr, .int 0, .int 0, .int 9999, .int 0]))]) [1, 2] [0] rfl rfl (by decide) (by decide) (by decide) (As := [.int 0, .int 1]) (rest := [.ref k2]) rfl (nb rfl) rfl d_Reader_readLake_63 (fun r3 _ hr3 => ?_)
  subst hr3
  refine j_ws (ws' := [(k2, .inr (2, [.int 0, .int 1, .int 1, .int 0, .ref gg, .int 0, .ref wn, .ref wg, .ref tt, .ref rr, .int 0, .int 0, .int 9999, .int 0])), (rd, .inr (5, [.int 1, .int 0, .ref ow, .ref tp, .ref k2, .int 0, .int 0, .int 0, .long 0, .int 0, .int 0, .int 0])), (tp, .inr (0, [.ref td, .int 0]))]) rfl ?_
  refine j_st (st' := [.int 0, .ref k2]) rfl ?_
  refine j_put (pc := 66) C pf_Reader_121 0 (ws' := [(k2, .inr (2, [.int 0, .int 1, .int 1, .int 0, .ref gg, .int 0, .ref wn, .ref wg, .ref tt, .ref rr, .int 0, .int 0, .int 9999, .int 0])), (rd, .inr (5, [.int 1, .int 0, .ref ow, .ref tp, .ref k2, .int 0, .int 0, .int 0, .long 0, .int 0, .int 0, .int 0])), (tp, .inr (0, [.ref td, .int 0]))]) rfl rfl rfl (nl rfl) rfl d_Reader_readLake_66 ?_
  exact j_vret (pc := 69) C hr () trivial [1, 2, 0] rfl (by decide) (by decide) (by decide) d_Reader_readLake_69
theorem d_Reader_endStatement_0 : decode prog_8_method_4_code 0 = .ok (.aload_n 0, 1) := by decide +kernel
theorem d_Reader_endStatement_1 : decode prog_8_method_4_code 1 = .ok (.bipush 59, 2) := by decide +kernel
theorem d_Reader_endStatement_3 : decode prog_8_method_4_code 3 = .ok (.invokevirtual 101, 3) := by decide +kernel
theorem kw_Reader_101 : KW "NineBoards$Reader" 101 ⟨"NineBoards$Reader", "readSign", "(C)V"⟩ prog_8_method_26_code 2 none 1 := ⟨(mt_3 (List.mem_of_getElem? (i := 93) rfl) rfl), (mt_1 (List.mem_of_getElem? (i := 10) rfl) rfl), (mt_3 (List.mem_of_getElem? (i := 96) rfl) rfl), by decide +kernel⟩
theorem kv_Reader_readSign : Cond.instanceMethod ⟨"NineBoards$Reader", "readSign", "(C)V"⟩ ∈ TB ∧ Cond.selects "NineBoards$Reader" ⟨"NineBoards$Reader", "readSign", "(C)V"⟩ ⟨"NineBoards$Reader", "readSign", "(C)V"⟩ ∈ TB := ⟨(mt_3 (List.mem_of_getElem? (i := 95) rfl) rfl), (ms_0 (List.mem_map.mpr ⟨(⟨"NineBoards$Reader", "readSign", "(C)V"⟩, 12), List.mem_of_getElem? (i := 9) (by decide +kernel), rfl⟩) rfl)⟩
theorem d_Reader_endStatement_6 : decode prog_8_method_4_code 6 = .ok (.aload_n 0, 1) := by decide +kernel
theorem d_Reader_endStatement_7 : decode prog_8_method_4_code 7 = .ok (.getfield 44, 3) := by decide +kernel
theorem d_Reader_endStatement_10 : decode prog_8_method_4_code 10 = .ok (.ifCond .ne 16, 3) := by decide +kernel
theorem d_Reader_endStatement_26 : decode prog_8_method_4_code 26 = .ok (.return_, 1) := by decide +kernel
set_option maxHeartbeats 4000000 in
set_option maxRecDepth 100000 in
theorem c_R_endStatement (l : Launch) (D : va_G) (y : Nat → ClassId) (rd : Nat) (ow : Nat) (tp : Nat) (k2 : Nat) (td : Nat) (gg : Nat) (wn : Nat) (wg : Nat) (tt : Nat) (rr : Nat)  : CT l D y ⟨"NineBoards$Reader", "endStatement", "()V"⟩ prog_8_method_4_code 1 none ({ frames := 2, cells := 0, slots := 0, locals := 43 } : Room) [.ref rd] [(rd, .inr (5, [.int 1, .int 0, .ref ow, .ref tp, .ref k2, .int 0, .int 0, .int 0, .long 0, .int 0, .int 0, .int 0])), (tp, .inr (0, [.ref td, .int 0])), (k2, .inr (2, [.int 0, .int 1, .int 1, .int 0, .ref gg, .int 0, .ref wn, .ref wg, .ref tt, .ref rr, .int 0, .int 0, .int 9999, .int 0]))] (QV D [(rd, .inr (5, [.int 1, .int 0, .ref ow, .ref tp, .ref k2, .int 0, .int 0, .int 0, .long 0, .int 0, .int 0, .int 0])), (tp, .inr (0, [.ref td, .int 0])), (k2, .inr (2, [.int 0, .int 1, .int 1, .int 0, .ref gg, .int 0, .ref wn, .ref wg, .ref tt, .ref rr, .int 0, .int 0, .int 9999, .int 0]))] (fun (_ : Unit) => True) (fun _ => [(rd, .inr (5, [.int 1, .int 0, .ref ow, .ref tp, .ref k2, .int 0, .int 0, .int 0, .long 0, .int 0, .int 0, .int 0])), (tp, .inr (0, [.ref td, .int 0])), (k2, .inr (2, [.int 0, .int 1, .int 1, .int 0, .ref gg, .int 0, .ref wn, .ref wg, .ref tt, .ref rr, .int 0, .int 0, .int 9999, .int 0]))])) := by
  refine CT.of (by decide) (nb rfl) ?_
  intro p e s m args below meth c C hr
  refine j_lv (lv' := [(0, .ref rd)]) rfl ?_
  refine j_aload_n (pc := 0) C d_Reader_endStatement_0 rfl 0 rfl ?_
  refine j_bipush (pc := 1) C (v := 59) d_Reader_endStatement_1 (by decide) ?_
  refine j_callVv (pc := 3) C (c_R_readSign l D y rd ow tp k2 td 59) kw_Reader_101 kv_Reader_readSign 0 5 rfl rfl ⟨by decide, by decide⟩ ⟨by decide, by decide⟩ (wr := [(k2, .inr (2, [.int 0, .int 1, .int 1, .int 0, .ref gg, .int 0, .ref wn, .ref wg, .ref tt, .ref rr, .int 0, .int 0, .int 9999, .int 0]))]) [0, 1] [2] rfl rfl (by decide) (by decide) (by decide) (As := [.int 59]) (rest := []) rfl (nb rfl) rfl d_Reader_endStatement_3 (fun _ _ => ?_)
  refine j_ws (ws' := [(k2, .inr (2, [.int 0, .int 1, .int 1, .int 0, .ref gg, .int 0, .ref wn, .ref wg, .ref tt, .ref rr, .int 0, .int 0, .int 9999, .int 0])), (rd, .inr (5, [.int 1, .int 0, .ref ow, .ref tp, .ref k2, .int 0, .int 0, .int 0, .long 0, .int 0, .int 0, .int 0])), (tp, .inr (0, [.ref td, .int 0]))]) rfl ?_
  refine j_aload_n (pc := 6) C d_Reader_endStatement_6 rfl 0 rfl ?_
  refine j_get (pc := 7) C gf_Reader_44 1 rfl rfl d_Reader_endStatement_7 ?_
  refine j_if_neT (pc := 10) C (tgt := 26) d_Reader_endStatement_10 (by decide) (by decide) ?_
  exact j_vret (pc := 26) C hr () trivial [1, 2, 0] rfl (by decide) (by decide) (by decide) d_Reader_endStatement_26
theorem d_Reader_read_0 : decode prog_8_method_2_code 0 = .ok (.aload_n 0, 1) := by decide +kernel
theorem d_Reader_read_1 : decode prog_8_method_2_code 1 = .ok (.aload_n 1, 1) := by decide +kernel
theorem d_Reader_read_2 : decode prog_8_method_2_code 2 = .ok (.putfield 23, 3) := by decide +kernel
theorem pf_Reader_23 : PF "NineBoards$Reader" 23 5 4 (.object "NineBoards$Lake") false := ⟨_, _, _, ct_Reader, rfl, ci_Reader, by decide, (mt_2 (List.mem_of_getElem? (i := 168) rfl) rfl), cp_Reader, cn_Reader, rfl, by decide +kernel, (fun h => by cases h)⟩
theorem d_Reader_read_5 : decode prog_8_method_2_code 5 = .ok (.aload_n 0, 1) := by decide +kernel
theorem d_Reader_read_6 : decode prog_8_method_2_code 6 = .ok (.getfield 23, 3) := by decide +kernel
theorem d_Reader_read_9 : decode prog_8_method_2_code 9 = .ok (.invokevirtual 39, 3) := by decide +kernel
theorem kw_Reader_39 : KW "NineBoards$Reader" 39 ⟨"NineBoards$Lake", "clear", "()V"⟩ prog_5_method_2_code 1 none 0 := ⟨(mt_3 (List.mem_of_getElem? (i := 50) rfl) rfl), (mt_1 (List.mem_of_getElem? (i := 6) rfl) rfl), (mt_2 (List.mem_of_getElem? (i := 29) rfl) rfl), by decide +kernel⟩
theorem d_Reader_read_12 : decode prog_8_method_2_code 12 = .ok (.aload_n 0, 1) := by decide +kernel
theorem d_Reader_read_13 : decode prog_8_method_2_code 13 = .ok (.iconst 0, 1) := by decide +kernel
theorem d_Reader_read_14 : decode prog_8_method_2_code 14 = .ok (.putfield 44, 3) := by decide +kernel
theorem d_Reader_read_17 : decode prog_8_method_2_code 17 = .ok (.aload_n 0, 1) := by decide +kernel
theorem d_Reader_read_18 : decode prog_8_method_2_code 18 = .ok (.iconst (-1), 1) := by decide +kernel
theorem d_Reader_read_19 : decode prog_8_method_2_code 19 = .ok (.putfield 9, 3) := by decide +kernel
theorem d_Reader_read_22 : decode prog_8_method_2_code 22 = .ok (.aload_n 0, 1) := by decide +kernel
theorem d_Reader_read_23 : decode prog_8_method_2_code 23 = .ok (.iconst 0, 1) := by decide +kernel
theorem d_Reader_read_24 : decode prog_8_method_2_code 24 = .ok (.putfield 47, 3) := by decide +kernel
theorem d_Reader_read_27 : decode prog_8_method_2_code 27 = .ok (.aload_n 0, 1) := by decide +kernel
theorem d_Reader_read_28 : decode prog_8_method_2_code 28 = .ok (.iconst 0, 1) := by decide +kernel
theorem d_Reader_read_29 : decode prog_8_method_2_code 29 = .ok (.putfield 50, 3) := by decide +kernel
theorem d_Reader_read_32 : decode prog_8_method_2_code 32 = .ok (.aload_n 0, 1) := by decide +kernel
theorem d_Reader_read_33 : decode prog_8_method_2_code 33 = .ok (.invokevirtual 53, 3) := by decide +kernel
theorem kw_Reader_53 : KW "NineBoards$Reader" 53 ⟨"NineBoards$Reader", "advance", "()V"⟩ prog_8_method_32_code 4 none 0 := ⟨(mt_3 (List.mem_of_getElem? (i := 51) rfl) rfl), (mt_1 (List.mem_of_getElem? (i := 10) rfl) rfl), (mt_3 (List.mem_of_getElem? (i := 54) rfl) rfl), by decide +kernel⟩
theorem kv_Reader_advance : Cond.instanceMethod ⟨"NineBoards$Reader", "advance", "()V"⟩ ∈ TB ∧ Cond.selects "NineBoards$Reader" ⟨"NineBoards$Reader", "advance", "()V"⟩ ⟨"NineBoards$Reader", "advance", "()V"⟩ ∈ TB := ⟨(mt_3 (List.mem_of_getElem? (i := 53) rfl) rfl), (ms_0 (List.mem_map.mpr ⟨(⟨"NineBoards$Reader", "advance", "()V"⟩, 12), List.mem_of_getElem? (i := 0) (by decide +kernel), rfl⟩) rfl)⟩
theorem d_Reader_read_36 : decode prog_8_method_2_code 36 = .ok (.aload_n 0, 1) := by decide +kernel
theorem d_Reader_read_37 : decode prog_8_method_2_code 37 = .ok (.invokevirtual 56, 3) := by decide +kernel
theorem kw_Reader_56 : KW "NineBoards$Reader" 56 ⟨"NineBoards$Reader", "readLake", "()V"⟩ prog_8_method_5_code 1 none 0 := ⟨(mt_3 (List.mem_of_getElem? (i := 69) rfl) rfl), (mt_1 (List.mem_of_getElem? (i := 10) rfl) rfl), (mt_3 (List.mem_of_getElem? (i := 72) rfl) rfl), by decide +kernel⟩
theorem kv_Reader_readLake : Cond.instanceMethod ⟨"NineBoards$Reader", "readLake", "()V"⟩ ∈ TB ∧ Cond.selects "NineBoards$Reader" ⟨"NineBoards$Reader", "readLake", "()V"⟩ ⟨"NineBoards$Reader", "readLake", "()V"⟩ ∈ TB := ⟨(mt_3 (List.mem_of_getElem? (i := 71) rfl) rfl), (ms_0 (List.mem_map.mpr ⟨(⟨"NineBoards$Reader", "readLake", "()V"⟩, 12), List.mem_of_getElem? (i := 3) (by decide +kernel), rfl⟩) rfl)⟩
theorem d_Reader_read_40 : decode prog_8_method_2_code 40 = .ok (.aload_n 0, 1) := by decide +kernel
theorem d_Reader_read_41 : decode prog_8_method_2_code 41 = .ok (.invokevirtual 59, 3) := by decide +kernel
theorem kw_Reader_59 : KW "NineBoards$Reader" 59 ⟨"NineBoards$Reader", "endStatement", "()V"⟩ prog_8_method_4_code 1 none 0 := ⟨(mt_3 (List.mem_of_getElem? (i := 89) rfl) rfl), (mt_1 (List.mem_of_getElem? (i := 10) rfl) rfl), (mt_3 (List.mem_of_getElem? (i := 92) rfl) rfl), by decide +kernel⟩
theorem kv_Reader_endStatement : Cond.instanceMethod ⟨"NineBoards$Reader", "endStatement", "()V"⟩ ∈ TB ∧ Cond.selects "NineBoards$Reader" ⟨"NineBoards$Reader", "endStatement", "()V"⟩ ⟨"NineBoards$Reader", "endStatement", "()V"⟩ ∈ TB := ⟨(mt_3 (List.mem_of_getElem? (i := 91) rfl) rfl), (ms_0 (List.mem_map.mpr ⟨(⟨"NineBoards$Reader", "endStatement", "()V"⟩, 12), List.mem_of_getElem? (i := 8) (by decide +kernel), rfl⟩) rfl)⟩
theorem d_Reader_read_44 : decode prog_8_method_2_code 44 = .ok (.iconst 1, 1) := by decide +kernel
theorem d_Reader_read_45 : decode prog_8_method_2_code 45 = .ok (.istore_n 2, 1) := by decide +kernel
theorem d_Reader_read_46 : decode prog_8_method_2_code 46 = .ok (.iload_n 2, 1) := by decide +kernel
theorem d_Reader_read_47 : decode prog_8_method_2_code 47 = .ok (.bipush 60, 2) := by decide +kernel
theorem d_Reader_read_49 : decode prog_8_method_2_code 49 = .ok (.if_icmp .gt 88, 3) := by decide +kernel
theorem d_Reader_read_52 : decode prog_8_method_2_code 52 = .ok (.aload_n 0, 1) := by decide +kernel
theorem d_Reader_read_53 : decode prog_8_method_2_code 53 = .ok (.getfield 44, 3) := by decide +kernel
theorem d_Reader_read_56 : decode prog_8_method_2_code 56 = .ok (.ifCond .ne 81, 3) := by decide +kernel
theorem d_Reader_read_137 : decode prog_8_method_2_code 137 = .ok (.return_, 1) := by decide +kernel
set_option maxHeartbeats 4000000 in
set_option maxRecDepth 100000 in
theorem c_R_read (l : Launch) (D : va_G) (y : Nat → ClassId) (rd : Nat) (k2 : Nat) (ow : Nat) (tp : Nat) (td : Nat) (gg : Nat) (wn : Nat) (wg : Nat) (tt : Nat) (rr : Nat) (u0 : Nat) (u1 : Nat) (u2 : Nat) (u3 : Nat) (u4 : Nat) (u5 : Nat) (u6 : Nat) (v0 : Nat) (v1 : Nat) (v2 : Nat) (v3 : Nat) (v4 : Nat) (v5 : Nat) (v6 : Nat) (w0 : Nat) (w1 : Nat) (w2 : Nat) (w3 : Nat) (w4 : Nat) (w5 : Nat)  : CT l D y ⟨"NineBoards$Reader", "read", "(LNineBoards$Lake;)V"⟩ prog_8_method_2_code 3 none ({ frames := 3, cells := 0, slots := 0, locals := 66 } : Room) [.ref rd, .ref k2] [(rd, .inr (5, [.int 0, .int (-1), .ref ow, .ref tp, .ref k2, .int 0, .int 0, .int 0, .long 0, .int 0, .int 0, .int 0])), (tp, .inr (0, [.ref td, .int 0])), (td, .inl (y 0, 1600, .inl (fun _ => 0))), (k2, .inr (2, [.int 0, .int 1, .int 1, .int 0, .ref gg, .int 0, .ref wn, .ref wg, .ref tt, .ref rr, .int 0, .int 0, .int 9999, .int 0])), (gg, .inr (1, [.int 0, .ref u0, .ref u1, .ref u2, .ref u3, .ref u4, .ref u5, .ref u6])), (tt, .inr (8, [.int 0, .ref v0, .ref v1, .ref v2, .ref v3, .ref v4, .ref v5, .ref v6])), (rr, .inr (6, [.int 0, .int 0, .ref w0, .ref w1, .ref w2, .ref w3, .ref w4, .ref w5]))] (QV D [(rd, .inr (5, [.int 0, .int (-1), .ref ow, .ref tp, .ref k2, .int 0, .int 0, .int 0, .long 0, .int 0, .int 0, .int 0])), (tp, .inr (0, [.ref td, .int 0])), (td, .inl (y 0, 1600, .inl (fun _ => 0))), (k2, .inr (2, [.int 0, .int 1, .int 1, .int 0, .ref gg, .int 0, .ref wn, .ref wg, .ref tt, .ref rr, .int 0, .int 0, .int 9999, .int 0])), (gg, .inr (1, [.int 0, .ref u0, .ref u1, .ref u2, .ref u3, .ref u4, .ref u5, .ref u6])), (tt, .inr (8, [.int 0, .ref v0, .ref v1, .ref v2, .ref v3, .ref v4, .ref v5, .ref v6])), (rr, .inr (6, [.int 0, .int 0, .ref w0, .ref w1, .ref w2, .ref w3, .ref w4, .ref w5]))] (fun (_ : Unit) => True) (fun _ => [(rd, .inr (5, [.int 1, .int 0, .ref ow, .ref tp, .ref k2, .int 0, .int 0, .int 0, .long 0, .int 0, .int 0, .int 0])), (tp, .inr (0, [.ref td, .int 0])), (td, .inl (y 0, 1600, .inl (fun _ => 0))), (k2, .inr (2, [.int 0, .int 1, .int 1, .int 0, .ref gg, .int 0, .ref wn, .ref wg, .ref tt, .ref rr, .int 0, .int 0, .int 9999, .int 0])), (gg, .inr (1, [.int 0, .ref u0, .ref u1, .ref u2, .ref u3, .ref u4, .ref u5, .ref u6])), (tt, .inr (8, [.int 0, .ref v0, .ref v1, .ref v2, .ref v3, .ref v4, .ref v5, .ref v6])), (rr, .inr (6, [.int 0, .int 0, .ref w0, .ref w1, .ref w2, .ref w3, .ref w4, .ref w5]))])) := by
  refine CT.of (by decide) (nb rfl) ?_
  intro p e s m args below meth c C hr
  refine j_lv (lv' := [(0, .ref rd), (1, .ref k2)]) rfl ?_
  refine j_aload_n (pc := 0) C d_Reader_read_0 rfl 0 rfl ?_
  refine j_aload_n (pc := 1) C d_Reader_read_1 rfl 1 rfl ?_
  refine j_put (pc := 2) C pf_Reader_23 0 (ws' := [(rd, .inr (5, [.int 0, .int (-1), .ref ow, .ref tp, .ref k2, .int 0, .int 0, .int 0, .long 0, .int 0, .int 0, .int 0])), (tp, .inr (0, [.ref td, .int 0])), (td, .inl (y 0, 1600, .inl (fun _ => 0))), (k2, .inr (2, [.int 0, .int 1, .int 1, .int 0, .ref gg, .int 0, .ref wn, .ref wg, .ref tt, .ref rr, .int 0, .int 0, .int 9999, .int 0])), (gg, .inr (1, [.int 0, .ref u0, .ref u1, .ref u2, .ref u3, .ref u4, .ref u5, .ref u6])), (tt, .inr (8, [.int 0, .ref v0, .ref v1, .ref v2, .ref v3, .ref v4, .ref v5, .ref v6])), (rr, .inr (6, [.int 0, .int 0, .ref w0, .ref w1, .ref w2, .ref w3, .ref w4, .ref w5]))]) rfl rfl rfl (nl rfl) rfl d_Reader_read_2 ?_
  refine j_aload_n (pc := 5) C d_Reader_read_5 rfl 0 rfl ?_
  refine j_get (pc := 6) C gf_Reader_23 0 rfl rfl d_Reader_read_6 ?_
  refine j_callVv (pc := 9) C (c_Lake_clear l D y k2 gg wn wg tt rr u0 u1 u2 u3 u4 u5 u6 v0 v1 v2 v3 v4 v5 v6 w0 w1 w2 w3 w4 w5 0 1 1 0 0 0 0 9999 0 0 0 0 0) kw_Reader_39 kv_Lake_clear 0 2 rfl rfl ⟨by decide, by decide⟩ ⟨by decide, by decide⟩ (wr := [(rd, .inr (5, [.int 0, .int (-1), .ref ow, .ref tp, .ref k2, .int 0, .int 0, .int 0, .long 0, .int 0, .int 0, .int 0])), (tp, .inr (0, [.ref td, .int 0])), (td, .inl (y 0, 1600, .inl (fun _ => 0)))]) [3, 4, 5, 6] [0, 1, 2] rfl rfl (by decide) (by decide) (by decide) (As := []) (rest := []) rfl (nb rfl) rfl d_Reader_read_9 (fun _ _ => ?_)
  refine j_ws (ws' := [(rd, .inr (5, [.int 0, .int (-1), .ref ow, .ref tp, .ref k2, .int 0, .int 0, .int 0, .long 0, .int 0, .int 0, .int 0])), (tp, .inr (0, [.ref td, .int 0])), (td, .inl (y 0, 1600, .inl (fun _ => 0))), (k2, .inr (2, [.int 0, .int 1, .int 1, .int 0, .ref gg, .int 0, .ref wn, .ref wg, .ref tt, .ref rr, .int 0, .int 0, .int 9999, .int 0])), (gg, .inr (1, [.int 0, .ref u0, .ref u1, .ref u2, .ref u3, .ref u4, .ref u5, .ref u6])), (tt, .inr (8, [.int 0, .ref v0, .ref v1, .ref v2, .ref v3, .ref v4, .ref v5, .ref v6])), (rr, .inr (6, [.int 0, .int 0, .ref w0, .ref w1, .ref w2, .ref w3, .ref w4, .ref w5]))]) rfl ?_
  refine j_aload_n (pc := 12) C d_Reader_read_12 rfl 0 rfl ?_
  refine j_iconst (pc := 13) C (v := 0) d_Reader_read_13 (by decide) ?_
  refine j_put (pc := 14) C pf_Reader_44 0 (ws' := [(rd, .inr (5, [.int 0, .int (-1), .ref ow, .ref tp, .ref k2, .int 0, .int 0, .int 0, .long 0, .int 0, .int 0, .int 0])), (tp, .inr (0, [.ref td, .int 0])), (td, .inl (y 0, 1600, .inl (fun _ => 0))), (k2, .inr (2, [.int 0, .int 1, .int 1, .int 0, .ref gg, .int 0, .ref wn, .ref wg, .ref tt, .ref rr, .int 0, .int 0, .int 9999, .int 0])), (gg, .inr (1, [.int 0, .ref u0, .ref u1, .ref u2, .ref u3, .ref u4, .ref u5, .ref u6])), (tt, .inr (8, [.int 0, .ref v0, .ref v1, .ref v2, .ref v3, .ref v4, .ref v5, .ref v6])), (rr, .inr (6, [.int 0, .int 0, .ref w0, .ref w1, .ref w2, .ref w3, .ref w4, .ref w5]))]) rfl rfl rfl (nl rfl) rfl d_Reader_read_14 ?_
  refine j_aload_n (pc := 17) C d_Reader_read_17 rfl 0 rfl ?_
  refine j_iconst (pc := 18) C (v := (-1)) d_Reader_read_18 (by decide) ?_
  refine j_put (pc := 19) C pf_Reader_9 0 (ws' := [(rd, .inr (5, [.int 0, .int (-1), .ref ow, .ref tp, .ref k2, .int 0, .int 0, .int 0, .long 0, .int 0, .int 0, .int 0])), (tp, .inr (0, [.ref td, .int 0])), (td, .inl (y 0, 1600, .inl (fun _ => 0))), (k2, .inr (2, [.int 0, .int 1, .int 1, .int 0, .ref gg, .int 0, .ref wn, .ref wg, .ref tt, .ref rr, .int 0, .int 0, .int 9999, .int 0])), (gg, .inr (1, [.int 0, .ref u0, .ref u1, .ref u2, .ref u3, .ref u4, .ref u5, .ref u6])), (tt, .inr (8, [.int 0, .ref v0, .ref v1, .ref v2, .ref v3, .ref v4, .ref v5, .ref v6])), (rr, .inr (6, [.int 0, .int 0, .ref w0, .ref w1, .ref w2, .ref w3, .ref w4, .ref w5]))]) rfl rfl rfl (nl rfl) rfl d_Reader_read_19 ?_
  refine j_aload_n (pc := 22) C d_Reader_read_22 rfl 0 rfl ?_
  refine j_iconst (pc := 23) C (v := 0) d_Reader_read_23 (by decide) ?_
  refine j_put (pc := 24) C pf_Reader_47 0 (ws' := [(rd, .inr (5, [.int 0, .int (-1), .ref ow, .ref tp, .ref k2, .int 0, .int 0, .int 0, .long 0, .int 0, .int 0, .int 0])), (tp, .inr (0, [.ref td, .int 0])), (td, .inl (y 0, 1600, .inl (fun _ => 0))), (k2, .inr (2, [.int 0, .int 1, .int 1, .int 0, .ref gg, .int 0, .ref wn, .ref wg, .ref tt, .ref rr, .int 0, .int 0, .int 9999, .int 0])), (gg, .inr (1, [.int 0, .ref u0, .ref u1, .ref u2, .ref u3, .ref u4, .ref u5, .ref u6])), (tt, .inr (8, [.int 0, .ref v0, .ref v1, .ref v2, .ref v3, .ref v4, .ref v5, .ref v6])), (rr, .inr (6, [.int 0, .int 0, .ref w0, .ref w1, .ref w2, .ref w3, .ref w4, .ref w5]))]) rfl rfl rfl (nl rfl) rfl d_Reader_read_24 ?_
  refine j_aload_n (pc := 27) C d_Reader_read_27 rfl 0 rfl ?_
  refine j_iconst (pc := 28) C (v := 0) d_Reader_read_28 (by decide) ?_
  refine j_put (pc := 29) C pf_Reader_50 0 (ws' := [(rd, .inr (5, [.int 0, .int (-1), .ref ow, .ref tp, .ref k2, .int 0, .int 0, .int 0, .long 0, .int 0, .int 0, .int 0])), (tp, .inr (0, [.ref td, .int 0])), (td, .inl (y 0, 1600, .inl (fun _ => 0))), (k2, .inr (2, [.int 0, .int 1, .int 1, .int 0, .ref gg, .int 0, .ref wn, .ref wg, .ref tt, .ref rr, .int 0, .int 0, .int 9999, .int 0])), (gg, .inr (1, [.int 0, .ref u0, .ref u1, .ref u2, .ref u3, .ref u4, .ref u5, .ref u6])), (tt, .inr (8, [.int 0, .ref v0, .ref v1, .ref v2, .ref v3, .ref v4, .ref v5, .ref v6])), (rr, .inr (6, [.int 0, .int 0, .ref w0, .ref w1, .ref w2, .ref w3, .ref w4, .ref w5]))]) rfl rfl rfl (nl rfl) rfl d_Reader_read_29 ?_
  refine j_aload_n (pc := 32) C d_Reader_read_32 rfl 0 rfl ?_
  refine j_callVv (pc := 33) C (c_R_advance l D y rd ow tp k2 td) kw_Reader_53 kv_Reader_advance 0 5 rfl rfl ⟨by decide, by decide⟩ ⟨by decide, by decide⟩ (wr := [(k2, .inr (2, [.int 0, .int 1, .int 1, .int 0, .ref gg, .int 0, .ref wn, .ref wg, .ref tt, .ref rr, .int 0, .int 0, .int 9999, .int 0])), (gg, .inr (1, [.int 0, .ref u0, .ref u1, .ref u2, .ref u3, .ref u4, .ref u5, .ref u6])), (tt, .inr (8, [.int 0, .ref v0, .ref v1, .ref v2, .ref v3, .ref v4, .ref v5, .ref v6])), (rr, .inr (6, [.int 0, .int 0, .ref w0, .ref w1, .ref w2, .ref w3, .ref w4, .ref w5]))]) [0, 1, 2] [3, 4, 5, 6] rfl rfl (by decide) (by decide) (by decide) (As := []) (rest := []) rfl (nb rfl) rfl d_Reader_read_33 (fun _ _ => ?_)
  refine j_ws (ws' := [(k2, .inr (2, [.int 0, .int 1, .int 1, .int 0, .ref gg, .int 0, .ref wn, .ref wg, .ref tt, .ref rr, .int 0, .int 0, .int 9999, .int 0])), (gg, .inr (1, [.int 0, .ref u0, .ref u1, .ref u2, .ref u3, .ref u4, .ref u5, .ref u6])), (tt, .inr (8, [.int 0, .ref v0, .ref v1, .ref v2, .ref v3, .ref v4, .ref v5, .ref v6])), (rr, .inr (6, [.int 0, .int 0, .ref w0, .ref w1, .ref w2, .ref w3, .ref w4, .ref w5])), (rd, .inr (5, [.int 0, .int (-1), .ref ow, .ref tp, .ref k2, .int 0, .int 0, .int 0, .long 0, .int 0, .int 0, .int 0])), (tp, .inr (0, [.ref td, .int 0])), (td, .inl (y 0, 1600, .inl (fun _ => 0)))]) rfl ?_
  refine j_aload_n (pc := 36) C d_Reader_read_36 rfl 0 rfl ?_
  refine j_callVv (pc := 37) C (c_R_readLake l D y rd ow tp k2 td gg wn wg tt rr) kw_Reader_56 kv_Reader_readLake 0 5 rfl rfl ⟨by decide, by decide⟩ ⟨by decide, by decide⟩ (wr := [(gg, .inr (1, [.int 0, .ref u0, .ref u1, .ref u2, .ref u3, .ref u4, .ref u5, .ref u6])), (tt, .inr (8, [.int 0, .ref v0, .ref v1, .ref v2, .ref v3, .ref v4, .ref v5, .ref v6])), (rr, .inr (6, [.int 0, .int 0, .ref w0, .ref w1, .ref w2, .ref w3, .ref w4, .ref w5])), (td, .inl (y 0, 1600, .inl (fun _ => 0)))]) [4, 5, 0] [1, 2, 3, 6] rfl rfl (by decide) (by decide) (by decide) (As := []) (rest := []) rfl (nb rfl) rfl d_Reader_read_37 (fun _ _ => ?_)
  refine j_ws (ws' := [(gg, .inr (1, [.int 0, .ref u0, .ref u1, .ref u2, .ref u3, .ref u4, .ref u5, .ref u6])), (tt, .inr (8, [.int 0, .ref v0, .ref v1, .ref v2, .ref v3, .ref v4, .ref v5, .ref v6])), (rr, .inr (6, [.int 0, .int 0, .ref w0, .ref w1, .ref w2, .ref w3, .ref w4, .ref w5])), (td, .inl (y 0, 1600, .inl (fun _ => 0))), (rd, .inr (5, [.int 1, .int 0, .ref ow, .ref tp, .ref k2, .int 0, .int 0, .int 0, .long 0, .int 0, .int 0, .int 0])), (tp, .inr (0, [.ref td, .int 0])), (k2, .inr (2, [.int 0, .int 1, .int 1, .int 0, .ref gg, .int 0, .ref wn, .ref wg, .ref tt, .ref rr, .int 0, .int 0, .int 9999, .int 0]))]) rfl ?_
  refine j_aload_n (pc := 40) C d_Reader_read_40 rfl 0 rfl ?_
  refine j_callVv (pc := 41) C (c_R_endStatement l D y rd ow tp k2 td gg wn wg tt rr) kw_Reader_59 kv_Reader_endStatement 0 5 rfl rfl ⟨by decide, by decide⟩ ⟨by decide, by decide⟩ (wr := [(gg, .inr (1, [.int 0, .ref u0, .ref u1, .ref u2, .ref u3, .ref u4, .ref u5, .ref u6])), (tt, .inr (8, [.int 0, .ref v0, .ref v1, .ref v2, .ref v3, .ref v4, .ref v5, .ref v6])), (rr, .inr (6, [.int 0, .int 0, .ref w0, .ref w1, .ref w2, .ref w3, .ref w4, .ref w5])), (td, .inl (y 0, 1600, .inl (fun _ => 0)))]) [4, 5, 6] [0, 1, 2, 3] rfl rfl (by decide) (by decide) (by decide) (As := []) (rest := []) rfl (nb rfl) rfl d_Reader_read_41 (fun _ _ => ?_)
  refine j_ws (ws' := [(gg, .inr (1, [.int 0, .ref u0, .ref u1, .ref u2, .ref u3, .ref u4, .ref u5, .ref u6])), (tt, .inr (8, [.int 0, .ref v0, .ref v1, .ref v2, .ref v3, .ref v4, .ref v5, .ref v6])), (rr, .inr (6, [.int 0, .int 0, .ref w0, .ref w1, .ref w2, .ref w3, .ref w4, .ref w5])), (td, .inl (y 0, 1600, .inl (fun _ => 0))), (rd, .inr (5, [.int 1, .int 0, .ref ow, .ref tp, .ref k2, .int 0, .int 0, .int 0, .long 0, .int 0, .int 0, .int 0])), (tp, .inr (0, [.ref td, .int 0])), (k2, .inr (2, [.int 0, .int 1, .int 1, .int 0, .ref gg, .int 0, .ref wn, .ref wg, .ref tt, .ref rr, .int 0, .int 0, .int 9999, .int 0]))]) rfl ?_
  refine j_iconst (pc := 44) C (v := 1) d_Reader_read_44 (by decide) ?_
  refine j_istore_n (pc := 45) C (lv' := [(2, .int 1), (0, .ref rd), (1, .ref k2)]) d_Reader_read_45 rfl (by decide) rfl ?_
  refine j_iload_n (pc := 46) C d_Reader_read_46 rfl 0 rfl ?_
  refine j_bipush (pc := 47) C (v := 60) d_Reader_read_47 (by decide) ?_
  refine j_icmp_gtF (pc := 49) C (tgt := 137) d_Reader_read_49 (by decide) (by decide) ?_
  refine j_aload_n (pc := 52) C d_Reader_read_52 rfl 1 rfl ?_
  refine j_get (pc := 53) C gf_Reader_44 4 rfl rfl d_Reader_read_53 ?_
  refine j_if_neT (pc := 56) C (tgt := 137) d_Reader_read_56 (by decide) (by decide) ?_
  exact j_vret (pc := 137) C hr () trivial [4, 5, 3, 6, 0, 1, 2] rfl (by decide) (by decide) (by decide) d_Reader_read_137
theorem d_Nine_lake_0 : decode prog_1_method_4_code 0 = .ok (.aload_n 0, 1) := by decide +kernel
theorem d_Nine_lake_1 : decode prog_1_method_4_code 1 = .ok (.getfield 53, 3) := by decide +kernel
theorem d_Nine_lake_4 : decode prog_1_method_4_code 4 = .ok (.aload_n 0, 1) := by decide +kernel
theorem d_Nine_lake_5 : decode prog_1_method_4_code 5 = .ok (.getfield 45, 3) := by decide +kernel
theorem gf_Nine_45 : GF "NineBoards" 45 9 6 := ⟨_, _, _, rfl, ci_Nine, by decide, (mt_2 (List.mem_of_getElem? (i := 237) rfl) rfl)⟩
theorem d_Nine_lake_8 : decode prog_1_method_4_code 8 = .ok (.invokevirtual 76, 3) := by decide +kernel
theorem kw_Nine_76 : KW "NineBoards" 76 ⟨"NineBoards$Reader", "read", "(LNineBoards$Lake;)V"⟩ prog_8_method_2_code 3 none 1 := ⟨(mt_3 (List.mem_of_getElem? (i := 46) rfl) rfl), (mt_1 (List.mem_of_getElem? (i := 10) rfl) rfl), (mt_3 (List.mem_of_getElem? (i := 49) rfl) rfl), by decide +kernel⟩
theorem kv_Reader_read : Cond.instanceMethod ⟨"NineBoards$Reader", "read", "(LNineBoards$Lake;)V"⟩ ∈ TB ∧ Cond.selects "NineBoards$Reader" ⟨"NineBoards$Reader", "read", "(LNineBoards$Lake;)V"⟩ ⟨"NineBoards$Reader", "read", "(LNineBoards$Lake;)V"⟩ ∈ TB := ⟨(mt_3 (List.mem_of_getElem? (i := 47) rfl) rfl), (mt_3 (List.mem_of_getElem? (i := 48) rfl) rfl)⟩
theorem d_Nine_lake_11 : decode prog_1_method_4_code 11 = .ok (.aload_n 0, 1) := by decide +kernel
theorem d_Nine_lake_12 : decode prog_1_method_4_code 12 = .ok (.getfield 14, 3) := by decide +kernel
theorem d_Nine_lake_15 : decode prog_1_method_4_code 15 = .ok (.iconst 0, 1) := by decide +kernel
theorem d_Nine_lake_16 : decode prog_1_method_4_code 16 = .ok (.putfield 70, 3) := by decide +kernel
theorem d_Nine_lake_19 : decode prog_1_method_4_code 19 = .ok (.aload_n 0, 1) := by decide +kernel
theorem d_Nine_lake_20 : decode prog_1_method_4_code 20 = .ok (.getfield 53, 3) := by decide +kernel
theorem d_Nine_lake_23 : decode prog_1_method_4_code 23 = .ok (.getfield 79, 3) := by decide +kernel
theorem d_Nine_lake_26 : decode prog_1_method_4_code 26 = .ok (.ifCond .eq 5, 3) := by decide +kernel
theorem d_Nine_lake_29 : decode prog_1_method_4_code 29 = .ok (.iconst (-1), 1) := by decide +kernel
theorem d_Nine_lake_30 : decode prog_1_method_4_code 30 = .ok (.ireturn, 1) := by decide +kernel
set_option maxHeartbeats 4000000 in
set_option maxRecDepth 100000 in
theorem c_N_lake (l : Launch) (D : va_G) (y : Nat → ClassId) (x : Nat) (tp : Nat) (pi : Nat) (nw : Nat) (tr : Nat) (ps : Nat) (k : Nat) (k2 : Nat) (rd : Nat) (pl : Nat) (ow : Nat) (td : Nat) (gg : Nat) (wn : Nat) (wg : Nat) (tt : Nat) (rr : Nat) (u0 : Nat) (u1 : Nat) (u2 : Nat) (u3 : Nat) (u4 : Nat) (u5 : Nat) (u6 : Nat) (v0 : Nat) (v1 : Nat) (v2 : Nat) (v3 : Nat) (v4 : Nat) (v5 : Nat) (v6 : Nat) (w0 : Nat) (w1 : Nat) (w2 : Nat) (w3 : Nat) (w4 : Nat) (w5 : Nat)  : CT l D y ⟨"NineBoards", "lake", "()I"⟩ prog_1_method_4_code 3 (some .int) ({ frames := 4, cells := 0, slots := 0, locals := 88 } : Room) [.ref x] [(x, .inr (9, [.ref tp, .ref pi, .ref nw, .ref tr, .ref ps, .ref k, .ref k2, .ref rd, .ref pl, .int 1])), (rd, .inr (5, [.int 0, .int (-1), .ref ow, .ref tp, .ref k2, .int 0, .int 0, .int 0, .long 0, .int 0, .int 0, .int 0])), (tp, .inr (0, [.ref td, .int 0])), (td, .inl (y 0, 1600, .inl (fun _ => 0))), (k2, .inr (2, [.int 0, .int 1, .int 1, .int 0, .ref gg, .int 0, .ref wn, .ref wg, .ref tt, .ref rr, .int 0, .int 0, .int 9999, .int 0])), (gg, .inr (1, [.int 0, .ref u0, .ref u1, .ref u2, .ref u3, .ref u4, .ref u5, .ref u6])), (tt, .inr (8, [.int 0, .ref v0, .ref v1, .ref v2, .ref v3, .ref v4, .ref v5, .ref v6])), (rr, .inr (6, [.int 0, .int 0, .ref w0, .ref w1, .ref w2, .ref w3, .ref w4, .ref w5]))] (QI D [(x, .inr (9, [.ref tp, .ref pi, .ref nw, .ref tr, .ref ps, .ref k, .ref k2, .ref rd, .ref pl, .int 1])), (rd, .inr (5, [.int 0, .int (-1), .ref ow, .ref tp, .ref k2, .int 0, .int 0, .int 0, .long 0, .int 0, .int 0, .int 0])), (tp, .inr (0, [.ref td, .int 0])), (td, .inl (y 0, 1600, .inl (fun _ => 0))), (k2, .inr (2, [.int 0, .int 1, .int 1, .int 0, .ref gg, .int 0, .ref wn, .ref wg, .ref tt, .ref rr, .int 0, .int 0, .int 9999, .int 0])), (gg, .inr (1, [.int 0, .ref u0, .ref u1, .ref u2, .ref u3, .ref u4, .ref u5, .ref u6])), (tt, .inr (8, [.int 0, .ref v0, .ref v1, .ref v2, .ref v3, .ref v4, .ref v5, .ref v6])), (rr, .inr (6, [.int 0, .int 0, .ref w0, .ref w1, .ref w2, .ref w3, .ref w4, .ref w5]))] (fun (r : Int32) (_ : Unit) => r = (-1)) (fun _ => [])) := by
  refine CT.of (by decide) (nb rfl) ?_
  intro p e s m args below meth c C hr
  refine j_lv (lv' := [(0, .ref x)]) rfl ?_
  refine j_aload_n (pc := 0) C d_Nine_lake_0 rfl 0 rfl ?_
  refine j_get (pc := 1) C gf_Nine_53 0 rfl rfl d_Nine_lake_1 ?_
  refine j_aload_n (pc := 4) C d_Nine_lake_4 rfl 0 rfl ?_
  refine j_get (pc := 5) C gf_Nine_45 0 rfl rfl d_Nine_lake_5 ?_
  refine j_callVv (pc := 8) C (c_R_read l D y rd k2 ow tp td gg wn wg tt rr u0 u1 u2 u3 u4 u5 u6 v0 v1 v2 v3 v4 v5 v6 w0 w1 w2 w3 w4 w5) kw_Nine_76 kv_Reader_read 0 5 rfl rfl ⟨by decide, by decide⟩ ⟨by decide, by decide⟩ (wr := [(x, .inr (9, [.ref tp, .ref pi, .ref nw, .ref tr, .ref ps, .ref k, .ref k2, .ref rd, .ref pl, .int 1]))]) [1, 2, 3, 4, 5, 6, 7] [0] rfl rfl (by decide) (by decide) (by decide) (As := [.ref k2]) (rest := []) rfl (nb rfl) rfl d_Nine_lake_8 (fun _ _ => ?_)
  refine j_ws (ws' := [(x, .inr (9, [.ref tp, .ref pi, .ref nw, .ref tr, .ref ps, .ref k, .ref k2, .ref rd, .ref pl, .int 1])), (rd, .inr (5, [.int 1, .int 0, .ref ow, .ref tp, .ref k2, .int 0, .int 0, .int 0, .long 0, .int 0, .int 0, .int 0])), (tp, .inr (0, [.ref td, .int 0])), (td, .inl (y 0, 1600, .inl (fun _ => 0))), (k2, .inr (2, [.int 0, .int 1, .int 1, .int 0, .ref gg, .int 0, .ref wn, .ref wg, .ref tt, .ref rr, .int 0, .int 0, .int 9999, .int 0])), (gg, .inr (1, [.int 0, .ref u0, .ref u1, .ref u2, .ref u3, .ref u4, .ref u5, .ref u6])), (tt, .inr (8, [.int 0, .ref v0, .ref v1, .ref v2, .ref v3, .ref v4, .ref v5, .ref v6])), (rr, .inr (6, [.int 0, .int 0, .ref w0, .ref w1, .ref w2, .ref w3, .ref w4, .ref w5]))]) rfl ?_
  refine j_aload_n (pc := 11) C d_Nine_lake_11 rfl 0 rfl ?_
  refine j_get (pc := 12) C gf_Nine_14 0 rfl rfl d_Nine_lake_12 ?_
  refine j_iconst (pc := 15) C (v := 0) d_Nine_lake_15 (by decide) ?_
  refine j_put (pc := 16) C pf_Nine_70 2 (ws' := [(x, .inr (9, [.ref tp, .ref pi, .ref nw, .ref tr, .ref ps, .ref k, .ref k2, .ref rd, .ref pl, .int 1])), (rd, .inr (5, [.int 1, .int 0, .ref ow, .ref tp, .ref k2, .int 0, .int 0, .int 0, .long 0, .int 0, .int 0, .int 0])), (tp, .inr (0, [.ref td, .int 0])), (td, .inl (y 0, 1600, .inl (fun _ => 0))), (k2, .inr (2, [.int 0, .int 1, .int 1, .int 0, .ref gg, .int 0, .ref wn, .ref wg, .ref tt, .ref rr, .int 0, .int 0, .int 9999, .int 0])), (gg, .inr (1, [.int 0, .ref u0, .ref u1, .ref u2, .ref u3, .ref u4, .ref u5, .ref u6])), (tt, .inr (8, [.int 0, .ref v0, .ref v1, .ref v2, .ref v3, .ref v4, .ref v5, .ref v6])), (rr, .inr (6, [.int 0, .int 0, .ref w0, .ref w1, .ref w2, .ref w3, .ref w4, .ref w5]))]) rfl rfl rfl (nl rfl) rfl d_Nine_lake_16 ?_
  refine j_aload_n (pc := 19) C d_Nine_lake_19 rfl 0 rfl ?_
  refine j_get (pc := 20) C gf_Nine_53 0 rfl rfl d_Nine_lake_20 ?_
  refine j_get (pc := 23) C gf_Nine_79 1 rfl rfl d_Nine_lake_23 ?_
  refine j_if_eqF (pc := 26) C (tgt := 31) d_Nine_lake_26 (by decide) (by decide) ?_
  refine j_iconst (pc := 29) C (v := (-1)) d_Nine_lake_29 (by decide) ?_
  exact j_iret (pc := 30) C hr rfl () rfl [] rfl (by decide) (by decide) (by decide) d_Nine_lake_30
