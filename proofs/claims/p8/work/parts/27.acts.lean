theorem d_Nine_act_0 : decode prog_1_method_13_code 0 = .ok (.aload_n 0, 1) := by decide +kernel
theorem d_Nine_act_1 : decode prog_1_method_13_code 1 = .ok (.getfield 41, 3) := by decide +kernel
theorem d_Nine_act_4 : decode prog_1_method_13_code 4 = .ok (.aload_n 0, 1) := by decide +kernel
theorem d_Nine_act_5 : decode prog_1_method_13_code 5 = .ok (.getfield 24, 3) := by decide +kernel
theorem d_Nine_act_8 : decode prog_1_method_13_code 8 = .ok (.getfield 124, 3) := by decide +kernel
theorem d_Nine_act_11 : decode prog_1_method_13_code 11 = .ok (.invokevirtual 206, 3) := by decide +kernel
theorem kw_Nine_206 : KW "NineBoards" 206 ⟨"NineBoards$Lake", "villageOn", "(I)I"⟩ prog_5_method_8_code 2 (some .int) 1 := ⟨(mt_4 (List.mem_of_getElem? (i := 56) rfl) rfl), (mt_1 (List.mem_of_getElem? (i := 6) rfl) rfl), (mt_4 (List.mem_of_getElem? (i := 59) rfl) rfl), by decide +kernel⟩
theorem d_Nine_act_14 : decode prog_1_method_13_code 14 = .ok (.istore_n 2, 1) := by decide +kernel
theorem d_Nine_act_15 : decode prog_1_method_13_code 15 = .ok (.aload_n 0, 1) := by decide +kernel
theorem d_Nine_act_16 : decode prog_1_method_13_code 16 = .ok (.getfield 24, 3) := by decide +kernel
theorem d_Nine_act_19 : decode prog_1_method_13_code 19 = .ok (.getfield 124, 3) := by decide +kernel
theorem d_Nine_act_22 : decode prog_1_method_13_code 22 = .ok (.sipush 999, 3) := by decide +kernel
theorem d_Nine_act_25 : decode prog_1_method_13_code 25 = .ok (.if_icmp .ge 20, 3) := by decide +kernel
theorem d_Nine_act_45 : decode prog_1_method_13_code 45 = .ok (.iconst (-1), 1) := by decide +kernel
theorem d_Nine_act_46 : decode prog_1_method_13_code 46 = .ok (.ireturn, 1) := by decide +kernel
theorem d_Nine_act_28 : decode prog_1_method_13_code 28 = .ok (.aload_n 0, 1) := by decide +kernel
theorem d_Nine_act_29 : decode prog_1_method_13_code 29 = .ok (.getfield 41, 3) := by decide +kernel
theorem d_Nine_act_32 : decode prog_1_method_13_code 32 = .ok (.aload_n 0, 1) := by decide +kernel
theorem d_Nine_act_33 : decode prog_1_method_13_code 33 = .ok (.getfield 24, 3) := by decide +kernel
theorem d_Nine_act_36 : decode prog_1_method_13_code 36 = .ok (.iload_n 2, 1) := by decide +kernel
theorem d_Nine_act_37 : decode prog_1_method_13_code 37 = .ok (.iload_n 1, 1) := by decide +kernel
theorem d_Nine_act_38 : decode prog_1_method_13_code 38 = .ok (.iconst 0, 1) := by decide +kernel
theorem d_Nine_act_39 : decode prog_1_method_13_code 39 = .ok (.invokestatic 209, 3) := by decide +kernel
theorem kw_Nine_209 : KW "NineBoards" 209 ⟨"NineBoards$Days", "allows", "(LNineBoards$Lake;LNineBoards$State;III)Z"⟩ prog_3_method_2_code 7 (some .boolean) 5 := ⟨(mt_4 (List.mem_of_getElem? (i := 60) rfl) rfl), (mt_1 (List.mem_of_getElem? (i := 18) rfl) rfl), (mt_4 (List.mem_of_getElem? (i := 39) rfl) rfl), by decide +kernel⟩
theorem d_Nine_act_42 : decode prog_1_method_13_code 42 = .ok (.ifCond .ne 5, 3) := by decide +kernel
theorem d_Nine_act_47 : decode prog_1_method_13_code 47 = .ok (.aload_n 0, 1) := by decide +kernel
theorem d_Nine_act_48 : decode prog_1_method_13_code 48 = .ok (.getfield 34, 3) := by decide +kernel
theorem d_Nine_act_51 : decode prog_1_method_13_code 51 = .ok (.aload_n 0, 1) := by decide +kernel
theorem d_Nine_act_52 : decode prog_1_method_13_code 52 = .ok (.getfield 24, 3) := by decide +kernel
theorem d_Nine_act_55 : decode prog_1_method_13_code 55 = .ok (.invokevirtual 213, 3) := by decide +kernel
theorem kw_Nine_213 : KW "NineBoards" 213 ⟨"NineBoards$Past", "keep", "(LNineBoards$State;)V"⟩ prog_6_method_2_code 2 none 1 := ⟨(mt_4 (List.mem_of_getElem? (i := 61) rfl) rfl), (mt_1 (List.mem_of_getElem? (i := 5) rfl) rfl), (mt_4 (List.mem_of_getElem? (i := 64) rfl) rfl), by decide +kernel⟩
theorem kv_Past_keep : Cond.instanceMethod ⟨"NineBoards$Past", "keep", "(LNineBoards$State;)V"⟩ ∈ TB ∧ Cond.selects "NineBoards$Past" ⟨"NineBoards$Past", "keep", "(LNineBoards$State;)V"⟩ ⟨"NineBoards$Past", "keep", "(LNineBoards$State;)V"⟩ ∈ TB := ⟨(mt_4 (List.mem_of_getElem? (i := 62) rfl) rfl), (mt_4 (List.mem_of_getElem? (i := 63) rfl) rfl)⟩
theorem d_Nine_act_58 : decode prog_1_method_13_code 58 = .ok (.aload_n 0, 1) := by decide +kernel
theorem d_Nine_act_59 : decode prog_1_method_13_code 59 = .ok (.getfield 41, 3) := by decide +kernel
theorem d_Nine_act_62 : decode prog_1_method_13_code 62 = .ok (.aload_n 0, 1) := by decide +kernel
theorem d_Nine_act_63 : decode prog_1_method_13_code 63 = .ok (.getfield 24, 3) := by decide +kernel
theorem d_Nine_act_66 : decode prog_1_method_13_code 66 = .ok (.iload_n 1, 1) := by decide +kernel
theorem d_Nine_act_67 : decode prog_1_method_13_code 67 = .ok (.invokestatic 216, 3) := by decide +kernel
theorem kw_Nine_216 : KW "NineBoards" 216 ⟨"NineBoards$Days", "pass", "(LNineBoards$Lake;LNineBoards$State;I)V"⟩ prog_3_method_5_code 8 none 3 := ⟨(mt_4 (List.mem_of_getElem? (i := 67) rfl) rfl), (mt_1 (List.mem_of_getElem? (i := 18) rfl) rfl), (mt_4 (List.mem_of_getElem? (i := 69) rfl) rfl), by decide +kernel⟩
theorem d_Nine_act_70 : decode prog_1_method_13_code 70 = .ok (.aload_n 0, 1) := by decide +kernel
theorem d_Nine_act_71 : decode prog_1_method_13_code 71 = .ok (.getfield 41, 3) := by decide +kernel
theorem d_Nine_act_74 : decode prog_1_method_13_code 74 = .ok (.aload_n 0, 1) := by decide +kernel
theorem d_Nine_act_75 : decode prog_1_method_13_code 75 = .ok (.getfield 24, 3) := by decide +kernel
theorem d_Nine_act_78 : decode prog_1_method_13_code 78 = .ok (.getfield 127, 3) := by decide +kernel
theorem d_Nine_act_81 : decode prog_1_method_13_code 81 = .ok (.invokevirtual 130, 3) := by decide +kernel
theorem d_Nine_act_84 : decode prog_1_method_13_code 84 = .ok (.ireturn, 1) := by decide +kernel
theorem d_Nine_rest_0 : decode prog_1_method_14_code 0 = .ok (.iload_n 1, 1) := by decide +kernel
theorem d_Nine_rest_1 : decode prog_1_method_14_code 1 = .ok (.iconst 1, 1) := by decide +kernel
theorem d_Nine_rest_2 : decode prog_1_method_14_code 2 = .ok (.if_icmp .lt 9, 3) := by decide +kernel
theorem d_Nine_rest_11 : decode prog_1_method_14_code 11 = .ok (.iconst (-1), 1) := by decide +kernel
theorem d_Nine_rest_12 : decode prog_1_method_14_code 12 = .ok (.ireturn, 1) := by decide +kernel
theorem d_Nine_rest_5 : decode prog_1_method_14_code 5 = .ok (.iload_n 1, 1) := by decide +kernel
theorem d_Nine_rest_6 : decode prog_1_method_14_code 6 = .ok (.bipush 99, 2) := by decide +kernel
theorem d_Nine_rest_8 : decode prog_1_method_14_code 8 = .ok (.if_icmp .le 5, 3) := by decide +kernel
theorem d_Nine_rest_13 : decode prog_1_method_14_code 13 = .ok (.iconst 0, 1) := by decide +kernel
theorem d_Nine_rest_14 : decode prog_1_method_14_code 14 = .ok (.istore_n 2, 1) := by decide +kernel
theorem d_Nine_rest_15 : decode prog_1_method_14_code 15 = .ok (.iload_n 2, 1) := by decide +kernel
theorem d_Nine_rest_16 : decode prog_1_method_14_code 16 = .ok (.iload_n 1, 1) := by decide +kernel
theorem d_Nine_rest_17 : decode prog_1_method_14_code 17 = .ok (.if_icmp .ge 45, 3) := by decide +kernel
theorem d_Nine_rest_62 : decode prog_1_method_14_code 62 = .ok (.iload_n 2, 1) := by decide +kernel
theorem d_Nine_rest_63 : decode prog_1_method_14_code 63 = .ok (.ireturn, 1) := by decide +kernel
theorem d_Nine_rest_20 : decode prog_1_method_14_code 20 = .ok (.aload_n 0, 1) := by decide +kernel
theorem d_Nine_rest_21 : decode prog_1_method_14_code 21 = .ok (.getfield 24, 3) := by decide +kernel
theorem d_Nine_rest_24 : decode prog_1_method_14_code 24 = .ok (.getfield 124, 3) := by decide +kernel
theorem d_Nine_rest_27 : decode prog_1_method_14_code 27 = .ok (.sipush 999, 3) := by decide +kernel
theorem d_Nine_rest_30 : decode prog_1_method_14_code 30 = .ok (.if_icmp .ge 32, 3) := by decide +kernel
theorem d_Nine_rest_33 : decode prog_1_method_14_code 33 = .ok (.aload_n 0, 1) := by decide +kernel
theorem d_Nine_rest_34 : decode prog_1_method_14_code 34 = .ok (.getfield 34, 3) := by decide +kernel
theorem d_Nine_rest_37 : decode prog_1_method_14_code 37 = .ok (.aload_n 0, 1) := by decide +kernel
theorem d_Nine_rest_38 : decode prog_1_method_14_code 38 = .ok (.getfield 24, 3) := by decide +kernel
theorem d_Nine_rest_41 : decode prog_1_method_14_code 41 = .ok (.invokevirtual 213, 3) := by decide +kernel
theorem d_Nine_rest_44 : decode prog_1_method_14_code 44 = .ok (.aload_n 0, 1) := by decide +kernel
theorem d_Nine_rest_45 : decode prog_1_method_14_code 45 = .ok (.getfield 41, 3) := by decide +kernel
theorem d_Nine_rest_48 : decode prog_1_method_14_code 48 = .ok (.aload_n 0, 1) := by decide +kernel
theorem d_Nine_rest_49 : decode prog_1_method_14_code 49 = .ok (.getfield 24, 3) := by decide +kernel
theorem d_Nine_rest_52 : decode prog_1_method_14_code 52 = .ok (.iconst 0, 1) := by decide +kernel
theorem d_Nine_rest_53 : decode prog_1_method_14_code 53 = .ok (.invokestatic 216, 3) := by decide +kernel
theorem d_Nine_rest_56 : decode prog_1_method_14_code 56 = .ok (.iinc 2 1, 3) := by decide +kernel
theorem d_Nine_rest_59 : decode prog_1_method_14_code 59 = .ok (.goto (-44), 3) := by decide +kernel
theorem d_Nine_undo_0 : decode prog_1_method_15_code 0 = .ok (.aload_n 0, 1) := by decide +kernel
theorem d_Nine_undo_1 : decode prog_1_method_15_code 1 = .ok (.getfield 34, 3) := by decide +kernel
theorem d_Nine_undo_4 : decode prog_1_method_15_code 4 = .ok (.aload_n 0, 1) := by decide +kernel
theorem d_Nine_undo_5 : decode prog_1_method_15_code 5 = .ok (.getfield 24, 3) := by decide +kernel
theorem d_Nine_undo_8 : decode prog_1_method_15_code 8 = .ok (.invokevirtual 220, 3) := by decide +kernel
theorem kw_Nine_220 : KW "NineBoards" 220 ⟨"NineBoards$Past", "bringBack", "(LNineBoards$State;)Z"⟩ prog_6_method_3_code 2 (some .boolean) 1 := ⟨(mt_4 (List.mem_of_getElem? (i := 118) rfl) rfl), (mt_1 (List.mem_of_getElem? (i := 5) rfl) rfl), (mt_4 (List.mem_of_getElem? (i := 121) rfl) rfl), by decide +kernel⟩
theorem kv_Past_bringBack : Cond.instanceMethod ⟨"NineBoards$Past", "bringBack", "(LNineBoards$State;)Z"⟩ ∈ TB ∧ Cond.selects "NineBoards$Past" ⟨"NineBoards$Past", "bringBack", "(LNineBoards$State;)Z"⟩ ⟨"NineBoards$Past", "bringBack", "(LNineBoards$State;)Z"⟩ ∈ TB := ⟨(mt_4 (List.mem_of_getElem? (i := 119) rfl) rfl), (mt_4 (List.mem_of_getElem? (i := 120) rfl) rfl)⟩
theorem d_Nine_undo_11 : decode prog_1_method_15_code 11 = .ok (.ireturn, 1) := by decide +kernel
theorem d_Nine_weather_0 : decode prog_1_method_16_code 0 = .ok (.iload_n 1, 1) := by decide +kernel
theorem d_Nine_weather_1 : decode prog_1_method_16_code 1 = .ok (.ifCond .lt 21, 3) := by decide +kernel
theorem d_Nine_weather_22 : decode prog_1_method_16_code 22 = .ok (.iconst (-1), 1) := by decide +kernel
theorem d_Nine_weather_23 : decode prog_1_method_16_code 23 = .ok (.ireturn, 1) := by decide +kernel
theorem d_Nine_weather_4 : decode prog_1_method_16_code 4 = .ok (.iload_n 1, 1) := by decide +kernel
theorem d_Nine_weather_5 : decode prog_1_method_16_code 5 = .ok (.sipush 999, 3) := by decide +kernel
theorem d_Nine_weather_8 : decode prog_1_method_16_code 8 = .ok (.if_icmp .ge 14, 3) := by decide +kernel
theorem d_Nine_weather_11 : decode prog_1_method_16_code 11 = .ok (.iload_n 2, 1) := by decide +kernel
theorem d_Nine_weather_12 : decode prog_1_method_16_code 12 = .ok (.ifCond .lt 10, 3) := by decide +kernel
theorem d_Nine_weather_15 : decode prog_1_method_16_code 15 = .ok (.iload_n 2, 1) := by decide +kernel
theorem d_Nine_weather_16 : decode prog_1_method_16_code 16 = .ok (.sipush 9999, 3) := by decide +kernel
theorem d_Nine_weather_19 : decode prog_1_method_16_code 19 = .ok (.if_icmp .le 5, 3) := by decide +kernel
theorem d_Nine_weather_24 : decode prog_1_method_16_code 24 = .ok (.aload_n 0, 1) := by decide +kernel
theorem d_Nine_weather_25 : decode prog_1_method_16_code 25 = .ok (.getfield 41, 3) := by decide +kernel
theorem d_Nine_weather_28 : decode prog_1_method_16_code 28 = .ok (.getfield 117, 3) := by decide +kernel
theorem d_Nine_weather_31 : decode prog_1_method_16_code 31 = .ok (.iload_n 3, 1) := by decide +kernel
theorem d_Nine_weather_32 : decode prog_1_method_16_code 32 = .ok (.ifCond .eq 7, 3) := by decide +kernel
theorem d_Nine_weather_39 : decode prog_1_method_16_code 39 = .ok (.iconst 0, 1) := by decide +kernel
theorem d_Nine_weather_40 : decode prog_1_method_16_code 40 = .ok (.iload_n 1, 1) := by decide +kernel
theorem d_Nine_weather_41 : decode prog_1_method_16_code 41 = .ok (.aload_n 0, 1) := by decide +kernel
theorem d_Nine_weather_42 : decode prog_1_method_16_code 42 = .ok (.getfield 41, 3) := by decide +kernel
theorem d_Nine_weather_45 : decode prog_1_method_16_code 45 = .ok (.iload_n 2, 1) := by decide +kernel
theorem d_Nine_weather_46 : decode prog_1_method_16_code 46 = .ok (.invokevirtual 130, 3) := by decide +kernel
theorem d_Nine_weather_49 : decode prog_1_method_16_code 49 = .ok (.iload_n 2, 1) := by decide +kernel
theorem d_Nine_weather_50 : decode prog_1_method_16_code 50 = .ok (.invokevirtual 224, 3) := by decide +kernel
theorem kw_Nine_224 : KW "NineBoards" 224 ⟨"NineBoards$Rules", "amount", "(IIII)I"⟩ prog_9_method_3_code 7 (some .int) 4 := ⟨(mt_4 (List.mem_of_getElem? (i := 126) rfl) rfl), (mt_1 (List.mem_of_getElem? (i := 9) rfl) rfl), (mt_4 (List.mem_of_getElem? (i := 84) rfl) rfl), by decide +kernel⟩
theorem d_Nine_weather_53 : decode prog_1_method_16_code 53 = .ok (.istore 4, 2) := by decide +kernel
theorem d_Nine_weather_55 : decode prog_1_method_16_code 55 = .ok (.iload_n 3, 1) := by decide +kernel
theorem d_Nine_weather_56 : decode prog_1_method_16_code 56 = .ok (.ifCond .eq 12, 3) := by decide +kernel
theorem d_Nine_weather_68 : decode prog_1_method_16_code 68 = .ok (.iload 4, 2) := by decide +kernel
theorem d_Nine_weather_70 : decode prog_1_method_16_code 70 = .ok (.ireturn, 1) := by decide +kernel
theorem d_Nine_weather_59 : decode prog_1_method_16_code 59 = .ok (.iload 4, 2) := by decide +kernel
theorem d_Nine_weather_61 : decode prog_1_method_16_code 61 = .ok (.iload_n 2, 1) := by decide +kernel
theorem d_Nine_weather_62 : decode prog_1_method_16_code 62 = .ok (.invokestatic 228, 3) := by decide +kernel
theorem d_Nine_weather_65 : decode prog_1_method_16_code 65 = .ok (.goto 5, 3) := by decide +kernel
theorem d_Nine_weather_35 : decode prog_1_method_16_code 35 = .ok (.iconst 1, 1) := by decide +kernel
theorem d_Nine_weather_36 : decode prog_1_method_16_code 36 = .ok (.goto 4, 3) := by decide +kernel
set_option maxHeartbeats 4000000 in
set_option maxRecDepth 100000 in
theorem c_N_weather (l : Launch) (D : va_G) (y : Nat → ClassId) (x : Nat) (tp : Nat) (pi : Nat) (nh : Nat) (th : Nat) (ps : Nat) (ad : Nat → Nat) (ae : Nat → Nat) (rd : Nat) (pl : Nat) (dr : Int32) (d : LD) (g : Nat → Int32) (v1 : Int32) (v2 : Int32) (v3 : Int32) (n11 : Nat) (h11 : d.1 11 = nI n11) (b11 : n11 ≤ 8) : CT l D y ⟨"NineBoards", "weather", "(IIZ)I"⟩ prog_1_method_16_code 5 (some .int) ({ frames := 4, cells := 0, slots := 0, locals := 98 } : Room) [.ref x, .int v1, .int v2, .int v3] [(x, .inr (9, [.ref tp, .ref pi, .ref nh, .ref th, .ref ps, .ref (ad 0), .ref (ae 0), .ref rd, .ref pl, .int dr])), (ad 0, .inr (2, [.int (d.1 0), .int (d.1 1), .int (d.1 2), .int (d.1 3), .ref (ad 1), .int (d.1 4), .ref (ad 11), .ref (ad 12), .ref (ad 2), .ref (ad 3), .int (d.1 5), .int (d.1 6), .int (d.1 7), .int (d.1 8)])), (ad 3, .inr (6, [.int (d.1 11), .int (d.1 12), .ref (ad 20), .ref (ad 21), .ref (ad 22), .ref (ad 23), .ref (ad 24), .ref (ad 25)])), (ad 20, .inl (y 0, 8, .inl (d.2 16))), (ad 21, .inl (y 0, 8, .inl (d.2 17))), (ad 22, .inl (y 0, 8, .inl (d.2 18))), (ad 23, .inl (y 0, 8, .inl (d.2 19))), (ad 24, .inl (y 0, 1600, .inl (d.2 20))), (ad 25, .inl (y 0, 40, .inl g))] (QI D [(x, .inr (9, [.ref tp, .ref pi, .ref nh, .ref th, .ref ps, .ref (ad 0), .ref (ae 0), .ref rd, .ref pl, .int dr])), (ad 0, .inr (2, [.int (d.1 0), .int (d.1 1), .int (d.1 2), .int (d.1 3), .ref (ad 1), .int (d.1 4), .ref (ad 11), .ref (ad 12), .ref (ad 2), .ref (ad 3), .int (d.1 5), .int (d.1 6), .int (d.1 7), .int (d.1 8)])), (ad 3, .inr (6, [.int (d.1 11), .int (d.1 12), .ref (ad 20), .ref (ad 21), .ref (ad 22), .ref (ad 23), .ref (ad 24), .ref (ad 25)])), (ad 20, .inl (y 0, 8, .inl (d.2 16))), (ad 21, .inl (y 0, 8, .inl (d.2 17))), (ad 22, .inl (y 0, 8, .inl (d.2 18))), (ad 23, .inl (y 0, 8, .inl (d.2 19))), (ad 24, .inl (y 0, 1600, .inl (d.2 20))), (ad 25, .inl (y 0, 40, .inl g))] (fun (r : Int32) (u : (Nat → Int32)) => True) (fun u => [(x, .inr (9, [.ref tp, .ref pi, .ref nh, .ref th, .ref ps, .ref (ad 0), .ref (ae 0), .ref rd, .ref pl, .int dr])), (ad 0, .inr (2, [.int (d.1 0), .int (d.1 1), .int (d.1 2), .int (d.1 3), .ref (ad 1), .int (d.1 4), .ref (ad 11), .ref (ad 12), .ref (ad 2), .ref (ad 3), .int (d.1 5), .int (d.1 6), .int (d.1 7), .int (d.1 8)])), (ad 3, .inr (6, [.int (d.1 11), .int (d.1 12), .ref (ad 20), .ref (ad 21), .ref (ad 22), .ref (ad 23), .ref (ad 24), .ref (ad 25)])), (ad 20, .inl (y 0, 8, .inl (d.2 16))), (ad 21, .inl (y 0, 8, .inl (d.2 17))), (ad 22, .inl (y 0, 8, .inl (d.2 18))), (ad 23, .inl (y 0, 8, .inl (d.2 19))), (ad 24, .inl (y 0, 1600, .inl (d.2 20))), (ad 25, .inl (y 0, 40, .inl u))])) := by
  refine CT.of (by decide) (nb rfl) ?_
  intro p e s m args below meth c C hr
  refine j_lv (lv' := [(0, .ref x), (1, .int v1), (2, .int v2), (3, .int v3)]) rfl ?_
  refine j_iload_n (pc := 0) C d_Nine_weather_0 rfl 1 rfl ?_
  refine j_if_lt (pc := 1) C (tgt := 22) d_Nine_weather_1 (by decide) (fun c1 => ?_) (fun c1 => ?_)
  · refine j_iconst (pc := 22) C (v := (-1)) d_Nine_weather_22 (by decide) ?_
    exact j_iret (pc := 23) C hr rfl g trivial [0, 1, 2, 3, 4, 5, 6, 7, 8] rfl (by decide) (by decide) (by decide) d_Nine_weather_23
  · refine j_iload_n (pc := 4) C d_Nine_weather_4 rfl 1 rfl ?_
    refine j_sipush (pc := 5) C (v := 999) d_Nine_weather_5 (by decide) ?_
    refine j_icmp_ge (pc := 8) C (tgt := 22) d_Nine_weather_8 (by decide) (fun c2 => ?_) (fun c2 => ?_)
    · refine j_iconst (pc := 22) C (v := (-1)) d_Nine_weather_22 (by decide) ?_
      exact j_iret (pc := 23) C hr rfl g trivial [0, 1, 2, 3, 4, 5, 6, 7, 8] rfl (by decide) (by decide) (by decide) d_Nine_weather_23
    · refine j_iload_n (pc := 11) C d_Nine_weather_11 rfl 2 rfl ?_
      refine j_if_lt (pc := 12) C (tgt := 22) d_Nine_weather_12 (by decide) (fun c3 => ?_) (fun c3 => ?_)
      · refine j_iconst (pc := 22) C (v := (-1)) d_Nine_weather_22 (by decide) ?_
        exact j_iret (pc := 23) C hr rfl g trivial [0, 1, 2, 3, 4, 5, 6, 7, 8] rfl (by decide) (by decide) (by decide) d_Nine_weather_23
      · refine j_iload_n (pc := 15) C d_Nine_weather_15 rfl 2 rfl ?_
        refine j_sipush (pc := 16) C (v := 9999) d_Nine_weather_16 (by decide) ?_
        refine j_icmp_le (pc := 19) C (tgt := 24) d_Nine_weather_19 (by decide) (fun c4 => ?_) (fun c4 => ?_)
        · refine j_aload_n (pc := 24) C d_Nine_weather_24 rfl 0 rfl ?_
          refine j_get (pc := 25) C gf_Nine_41 0 rfl rfl d_Nine_weather_25 ?_
          refine j_get (pc := 28) C gf_Nine_117 1 rfl rfl d_Nine_weather_28 ?_
          refine j_iload_n (pc := 31) C d_Nine_weather_31 rfl 3 rfl ?_
          refine j_if_eq (pc := 32) C (tgt := 39) d_Nine_weather_32 (by decide) (fun c5 => ?_) (fun c5 => ?_)
          · refine j_iconst (pc := 39) C (v := 0) d_Nine_weather_39 (by decide) ?_
            refine j_iload_n (pc := 40) C d_Nine_weather_40 rfl 1 rfl ?_
            refine j_aload_n (pc := 41) C d_Nine_weather_41 rfl 0 rfl ?_
            refine j_get (pc := 42) C gf_Nine_41 0 rfl rfl d_Nine_weather_42 ?_
            refine j_iload_n (pc := 45) C d_Nine_weather_45 rfl 2 rfl ?_
            refine j_callVi (pc := 46) C (c_levelAt l D y ad d v2) kw_Nine_130 kv_Lake_levelAt 0 2 rfl rfl ⟨by decide, by decide⟩ ⟨by decide, by decide⟩ (wr := [(x, .inr (9, [.ref tp, .ref pi, .ref nh, .ref th, .ref ps, .ref (ad 0), .ref (ae 0), .ref rd, .ref pl, .int dr])), (ad 3, .inr (6, [.int (d.1 11), .int (d.1 12), .ref (ad 20), .ref (ad 21), .ref (ad 22), .ref (ad 23), .ref (ad 24), .ref (ad 25)])), (ad 20, .inl (y 0, 8, .inl (d.2 16))), (ad 21, .inl (y 0, 8, .inl (d.2 17))), (ad 22, .inl (y 0, 8, .inl (d.2 18))), (ad 23, .inl (y 0, 8, .inl (d.2 19))), (ad 24, .inl (y 0, 1600, .inl (d.2 20))), (ad 25, .inl (y 0, 40, .inl g))]) [1] [0, 2, 3, 4, 5, 6, 7, 8] rfl rfl (by decide +kernel) (by decide +kernel) (by decide +kernel) (As := [.int v2]) (rest := [.int v1, .int 0, .ref (ad 3)]) rfl (nb rfl) rfl d_Nine_weather_46 (fun r6 _ hr6 => ?_)
            refine j_ws (ws' := [(x, .inr (9, [.ref tp, .ref pi, .ref nh, .ref th, .ref ps, .ref (ad 0), .ref (ae 0), .ref rd, .ref pl, .int dr])), (ad 3, .inr (6, [.int (d.1 11), .int (d.1 12), .ref (ad 20), .ref (ad 21), .ref (ad 22), .ref (ad 23), .ref (ad 24), .ref (ad 25)])), (ad 20, .inl (y 0, 8, .inl (d.2 16))), (ad 21, .inl (y 0, 8, .inl (d.2 17))), (ad 22, .inl (y 0, 8, .inl (d.2 18))), (ad 23, .inl (y 0, 8, .inl (d.2 19))), (ad 24, .inl (y 0, 1600, .inl (d.2 20))), (ad 25, .inl (y 0, 40, .inl g)), (ad 0, .inr (2, [.int (d.1 0), .int (d.1 1), .int (d.1 2), .int (d.1 3), .ref (ad 1), .int (d.1 4), .ref (ad 11), .ref (ad 12), .ref (ad 2), .ref (ad 3), .int (d.1 5), .int (d.1 6), .int (d.1 7), .int (d.1 8)]))]) rfl ?_
            refine j_iload_n (pc := 49) C d_Nine_weather_49 rfl 2 rfl ?_
            refine j_callVi (pc := 50) C (c_amount l D y ad d n11 0 v1 r6 v2 g h11 b11) kw_Nine_224 kv_Rules_amount 0 6 rfl rfl ⟨by decide, by decide⟩ ⟨by decide, by decide⟩ (wr := [(x, .inr (9, [.ref tp, .ref pi, .ref nh, .ref th, .ref ps, .ref (ad 0), .ref (ae 0), .ref rd, .ref pl, .int dr])), (ad 0, .inr (2, [.int (d.1 0), .int (d.1 1), .int (d.1 2), .int (d.1 3), .ref (ad 1), .int (d.1 4), .ref (ad 11), .ref (ad 12), .ref (ad 2), .ref (ad 3), .int (d.1 5), .int (d.1 6), .int (d.1 7), .int (d.1 8)]))]) [1, 2, 3, 4, 5, 6, 7] [0, 8] rfl rfl (by decide +kernel) (by decide +kernel) (by decide +kernel) (As := [.int 0, .int v1, .int r6, .int v2]) (rest := []) rfl (nb rfl) rfl d_Nine_weather_50 (fun r7 u8 hr7 => ?_)
            refine j_ws (ws' := [(x, .inr (9, [.ref tp, .ref pi, .ref nh, .ref th, .ref ps, .ref (ad 0), .ref (ae 0), .ref rd, .ref pl, .int dr])), (ad 0, .inr (2, [.int (d.1 0), .int (d.1 1), .int (d.1 2), .int (d.1 3), .ref (ad 1), .int (d.1 4), .ref (ad 11), .ref (ad 12), .ref (ad 2), .ref (ad 3), .int (d.1 5), .int (d.1 6), .int (d.1 7), .int (d.1 8)])), (ad 3, .inr (6, [.int (d.1 11), .int (d.1 12), .ref (ad 20), .ref (ad 21), .ref (ad 22), .ref (ad 23), .ref (ad 24), .ref (ad 25)])), (ad 20, .inl (y 0, 8, .inl (d.2 16))), (ad 21, .inl (y 0, 8, .inl (d.2 17))), (ad 22, .inl (y 0, 8, .inl (d.2 18))), (ad 23, .inl (y 0, 8, .inl (d.2 19))), (ad 24, .inl (y 0, 1600, .inl (d.2 20))), (ad 25, .inl (y 0, 40, .inl u8))]) rfl ?_
            refine j_istore (pc := 53) C (lv' := [(4, .int r7), (0, .ref x), (1, .int v1), (2, .int v2), (3, .int v3)]) d_Nine_weather_53 (by decide) rfl ?_
            refine j_iload_n (pc := 55) C d_Nine_weather_55 rfl 4 rfl ?_
            refine j_if_eq (pc := 56) C (tgt := 68) d_Nine_weather_56 (by decide) (fun c9 => ?_) (fun c9 => ?_)
            · refine j_iload (pc := 68) C d_Nine_weather_68 0 rfl ?_
              exact j_iret (pc := 70) C hr rfl u8 trivial [0, 1, 2, 3, 4, 5, 6, 7, 8] rfl (by decide) (by decide) (by decide) d_Nine_weather_70
            · refine j_iload (pc := 59) C d_Nine_weather_59 0 rfl ?_
              refine j_iload_n (pc := 61) C d_Nine_weather_61 rfl 3 rfl ?_
              refine j_mmin (pc := 62) C (mt_4 (List.mem_of_getElem? (i := 127) rfl) rfl) (mt_3 (List.mem_of_getElem? (i := 56) rfl) rfl) (mt_1 (List.mem_of_getElem? (i := 3) rfl) rfl) (mt_3 (List.mem_of_getElem? (i := 57) rfl) rfl) (v := if v2 < r7 then v2 else r7) rfl (by decide) (nb rfl) (by decide) (by decide) d_Nine_weather_62 ?_
              refine j_goto (pc := 65) C (tgt := 70) d_Nine_weather_65 (by decide) ?_
              exact j_iret (pc := 70) C hr rfl u8 trivial [0, 1, 2, 3, 4, 5, 6, 7, 8] rfl (by decide) (by decide) (by decide) d_Nine_weather_70
          · refine j_iconst (pc := 35) C (v := 1) d_Nine_weather_35 (by decide) ?_
            refine j_goto (pc := 36) C (tgt := 40) d_Nine_weather_36 (by decide) ?_
            refine j_iload_n (pc := 40) C d_Nine_weather_40 rfl 1 rfl ?_
            refine j_aload_n (pc := 41) C d_Nine_weather_41 rfl 0 rfl ?_
            refine j_get (pc := 42) C gf_Nine_41 0 rfl rfl d_Nine_weather_42 ?_
            refine j_iload_n (pc := 45) C d_Nine_weather_45 rfl 2 rfl ?_
            refine j_callVi (pc := 46) C (c_levelAt l D y ad d v2) kw_Nine_130 kv_Lake_levelAt 0 2 rfl rfl ⟨by decide, by decide⟩ ⟨by decide, by decide⟩ (wr := [(x, .inr (9, [.ref tp, .ref pi, .ref nh, .ref th, .ref ps, .ref (ad 0), .ref (ae 0), .ref rd, .ref pl, .int dr])), (ad 3, .inr (6, [.int (d.1 11), .int (d.1 12), .ref (ad 20), .ref (ad 21), .ref (ad 22), .ref (ad 23), .ref (ad 24), .ref (ad 25)])), (ad 20, .inl (y 0, 8, .inl (d.2 16))), (ad 21, .inl (y 0, 8, .inl (d.2 17))), (ad 22, .inl (y 0, 8, .inl (d.2 18))), (ad 23, .inl (y 0, 8, .inl (d.2 19))), (ad 24, .inl (y 0, 1600, .inl (d.2 20))), (ad 25, .inl (y 0, 40, .inl g))]) [1] [0, 2, 3, 4, 5, 6, 7, 8] rfl rfl (by decide +kernel) (by decide +kernel) (by decide +kernel) (As := [.int v2]) (rest := [.int v1, .int 1, .ref (ad 3)]) rfl (nb rfl) rfl d_Nine_weather_46 (fun r10 _ hr10 => ?_)
            refine j_ws (ws' := [(x, .inr (9, [.ref tp, .ref pi, .ref nh, .ref th, .ref ps, .ref (ad 0), .ref (ae 0), .ref rd, .ref pl, .int dr])), (ad 3, .inr (6, [.int (d.1 11), .int (d.1 12), .ref (ad 20), .ref (ad 21), .ref (ad 22), .ref (ad 23), .ref (ad 24), .ref (ad 25)])), (ad 20, .inl (y 0, 8, .inl (d.2 16))), (ad 21, .inl (y 0, 8, .inl (d.2 17))), (ad 22, .inl (y 0, 8, .inl (d.2 18))), (ad 23, .inl (y 0, 8, .inl (d.2 19))), (ad 24, .inl (y 0, 1600, .inl (d.2 20))), (ad 25, .inl (y 0, 40, .inl g)), (ad 0, .inr (2, [.int (d.1 0), .int (d.1 1), .int (d.1 2), .int (d.1 3), .ref (ad 1), .int (d.1 4), .ref (ad 11), .ref (ad 12), .ref (ad 2), .ref (ad 3), .int (d.1 5), .int (d.1 6), .int (d.1 7), .int (d.1 8)]))]) rfl ?_
            refine j_iload_n (pc := 49) C d_Nine_weather_49 rfl 2 rfl ?_
            refine j_callVi (pc := 50) C (c_amount l D y ad d n11 1 v1 r10 v2 g h11 b11) kw_Nine_224 kv_Rules_amount 0 6 rfl rfl ⟨by decide, by decide⟩ ⟨by decide, by decide⟩ (wr := [(x, .inr (9, [.ref tp, .ref pi, .ref nh, .ref th, .ref ps, .ref (ad 0), .ref (ae 0), .ref rd, .ref pl, .int dr])), (ad 0, .inr (2, [.int (d.1 0), .int (d.1 1), .int (d.1 2), .int (d.1 3), .ref (ad 1), .int (d.1 4), .ref (ad 11), .ref (ad 12), .ref (ad 2), .ref (ad 3), .int (d.1 5), .int (d.1 6), .int (d.1 7), .int (d.1 8)]))]) [1, 2, 3, 4, 5, 6, 7] [0, 8] rfl rfl (by decide +kernel) (by decide +kernel) (by decide +kernel) (As := [.int 1, .int v1, .int r10, .int v2]) (rest := []) rfl (nb rfl) rfl d_Nine_weather_50 (fun r11 u12 hr11 => ?_)
            refine j_ws (ws' := [(x, .inr (9, [.ref tp, .ref pi, .ref nh, .ref th, .ref ps, .ref (ad 0), .ref (ae 0), .ref rd, .ref pl, .int dr])), (ad 0, .inr (2, [.int (d.1 0), .int (d.1 1), .int (d.1 2), .int (d.1 3), .ref (ad 1), .int (d.1 4), .ref (ad 11), .ref (ad 12), .ref (ad 2), .ref (ad 3), .int (d.1 5), .int (d.1 6), .int (d.1 7), .int (d.1 8)])), (ad 3, .inr (6, [.int (d.1 11), .int (d.1 12), .ref (ad 20), .ref (ad 21), .ref (ad 22), .ref (ad 23), .ref (ad 24), .ref (ad 25)])), (ad 20, .inl (y 0, 8, .inl (d.2 16))), (ad 21, .inl (y 0, 8, .inl (d.2 17))), (ad 22, .inl (y 0, 8, .inl (d.2 18))), (ad 23, .inl (y 0, 8, .inl (d.2 19))), (ad 24, .inl (y 0, 1600, .inl (d.2 20))), (ad 25, .inl (y 0, 40, .inl u12))]) rfl ?_
            refine j_istore (pc := 53) C (lv' := [(4, .int r11), (0, .ref x), (1, .int v1), (2, .int v2), (3, .int v3)]) d_Nine_weather_53 (by decide) rfl ?_
            refine j_iload_n (pc := 55) C d_Nine_weather_55 rfl 4 rfl ?_
            refine j_if_eq (pc := 56) C (tgt := 68) d_Nine_weather_56 (by decide) (fun c13 => ?_) (fun c13 => ?_)
            · refine j_iload (pc := 68) C d_Nine_weather_68 0 rfl ?_
              exact j_iret (pc := 70) C hr rfl u12 trivial [0, 1, 2, 3, 4, 5, 6, 7, 8] rfl (by decide) (by decide) (by decide) d_Nine_weather_70
            · refine j_iload (pc := 59) C d_Nine_weather_59 0 rfl ?_
              refine j_iload_n (pc := 61) C d_Nine_weather_61 rfl 3 rfl ?_
              refine j_mmin (pc := 62) C (mt_4 (List.mem_of_getElem? (i := 127) rfl) rfl) (mt_3 (List.mem_of_getElem? (i := 56) rfl) rfl) (mt_1 (List.mem_of_getElem? (i := 3) rfl) rfl) (mt_3 (List.mem_of_getElem? (i := 57) rfl) rfl) (v := if v2 < r11 then v2 else r11) rfl (by decide) (nb rfl) (by decide) (by decide) d_Nine_weather_62 ?_
              refine j_goto (pc := 65) C (tgt := 70) d_Nine_weather_65 (by decide) ?_
              exact j_iret (pc := 70) C hr rfl u12 trivial [0, 1, 2, 3, 4, 5, 6, 7, 8] rfl (by decide) (by decide) (by decide) d_Nine_weather_70
        · refine j_iconst (pc := 22) C (v := (-1)) d_Nine_weather_22 (by decide) ?_
          exact j_iret (pc := 23) C hr rfl g trivial [0, 1, 2, 3, 4, 5, 6, 7, 8] rfl (by decide) (by decide) (by decide) d_Nine_weather_23
