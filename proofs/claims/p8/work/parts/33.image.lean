theorem d_Nine_image_0 : decode prog_1_method_32_code 0 = .ok (.aload_n 0, 1) := by decide +kernel
theorem d_Nine_image_1 : decode prog_1_method_32_code 1 = .ok (.getfield 18, 3) := by decide +kernel
theorem gf_Nine_18 : GF "NineBoards" 18 9 1 := ⟨_, _, _, rfl, ci_Nine, by decide, (mt_2 (List.mem_of_getElem? (i := 232) rfl) rfl)⟩
theorem d_Nine_image_4 : decode prog_1_method_32_code 4 = .ok (.iconst 0, 1) := by decide +kernel
theorem d_Nine_image_5 : decode prog_1_method_32_code 5 = .ok (.putfield 70, 3) := by decide +kernel
theorem d_Nine_image_8 : decode prog_1_method_32_code 8 = .ok (.aload_n 0, 1) := by decide +kernel
theorem d_Nine_image_9 : decode prog_1_method_32_code 9 = .ok (.getfield 18, 3) := by decide +kernel
theorem d_Nine_image_12 : decode prog_1_method_32_code 12 = .ok (.aload_n 0, 1) := by decide +kernel
theorem d_Nine_image_13 : decode prog_1_method_32_code 13 = .ok (.getfield 24, 3) := by decide +kernel
theorem d_Nine_image_16 : decode prog_1_method_32_code 16 = .ok (.getfield 124, 3) := by decide +kernel
theorem d_Nine_image_19 : decode prog_1_method_32_code 19 = .ok (.invokevirtual 305, 3) := by decide +kernel
theorem kw_Nine_305 : KW "NineBoards" 305 ⟨"NineBoards$Bytes", "putTwo", "(I)V"⟩ prog_2_method_3_code 2 none 1 := ⟨(mt_5 (List.mem_of_getElem? (i := 63) rfl) rfl), (mt_1 (List.mem_of_getElem? (i := 2) rfl) rfl), (mt_3 (List.mem_of_getElem? (i := 33) rfl) rfl), by decide +kernel⟩
theorem d_Nine_image_22 : decode prog_1_method_32_code 22 = .ok (.aload_n 0, 1) := by decide +kernel
theorem d_Nine_image_23 : decode prog_1_method_32_code 23 = .ok (.getfield 18, 3) := by decide +kernel
theorem d_Nine_image_26 : decode prog_1_method_32_code 26 = .ok (.aload_n 0, 1) := by decide +kernel
theorem d_Nine_image_27 : decode prog_1_method_32_code 27 = .ok (.getfield 24, 3) := by decide +kernel
theorem d_Nine_image_30 : decode prog_1_method_32_code 30 = .ok (.getfield 127, 3) := by decide +kernel
theorem d_Nine_image_33 : decode prog_1_method_32_code 33 = .ok (.invokevirtual 305, 3) := by decide +kernel
theorem d_Nine_image_36 : decode prog_1_method_32_code 36 = .ok (.aload_n 0, 1) := by decide +kernel
theorem d_Nine_image_37 : decode prog_1_method_32_code 37 = .ok (.getfield 18, 3) := by decide +kernel
theorem d_Nine_image_40 : decode prog_1_method_32_code 40 = .ok (.aload_n 0, 1) := by decide +kernel
theorem d_Nine_image_41 : decode prog_1_method_32_code 41 = .ok (.getfield 24, 3) := by decide +kernel
theorem d_Nine_image_44 : decode prog_1_method_32_code 44 = .ok (.getfield 134, 3) := by decide +kernel
theorem d_Nine_image_47 : decode prog_1_method_32_code 47 = .ok (.invokevirtual 308, 3) := by decide +kernel
theorem kw_Nine_308 : KW "NineBoards" 308 ⟨"NineBoards$Bytes", "put", "(I)V"⟩ prog_2_method_2_code 2 none 1 := ⟨(mt_5 (List.mem_of_getElem? (i := 64) rfl) rfl), (mt_1 (List.mem_of_getElem? (i := 2) rfl) rfl), (mt_3 (List.mem_of_getElem? (i := 37) rfl) rfl), by decide +kernel⟩
theorem d_Nine_image_50 : decode prog_1_method_32_code 50 = .ok (.iconst 0, 1) := by decide +kernel
theorem d_Nine_image_51 : decode prog_1_method_32_code 51 = .ok (.istore_n 1, 1) := by decide +kernel
theorem d_Nine_image_52 : decode prog_1_method_32_code 52 = .ok (.iload_n 1, 1) := by decide +kernel
theorem d_Nine_image_53 : decode prog_1_method_32_code 53 = .ok (.aload_n 0, 1) := by decide +kernel
theorem d_Nine_image_54 : decode prog_1_method_32_code 54 = .ok (.getfield 41, 3) := by decide +kernel
theorem d_Nine_image_57 : decode prog_1_method_32_code 57 = .ok (.getfield 89, 3) := by decide +kernel
theorem d_Nine_image_60 : decode prog_1_method_32_code 60 = .ok (.getfield 93, 3) := by decide +kernel
theorem d_Nine_image_63 : decode prog_1_method_32_code 63 = .ok (.if_icmp .ge 25, 3) := by decide +kernel
theorem d_Nine_image_88 : decode prog_1_method_32_code 88 = .ok (.aload_n 0, 1) := by decide +kernel
theorem d_Nine_image_89 : decode prog_1_method_32_code 89 = .ok (.getfield 18, 3) := by decide +kernel
theorem d_Nine_image_92 : decode prog_1_method_32_code 92 = .ok (.aload_n 0, 1) := by decide +kernel
theorem d_Nine_image_93 : decode prog_1_method_32_code 93 = .ok (.getfield 18, 3) := by decide +kernel
theorem d_Nine_image_96 : decode prog_1_method_32_code 96 = .ok (.aload_n 0, 1) := by decide +kernel
theorem d_Nine_image_97 : decode prog_1_method_32_code 97 = .ok (.getfield 18, 3) := by decide +kernel
theorem d_Nine_image_100 : decode prog_1_method_32_code 100 = .ok (.getfield 70, 3) := by decide +kernel
theorem d_Nine_image_103 : decode prog_1_method_32_code 103 = .ok (.invokevirtual 311, 3) := by decide +kernel
theorem kw_Nine_311 : KW "NineBoards" 311 ⟨"NineBoards$Bytes", "check", "(I)I"⟩ prog_2_method_7_code 4 (some .int) 1 := ⟨(mt_5 (List.mem_of_getElem? (i := 65) rfl) rfl), (mt_1 (List.mem_of_getElem? (i := 2) rfl) rfl), (mt_5 (List.mem_of_getElem? (i := 68) rfl) rfl), by decide +kernel⟩
theorem kv_Bytes_check : Cond.instanceMethod ⟨"NineBoards$Bytes", "check", "(I)I"⟩ ∈ TB ∧ Cond.selects "NineBoards$Bytes" ⟨"NineBoards$Bytes", "check", "(I)I"⟩ ⟨"NineBoards$Bytes", "check", "(I)I"⟩ ∈ TB := ⟨(mt_5 (List.mem_of_getElem? (i := 66) rfl) rfl), (mt_5 (List.mem_of_getElem? (i := 67) rfl) rfl)⟩
theorem d_Nine_image_106 : decode prog_1_method_32_code 106 = .ok (.invokevirtual 308, 3) := by decide +kernel
theorem d_Nine_image_109 : decode prog_1_method_32_code 109 = .ok (.aload_n 0, 1) := by decide +kernel
theorem d_Nine_image_110 : decode prog_1_method_32_code 110 = .ok (.getfield 18, 3) := by decide +kernel
theorem d_Nine_image_113 : decode prog_1_method_32_code 113 = .ok (.getfield 70, 3) := by decide +kernel
theorem d_Nine_image_116 : decode prog_1_method_32_code 116 = .ok (.ireturn, 1) := by decide +kernel
theorem d_Nine_image_66 : decode prog_1_method_32_code 66 = .ok (.aload_n 0, 1) := by decide +kernel
theorem d_Nine_image_67 : decode prog_1_method_32_code 67 = .ok (.getfield 18, 3) := by decide +kernel
theorem d_Nine_image_70 : decode prog_1_method_32_code 70 = .ok (.aload_n 0, 1) := by decide +kernel
theorem d_Nine_image_71 : decode prog_1_method_32_code 71 = .ok (.getfield 24, 3) := by decide +kernel
theorem d_Nine_image_74 : decode prog_1_method_32_code 74 = .ok (.getfield 96, 3) := by decide +kernel
theorem d_Nine_image_77 : decode prog_1_method_32_code 77 = .ok (.iload_n 1, 1) := by decide +kernel
theorem d_Nine_image_78 : decode prog_1_method_32_code 78 = .ok (.iaload, 1) := by decide +kernel
theorem d_Nine_image_79 : decode prog_1_method_32_code 79 = .ok (.invokevirtual 308, 3) := by decide +kernel
theorem d_Nine_image_82 : decode prog_1_method_32_code 82 = .ok (.iinc 1 1, 3) := by decide +kernel
theorem d_Nine_image_85 : decode prog_1_method_32_code 85 = .ok (.goto (-33), 3) := by decide +kernel
theorem d_Nine_octet_0 : decode prog_1_method_33_code 0 = .ok (.aload_n 0, 1) := by decide +kernel
theorem d_Nine_octet_1 : decode prog_1_method_33_code 1 = .ok (.getfield 18, 3) := by decide +kernel
theorem d_Nine_octet_4 : decode prog_1_method_33_code 4 = .ok (.iload_n 1, 1) := by decide +kernel
theorem d_Nine_octet_5 : decode prog_1_method_33_code 5 = .ok (.invokevirtual 314, 3) := by decide +kernel
theorem kw_Nine_314 : KW "NineBoards" 314 ⟨"NineBoards$Bytes", "at", "(I)I"⟩ prog_2_method_5_code 2 (some .int) 1 := ⟨(mt_5 (List.mem_of_getElem? (i := 73) rfl) rfl), (mt_1 (List.mem_of_getElem? (i := 2) rfl) rfl), (mt_5 (List.mem_of_getElem? (i := 30) rfl) rfl), by decide +kernel⟩
theorem d_Nine_octet_8 : decode prog_1_method_33_code 8 = .ok (.ireturn, 1) := by decide +kernel
set_option maxHeartbeats 4000000 in
set_option maxRecDepth 100000 in
theorem c_N_octet (l : Launch) (D : va_G) (y : Nat → ClassId) (x : Nat) (tp : Nat) (pi : Nat) (nh : Nat) (th : Nat) (ps : Nat) (ad : Nat → Nat) (ae : Nat → Nat) (rd : Nat) (pl : Nat) (dr : Int32) (pd : Nat) (pn : Int32) (pf : Nat → Int32) (v : Int32)  : CT l D y ⟨"NineBoards", "octet", "(I)I"⟩ prog_1_method_33_code 2 (some .int) ({ frames := 1, cells := 0, slots := 0, locals := 21 } : Room) [.ref x, .int v] [(x, .inr (9, [.ref tp, .ref pi, .ref nh, .ref th, .ref ps, .ref (ad 0), .ref (ae 0), .ref rd, .ref pl, .int dr])), (pi, .inr (0, [.ref pd, .int pn])), (pd, .inl (y 0, 15, .inl pf))] (QI D [(x, .inr (9, [.ref tp, .ref pi, .ref nh, .ref th, .ref ps, .ref (ad 0), .ref (ae 0), .ref rd, .ref pl, .int dr])), (pi, .inr (0, [.ref pd, .int pn])), (pd, .inl (y 0, 15, .inl pf))] (fun (r : Int32) (u : Unit) => True) (fun _ => [(x, .inr (9, [.ref tp, .ref pi, .ref nh, .ref th, .ref ps, .ref (ad 0), .ref (ae 0), .ref rd, .ref pl, .int dr])), (pi, .inr (0, [.ref pd, .int pn])), (pd, .inl (y 0, 15, .inl pf))])) := by
  refine CT.of (by decide) (nb rfl) ?_
  intro p e s m args below meth c C hr
  refine j_lv (lv' := [(0, .ref x), (1, .int v)]) rfl ?_
  refine j_aload_n (pc := 0) C d_Nine_octet_0 rfl 0 rfl ?_
  refine j_get (pc := 1) C gf_Nine_18 0 rfl rfl d_Nine_octet_1 ?_
  refine j_iload_n (pc := 4) C d_Nine_octet_4 rfl 1 rfl ?_
  refine j_callVi (pc := 5) C (c_at_15 l D y pi pd pn pf v) kw_Nine_314 kv_Bytes_at 0 0 rfl rfl ⟨by decide, by decide⟩ ⟨by decide, by decide⟩ (wr := [(x, .inr (9, [.ref tp, .ref pi, .ref nh, .ref th, .ref ps, .ref (ad 0), .ref (ae 0), .ref rd, .ref pl, .int dr]))]) [1, 2] [0] rfl rfl (by decide) (by decide) (by decide) (As := [.int v]) (rest := []) rfl (nb rfl) rfl d_Nine_octet_5 (fun r1 _ hr1 => ?_)
  refine j_ws (ws' := [(x, .inr (9, [.ref tp, .ref pi, .ref nh, .ref th, .ref ps, .ref (ad 0), .ref (ae 0), .ref rd, .ref pl, .int dr])), (pi, .inr (0, [.ref pd, .int pn])), (pd, .inl (y 0, 15, .inl pf))]) rfl ?_
  exact j_iret (pc := 8) C hr rfl () trivial [0, 1, 2] rfl (by decide) (by decide) (by decide) d_Nine_octet_8
theorem d_Nine_tapeIsImage_0 : decode prog_1_method_46_code 0 = .ok (.aload_n 0, 1) := by decide +kernel
theorem d_Nine_tapeIsImage_1 : decode prog_1_method_46_code 1 = .ok (.getfield 41, 3) := by decide +kernel
theorem d_Nine_tapeIsImage_4 : decode prog_1_method_46_code 4 = .ok (.getfield 89, 3) := by decide +kernel
theorem d_Nine_tapeIsImage_7 : decode prog_1_method_46_code 7 = .ok (.getfield 93, 3) := by decide +kernel
theorem d_Nine_tapeIsImage_10 : decode prog_1_method_46_code 10 = .ok (.istore_n 1, 1) := by decide +kernel
theorem d_Nine_tapeIsImage_11 : decode prog_1_method_46_code 11 = .ok (.aload_n 0, 1) := by decide +kernel
theorem d_Nine_tapeIsImage_12 : decode prog_1_method_46_code 12 = .ok (.getfield 14, 3) := by decide +kernel
theorem d_Nine_tapeIsImage_15 : decode prog_1_method_46_code 15 = .ok (.getfield 70, 3) := by decide +kernel
theorem d_Nine_tapeIsImage_18 : decode prog_1_method_46_code 18 = .ok (.iconst 5, 1) := by decide +kernel
theorem d_Nine_tapeIsImage_19 : decode prog_1_method_46_code 19 = .ok (.iload_n 1, 1) := by decide +kernel
theorem d_Nine_tapeIsImage_20 : decode prog_1_method_46_code 20 = .ok (.iadd, 1) := by decide +kernel
theorem d_Nine_tapeIsImage_21 : decode prog_1_method_46_code 21 = .ok (.iconst 1, 1) := by decide +kernel
theorem d_Nine_tapeIsImage_22 : decode prog_1_method_46_code 22 = .ok (.iadd, 1) := by decide +kernel
theorem d_Nine_tapeIsImage_23 : decode prog_1_method_46_code 23 = .ok (.if_icmp .ne 38, 3) := by decide +kernel
theorem d_Nine_tapeIsImage_61 : decode prog_1_method_46_code 61 = .ok (.iconst 0, 1) := by decide +kernel
theorem d_Nine_tapeIsImage_62 : decode prog_1_method_46_code 62 = .ok (.ireturn, 1) := by decide +kernel
theorem d_Nine_tapeIsImage_26 : decode prog_1_method_46_code 26 = .ok (.aload_n 0, 1) := by decide +kernel
theorem d_Nine_tapeIsImage_27 : decode prog_1_method_46_code 27 = .ok (.getfield 14, 3) := by decide +kernel
theorem d_Nine_tapeIsImage_30 : decode prog_1_method_46_code 30 = .ok (.aload_n 0, 1) := by decide +kernel
theorem d_Nine_tapeIsImage_31 : decode prog_1_method_46_code 31 = .ok (.getfield 14, 3) := by decide +kernel
theorem d_Nine_tapeIsImage_34 : decode prog_1_method_46_code 34 = .ok (.getfield 70, 3) := by decide +kernel
theorem d_Nine_tapeIsImage_37 : decode prog_1_method_46_code 37 = .ok (.iconst 1, 1) := by decide +kernel
theorem d_Nine_tapeIsImage_38 : decode prog_1_method_46_code 38 = .ok (.isub, 1) := by decide +kernel
theorem d_Nine_tapeIsImage_39 : decode prog_1_method_46_code 39 = .ok (.invokevirtual 311, 3) := by decide +kernel
theorem d_Nine_tapeIsImage_42 : decode prog_1_method_46_code 42 = .ok (.aload_n 0, 1) := by decide +kernel
theorem d_Nine_tapeIsImage_43 : decode prog_1_method_46_code 43 = .ok (.getfield 14, 3) := by decide +kernel
theorem d_Nine_tapeIsImage_46 : decode prog_1_method_46_code 46 = .ok (.aload_n 0, 1) := by decide +kernel
theorem d_Nine_tapeIsImage_47 : decode prog_1_method_46_code 47 = .ok (.getfield 14, 3) := by decide +kernel
theorem d_Nine_tapeIsImage_50 : decode prog_1_method_46_code 50 = .ok (.getfield 70, 3) := by decide +kernel
theorem d_Nine_tapeIsImage_53 : decode prog_1_method_46_code 53 = .ok (.iconst 1, 1) := by decide +kernel
theorem d_Nine_tapeIsImage_54 : decode prog_1_method_46_code 54 = .ok (.isub, 1) := by decide +kernel
theorem d_Nine_tapeIsImage_55 : decode prog_1_method_46_code 55 = .ok (.invokevirtual 314, 3) := by decide +kernel
theorem d_Nine_tapeIsImage_58 : decode prog_1_method_46_code 58 = .ok (.if_icmp .eq 5, 3) := by decide +kernel
theorem d_Nine_tapeIsImage_63 : decode prog_1_method_46_code 63 = .ok (.iconst 0, 1) := by decide +kernel
theorem d_Nine_tapeIsImage_64 : decode prog_1_method_46_code 64 = .ok (.istore_n 2, 1) := by decide +kernel
theorem d_Nine_tapeIsImage_65 : decode prog_1_method_46_code 65 = .ok (.iload_n 2, 1) := by decide +kernel
theorem d_Nine_tapeIsImage_66 : decode prog_1_method_46_code 66 = .ok (.iload_n 1, 1) := by decide +kernel
theorem d_Nine_tapeIsImage_67 : decode prog_1_method_46_code 67 = .ok (.if_icmp .ge 26, 3) := by decide +kernel
theorem d_Nine_tapeIsImage_93 : decode prog_1_method_46_code 93 = .ok (.aload_n 0, 1) := by decide +kernel
theorem d_Nine_tapeIsImage_94 : decode prog_1_method_46_code 94 = .ok (.getfield 14, 3) := by decide +kernel
theorem d_Nine_tapeIsImage_97 : decode prog_1_method_46_code 97 = .ok (.iconst 0, 1) := by decide +kernel
theorem d_Nine_tapeIsImage_98 : decode prog_1_method_46_code 98 = .ok (.invokevirtual 320, 3) := by decide +kernel
theorem d_Nine_tapeIsImage_101 : decode prog_1_method_46_code 101 = .ok (.sipush 999, 3) := by decide +kernel
theorem d_Nine_tapeIsImage_104 : decode prog_1_method_46_code 104 = .ok (.if_icmp .gt 37, 3) := by decide +kernel
theorem d_Nine_tapeIsImage_141 : decode prog_1_method_46_code 141 = .ok (.iconst 0, 1) := by decide +kernel
theorem d_Nine_tapeIsImage_142 : decode prog_1_method_46_code 142 = .ok (.ireturn, 1) := by decide +kernel
theorem d_Nine_tapeIsImage_107 : decode prog_1_method_46_code 107 = .ok (.aload_n 0, 1) := by decide +kernel
theorem d_Nine_tapeIsImage_108 : decode prog_1_method_46_code 108 = .ok (.getfield 14, 3) := by decide +kernel
theorem d_Nine_tapeIsImage_111 : decode prog_1_method_46_code 111 = .ok (.iconst 2, 1) := by decide +kernel
theorem d_Nine_tapeIsImage_112 : decode prog_1_method_46_code 112 = .ok (.invokevirtual 320, 3) := by decide +kernel
theorem d_Nine_tapeIsImage_115 : decode prog_1_method_46_code 115 = .ok (.aload_n 0, 1) := by decide +kernel
theorem d_Nine_tapeIsImage_116 : decode prog_1_method_46_code 116 = .ok (.getfield 41, 3) := by decide +kernel
theorem d_Nine_tapeIsImage_119 : decode prog_1_method_46_code 119 = .ok (.getfield 283, 3) := by decide +kernel
theorem d_Nine_tapeIsImage_122 : decode prog_1_method_46_code 122 = .ok (.if_icmp .gt 19, 3) := by decide +kernel
theorem d_Nine_tapeIsImage_125 : decode prog_1_method_46_code 125 = .ok (.aload_n 0, 1) := by decide +kernel
theorem d_Nine_tapeIsImage_126 : decode prog_1_method_46_code 126 = .ok (.getfield 14, 3) := by decide +kernel
theorem d_Nine_tapeIsImage_129 : decode prog_1_method_46_code 129 = .ok (.iconst 4, 1) := by decide +kernel
theorem d_Nine_tapeIsImage_130 : decode prog_1_method_46_code 130 = .ok (.invokevirtual 314, 3) := by decide +kernel
theorem d_Nine_tapeIsImage_133 : decode prog_1_method_46_code 133 = .ok (.iconst 2, 1) := by decide +kernel
theorem d_Nine_tapeIsImage_134 : decode prog_1_method_46_code 134 = .ok (.if_icmp .gt 7, 3) := by decide +kernel
theorem d_Nine_tapeIsImage_137 : decode prog_1_method_46_code 137 = .ok (.iconst 1, 1) := by decide +kernel
theorem d_Nine_tapeIsImage_138 : decode prog_1_method_46_code 138 = .ok (.goto 4, 3) := by decide +kernel
theorem d_Nine_tapeIsImage_70 : decode prog_1_method_46_code 70 = .ok (.aload_n 0, 1) := by decide +kernel
theorem d_Nine_tapeIsImage_71 : decode prog_1_method_46_code 71 = .ok (.getfield 14, 3) := by decide +kernel
theorem d_Nine_tapeIsImage_74 : decode prog_1_method_46_code 74 = .ok (.iconst 5, 1) := by decide +kernel
theorem d_Nine_tapeIsImage_75 : decode prog_1_method_46_code 75 = .ok (.iload_n 2, 1) := by decide +kernel
theorem d_Nine_tapeIsImage_76 : decode prog_1_method_46_code 76 = .ok (.iadd, 1) := by decide +kernel
theorem d_Nine_tapeIsImage_77 : decode prog_1_method_46_code 77 = .ok (.invokevirtual 314, 3) := by decide +kernel
theorem d_Nine_tapeIsImage_80 : decode prog_1_method_46_code 80 = .ok (.bipush 20, 2) := by decide +kernel
theorem d_Nine_tapeIsImage_82 : decode prog_1_method_46_code 82 = .ok (.if_icmp .le 5, 3) := by decide +kernel
theorem d_Nine_tapeIsImage_87 : decode prog_1_method_46_code 87 = .ok (.iinc 2 1, 3) := by decide +kernel
theorem d_Nine_tapeIsImage_90 : decode prog_1_method_46_code 90 = .ok (.goto (-25), 3) := by decide +kernel
theorem d_Nine_tapeIsImage_85 : decode prog_1_method_46_code 85 = .ok (.iconst 0, 1) := by decide +kernel
theorem d_Nine_tapeIsImage_86 : decode prog_1_method_46_code 86 = .ok (.ireturn, 1) := by decide +kernel
theorem d_Nine_on_0 : decode prog_1_method_34_code 0 = .ok (.aload_n 0, 1) := by decide +kernel
theorem d_Nine_on_1 : decode prog_1_method_34_code 1 = .ok (.invokevirtual 317, 3) := by decide +kernel
theorem kw_Nine_317 : KW "NineBoards" 317 ⟨"NineBoards", "tapeIsImage", "()Z"⟩ prog_1_method_46_code 3 (some .boolean) 0 := ⟨(mt_5 (List.mem_of_getElem? (i := 78) rfl) rfl), (mt_1 (List.mem_of_getElem? (i := 1) rfl) rfl), (mt_5 (List.mem_of_getElem? (i := 81) rfl) rfl), by decide +kernel⟩
theorem kv_Nine_tapeIsImage : Cond.instanceMethod ⟨"NineBoards", "tapeIsImage", "()Z"⟩ ∈ TB ∧ Cond.selects "NineBoards" ⟨"NineBoards", "tapeIsImage", "()Z"⟩ ⟨"NineBoards", "tapeIsImage", "()Z"⟩ ∈ TB := ⟨(mt_5 (List.mem_of_getElem? (i := 80) rfl) rfl), (ms_0 (List.mem_map.mpr ⟨(⟨"NineBoards", "tapeIsImage", "()Z"⟩, 10), List.mem_of_getElem? (i := 48) (by decide +kernel), rfl⟩) rfl)⟩
theorem d_Nine_on_4 : decode prog_1_method_34_code 4 = .ok (.istore_n 1, 1) := by decide +kernel
theorem d_Nine_on_5 : decode prog_1_method_34_code 5 = .ok (.iload_n 1, 1) := by decide +kernel
theorem d_Nine_on_6 : decode prog_1_method_34_code 6 = .ok (.ifCond .eq 72, 3) := by decide +kernel
theorem d_Nine_on_78 : decode prog_1_method_34_code 78 = .ok (.aload_n 0, 1) := by decide +kernel
theorem d_Nine_on_79 : decode prog_1_method_34_code 79 = .ok (.getfield 14, 3) := by decide +kernel
theorem d_Nine_on_82 : decode prog_1_method_34_code 82 = .ok (.iconst 0, 1) := by decide +kernel
theorem d_Nine_on_83 : decode prog_1_method_34_code 83 = .ok (.putfield 70, 3) := by decide +kernel
theorem d_Nine_on_86 : decode prog_1_method_34_code 86 = .ok (.iload_n 1, 1) := by decide +kernel
theorem d_Nine_on_87 : decode prog_1_method_34_code 87 = .ok (.ireturn, 1) := by decide +kernel
theorem d_Nine_on_9 : decode prog_1_method_34_code 9 = .ok (.aload_n 0, 1) := by decide +kernel
theorem d_Nine_on_10 : decode prog_1_method_34_code 10 = .ok (.aload_n 0, 1) := by decide +kernel
theorem d_Nine_on_11 : decode prog_1_method_34_code 11 = .ok (.getfield 14, 3) := by decide +kernel
theorem d_Nine_on_14 : decode prog_1_method_34_code 14 = .ok (.iconst 0, 1) := by decide +kernel
theorem d_Nine_on_15 : decode prog_1_method_34_code 15 = .ok (.invokevirtual 320, 3) := by decide +kernel
theorem d_Nine_on_18 : decode prog_1_method_34_code 18 = .ok (.aload_n 0, 1) := by decide +kernel
theorem d_Nine_on_19 : decode prog_1_method_34_code 19 = .ok (.getfield 14, 3) := by decide +kernel
theorem d_Nine_on_22 : decode prog_1_method_34_code 22 = .ok (.iconst 2, 1) := by decide +kernel
theorem d_Nine_on_23 : decode prog_1_method_34_code 23 = .ok (.invokevirtual 320, 3) := by decide +kernel
theorem d_Nine_on_26 : decode prog_1_method_34_code 26 = .ok (.aload_n 0, 1) := by decide +kernel
theorem d_Nine_on_27 : decode prog_1_method_34_code 27 = .ok (.getfield 14, 3) := by decide +kernel
theorem d_Nine_on_30 : decode prog_1_method_34_code 30 = .ok (.iconst 4, 1) := by decide +kernel
theorem d_Nine_on_31 : decode prog_1_method_34_code 31 = .ok (.invokevirtual 314, 3) := by decide +kernel
theorem d_Nine_on_34 : decode prog_1_method_34_code 34 = .ok (.invokevirtual 85, 3) := by decide +kernel
theorem d_Nine_on_37 : decode prog_1_method_34_code 37 = .ok (.iconst 0, 1) := by decide +kernel
theorem d_Nine_on_38 : decode prog_1_method_34_code 38 = .ok (.istore_n 2, 1) := by decide +kernel
theorem d_Nine_on_39 : decode prog_1_method_34_code 39 = .ok (.iload_n 2, 1) := by decide +kernel
theorem d_Nine_on_40 : decode prog_1_method_34_code 40 = .ok (.aload_n 0, 1) := by decide +kernel
theorem d_Nine_on_41 : decode prog_1_method_34_code 41 = .ok (.getfield 41, 3) := by decide +kernel
theorem d_Nine_on_44 : decode prog_1_method_34_code 44 = .ok (.getfield 89, 3) := by decide +kernel
theorem d_Nine_on_47 : decode prog_1_method_34_code 47 = .ok (.getfield 93, 3) := by decide +kernel
theorem d_Nine_on_50 : decode prog_1_method_34_code 50 = .ok (.if_icmp .ge 28, 3) := by decide +kernel
theorem d_Nine_on_53 : decode prog_1_method_34_code 53 = .ok (.aload_n 0, 1) := by decide +kernel
theorem d_Nine_on_54 : decode prog_1_method_34_code 54 = .ok (.getfield 24, 3) := by decide +kernel
theorem d_Nine_on_57 : decode prog_1_method_34_code 57 = .ok (.getfield 96, 3) := by decide +kernel
theorem d_Nine_on_60 : decode prog_1_method_34_code 60 = .ok (.iload_n 2, 1) := by decide +kernel
theorem d_Nine_on_61 : decode prog_1_method_34_code 61 = .ok (.aload_n 0, 1) := by decide +kernel
theorem d_Nine_on_62 : decode prog_1_method_34_code 62 = .ok (.getfield 14, 3) := by decide +kernel
theorem d_Nine_on_65 : decode prog_1_method_34_code 65 = .ok (.iconst 5, 1) := by decide +kernel
theorem d_Nine_on_66 : decode prog_1_method_34_code 66 = .ok (.iload_n 2, 1) := by decide +kernel
theorem d_Nine_on_67 : decode prog_1_method_34_code 67 = .ok (.iadd, 1) := by decide +kernel
theorem d_Nine_on_68 : decode prog_1_method_34_code 68 = .ok (.invokevirtual 314, 3) := by decide +kernel
theorem d_Nine_on_71 : decode prog_1_method_34_code 71 = .ok (.iastore, 1) := by decide +kernel
theorem d_Nine_on_72 : decode prog_1_method_34_code 72 = .ok (.iinc 2 1, 3) := by decide +kernel
theorem d_Nine_on_75 : decode prog_1_method_34_code 75 = .ok (.goto (-36), 3) := by decide +kernel
