theorem d_Model_seed_0 : decode prog_13_method_117_code 0 = .ok (.iload_n 1, 1) := by decide +kernel
theorem d_Model_seed_1 : decode prog_13_method_117_code 1 = .ok (.ifCond .ge 5, 3) := by decide +kernel
theorem d_Model_seed_6 : decode prog_13_method_117_code 6 = .ok (.aload_n 0, 1) := by decide +kernel
theorem d_Model_seed_7 : decode prog_13_method_117_code 7 = .ok (.iload_n 1, 1) := by decide +kernel
theorem d_Model_seed_8 : decode prog_13_method_117_code 8 = .ok (.i2l, 1) := by decide +kernel
theorem d_Model_seed_9 : decode prog_13_method_117_code 9 = .ok (.putfield 191, 3) := by decide +kernel
theorem pf_Model_191 : PF "NineBoardsModel" 191 10 76 (.long) false := ⟨_, _, _, ct_Model, rfl, ci_Model, by decide, (mt_5 (List.mem_of_getElem? (i := 164) rfl) rfl), cp_Model, cn_Model, rfl, by decide +kernel, (fun h => by cases h)⟩
theorem d_Model_seed_12 : decode prog_13_method_117_code 12 = .ok (.iconst 1, 1) := by decide +kernel
theorem d_Model_seed_13 : decode prog_13_method_117_code 13 = .ok (.ireturn, 1) := by decide +kernel
theorem d_Model_seed_4 : decode prog_13_method_117_code 4 = .ok (.iconst 0, 1) := by decide +kernel
theorem d_Model_seed_5 : decode prog_13_method_117_code 5 = .ok (.ireturn, 1) := by decide +kernel
set_option maxHeartbeats 4000000 in
set_option maxRecDepth 100000 in
theorem c_M_seed (l : Launch) (D : va_G) (y : Nat → ClassId) (mo : Nat) (ma : Nat → Nat) (t1 : Nat) (i2 : Int32) (i3 : Int32) (i4 : Int32) (i5 : Int32) (i6 : Int32) (i7 : Int32) (i8 : Int32) (i42 : Int32) (i49 : Int32) (i51 : Int32) (i53 : Int32) (i54 : Int32) (i59 : Int32) (i61 : Int32) (i64 : Int32) (i66 : Int32) (t67 : Nat) (i76 : Int64) (i78 : Int32) (v : Int32)  : CT l D y ⟨"NineBoardsModel", "seed", "(I)Z"⟩ prog_13_method_117_code 2 (some .boolean) ({ frames := 0, cells := 0, slots := 0, locals := 0 } : Room) [.ref mo, .int v] [MB mo ma (nI t1) i2 i3 i4 i5 i6 i7 i8 i42 i49 i51 i53 i54 i59 i61 i64 i66 (nI t67) i76 i78] (QI D [MB mo ma (nI t1) i2 i3 i4 i5 i6 i7 i8 i42 i49 i51 i53 i54 i59 i61 i64 i66 (nI t67) i76 i78] (fun (r : Int32) (u : Int64) => ((r = 0 ∧ v < 0) ∨ (r = 1 ∧ ¬ v < 0))) (fun u => [MB mo ma (nI t1) i2 i3 i4 i5 i6 i7 i8 i42 i49 i51 i53 i54 i59 i61 i64 i66 (nI t67) u i78])) := by
  refine CT.of (by decide) (nb rfl) ?_
  intro p e s m args below meth c C hr
  refine j_lv (lv' := [(0, .ref mo), (1, .int v)]) rfl ?_
  refine j_iload_n (pc := 0) C d_Model_seed_0 rfl 1 rfl ?_
  refine j_if_ge (pc := 1) C (tgt := 6) d_Model_seed_1 (by decide) (fun c1 => ?_) (fun c1 => ?_)
  · refine j_aload_n (pc := 6) C d_Model_seed_6 rfl 0 rfl ?_
    refine j_iload_n (pc := 7) C d_Model_seed_7 rfl 1 rfl ?_
    refine j_i2l (pc := 8) C (v := v.toInt64) d_Model_seed_8 rfl ?_
    refine j_put (pc := 9) C pf_Model_191 0 (ws' := [MB mo ma (nI t1) i2 i3 i4 i5 i6 i7 i8 i42 i49 i51 i53 i54 i59 i61 i64 i66 (nI t67) v.toInt64 i78]) rfl rfl rfl (nl rfl) rfl d_Model_seed_9 ?_
    refine j_iconst (pc := 12) C (v := 1) d_Model_seed_12 (by decide) ?_
    exact j_iret (pc := 13) C hr (by decide) v.toInt64 (by exact Or.inr ⟨rfl, (Int32.not_lt.mpr c1)⟩) [0] rfl (by decide) (by decide) (by decide) d_Model_seed_13
  · refine j_iconst (pc := 4) C (v := 0) d_Model_seed_4 (by decide) ?_
    exact j_iret (pc := 5) C hr (by decide) i76 (by exact Or.inl ⟨rfl, Int32.not_le.mp c1⟩) [0] rfl (by decide) (by decide) (by decide) d_Model_seed_5
theorem d_Model_drawOf_0 : decode prog_13_method_118_code 0 = .ok (.aload_n 0, 1) := by decide +kernel
theorem d_Model_drawOf_1 : decode prog_13_method_118_code 1 = .ok (.ldc2_w 567, 3) := by decide +kernel
theorem d_Model_drawOf_4 : decode prog_13_method_118_code 4 = .ok (.aload_n 0, 1) := by decide +kernel
theorem d_Model_drawOf_5 : decode prog_13_method_118_code 5 = .ok (.getfield 191, 3) := by decide +kernel
theorem gf_Model_191 : GF "NineBoardsModel" 191 10 76 := ⟨_, _, _, rfl, ci_Model, by decide, (mt_5 (List.mem_of_getElem? (i := 164) rfl) rfl)⟩
theorem d_Model_drawOf_8 : decode prog_13_method_118_code 8 = .ok (.lmul, 1) := by decide +kernel
theorem d_Model_drawOf_9 : decode prog_13_method_118_code 9 = .ok (.ldc2_w 569, 3) := by decide +kernel
theorem d_Model_drawOf_12 : decode prog_13_method_118_code 12 = .ok (.ladd, 1) := by decide +kernel
theorem d_Model_drawOf_13 : decode prog_13_method_118_code 13 = .ok (.ldc2_w 571, 3) := by decide +kernel
theorem d_Model_drawOf_16 : decode prog_13_method_118_code 16 = .ok (.lrem, 1) := by decide +kernel
theorem d_Model_drawOf_17 : decode prog_13_method_118_code 17 = .ok (.putfield 191, 3) := by decide +kernel
theorem d_Model_drawOf_20 : decode prog_13_method_118_code 20 = .ok (.aload_n 0, 1) := by decide +kernel
theorem d_Model_drawOf_21 : decode prog_13_method_118_code 21 = .ok (.getfield 191, 3) := by decide +kernel
theorem d_Model_drawOf_24 : decode prog_13_method_118_code 24 = .ok (.ldc2_w 573, 3) := by decide +kernel
theorem d_Model_drawOf_27 : decode prog_13_method_118_code 27 = .ok (.ldiv, 1) := by decide +kernel
theorem d_Model_drawOf_28 : decode prog_13_method_118_code 28 = .ok (.iload_n 1, 1) := by decide +kernel
theorem d_Model_drawOf_29 : decode prog_13_method_118_code 29 = .ok (.i2l, 1) := by decide +kernel
theorem d_Model_drawOf_30 : decode prog_13_method_118_code 30 = .ok (.lrem, 1) := by decide +kernel
theorem d_Model_drawOf_31 : decode prog_13_method_118_code 31 = .ok (.l2i, 1) := by decide +kernel
theorem d_Model_drawOf_32 : decode prog_13_method_118_code 32 = .ok (.ireturn, 1) := by decide +kernel
set_option maxHeartbeats 4000000 in
set_option maxRecDepth 100000 in
theorem c_M_drawOf (l : Launch) (D : va_G) (y : Nat → ClassId) (mo : Nat) (ma : Nat → Nat) (t1 : Nat) (i2 : Int32) (i3 : Int32) (i4 : Int32) (i5 : Int32) (i6 : Int32) (i7 : Int32) (i8 : Int32) (i42 : Int32) (i49 : Int32) (i51 : Int32) (i53 : Int32) (i54 : Int32) (i59 : Int32) (i61 : Int32) (i64 : Int32) (i66 : Int32) (t67 : Nat) (i76 : Int64) (i78 : Int32)  : CT l D y ⟨"NineBoardsModel", "drawOf", "(I)I"⟩ prog_13_method_118_code 2 (some .int) ({ frames := 0, cells := 0, slots := 0, locals := 0 } : Room) [.ref mo, .int 3] [MB mo ma (nI t1) i2 i3 i4 i5 i6 i7 i8 i42 i49 i51 i53 i54 i59 i61 i64 i66 (nI t67) i76 i78] (QI D [MB mo ma (nI t1) i2 i3 i4 i5 i6 i7 i8 i42 i49 i51 i53 i54 i59 i61 i64 i66 (nI t67) i76 i78] (fun (r : Int32) (u : Int64) => True) (fun u => [MB mo ma (nI t1) i2 i3 i4 i5 i6 i7 i8 i42 i49 i51 i53 i54 i59 i61 i64 i66 (nI t67) u i78])) := by
  refine CT.of (by decide) (nb rfl) ?_
  intro p e s m args below meth c C hr
  refine j_lv (lv' := [(0, .ref mo), (1, .int 3)]) rfl ?_
  refine j_aload_n (pc := 0) C d_Model_drawOf_0 rfl 0 rfl ?_
  refine j_ldc2 (pc := 1) C (v := 1103515245) (mt_8 (List.mem_of_getElem? (i := 95) rfl) rfl) d_Model_drawOf_1 ?_
  refine j_aload_n (pc := 4) C d_Model_drawOf_4 rfl 0 rfl ?_
  refine j_get (pc := 5) C gf_Model_191 0 rfl rfl d_Model_drawOf_5 ?_
  refine j_lmul (pc := 8) C (v := 1103515245 * i76) d_Model_drawOf_8 rfl ?_
  refine j_ldc2 (pc := 9) C (v := 12345) (mt_8 (List.mem_of_getElem? (i := 96) rfl) rfl) d_Model_drawOf_9 ?_
  refine j_ladd (pc := 12) C (v := (1103515245 * i76) + 12345) d_Model_drawOf_12 rfl ?_
  refine j_anyL (fun v1 => ?_)
  refine j_ldc2 (pc := 13) C (v := 2147483648) (mt_8 (List.mem_of_getElem? (i := 97) rfl) rfl) d_Model_drawOf_13 ?_
  refine j_lrem (pc := 16) C (v := v1 - v1 / 2147483648 * 2147483648) d_Model_drawOf_16 (by decide) rfl ?_
  refine j_put (pc := 17) C pf_Model_191 0 (ws' := [MB mo ma (nI t1) i2 i3 i4 i5 i6 i7 i8 i42 i49 i51 i53 i54 i59 i61 i64 i66 (nI t67) (v1 - v1 / 2147483648 * 2147483648) i78]) rfl rfl rfl (nl rfl) rfl d_Model_drawOf_17 ?_
  refine j_aload_n (pc := 20) C d_Model_drawOf_20 rfl 0 rfl ?_
  refine j_get (pc := 21) C gf_Model_191 0 rfl rfl d_Model_drawOf_21 ?_
  refine j_ldc2 (pc := 24) C (v := 64) (mt_8 (List.mem_of_getElem? (i := 98) rfl) rfl) d_Model_drawOf_24 ?_
  refine j_ldiv (pc := 27) C (v := (v1 - v1 / 2147483648 * 2147483648) / 64) d_Model_drawOf_27 (by decide) rfl ?_
  refine j_iload_n (pc := 28) C d_Model_drawOf_28 rfl 1 rfl ?_
  refine j_i2l (pc := 29) C (v := 3) d_Model_drawOf_29 (by decide) ?_
  refine j_lrem (pc := 30) C (v := ((v1 - v1 / 2147483648 * 2147483648) / 64) - ((v1 - v1 / 2147483648 * 2147483648) / 64) / 3 * 3) d_Model_drawOf_30 (by decide) rfl ?_
  refine j_l2i (pc := 31) C (v := (((v1 - v1 / 2147483648 * 2147483648) / 64) - ((v1 - v1 / 2147483648 * 2147483648) / 64) / 3 * 3).toInt32) d_Model_drawOf_31 rfl ?_
  exact j_iret (pc := 32) C hr rfl (v1 - v1 / 2147483648 * 2147483648) trivial [0] rfl (by decide) (by decide) (by decide) d_Model_drawOf_32
theorem d_Model_years_0 : decode prog_13_method_119_code 0 = .ok (.iload_n 1, 1) := by decide +kernel
theorem d_Model_years_1 : decode prog_13_method_119_code 1 = .ok (.i2l, 1) := by decide +kernel
theorem d_Model_years_2 : decode prog_13_method_119_code 2 = .ok (.lconst 0, 1) := by decide +kernel
theorem d_Model_years_3 : decode prog_13_method_119_code 3 = .ok (.ldc2_w 575, 3) := by decide +kernel
theorem d_Model_years_6 : decode prog_13_method_119_code 6 = .ok (.invokestatic 240, 3) := by decide +kernel
theorem d_Model_years_9 : decode prog_13_method_119_code 9 = .ok (.ifCond .eq 50, 3) := by decide +kernel
theorem d_Model_years_59 : decode prog_13_method_119_code 59 = .ok (.ldc2_w 577, 3) := by decide +kernel
theorem d_Model_years_62 : decode prog_13_method_119_code 62 = .ok (.lreturn, 1) := by decide +kernel
theorem d_Model_years_12 : decode prog_13_method_119_code 12 = .ok (.iload_n 2, 1) := by decide +kernel
theorem d_Model_years_13 : decode prog_13_method_119_code 13 = .ok (.i2l, 1) := by decide +kernel
theorem d_Model_years_14 : decode prog_13_method_119_code 14 = .ok (.lconst 1, 1) := by decide +kernel
theorem d_Model_years_15 : decode prog_13_method_119_code 15 = .ok (.ldc2_w 539, 3) := by decide +kernel
theorem d_Model_years_18 : decode prog_13_method_119_code 18 = .ok (.invokestatic 240, 3) := by decide +kernel
theorem d_Model_years_21 : decode prog_13_method_119_code 21 = .ok (.ifCond .eq 38, 3) := by decide +kernel
theorem d_Model_years_24 : decode prog_13_method_119_code 24 = .ok (.iload_n 3, 1) := by decide +kernel
theorem d_Model_years_25 : decode prog_13_method_119_code 25 = .ok (.i2l, 1) := by decide +kernel
theorem d_Model_years_26 : decode prog_13_method_119_code 26 = .ok (.lconst 1, 1) := by decide +kernel
theorem d_Model_years_27 : decode prog_13_method_119_code 27 = .ok (.ldc2_w 531, 3) := by decide +kernel
theorem d_Model_years_30 : decode prog_13_method_119_code 30 = .ok (.invokestatic 240, 3) := by decide +kernel
theorem d_Model_years_33 : decode prog_13_method_119_code 33 = .ok (.ifCond .eq 26, 3) := by decide +kernel
theorem d_Model_years_36 : decode prog_13_method_119_code 36 = .ok (.iload 4, 2) := by decide +kernel
theorem d_Model_years_38 : decode prog_13_method_119_code 38 = .ok (.i2l, 1) := by decide +kernel
theorem d_Model_years_39 : decode prog_13_method_119_code 39 = .ok (.lconst 0, 1) := by decide +kernel
theorem d_Model_years_40 : decode prog_13_method_119_code 40 = .ok (.lconst 1, 1) := by decide +kernel
theorem d_Model_years_41 : decode prog_13_method_119_code 41 = .ok (.invokestatic 240, 3) := by decide +kernel
theorem d_Model_years_44 : decode prog_13_method_119_code 44 = .ok (.ifCond .eq 15, 3) := by decide +kernel
theorem d_Model_years_47 : decode prog_13_method_119_code 47 = .ok (.aload_n 0, 1) := by decide +kernel
theorem d_Model_years_48 : decode prog_13_method_119_code 48 = .ok (.getfield 158, 3) := by decide +kernel
theorem d_Model_years_51 : decode prog_13_method_119_code 51 = .ok (.iconst 0, 1) := by decide +kernel
theorem d_Model_years_52 : decode prog_13_method_119_code 52 = .ok (.iaload, 1) := by decide +kernel
theorem d_Model_years_53 : decode prog_13_method_119_code 53 = .ok (.sipush 999, 3) := by decide +kernel
theorem d_Model_years_56 : decode prog_13_method_119_code 56 = .ok (.if_icmp .ne 7, 3) := by decide +kernel
theorem d_Model_years_63 : decode prog_13_method_119_code 63 = .ok (.lconst 0, 1) := by decide +kernel
theorem d_Model_years_64 : decode prog_13_method_119_code 64 = .ok (.lstore 5, 2) := by decide +kernel
theorem d_Model_years_66 : decode prog_13_method_119_code 66 = .ok (.lconst 0, 1) := by decide +kernel
theorem d_Model_years_67 : decode prog_13_method_119_code 67 = .ok (.lstore 7, 2) := by decide +kernel
theorem d_Model_years_69 : decode prog_13_method_119_code 69 = .ok (.aload_n 0, 1) := by decide +kernel
theorem d_Model_years_70 : decode prog_13_method_119_code 70 = .ok (.invokevirtual 510, 3) := by decide +kernel
theorem d_Model_years_73 : decode prog_13_method_119_code 73 = .ok (.iconst 0, 1) := by decide +kernel
theorem d_Model_years_74 : decode prog_13_method_119_code 74 = .ok (.istore 9, 2) := by decide +kernel
theorem d_Model_years_76 : decode prog_13_method_119_code 76 = .ok (.iload 9, 2) := by decide +kernel
theorem d_Model_years_78 : decode prog_13_method_119_code 78 = .ok (.iload_n 2, 1) := by decide +kernel
theorem d_Model_years_79 : decode prog_13_method_119_code 79 = .ok (.if_icmp .ge 116, 3) := by decide +kernel
theorem d_Model_years_195 : decode prog_13_method_119_code 195 = .ok (.aload_n 0, 1) := by decide +kernel
theorem d_Model_years_196 : decode prog_13_method_119_code 196 = .ok (.invokevirtual 495, 3) := by decide +kernel
theorem d_Model_years_199 : decode prog_13_method_119_code 199 = .ok (.iload 4, 2) := by decide +kernel
theorem d_Model_years_201 : decode prog_13_method_119_code 201 = .ok (.ifCond .ne 8, 3) := by decide +kernel
theorem d_Model_years_204 : decode prog_13_method_119_code 204 = .ok (.lload 5, 2) := by decide +kernel
theorem d_Model_years_206 : decode prog_13_method_119_code 206 = .ok (.goto 5, 3) := by decide +kernel
theorem d_Model_years_211 : decode prog_13_method_119_code 211 = .ok (.lreturn, 1) := by decide +kernel
theorem d_Model_years_82 : decode prog_13_method_119_code 82 = .ok (.aload_n 0, 1) := by decide +kernel
theorem d_Model_years_83 : decode prog_13_method_119_code 83 = .ok (.invokevirtual 495, 3) := by decide +kernel
theorem d_Model_years_86 : decode prog_13_method_119_code 86 = .ok (.iconst 0, 1) := by decide +kernel
theorem d_Model_years_87 : decode prog_13_method_119_code 87 = .ok (.istore 10, 2) := by decide +kernel
theorem d_Model_years_89 : decode prog_13_method_119_code 89 = .ok (.iload 10, 2) := by decide +kernel
theorem d_Model_years_91 : decode prog_13_method_119_code 91 = .ok (.iload_n 3, 1) := by decide +kernel
theorem d_Model_years_92 : decode prog_13_method_119_code 92 = .ok (.if_icmp .ge 97, 3) := by decide +kernel
theorem d_Model_years_189 : decode prog_13_method_119_code 189 = .ok (.iinc 9 1, 3) := by decide +kernel
theorem d_Model_years_192 : decode prog_13_method_119_code 192 = .ok (.goto (-116), 3) := by decide +kernel
theorem d_Model_years_95 : decode prog_13_method_119_code 95 = .ok (.aload_n 0, 1) := by decide +kernel
theorem d_Model_years_96 : decode prog_13_method_119_code 96 = .ok (.getfield 158, 3) := by decide +kernel
theorem d_Model_years_99 : decode prog_13_method_119_code 99 = .ok (.iconst 0, 1) := by decide +kernel
theorem d_Model_years_100 : decode prog_13_method_119_code 100 = .ok (.iaload, 1) := by decide +kernel
theorem d_Model_years_101 : decode prog_13_method_119_code 101 = .ok (.sipush 999, 3) := by decide +kernel
theorem d_Model_years_104 : decode prog_13_method_119_code 104 = .ok (.if_icmp .ge 85, 3) := by decide +kernel
theorem d_Model_years_107 : decode prog_13_method_119_code 107 = .ok (.aload_n 0, 1) := by decide +kernel
theorem d_Model_years_108 : decode prog_13_method_119_code 108 = .ok (.iconst 3, 1) := by decide +kernel
theorem d_Model_years_109 : decode prog_13_method_119_code 109 = .ok (.invokevirtual 579, 3) := by decide +kernel
theorem kw_Model_579 : KW "NineBoardsModel" 579 ⟨"NineBoardsModel", "drawOf", "(I)I"⟩ prog_13_method_118_code 2 (some .int) 1 := ⟨(mt_8 (List.mem_of_getElem? (i := 91) rfl) rfl), (mt_1 (List.mem_of_getElem? (i := 16) rfl) rfl), (mt_8 (List.mem_of_getElem? (i := 94) rfl) rfl), by decide +kernel⟩
theorem kv_Model_drawOf : Cond.instanceMethod ⟨"NineBoardsModel", "drawOf", "(I)I"⟩ ∈ TB ∧ Cond.selects "NineBoardsModel" ⟨"NineBoardsModel", "drawOf", "(I)I"⟩ ⟨"NineBoardsModel", "drawOf", "(I)I"⟩ ∈ TB := ⟨(mt_8 (List.mem_of_getElem? (i := 93) rfl) rfl), (ms_0 (List.mem_map.mpr ⟨(⟨"NineBoardsModel", "drawOf", "(I)I"⟩, 79), List.mem_of_getElem? (i := 131) (by decide +kernel), rfl⟩) rfl)⟩
theorem d_Model_years_112 : decode prog_13_method_119_code 112 = .ok (.istore 11, 2) := by decide +kernel
theorem d_Model_years_114 : decode prog_13_method_119_code 114 = .ok (.aload_n 0, 1) := by decide +kernel
theorem d_Model_years_115 : decode prog_13_method_119_code 115 = .ok (.aload_n 0, 1) := by decide +kernel
theorem d_Model_years_116 : decode prog_13_method_119_code 116 = .ok (.iload_n 1, 1) := by decide +kernel
theorem d_Model_years_117 : decode prog_13_method_119_code 117 = .ok (.iload 11, 2) := by decide +kernel
theorem d_Model_years_119 : decode prog_13_method_119_code 119 = .ok (.invokevirtual 478, 3) := by decide +kernel
theorem d_Model_years_122 : decode prog_13_method_119_code 122 = .ok (.ifCond .eq 8, 3) := by decide +kernel
theorem d_Model_years_130 : decode prog_13_method_119_code 130 = .ok (.iconst 0, 1) := by decide +kernel
theorem d_Model_years_131 : decode prog_13_method_119_code 131 = .ok (.invokevirtual 485, 3) := by decide +kernel
theorem d_Model_years_134 : decode prog_13_method_119_code 134 = .ok (.aload_n 0, 1) := by decide +kernel
theorem d_Model_years_135 : decode prog_13_method_119_code 135 = .ok (.iconst 0, 1) := by decide +kernel
theorem d_Model_years_136 : decode prog_13_method_119_code 136 = .ok (.invokevirtual 488, 3) := by decide +kernel
theorem d_Model_years_139 : decode prog_13_method_119_code 139 = .ok (.lload 7, 2) := by decide +kernel
theorem d_Model_years_141 : decode prog_13_method_119_code 141 = .ok (.aload_n 0, 1) := by decide +kernel
theorem d_Model_years_142 : decode prog_13_method_119_code 142 = .ok (.getfield 441, 3) := by decide +kernel
theorem d_Model_years_145 : decode prog_13_method_119_code 145 = .ok (.i2l, 1) := by decide +kernel
theorem d_Model_years_146 : decode prog_13_method_119_code 146 = .ok (.ladd, 1) := by decide +kernel
theorem d_Model_years_147 : decode prog_13_method_119_code 147 = .ok (.lstore 7, 2) := by decide +kernel
theorem d_Model_years_149 : decode prog_13_method_119_code 149 = .ok (.iconst 0, 1) := by decide +kernel
theorem d_Model_years_150 : decode prog_13_method_119_code 150 = .ok (.istore 12, 2) := by decide +kernel
theorem d_Model_years_152 : decode prog_13_method_119_code 152 = .ok (.iload 12, 2) := by decide +kernel
theorem d_Model_years_154 : decode prog_13_method_119_code 154 = .ok (.aload_n 0, 1) := by decide +kernel
theorem d_Model_years_155 : decode prog_13_method_119_code 155 = .ok (.invokevirtual 448, 3) := by decide +kernel
theorem d_Model_years_158 : decode prog_13_method_119_code 158 = .ok (.if_icmp .ge 25, 3) := by decide +kernel
theorem d_Model_years_183 : decode prog_13_method_119_code 183 = .ok (.iinc 10 1, 3) := by decide +kernel
theorem d_Model_years_186 : decode prog_13_method_119_code 186 = .ok (.goto (-97), 3) := by decide +kernel
theorem d_Model_years_161 : decode prog_13_method_119_code 161 = .ok (.lload 5, 2) := by decide +kernel
theorem d_Model_years_163 : decode prog_13_method_119_code 163 = .ok (.aload_n 0, 1) := by decide +kernel
theorem d_Model_years_164 : decode prog_13_method_119_code 164 = .ok (.getfield 158, 3) := by decide +kernel
theorem d_Model_years_167 : decode prog_13_method_119_code 167 = .ok (.bipush 41, 2) := by decide +kernel
theorem d_Model_years_169 : decode prog_13_method_119_code 169 = .ok (.iload 12, 2) := by decide +kernel
theorem d_Model_years_171 : decode prog_13_method_119_code 171 = .ok (.iadd, 1) := by decide +kernel
theorem d_Model_years_172 : decode prog_13_method_119_code 172 = .ok (.iaload, 1) := by decide +kernel
theorem d_Model_years_173 : decode prog_13_method_119_code 173 = .ok (.i2l, 1) := by decide +kernel
theorem d_Model_years_174 : decode prog_13_method_119_code 174 = .ok (.ladd, 1) := by decide +kernel
theorem d_Model_years_175 : decode prog_13_method_119_code 175 = .ok (.lstore 5, 2) := by decide +kernel
theorem d_Model_years_177 : decode prog_13_method_119_code 177 = .ok (.iinc 12 1, 3) := by decide +kernel
theorem d_Model_years_180 : decode prog_13_method_119_code 180 = .ok (.goto (-28), 3) := by decide +kernel
theorem d_Model_years_125 : decode prog_13_method_119_code 125 = .ok (.iload 11, 2) := by decide +kernel
theorem d_Model_years_127 : decode prog_13_method_119_code 127 = .ok (.goto 4, 3) := by decide +kernel
theorem d_Model_years_209 : decode prog_13_method_119_code 209 = .ok (.lload 7, 2) := by decide +kernel
