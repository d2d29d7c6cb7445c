theorem d_Model_spiltBy_0 : decode prog_13_method_97_code 0 = .ok (.aload_n 0, 1) := by decide +kernel
theorem d_Model_spiltBy_1 : decode prog_13_method_97_code 1 = .ok (.invokevirtual 510, 3) := by decide +kernel
theorem d_Model_spiltBy_4 : decode prog_13_method_97_code 4 = .ok (.aload_n 0, 1) := by decide +kernel
theorem d_Model_spiltBy_5 : decode prog_13_method_97_code 5 = .ok (.iload_n 1, 1) := by decide +kernel
theorem d_Model_spiltBy_6 : decode prog_13_method_97_code 6 = .ok (.iconst (-1), 1) := by decide +kernel
theorem d_Model_spiltBy_7 : decode prog_13_method_97_code 7 = .ok (.invokevirtual 454, 3) := by decide +kernel
theorem d_Model_spiltBy_10 : decode prog_13_method_97_code 10 = .ok (.aload_n 0, 1) := by decide +kernel
theorem d_Model_spiltBy_11 : decode prog_13_method_97_code 11 = .ok (.iload_n 2, 1) := by decide +kernel
theorem d_Model_spiltBy_12 : decode prog_13_method_97_code 12 = .ok (.invokevirtual 488, 3) := by decide +kernel
theorem d_Model_spiltBy_15 : decode prog_13_method_97_code 15 = .ok (.aload_n 0, 1) := by decide +kernel
theorem d_Model_spiltBy_16 : decode prog_13_method_97_code 16 = .ok (.invokevirtual 495, 3) := by decide +kernel
theorem d_Model_spiltBy_19 : decode prog_13_method_97_code 19 = .ok (.aload_n 0, 1) := by decide +kernel
theorem d_Model_spiltBy_20 : decode prog_13_method_97_code 20 = .ok (.getfield 441, 3) := by decide +kernel
theorem d_Model_spiltBy_23 : decode prog_13_method_97_code 23 = .ok (.ireturn, 1) := by decide +kernel
theorem d_Model_first_0 : decode prog_13_method_98_code 0 = .ok (.iload_n 1, 1) := by decide +kernel
theorem d_Model_first_1 : decode prog_13_method_98_code 1 = .ok (.i2l, 1) := by decide +kernel
theorem d_Model_first_2 : decode prog_13_method_98_code 2 = .ok (.lconst 0, 1) := by decide +kernel
theorem d_Model_first_3 : decode prog_13_method_98_code 3 = .ok (.ldc2_w 413, 3) := by decide +kernel
theorem d_Model_first_6 : decode prog_13_method_98_code 6 = .ok (.invokestatic 240, 3) := by decide +kernel
theorem d_Model_first_9 : decode prog_13_method_98_code 9 = .ok (.ifCond .eq 27, 3) := by decide +kernel
theorem d_Model_first_36 : decode prog_13_method_98_code 36 = .ok (.iconst (-1), 1) := by decide +kernel
theorem d_Model_first_37 : decode prog_13_method_98_code 37 = .ok (.ireturn, 1) := by decide +kernel
theorem d_Model_first_12 : decode prog_13_method_98_code 12 = .ok (.iload_n 2, 1) := by decide +kernel
theorem d_Model_first_13 : decode prog_13_method_98_code 13 = .ok (.i2l, 1) := by decide +kernel
theorem d_Model_first_14 : decode prog_13_method_98_code 14 = .ok (.lconst 0, 1) := by decide +kernel
theorem d_Model_first_15 : decode prog_13_method_98_code 15 = .ok (.ldc2_w 531, 3) := by decide +kernel
theorem d_Model_first_18 : decode prog_13_method_98_code 18 = .ok (.invokestatic 240, 3) := by decide +kernel
theorem d_Model_first_21 : decode prog_13_method_98_code 21 = .ok (.ifCond .eq 15, 3) := by decide +kernel
theorem d_Model_first_24 : decode prog_13_method_98_code 24 = .ok (.aload_n 0, 1) := by decide +kernel
theorem d_Model_first_25 : decode prog_13_method_98_code 25 = .ok (.getfield 158, 3) := by decide +kernel
theorem d_Model_first_28 : decode prog_13_method_98_code 28 = .ok (.iconst 0, 1) := by decide +kernel
theorem d_Model_first_29 : decode prog_13_method_98_code 29 = .ok (.iaload, 1) := by decide +kernel
theorem d_Model_first_30 : decode prog_13_method_98_code 30 = .ok (.sipush 999, 3) := by decide +kernel
theorem d_Model_first_33 : decode prog_13_method_98_code 33 = .ok (.if_icmp .ne 5, 3) := by decide +kernel
theorem d_Model_first_38 : decode prog_13_method_98_code 38 = .ok (.iconst (-1), 1) := by decide +kernel
theorem d_Model_first_39 : decode prog_13_method_98_code 39 = .ok (.istore_n 3, 1) := by decide +kernel
theorem d_Model_first_40 : decode prog_13_method_98_code 40 = .ok (.iconst 0, 1) := by decide +kernel
theorem d_Model_first_41 : decode prog_13_method_98_code 41 = .ok (.istore 4, 2) := by decide +kernel
theorem d_Model_first_43 : decode prog_13_method_98_code 43 = .ok (.iconst 0, 1) := by decide +kernel
theorem d_Model_first_44 : decode prog_13_method_98_code 44 = .ok (.istore 5, 2) := by decide +kernel
theorem d_Model_first_46 : decode prog_13_method_98_code 46 = .ok (.iload 5, 2) := by decide +kernel
theorem d_Model_first_48 : decode prog_13_method_98_code 48 = .ok (.aload_n 0, 1) := by decide +kernel
theorem d_Model_first_49 : decode prog_13_method_98_code 49 = .ok (.invokevirtual 341, 3) := by decide +kernel
theorem d_Model_first_52 : decode prog_13_method_98_code 52 = .ok (.if_icmp .ge 70, 3) := by decide +kernel
theorem d_Model_first_122 : decode prog_13_method_98_code 122 = .ok (.iload_n 3, 1) := by decide +kernel
theorem d_Model_first_123 : decode prog_13_method_98_code 123 = .ok (.ireturn, 1) := by decide +kernel
theorem d_Model_first_55 : decode prog_13_method_98_code 55 = .ok (.aload_n 0, 1) := by decide +kernel
theorem d_Model_first_56 : decode prog_13_method_98_code 56 = .ok (.iload 5, 2) := by decide +kernel
theorem d_Model_first_58 : decode prog_13_method_98_code 58 = .ok (.iconst 1, 1) := by decide +kernel
theorem d_Model_first_59 : decode prog_13_method_98_code 59 = .ok (.bipush 20, 2) := by decide +kernel
theorem d_Model_first_61 : decode prog_13_method_98_code 61 = .ok (.invokevirtual 424, 3) := by decide +kernel
theorem d_Model_first_64 : decode prog_13_method_98_code 64 = .ok (.ifCond .ne 6, 3) := by decide +kernel
theorem d_Model_first_70 : decode prog_13_method_98_code 70 = .ok (.iload_n 2, 1) := by decide +kernel
theorem d_Model_first_71 : decode prog_13_method_98_code 71 = .ok (.aload_n 0, 1) := by decide +kernel
theorem d_Model_first_72 : decode prog_13_method_98_code 72 = .ok (.iload 5, 2) := by decide +kernel
theorem d_Model_first_74 : decode prog_13_method_98_code 74 = .ok (.iload_n 1, 1) := by decide +kernel
theorem d_Model_first_75 : decode prog_13_method_98_code 75 = .ok (.invokevirtual 533, 3) := by decide +kernel
theorem kw_Model_533 : KW "NineBoardsModel" 533 ⟨"NineBoardsModel", "spiltBy", "(II)I"⟩ prog_13_method_97_code 3 (some .int) 2 := ⟨(mt_8 (List.mem_of_getElem? (i := 3) rfl) rfl), (mt_1 (List.mem_of_getElem? (i := 16) rfl) rfl), (mt_8 (List.mem_of_getElem? (i := 6) rfl) rfl), by decide +kernel⟩
theorem kv_Model_spiltBy : Cond.instanceMethod ⟨"NineBoardsModel", "spiltBy", "(II)I"⟩ ∈ TB ∧ Cond.selects "NineBoardsModel" ⟨"NineBoardsModel", "spiltBy", "(II)I"⟩ ⟨"NineBoardsModel", "spiltBy", "(II)I"⟩ ∈ TB := ⟨(mt_8 (List.mem_of_getElem? (i := 5) rfl) rfl), (ms_0 (List.mem_map.mpr ⟨(⟨"NineBoardsModel", "spiltBy", "(II)I"⟩, 79), List.mem_of_getElem? (i := 121) (by decide +kernel), rfl⟩) rfl)⟩
theorem d_Model_first_78 : decode prog_13_method_98_code 78 = .ok (.imul, 1) := by decide +kernel
theorem d_Model_first_79 : decode prog_13_method_98_code 79 = .ok (.bipush 100, 2) := by decide +kernel
theorem d_Model_first_81 : decode prog_13_method_98_code 81 = .ok (.iload_n 2, 1) := by decide +kernel
theorem d_Model_first_82 : decode prog_13_method_98_code 82 = .ok (.isub, 1) := by decide +kernel
theorem d_Model_first_83 : decode prog_13_method_98_code 83 = .ok (.aload_n 0, 1) := by decide +kernel
theorem d_Model_first_84 : decode prog_13_method_98_code 84 = .ok (.iload 5, 2) := by decide +kernel
theorem d_Model_first_86 : decode prog_13_method_98_code 86 = .ok (.iconst 0, 1) := by decide +kernel
theorem d_Model_first_87 : decode prog_13_method_98_code 87 = .ok (.invokevirtual 533, 3) := by decide +kernel
theorem d_Model_first_90 : decode prog_13_method_98_code 90 = .ok (.imul, 1) := by decide +kernel
theorem d_Model_first_91 : decode prog_13_method_98_code 91 = .ok (.iadd, 1) := by decide +kernel
theorem d_Model_first_92 : decode prog_13_method_98_code 92 = .ok (.istore 6, 2) := by decide +kernel
theorem d_Model_first_94 : decode prog_13_method_98_code 94 = .ok (.iload_n 3, 1) := by decide +kernel
theorem d_Model_first_95 : decode prog_13_method_98_code 95 = .ok (.iconst (-1), 1) := by decide +kernel
theorem d_Model_first_96 : decode prog_13_method_98_code 96 = .ok (.if_icmp .eq 13, 3) := by decide +kernel
theorem d_Model_first_109 : decode prog_13_method_98_code 109 = .ok (.iload 5, 2) := by decide +kernel
theorem d_Model_first_111 : decode prog_13_method_98_code 111 = .ok (.istore_n 3, 1) := by decide +kernel
theorem d_Model_first_112 : decode prog_13_method_98_code 112 = .ok (.iload 6, 2) := by decide +kernel
theorem d_Model_first_114 : decode prog_13_method_98_code 114 = .ok (.istore 4, 2) := by decide +kernel
theorem d_Model_first_116 : decode prog_13_method_98_code 116 = .ok (.iinc 5 1, 3) := by decide +kernel
theorem d_Model_first_119 : decode prog_13_method_98_code 119 = .ok (.goto (-73), 3) := by decide +kernel
theorem d_Model_first_67 : decode prog_13_method_98_code 67 = .ok (.goto 49, 3) := by decide +kernel
theorem d_Model_first_99 : decode prog_13_method_98_code 99 = .ok (.iload 6, 2) := by decide +kernel
theorem d_Model_first_101 : decode prog_13_method_98_code 101 = .ok (.iload 4, 2) := by decide +kernel
theorem d_Model_first_103 : decode prog_13_method_98_code 103 = .ok (.if_icmp .lt 6, 3) := by decide +kernel
theorem d_Model_first_106 : decode prog_13_method_98_code 106 = .ok (.goto 10, 3) := by decide +kernel
theorem d_Model_boardsAre_0 : decode prog_13_method_99_code 0 = .ok (.aload_n 0, 1) := by decide +kernel
theorem d_Model_boardsAre_1 : decode prog_13_method_99_code 1 = .ok (.getfield 158, 3) := by decide +kernel
theorem d_Model_boardsAre_4 : decode prog_13_method_99_code 4 = .ok (.iconst 3, 1) := by decide +kernel
theorem d_Model_boardsAre_5 : decode prog_13_method_99_code 5 = .ok (.iload_n 1, 1) := by decide +kernel
theorem d_Model_boardsAre_6 : decode prog_13_method_99_code 6 = .ok (.iadd, 1) := by decide +kernel
theorem d_Model_boardsAre_7 : decode prog_13_method_99_code 7 = .ok (.iload_n 2, 1) := by decide +kernel
theorem d_Model_boardsAre_8 : decode prog_13_method_99_code 8 = .ok (.iastore, 1) := by decide +kernel
theorem d_Model_boardsAre_9 : decode prog_13_method_99_code 9 = .ok (.aload_n 0, 1) := by decide +kernel
theorem d_Model_boardsAre_10 : decode prog_13_method_99_code 10 = .ok (.iload_n 1, 1) := by decide +kernel
theorem d_Model_boardsAre_11 : decode prog_13_method_99_code 11 = .ok (.invokevirtual 418, 3) := by decide +kernel
theorem d_Model_boardsAre_14 : decode prog_13_method_99_code 14 = .ok (.iconst (-1), 1) := by decide +kernel
theorem d_Model_boardsAre_15 : decode prog_13_method_99_code 15 = .ok (.if_icmp .eq 16, 3) := by decide +kernel
theorem d_Model_boardsAre_31 : decode prog_13_method_99_code 31 = .ok (.return_, 1) := by decide +kernel
theorem d_Model_boardsAre_18 : decode prog_13_method_99_code 18 = .ok (.aload_n 0, 1) := by decide +kernel
theorem d_Model_boardsAre_19 : decode prog_13_method_99_code 19 = .ok (.getfield 158, 3) := by decide +kernel
theorem d_Model_boardsAre_22 : decode prog_13_method_99_code 22 = .ok (.iconst 3, 1) := by decide +kernel
theorem d_Model_boardsAre_23 : decode prog_13_method_99_code 23 = .ok (.aload_n 0, 1) := by decide +kernel
theorem d_Model_boardsAre_24 : decode prog_13_method_99_code 24 = .ok (.iload_n 1, 1) := by decide +kernel
theorem d_Model_boardsAre_25 : decode prog_13_method_99_code 25 = .ok (.invokevirtual 418, 3) := by decide +kernel
theorem d_Model_boardsAre_28 : decode prog_13_method_99_code 28 = .ok (.iadd, 1) := by decide +kernel
theorem d_Model_boardsAre_29 : decode prog_13_method_99_code 29 = .ok (.iload_n 2, 1) := by decide +kernel
theorem d_Model_boardsAre_30 : decode prog_13_method_99_code 30 = .ok (.iastore, 1) := by decide +kernel
set_option maxHeartbeats 4000000 in
set_option maxRecDepth 100000 in
theorem c_M_boardsAre (l : Launch) (D : va_G) (y : Nat → ClassId) (mo : Nat) (ma : Nat → Nat) (t1 : Nat) (i2 : Int32) (i3 : Int32) (i4 : Int32) (i5 : Int32) (i6 : Int32) (i7 : Int32) (i8 : Int32) (i42 : Int32) (i49 : Int32) (i51 : Int32) (i53 : Int32) (i54 : Int32) (i59 : Int32) (i61 : Int32) (i64 : Int32) (i66 : Int32) (t67 : Nat) (i76 : Int64) (i78 : Int32) (g46 : Nat → Int32) (g62 : Nat → Int32) (j : Nat) (v : Int32) (dy : Nat) (hG : ∀ j, j < 9 → g46 (54 + 6 * j + 5) = -1 ∨ ∃ q, q < 9 ∧ g46 (54 + 6 * j + 5) = nI q) (hD : g62 0 = nI dy) (hj : j < 9) : CT l D y ⟨"NineBoardsModel", "boardsAre", "(II)V"⟩ prog_13_method_99_code 3 none ({ frames := 1, cells := 0, slots := 0, locals := 21 } : Room) [.ref mo, .int (nI j), .int v] [MB mo ma (nI t1) i2 i3 i4 i5 i6 i7 i8 i42 i49 i51 i53 i54 i59 i61 i64 i66 (nI t67) i76 i78, (ma 46, .inl (y 0, 108, .inl g46)), (ma 62, .inl (y 0, 63, .inl g62))] (QV D [MB mo ma (nI t1) i2 i3 i4 i5 i6 i7 i8 i42 i49 i51 i53 i54 i59 i61 i64 i66 (nI t67) i76 i78, (ma 46, .inl (y 0, 108, .inl g46)), (ma 62, .inl (y 0, 63, .inl g62))] (fun (u : (Nat → Int32)) => u 0 = nI dy) (fun u => [MB mo ma (nI t1) i2 i3 i4 i5 i6 i7 i8 i42 i49 i51 i53 i54 i59 i61 i64 i66 (nI t67) i76 i78, (ma 46, .inl (y 0, 108, .inl g46)), (ma 62, .inl (y 0, 63, .inl u))])) := by
  refine CT.of (by decide) (nb rfl) ?_
  intro p e s m args below meth c C hr
  refine j_lv (lv' := [(0, .ref mo), (1, .int (nI j)), (2, .int v)]) rfl ?_
  refine j_aload_n (pc := 0) C d_Model_boardsAre_0 rfl 0 rfl ?_
  refine j_get (pc := 1) C gf_Model_158 0 rfl rfl d_Model_boardsAre_1 ?_
  refine j_iconst (pc := 4) C (v := 3) d_Model_boardsAre_4 (by decide) ?_
  refine j_iload_n (pc := 5) C d_Model_boardsAre_5 rfl 1 rfl ?_
  refine j_iadd (pc := 6) C (v := nI (3 + j)) d_Model_boardsAre_6 (nI_add _ _) ?_
  refine j_iload_n (pc := 7) C d_Model_boardsAre_7 rfl 2 rfl ?_
  refine j_iast (pc := 8) C 2 rfl (ws' := [MB mo ma (nI t1) i2 i3 i4 i5 i6 i7 i8 i42 i49 i51 i53 i54 i59 i61 i64 i66 (nI t67) i76 i78, (ma 46, .inl (y 0, 108, .inl g46)), (ma 62, .inl (y 0, 63, .inl (upd g62 (3 + j) v)))]) (vp_in_nI (by omega) (by decide)) (by rw [nI_clamp (by omega)]; rfl) d_Model_boardsAre_8 ?_
  refine j_genW (fun f1 => [MB mo ma (nI t1) i2 i3 i4 i5 i6 i7 i8 i42 i49 i51 i53 i54 i59 i61 i64 i66 (nI t67) i76 i78, (ma 46, .inl (y 0, 108, .inl g46)), (ma 62, .inl (y 0, 63, .inl f1))]) (upd g62 (3 + j) v) rfl (fun f1 => (f1 0 = nI dy)) (show upd g62 (3 + j) v 0 = nI dy by rw [pk_un (by omega)]; exact hD) ?_
  rintro f1 xh2
  refine j_ws (ws' := [MB mo ma (nI t1) i2 i3 i4 i5 i6 i7 i8 i42 i49 i51 i53 i54 i59 i61 i64 i66 (nI t67) i76 i78, (ma 46, .inl (y 0, 108, .inl g46)), (ma 62, .inl (y 0, 63, .inl f1))]) rfl ?_
  have xh2 : f1 0 = nI dy := xh2
  refine j_aload_n (pc := 9) C d_Model_boardsAre_9 rfl 0 rfl ?_
  refine j_iload_n (pc := 10) C d_Model_boardsAre_10 rfl 1 rfl ?_
  refine j_callVi (pc := 11) C (c_M_joinedTo l D y mo ma t1 i2 i3 i4 i5 i6 i7 i8 i42 i49 i51 i53 i54 i59 i61 i64 i66 t67 i76 i78 g46 j hG hj) kw_Model_418 kv_Model_joinedTo 0 10 rfl rfl ⟨by decide, by decide⟩ ⟨by decide, by decide⟩ (wr := [(ma 62, .inl (y 0, 63, .inl f1))]) [0, 1] [2] rfl rfl (by decide) (by decide) (by decide) (As := [.int (nI j)]) (rest := []) rfl (nb rfl) rfl d_Model_boardsAre_11 (fun r3 _ hr3 => ?_)
  refine j_ws (ws' := [(ma 62, .inl (y 0, 63, .inl f1)), MB mo ma (nI t1) i2 i3 i4 i5 i6 i7 i8 i42 i49 i51 i53 i54 i59 i61 i64 i66 (nI t67) i76 i78, (ma 46, .inl (y 0, 108, .inl g46))]) rfl ?_
  rcases hr3 with rfl | ⟨q5, xh6, rfl⟩
  · refine j_iconst (pc := 14) C (v := (-1)) d_Model_boardsAre_14 (by decide) ?_
    refine j_icmp_eqT (pc := 15) C (tgt := 31) d_Model_boardsAre_15 (by decide) (by decide) ?_
    exact j_vret (pc := 31) C hr f1 xh2 [1, 2, 0] rfl (by decide) (by decide) (by decide) d_Model_boardsAre_31
  · refine j_iconst (pc := 14) C (v := (-1)) d_Model_boardsAre_14 (by decide) ?_
    refine j_icmp_eqF (pc := 15) C (tgt := 31) d_Model_boardsAre_15 (by decide) (nI_nm1 (by omega)) ?_
    refine j_aload_n (pc := 18) C d_Model_boardsAre_18 rfl 0 rfl ?_
    refine j_get (pc := 19) C gf_Model_158 1 rfl rfl d_Model_boardsAre_19 ?_
    refine j_iconst (pc := 22) C (v := 3) d_Model_boardsAre_22 (by decide) ?_
    refine j_aload_n (pc := 23) C d_Model_boardsAre_23 rfl 0 rfl ?_
    refine j_iload_n (pc := 24) C d_Model_boardsAre_24 rfl 1 rfl ?_
    refine j_callVi (pc := 25) C (c_M_joinedTo l D y mo ma t1 i2 i3 i4 i5 i6 i7 i8 i42 i49 i51 i53 i54 i59 i61 i64 i66 t67 i76 i78 g46 j hG hj) kw_Model_418 kv_Model_joinedTo 0 10 rfl rfl ⟨by decide, by decide⟩ ⟨by decide, by decide⟩ (wr := [(ma 62, .inl (y 0, 63, .inl f1))]) [1, 2] [0] rfl rfl (by decide) (by decide) (by decide) (As := [.int (nI j)]) (rest := [.int 3, .ref (ma 62)]) rfl (nb rfl) rfl d_Model_boardsAre_25 (fun r7 _ hr7 => ?_)
    refine j_ws (ws' := [(ma 62, .inl (y 0, 63, .inl f1)), MB mo ma (nI t1) i2 i3 i4 i5 i6 i7 i8 i42 i49 i51 i53 i54 i59 i61 i64 i66 (nI t67) i76 i78, (ma 46, .inl (y 0, 108, .inl g46))]) rfl ?_
    rcases hr7 with rfl | ⟨q9, xh10, rfl⟩
    · refine j_iadd (pc := 28) C (v := 2) d_Model_boardsAre_28 (by decide) ?_
      refine j_iload_n (pc := 29) C d_Model_boardsAre_29 rfl 2 rfl ?_
      refine j_iast (pc := 30) C 0 rfl (ws' := [(ma 62, .inl (y 0, 63, .inl (upd f1 2 v))), MB mo ma (nI t1) i2 i3 i4 i5 i6 i7 i8 i42 i49 i51 i53 i54 i59 i61 i64 i66 (nI t67) i76 i78, (ma 46, .inl (y 0, 108, .inl g46))]) (vin (by decide)) rfl d_Model_boardsAre_30 ?_
      refine j_genW (fun f11 => [(ma 62, .inl (y 0, 63, .inl f11)), MB mo ma (nI t1) i2 i3 i4 i5 i6 i7 i8 i42 i49 i51 i53 i54 i59 i61 i64 i66 (nI t67) i76 i78, (ma 46, .inl (y 0, 108, .inl g46))]) (upd f1 2 v) rfl (fun f11 => (f11 0 = nI dy)) (show upd f1 2 v 0 = nI dy by rw [pk_un (by omega)]; exact xh2) ?_
      rintro f11 xh12
      refine j_ws (ws' := [(ma 62, .inl (y 0, 63, .inl f11)), MB mo ma (nI t1) i2 i3 i4 i5 i6 i7 i8 i42 i49 i51 i53 i54 i59 i61 i64 i66 (nI t67) i76 i78, (ma 46, .inl (y 0, 108, .inl g46))]) rfl ?_
      have xh12 : f11 0 = nI dy := xh12
      exact j_vret (pc := 31) C hr f11 xh12 [1, 2, 0] rfl (by decide) (by decide) (by decide) d_Model_boardsAre_31
    · refine j_iadd (pc := 28) C (v := nI (3 + q9)) d_Model_boardsAre_28 (nI_add _ _) ?_
      refine j_iload_n (pc := 29) C d_Model_boardsAre_29 rfl 2 rfl ?_
      refine j_iast (pc := 30) C 0 rfl (ws' := [(ma 62, .inl (y 0, 63, .inl (upd f1 (3 + q9) v))), MB mo ma (nI t1) i2 i3 i4 i5 i6 i7 i8 i42 i49 i51 i53 i54 i59 i61 i64 i66 (nI t67) i76 i78, (ma 46, .inl (y 0, 108, .inl g46))]) (vp_in_nI (by omega) (by decide)) (by rw [nI_clamp (by omega)]; rfl) d_Model_boardsAre_30 ?_
      refine j_genW (fun f13 => [(ma 62, .inl (y 0, 63, .inl f13)), MB mo ma (nI t1) i2 i3 i4 i5 i6 i7 i8 i42 i49 i51 i53 i54 i59 i61 i64 i66 (nI t67) i76 i78, (ma 46, .inl (y 0, 108, .inl g46))]) (upd f1 (3 + q9) v) rfl (fun f13 => (f13 0 = nI dy)) (show upd f1 (3 + q9) v 0 = nI dy by rw [pk_un (by omega)]; exact xh2) ?_
      rintro f13 xh14
      refine j_ws (ws' := [(ma 62, .inl (y 0, 63, .inl f13)), MB mo ma (nI t1) i2 i3 i4 i5 i6 i7 i8 i42 i49 i51 i53 i54 i59 i61 i64 i66 (nI t67) i76 i78, (ma 46, .inl (y 0, 108, .inl g46))]) rfl ?_
      have xh14 : f13 0 = nI dy := xh14
      exact j_vret (pc := 31) C hr f13 xh14 [1, 2, 0] rfl (by decide) (by decide) (by decide) d_Model_boardsAre_31
theorem d_Model_wouldFlow_0 : decode prog_13_method_100_code 0 = .ok (.aload_n 0, 1) := by decide +kernel
theorem d_Model_wouldFlow_1 : decode prog_13_method_100_code 1 = .ok (.invokevirtual 510, 3) := by decide +kernel
theorem d_Model_wouldFlow_4 : decode prog_13_method_100_code 4 = .ok (.aload_n 0, 1) := by decide +kernel
theorem d_Model_wouldFlow_5 : decode prog_13_method_100_code 5 = .ok (.iload_n 1, 1) := by decide +kernel
theorem d_Model_wouldFlow_6 : decode prog_13_method_100_code 6 = .ok (.iload_n 2, 1) := by decide +kernel
theorem d_Model_wouldFlow_7 : decode prog_13_method_100_code 7 = .ok (.invokevirtual 536, 3) := by decide +kernel
theorem kw_Model_536 : KW "NineBoardsModel" 536 ⟨"NineBoardsModel", "boardsAre", "(II)V"⟩ prog_13_method_99_code 3 none 2 := ⟨(mt_8 (List.mem_of_getElem? (i := 16) rfl) rfl), (mt_1 (List.mem_of_getElem? (i := 16) rfl) rfl), (mt_8 (List.mem_of_getElem? (i := 19) rfl) rfl), by decide +kernel⟩
theorem kv_Model_boardsAre : Cond.instanceMethod ⟨"NineBoardsModel", "boardsAre", "(II)V"⟩ ∈ TB ∧ Cond.selects "NineBoardsModel" ⟨"NineBoardsModel", "boardsAre", "(II)V"⟩ ⟨"NineBoardsModel", "boardsAre", "(II)V"⟩ ∈ TB := ⟨(mt_8 (List.mem_of_getElem? (i := 18) rfl) rfl), (ms_0 (List.mem_map.mpr ⟨(⟨"NineBoardsModel", "boardsAre", "(II)V"⟩, 79), List.mem_of_getElem? (i := 123) (by decide +kernel), rfl⟩) rfl)⟩
theorem d_Model_wouldFlow_10 : decode prog_13_method_100_code 10 = .ok (.aload_n 0, 1) := by decide +kernel
theorem d_Model_wouldFlow_11 : decode prog_13_method_100_code 11 = .ok (.invokevirtual 434, 3) := by decide +kernel
theorem d_Model_wouldFlow_14 : decode prog_13_method_100_code 14 = .ok (.istore_n 3, 1) := by decide +kernel
theorem d_Model_wouldFlow_15 : decode prog_13_method_100_code 15 = .ok (.aload_n 0, 1) := by decide +kernel
theorem d_Model_wouldFlow_16 : decode prog_13_method_100_code 16 = .ok (.invokevirtual 495, 3) := by decide +kernel
theorem d_Model_wouldFlow_19 : decode prog_13_method_100_code 19 = .ok (.aload_n 0, 1) := by decide +kernel
theorem d_Model_wouldFlow_20 : decode prog_13_method_100_code 20 = .ok (.getfield 161, 3) := by decide +kernel
theorem d_Model_wouldFlow_23 : decode prog_13_method_100_code 23 = .ok (.iload_n 1, 1) := by decide +kernel
theorem d_Model_wouldFlow_24 : decode prog_13_method_100_code 24 = .ok (.iaload, 1) := by decide +kernel
theorem d_Model_wouldFlow_25 : decode prog_13_method_100_code 25 = .ok (.ireturn, 1) := by decide +kernel
theorem d_Model_would_0 : decode prog_13_method_101_code 0 = .ok (.aload_n 0, 1) := by decide +kernel
theorem d_Model_would_1 : decode prog_13_method_101_code 1 = .ok (.iload_n 1, 1) := by decide +kernel
theorem d_Model_would_2 : decode prog_13_method_101_code 2 = .ok (.invokevirtual 465, 3) := by decide +kernel
theorem d_Model_would_5 : decode prog_13_method_101_code 5 = .ok (.ifCond .eq 24, 3) := by decide +kernel
theorem d_Model_would_29 : decode prog_13_method_101_code 29 = .ok (.iconst (-1), 1) := by decide +kernel
theorem d_Model_would_30 : decode prog_13_method_101_code 30 = .ok (.ireturn, 1) := by decide +kernel
theorem d_Model_would_8 : decode prog_13_method_101_code 8 = .ok (.iload_n 2, 1) := by decide +kernel
theorem d_Model_would_9 : decode prog_13_method_101_code 9 = .ok (.i2l, 1) := by decide +kernel
theorem d_Model_would_10 : decode prog_13_method_101_code 10 = .ok (.lconst 0, 1) := by decide +kernel
theorem d_Model_would_11 : decode prog_13_method_101_code 11 = .ok (.ldc2_w 539, 3) := by decide +kernel
theorem d_Model_would_14 : decode prog_13_method_101_code 14 = .ok (.invokestatic 240, 3) := by decide +kernel
theorem d_Model_would_17 : decode prog_13_method_101_code 17 = .ok (.ifCond .eq 12, 3) := by decide +kernel
theorem d_Model_would_20 : decode prog_13_method_101_code 20 = .ok (.aload_n 0, 1) := by decide +kernel
theorem d_Model_would_21 : decode prog_13_method_101_code 21 = .ok (.iload_n 1, 1) := by decide +kernel
theorem d_Model_would_22 : decode prog_13_method_101_code 22 = .ok (.iload_n 2, 1) := by decide +kernel
theorem d_Model_would_23 : decode prog_13_method_101_code 23 = .ok (.invokevirtual 541, 3) := by decide +kernel
theorem kw_Model_541 : KW "NineBoardsModel" 541 ⟨"NineBoardsModel", "wouldFlow", "(II)I"⟩ prog_13_method_100_code 4 (some .int) 2 := ⟨(mt_8 (List.mem_of_getElem? (i := 12) rfl) rfl), (mt_1 (List.mem_of_getElem? (i := 16) rfl) rfl), (mt_8 (List.mem_of_getElem? (i := 15) rfl) rfl), by decide +kernel⟩
theorem kv_Model_wouldFlow : Cond.instanceMethod ⟨"NineBoardsModel", "wouldFlow", "(II)I"⟩ ∈ TB ∧ Cond.selects "NineBoardsModel" ⟨"NineBoardsModel", "wouldFlow", "(II)I"⟩ ⟨"NineBoardsModel", "wouldFlow", "(II)I"⟩ ∈ TB := ⟨(mt_8 (List.mem_of_getElem? (i := 14) rfl) rfl), (ms_0 (List.mem_map.mpr ⟨(⟨"NineBoardsModel", "wouldFlow", "(II)I"⟩, 79), List.mem_of_getElem? (i := 122) (by decide +kernel), rfl⟩) rfl)⟩
theorem d_Model_would_26 : decode prog_13_method_101_code 26 = .ok (.goto 4, 3) := by decide +kernel
theorem d_Model_gateFor_0 : decode prog_13_method_103_code 0 = .ok (.aload_n 0, 1) := by decide +kernel
theorem d_Model_gateFor_1 : decode prog_13_method_103_code 1 = .ok (.getfield 133, 3) := by decide +kernel
theorem d_Model_gateFor_4 : decode prog_13_method_103_code 4 = .ok (.bipush 112, 2) := by decide +kernel
theorem d_Model_gateFor_6 : decode prog_13_method_103_code 6 = .ok (.bipush 7, 2) := by decide +kernel
theorem d_Model_gateFor_8 : decode prog_13_method_103_code 8 = .ok (.iload_n 1, 1) := by decide +kernel
theorem d_Model_gateFor_9 : decode prog_13_method_103_code 9 = .ok (.imul, 1) := by decide +kernel
theorem d_Model_gateFor_10 : decode prog_13_method_103_code 10 = .ok (.iadd, 1) := by decide +kernel
theorem d_Model_gateFor_11 : decode prog_13_method_103_code 11 = .ok (.iconst 1, 1) := by decide +kernel
theorem d_Model_gateFor_12 : decode prog_13_method_103_code 12 = .ok (.iadd, 1) := by decide +kernel
theorem d_Model_gateFor_13 : decode prog_13_method_103_code 13 = .ok (.iaload, 1) := by decide +kernel
theorem d_Model_gateFor_14 : decode prog_13_method_103_code 14 = .ok (.ireturn, 1) := by decide +kernel
set_option maxHeartbeats 4000000 in
set_option maxRecDepth 100000 in
theorem c_M_gateFor (l : Launch) (D : va_G) (y : Nat → ClassId) (mo : Nat) (ma : Nat → Nat) (t1 : Nat) (i2 : Int32) (i3 : Int32) (i4 : Int32) (i5 : Int32) (i6 : Int32) (i7 : Int32) (i8 : Int32) (i42 : Int32) (i49 : Int32) (i51 : Int32) (i53 : Int32) (i54 : Int32) (i59 : Int32) (i61 : Int32) (i64 : Int32) (i66 : Int32) (t67 : Nat) (i76 : Int64) (i78 : Int32) (g48 : Nat → Int32) (j : Nat) (hTh : ∀ j, j < 16 → (∃ q, q < 6 ∧ g48 (112 + 7 * j) = nI q) ∧ ∃ q, q < 9 ∧ g48 (112 + 7 * j + 1) = nI q) (hj : j < 16) : CT l D y ⟨"NineBoardsModel", "gateFor", "(I)I"⟩ prog_13_method_103_code 2 (some .int) ({ frames := 0, cells := 0, slots := 0, locals := 0 } : Room) [.ref mo, .int (nI j)] [MB mo ma (nI t1) i2 i3 i4 i5 i6 i7 i8 i42 i49 i51 i53 i54 i59 i61 i64 i66 (nI t67) i76 i78, (ma 48, .inl (y 0, 224, .inl g48))] (QI D [MB mo ma (nI t1) i2 i3 i4 i5 i6 i7 i8 i42 i49 i51 i53 i54 i59 i61 i64 i66 (nI t67) i76 i78, (ma 48, .inl (y 0, 224, .inl g48))] (fun (r : Int32) (u : Unit) => (∃ q, q < 9 ∧ r = nI q)) (fun _ => [MB mo ma (nI t1) i2 i3 i4 i5 i6 i7 i8 i42 i49 i51 i53 i54 i59 i61 i64 i66 (nI t67) i76 i78, (ma 48, .inl (y 0, 224, .inl g48))])) := by
  refine CT.of (by decide) (nb rfl) ?_
  intro p e s m args below meth c C hr
  refine j_lv (lv' := [(0, .ref mo), (1, .int (nI j))]) rfl ?_
  refine j_aload_n (pc := 0) C d_Model_gateFor_0 rfl 0 rfl ?_
  refine j_get (pc := 1) C gf_Model_133 0 rfl rfl d_Model_gateFor_1 ?_
  refine j_bipush (pc := 4) C (v := 112) d_Model_gateFor_4 (by decide) ?_
  refine j_bipush (pc := 6) C (v := 7) d_Model_gateFor_6 (by decide) ?_
  refine j_iload_n (pc := 8) C d_Model_gateFor_8 rfl 1 rfl ?_
  refine j_imul (pc := 9) C (v := nI (7 * j)) d_Model_gateFor_9 (pk_mul _ _) ?_
  refine j_iadd (pc := 10) C (v := nI (112 + (7 * j))) d_Model_gateFor_10 (nI_add _ _) ?_
  refine j_iconst (pc := 11) C (v := 1) d_Model_gateFor_11 (by decide) ?_
  refine j_iadd (pc := 12) C (v := nI ((112 + (7 * j)) + 1)) d_Model_gateFor_12 (nI_add _ _) ?_
  obtain ⟨q1, xh2, e3⟩ := (hTh j (by omega)).2
  refine j_iald (pc := 13) C 1 rfl (v := nI q1) (vp_in_nI (by omega) (by decide)) (by rw [nI_clamp (by omega)]; exact e3) d_Model_gateFor_13 ?_
  exact j_iret (pc := 14) C hr rfl () ⟨q1, by omega, rfl⟩ [0, 1] rfl (by decide) (by decide) (by decide) d_Model_gateFor_14
theorem d_Model_isServed_0 : decode prog_13_method_104_code 0 = .ok (.bipush 112, 2) := by decide +kernel
theorem d_Model_isServed_2 : decode prog_13_method_104_code 2 = .ok (.bipush 7, 2) := by decide +kernel
theorem d_Model_isServed_4 : decode prog_13_method_104_code 4 = .ok (.iload_n 1, 1) := by decide +kernel
theorem d_Model_isServed_5 : decode prog_13_method_104_code 5 = .ok (.imul, 1) := by decide +kernel
theorem d_Model_isServed_6 : decode prog_13_method_104_code 6 = .ok (.iadd, 1) := by decide +kernel
theorem d_Model_isServed_7 : decode prog_13_method_104_code 7 = .ok (.istore_n 3, 1) := by decide +kernel
theorem d_Model_isServed_8 : decode prog_13_method_104_code 8 = .ok (.aload_n 0, 1) := by decide +kernel
theorem d_Model_isServed_9 : decode prog_13_method_104_code 9 = .ok (.getfield 158, 3) := by decide +kernel
theorem d_Model_isServed_12 : decode prog_13_method_104_code 12 = .ok (.iconst 0, 1) := by decide +kernel
theorem d_Model_isServed_13 : decode prog_13_method_104_code 13 = .ok (.iaload, 1) := by decide +kernel
theorem d_Model_isServed_14 : decode prog_13_method_104_code 14 = .ok (.i2l, 1) := by decide +kernel
theorem d_Model_isServed_15 : decode prog_13_method_104_code 15 = .ok (.aload_n 0, 1) := by decide +kernel
theorem d_Model_isServed_16 : decode prog_13_method_104_code 16 = .ok (.getfield 133, 3) := by decide +kernel
theorem d_Model_isServed_19 : decode prog_13_method_104_code 19 = .ok (.iload_n 3, 1) := by decide +kernel
theorem d_Model_isServed_20 : decode prog_13_method_104_code 20 = .ok (.iconst 4, 1) := by decide +kernel
theorem d_Model_isServed_21 : decode prog_13_method_104_code 21 = .ok (.iadd, 1) := by decide +kernel
theorem d_Model_isServed_22 : decode prog_13_method_104_code 22 = .ok (.iaload, 1) := by decide +kernel
theorem d_Model_isServed_23 : decode prog_13_method_104_code 23 = .ok (.i2l, 1) := by decide +kernel
theorem d_Model_isServed_24 : decode prog_13_method_104_code 24 = .ok (.aload_n 0, 1) := by decide +kernel
theorem d_Model_isServed_25 : decode prog_13_method_104_code 25 = .ok (.getfield 133, 3) := by decide +kernel
theorem d_Model_isServed_28 : decode prog_13_method_104_code 28 = .ok (.iload_n 3, 1) := by decide +kernel
theorem d_Model_isServed_29 : decode prog_13_method_104_code 29 = .ok (.iconst 5, 1) := by decide +kernel
theorem d_Model_isServed_30 : decode prog_13_method_104_code 30 = .ok (.iadd, 1) := by decide +kernel
theorem d_Model_isServed_31 : decode prog_13_method_104_code 31 = .ok (.iaload, 1) := by decide +kernel
theorem d_Model_isServed_32 : decode prog_13_method_104_code 32 = .ok (.i2l, 1) := by decide +kernel
theorem d_Model_isServed_33 : decode prog_13_method_104_code 33 = .ok (.invokestatic 240, 3) := by decide +kernel
theorem d_Model_isServed_36 : decode prog_13_method_104_code 36 = .ok (.ifCond .eq 33, 3) := by decide +kernel
theorem d_Model_isServed_69 : decode prog_13_method_104_code 69 = .ok (.iconst 0, 1) := by decide +kernel
theorem d_Model_isServed_70 : decode prog_13_method_104_code 70 = .ok (.ireturn, 1) := by decide +kernel
theorem d_Model_isServed_39 : decode prog_13_method_104_code 39 = .ok (.iload_n 2, 1) := by decide +kernel
theorem d_Model_isServed_40 : decode prog_13_method_104_code 40 = .ok (.i2l, 1) := by decide +kernel
theorem d_Model_isServed_41 : decode prog_13_method_104_code 41 = .ok (.aload_n 0, 1) := by decide +kernel
theorem d_Model_isServed_42 : decode prog_13_method_104_code 42 = .ok (.getfield 133, 3) := by decide +kernel
theorem d_Model_isServed_45 : decode prog_13_method_104_code 45 = .ok (.iload_n 3, 1) := by decide +kernel
theorem d_Model_isServed_46 : decode prog_13_method_104_code 46 = .ok (.iconst 2, 1) := by decide +kernel
theorem d_Model_isServed_47 : decode prog_13_method_104_code 47 = .ok (.iadd, 1) := by decide +kernel
theorem d_Model_isServed_48 : decode prog_13_method_104_code 48 = .ok (.iaload, 1) := by decide +kernel
theorem d_Model_isServed_49 : decode prog_13_method_104_code 49 = .ok (.i2l, 1) := by decide +kernel
theorem d_Model_isServed_50 : decode prog_13_method_104_code 50 = .ok (.aload_n 0, 1) := by decide +kernel
theorem d_Model_isServed_51 : decode prog_13_method_104_code 51 = .ok (.getfield 133, 3) := by decide +kernel
theorem d_Model_isServed_54 : decode prog_13_method_104_code 54 = .ok (.iload_n 3, 1) := by decide +kernel
theorem d_Model_isServed_55 : decode prog_13_method_104_code 55 = .ok (.iconst 3, 1) := by decide +kernel
theorem d_Model_isServed_56 : decode prog_13_method_104_code 56 = .ok (.iadd, 1) := by decide +kernel
theorem d_Model_isServed_57 : decode prog_13_method_104_code 57 = .ok (.iaload, 1) := by decide +kernel
theorem d_Model_isServed_58 : decode prog_13_method_104_code 58 = .ok (.i2l, 1) := by decide +kernel
theorem d_Model_isServed_59 : decode prog_13_method_104_code 59 = .ok (.invokestatic 240, 3) := by decide +kernel
theorem d_Model_isServed_62 : decode prog_13_method_104_code 62 = .ok (.ifCond .eq 7, 3) := by decide +kernel
theorem d_Model_isServed_65 : decode prog_13_method_104_code 65 = .ok (.iconst 1, 1) := by decide +kernel
theorem d_Model_isServed_66 : decode prog_13_method_104_code 66 = .ok (.goto 4, 3) := by decide +kernel
set_option maxHeartbeats 4000000 in
set_option maxRecDepth 100000 in
theorem c_M_isServed (l : Launch) (D : va_G) (y : Nat → ClassId) (mo : Nat) (ma : Nat → Nat) (t1 : Nat) (i2 : Int32) (i3 : Int32) (i4 : Int32) (i5 : Int32) (i6 : Int32) (i7 : Int32) (i8 : Int32) (i42 : Int32) (i49 : Int32) (i51 : Int32) (i53 : Int32) (i54 : Int32) (i59 : Int32) (i61 : Int32) (i64 : Int32) (i66 : Int32) (t67 : Nat) (i76 : Int64) (i78 : Int32) (g48 : Nat → Int32) (g62 : Nat → Int32) (j : Nat) (v : Int32) (hj : j < 16) : CT l D y ⟨"NineBoardsModel", "isServed", "(II)Z"⟩ prog_13_method_104_code 4 (some .boolean) ({ frames := 1, cells := 0, slots := 0, locals := 25 } : Room) [.ref mo, .int (nI j), .int v] [MB mo ma (nI t1) i2 i3 i4 i5 i6 i7 i8 i42 i49 i51 i53 i54 i59 i61 i64 i66 (nI t67) i76 i78, (ma 48, .inl (y 0, 224, .inl g48)), (ma 62, .inl (y 0, 63, .inl g62))] (QI D [MB mo ma (nI t1) i2 i3 i4 i5 i6 i7 i8 i42 i49 i51 i53 i54 i59 i61 i64 i66 (nI t67) i76 i78, (ma 48, .inl (y 0, 224, .inl g48)), (ma 62, .inl (y 0, 63, .inl g62))] (fun (r : Int32) (u : Unit) => (r = 0 ∨ r = 1)) (fun _ => [MB mo ma (nI t1) i2 i3 i4 i5 i6 i7 i8 i42 i49 i51 i53 i54 i59 i61 i64 i66 (nI t67) i76 i78, (ma 48, .inl (y 0, 224, .inl g48)), (ma 62, .inl (y 0, 63, .inl g62))])) := by
  refine CT.of (by decide) (nb rfl) ?_
  intro p e s m args below meth c C hr
  refine j_lv (lv' := [(0, .ref mo), (1, .int (nI j)), (2, .int v)]) rfl ?_
  refine j_bipush (pc := 0) C (v := 112) d_Model_isServed_0 (by decide) ?_
  refine j_bipush (pc := 2) C (v := 7) d_Model_isServed_2 (by decide) ?_
  refine j_iload_n (pc := 4) C d_Model_isServed_4 rfl 1 rfl ?_
  refine j_imul (pc := 5) C (v := nI (7 * j)) d_Model_isServed_5 (pk_mul _ _) ?_
  refine j_iadd (pc := 6) C (v := nI (112 + (7 * j))) d_Model_isServed_6 (nI_add _ _) ?_
  refine j_istore_n (pc := 7) C (lv' := [(3, .int (nI (112 + (7 * j)))), (0, .ref mo), (1, .int (nI j)), (2, .int v)]) d_Model_isServed_7 rfl (by decide) rfl ?_
  refine j_aload_n (pc := 8) C d_Model_isServed_8 rfl 1 rfl ?_
  refine j_get (pc := 9) C gf_Model_158 0 rfl rfl d_Model_isServed_9 ?_
  refine j_iconst (pc := 12) C (v := 0) d_Model_isServed_12 (by decide) ?_
  refine j_iald (pc := 13) C 2 rfl (v := g62 0) (vin (by decide)) rfl d_Model_isServed_13 ?_
  refine j_i2l (pc := 14) C (v := (g62 0).toInt64) d_Model_isServed_14 rfl ?_
  refine j_aload_n (pc := 15) C d_Model_isServed_15 rfl 1 rfl ?_
  refine j_get (pc := 16) C gf_Model_133 0 rfl rfl d_Model_isServed_16 ?_
  refine j_iload_n (pc := 19) C d_Model_isServed_19 rfl 0 rfl ?_
  refine j_iconst (pc := 20) C (v := 4) d_Model_isServed_20 (by decide) ?_
  refine j_iadd (pc := 21) C (v := nI ((112 + (7 * j)) + 4)) d_Model_isServed_21 (nI_add _ _) ?_
  refine j_iald (pc := 22) C 1 rfl (v := g48 ((112 + (7 * j)) + 4)) (vp_in_nI (by omega) (by decide)) (by rw [nI_clamp (by omega)]) d_Model_isServed_22 ?_
  refine j_i2l (pc := 23) C (v := (g48 ((112 + (7 * j)) + 4)).toInt64) d_Model_isServed_23 rfl ?_
  refine j_aload_n (pc := 24) C d_Model_isServed_24 rfl 1 rfl ?_
  refine j_get (pc := 25) C gf_Model_133 0 rfl rfl d_Model_isServed_25 ?_
  refine j_iload_n (pc := 28) C d_Model_isServed_28 rfl 0 rfl ?_
  refine j_iconst (pc := 29) C (v := 5) d_Model_isServed_29 (by decide) ?_
  refine j_iadd (pc := 30) C (v := nI ((112 + (7 * j)) + 5)) d_Model_isServed_30 (nI_add _ _) ?_
  refine j_iald (pc := 31) C 1 rfl (v := g48 ((112 + (7 * j)) + 5)) (vp_in_nI (by omega) (by decide)) (by rw [nI_clamp (by omega)]) d_Model_isServed_31 ?_
  refine j_i2l (pc := 32) C (v := (g48 ((112 + (7 * j)) + 5)).toInt64) d_Model_isServed_32 rfl ?_
  refine j_callSi (pc := 33) C (c_isIn_any l D y ((g62 0).toInt64) ((g48 ((112 + (7 * j)) + 4)).toInt64) ((g48 ((112 + (7 * j)) + 5)).toInt64)) kw_Model_240 ks_Model_isIn ⟨by decide, by decide⟩ ⟨by decide, by decide⟩ (wr := [MB mo ma (nI t1) i2 i3 i4 i5 i6 i7 i8 i42 i49 i51 i53 i54 i59 i61 i64 i66 (nI t67) i76 i78, (ma 48, .inl (y 0, 224, .inl g48)), (ma 62, .inl (y 0, 63, .inl g62))]) [] [0, 1, 2] rfl rfl (by decide) (by decide) (by decide) (As := [.long ((g62 0).toInt64), .long ((g48 ((112 + (7 * j)) + 4)).toInt64), .long ((g48 ((112 + (7 * j)) + 5)).toInt64)]) (rest := []) rfl (nb rfl) rfl d_Model_isServed_33 (fun r1 _ hr1 => ?_)
  have xh2 := hr1
  refine j_ws (ws' := [MB mo ma (nI t1) i2 i3 i4 i5 i6 i7 i8 i42 i49 i51 i53 i54 i59 i61 i64 i66 (nI t67) i76 i78, (ma 48, .inl (y 0, 224, .inl g48)), (ma 62, .inl (y 0, 63, .inl g62))]) rfl ?_
  refine j_if_eq (pc := 36) C (tgt := 69) d_Model_isServed_36 (by decide) (fun c3 => ?_) (fun c3 => ?_)
  · refine j_iconst (pc := 69) C (v := 0) d_Model_isServed_69 (by decide) ?_
    exact j_iret (pc := 70) C hr (by decide) () (by decide) [0, 1, 2] rfl (by decide) (by decide) (by decide) d_Model_isServed_70
  · refine j_iload_n (pc := 39) C d_Model_isServed_39 rfl 3 rfl ?_
    refine j_i2l (pc := 40) C (v := v.toInt64) d_Model_isServed_40 rfl ?_
    refine j_aload_n (pc := 41) C d_Model_isServed_41 rfl 1 rfl ?_
    refine j_get (pc := 42) C gf_Model_133 0 rfl rfl d_Model_isServed_42 ?_
    refine j_iload_n (pc := 45) C d_Model_isServed_45 rfl 0 rfl ?_
    refine j_iconst (pc := 46) C (v := 2) d_Model_isServed_46 (by decide) ?_
    refine j_iadd (pc := 47) C (v := nI ((112 + (7 * j)) + 2)) d_Model_isServed_47 (nI_add _ _) ?_
    refine j_iald (pc := 48) C 1 rfl (v := g48 ((112 + (7 * j)) + 2)) (vp_in_nI (by omega) (by decide)) (by rw [nI_clamp (by omega)]) d_Model_isServed_48 ?_
    refine j_i2l (pc := 49) C (v := (g48 ((112 + (7 * j)) + 2)).toInt64) d_Model_isServed_49 rfl ?_
    refine j_aload_n (pc := 50) C d_Model_isServed_50 rfl 1 rfl ?_
    refine j_get (pc := 51) C gf_Model_133 0 rfl rfl d_Model_isServed_51 ?_
    refine j_iload_n (pc := 54) C d_Model_isServed_54 rfl 0 rfl ?_
    refine j_iconst (pc := 55) C (v := 3) d_Model_isServed_55 (by decide) ?_
    refine j_iadd (pc := 56) C (v := nI ((112 + (7 * j)) + 3)) d_Model_isServed_56 (nI_add _ _) ?_
    refine j_iald (pc := 57) C 1 rfl (v := g48 ((112 + (7 * j)) + 3)) (vp_in_nI (by omega) (by decide)) (by rw [nI_clamp (by omega)]) d_Model_isServed_57 ?_
    refine j_i2l (pc := 58) C (v := (g48 ((112 + (7 * j)) + 3)).toInt64) d_Model_isServed_58 rfl ?_
    refine j_callSi (pc := 59) C (c_isIn_any l D y v.toInt64 ((g48 ((112 + (7 * j)) + 2)).toInt64) ((g48 ((112 + (7 * j)) + 3)).toInt64)) kw_Model_240 ks_Model_isIn ⟨by decide, by decide⟩ ⟨by decide, by decide⟩ (wr := [MB mo ma (nI t1) i2 i3 i4 i5 i6 i7 i8 i42 i49 i51 i53 i54 i59 i61 i64 i66 (nI t67) i76 i78, (ma 48, .inl (y 0, 224, .inl g48)), (ma 62, .inl (y 0, 63, .inl g62))]) [] [0, 1, 2] rfl rfl (by decide) (by decide) (by decide) (As := [.long v.toInt64, .long ((g48 ((112 + (7 * j)) + 2)).toInt64), .long ((g48 ((112 + (7 * j)) + 3)).toInt64)]) (rest := []) rfl (nb rfl) rfl d_Model_isServed_59 (fun r4 _ hr4 => ?_)
    have xh5 := hr4
    refine j_ws (ws' := [MB mo ma (nI t1) i2 i3 i4 i5 i6 i7 i8 i42 i49 i51 i53 i54 i59 i61 i64 i66 (nI t67) i76 i78, (ma 48, .inl (y 0, 224, .inl g48)), (ma 62, .inl (y 0, 63, .inl g62))]) rfl ?_
    refine j_if_eq (pc := 62) C (tgt := 69) d_Model_isServed_62 (by decide) (fun c6 => ?_) (fun c6 => ?_)
    · refine j_iconst (pc := 69) C (v := 0) d_Model_isServed_69 (by decide) ?_
      exact j_iret (pc := 70) C hr (by decide) () (by decide) [0, 1, 2] rfl (by decide) (by decide) (by decide) d_Model_isServed_70
    · refine j_iconst (pc := 65) C (v := 1) d_Model_isServed_65 (by decide) ?_
      refine j_goto (pc := 66) C (tgt := 70) d_Model_isServed_66 (by decide) ?_
      exact j_iret (pc := 70) C hr (by decide) () (by decide) [0, 1, 2] rfl (by decide) (by decide) (by decide) d_Model_isServed_70
theorem d_Model_need_0 : decode prog_13_method_105_code 0 = .ok (.aload_n 0, 1) := by decide +kernel
theorem d_Model_need_1 : decode prog_13_method_105_code 1 = .ok (.iload_n 1, 1) := by decide +kernel
theorem d_Model_need_2 : decode prog_13_method_105_code 2 = .ok (.invokevirtual 544, 3) := by decide +kernel
theorem kw_Model_544 : KW "NineBoardsModel" 544 ⟨"NineBoardsModel", "isThing", "(I)Z"⟩ prog_13_method_102_code 2 (some .boolean) 1 := ⟨(mt_8 (List.mem_of_getElem? (i := 24) rfl) rfl), (mt_1 (List.mem_of_getElem? (i := 16) rfl) rfl), (mt_8 (List.mem_of_getElem? (i := 27) rfl) rfl), by decide +kernel⟩
theorem kv_Model_isThing : Cond.instanceMethod ⟨"NineBoardsModel", "isThing", "(I)Z"⟩ ∈ TB ∧ Cond.selects "NineBoardsModel" ⟨"NineBoardsModel", "isThing", "(I)Z"⟩ ⟨"NineBoardsModel", "isThing", "(I)Z"⟩ ∈ TB := ⟨(mt_8 (List.mem_of_getElem? (i := 26) rfl) rfl), (ms_0 (List.mem_map.mpr ⟨(⟨"NineBoardsModel", "isThing", "(I)Z"⟩, 79), List.mem_of_getElem? (i := 124) (by decide +kernel), rfl⟩) rfl)⟩
theorem d_Model_need_5 : decode prog_13_method_105_code 5 = .ok (.ifCond .ne 5, 3) := by decide +kernel
theorem d_Model_need_8 : decode prog_13_method_105_code 8 = .ok (.iconst (-1), 1) := by decide +kernel
theorem d_Model_need_9 : decode prog_13_method_105_code 9 = .ok (.ireturn, 1) := by decide +kernel
theorem d_Model_need_10 : decode prog_13_method_105_code 10 = .ok (.iconst 0, 1) := by decide +kernel
theorem d_Model_need_11 : decode prog_13_method_105_code 11 = .ok (.istore_n 2, 1) := by decide +kernel
theorem d_Model_need_12 : decode prog_13_method_105_code 12 = .ok (.iload_n 2, 1) := by decide +kernel
theorem d_Model_need_13 : decode prog_13_method_105_code 13 = .ok (.bipush 20, 2) := by decide +kernel
theorem d_Model_need_15 : decode prog_13_method_105_code 15 = .ok (.if_icmp .gt 29, 3) := by decide +kernel
theorem d_Model_need_44 : decode prog_13_method_105_code 44 = .ok (.iconst (-1), 1) := by decide +kernel
theorem d_Model_need_45 : decode prog_13_method_105_code 45 = .ok (.ireturn, 1) := by decide +kernel
theorem d_Model_need_18 : decode prog_13_method_105_code 18 = .ok (.aload_n 0, 1) := by decide +kernel
theorem d_Model_need_19 : decode prog_13_method_105_code 19 = .ok (.iload_n 1, 1) := by decide +kernel
theorem d_Model_need_20 : decode prog_13_method_105_code 20 = .ok (.aload_n 0, 1) := by decide +kernel
theorem d_Model_need_21 : decode prog_13_method_105_code 21 = .ok (.aload_n 0, 1) := by decide +kernel
theorem d_Model_need_22 : decode prog_13_method_105_code 22 = .ok (.iload_n 1, 1) := by decide +kernel
theorem d_Model_need_23 : decode prog_13_method_105_code 23 = .ok (.invokevirtual 547, 3) := by decide +kernel
theorem kw_Model_547 : KW "NineBoardsModel" 547 ⟨"NineBoardsModel", "gateFor", "(I)I"⟩ prog_13_method_103_code 2 (some .int) 1 := ⟨(mt_8 (List.mem_of_getElem? (i := 28) rfl) rfl), (mt_1 (List.mem_of_getElem? (i := 16) rfl) rfl), (mt_8 (List.mem_of_getElem? (i := 31) rfl) rfl), by decide +kernel⟩
theorem kv_Model_gateFor : Cond.instanceMethod ⟨"NineBoardsModel", "gateFor", "(I)I"⟩ ∈ TB ∧ Cond.selects "NineBoardsModel" ⟨"NineBoardsModel", "gateFor", "(I)I"⟩ ⟨"NineBoardsModel", "gateFor", "(I)I"⟩ ∈ TB := ⟨(mt_8 (List.mem_of_getElem? (i := 30) rfl) rfl), (ms_0 (List.mem_map.mpr ⟨(⟨"NineBoardsModel", "gateFor", "(I)I"⟩, 79), List.mem_of_getElem? (i := 125) (by decide +kernel), rfl⟩) rfl)⟩
theorem d_Model_need_26 : decode prog_13_method_105_code 26 = .ok (.iload_n 2, 1) := by decide +kernel
theorem d_Model_need_27 : decode prog_13_method_105_code 27 = .ok (.invokevirtual 541, 3) := by decide +kernel
theorem d_Model_need_30 : decode prog_13_method_105_code 30 = .ok (.invokevirtual 550, 3) := by decide +kernel
theorem kw_Model_550 : KW "NineBoardsModel" 550 ⟨"NineBoardsModel", "isServed", "(II)Z"⟩ prog_13_method_104_code 4 (some .boolean) 2 := ⟨(mt_8 (List.mem_of_getElem? (i := 32) rfl) rfl), (mt_1 (List.mem_of_getElem? (i := 16) rfl) rfl), (mt_8 (List.mem_of_getElem? (i := 35) rfl) rfl), by decide +kernel⟩
theorem kv_Model_isServed : Cond.instanceMethod ⟨"NineBoardsModel", "isServed", "(II)Z"⟩ ∈ TB ∧ Cond.selects "NineBoardsModel" ⟨"NineBoardsModel", "isServed", "(II)Z"⟩ ⟨"NineBoardsModel", "isServed", "(II)Z"⟩ ∈ TB := ⟨(mt_8 (List.mem_of_getElem? (i := 34) rfl) rfl), (ms_0 (List.mem_map.mpr ⟨(⟨"NineBoardsModel", "isServed", "(II)Z"⟩, 79), List.mem_of_getElem? (i := 126) (by decide +kernel), rfl⟩) rfl)⟩
theorem d_Model_need_33 : decode prog_13_method_105_code 33 = .ok (.ifCond .eq 5, 3) := by decide +kernel
theorem d_Model_need_38 : decode prog_13_method_105_code 38 = .ok (.iinc 2 1, 3) := by decide +kernel
theorem d_Model_need_41 : decode prog_13_method_105_code 41 = .ok (.goto (-29), 3) := by decide +kernel
theorem d_Model_need_36 : decode prog_13_method_105_code 36 = .ok (.iload_n 2, 1) := by decide +kernel
theorem d_Model_need_37 : decode prog_13_method_105_code 37 = .ok (.ireturn, 1) := by decide +kernel
theorem d_Model_both_0 : decode prog_13_method_106_code 0 = .ok (.aload_n 0, 1) := by decide +kernel
theorem d_Model_both_1 : decode prog_13_method_106_code 1 = .ok (.iload_n 1, 1) := by decide +kernel
theorem d_Model_both_2 : decode prog_13_method_106_code 2 = .ok (.invokevirtual 544, 3) := by decide +kernel
theorem d_Model_both_5 : decode prog_13_method_106_code 5 = .ok (.ifCond .eq 16, 3) := by decide +kernel
theorem d_Model_both_21 : decode prog_13_method_106_code 21 = .ok (.iconst (-1), 1) := by decide +kernel
theorem d_Model_both_22 : decode prog_13_method_106_code 22 = .ok (.ireturn, 1) := by decide +kernel
theorem d_Model_both_8 : decode prog_13_method_106_code 8 = .ok (.aload_n 0, 1) := by decide +kernel
theorem d_Model_both_9 : decode prog_13_method_106_code 9 = .ok (.iload_n 2, 1) := by decide +kernel
theorem d_Model_both_10 : decode prog_13_method_106_code 10 = .ok (.invokevirtual 544, 3) := by decide +kernel
theorem d_Model_both_13 : decode prog_13_method_106_code 13 = .ok (.ifCond .eq 8, 3) := by decide +kernel
theorem d_Model_both_16 : decode prog_13_method_106_code 16 = .ok (.iload_n 1, 1) := by decide +kernel
theorem d_Model_both_17 : decode prog_13_method_106_code 17 = .ok (.iload_n 2, 1) := by decide +kernel
theorem d_Model_both_18 : decode prog_13_method_106_code 18 = .ok (.if_icmp .ne 5, 3) := by decide +kernel
theorem d_Model_both_23 : decode prog_13_method_106_code 23 = .ok (.aload_n 0, 1) := by decide +kernel
theorem d_Model_both_24 : decode prog_13_method_106_code 24 = .ok (.iload_n 1, 1) := by decide +kernel
theorem d_Model_both_25 : decode prog_13_method_106_code 25 = .ok (.invokevirtual 547, 3) := by decide +kernel
theorem d_Model_both_28 : decode prog_13_method_106_code 28 = .ok (.istore_n 3, 1) := by decide +kernel
theorem d_Model_both_29 : decode prog_13_method_106_code 29 = .ok (.aload_n 0, 1) := by decide +kernel
theorem d_Model_both_30 : decode prog_13_method_106_code 30 = .ok (.iload_n 2, 1) := by decide +kernel
theorem d_Model_both_31 : decode prog_13_method_106_code 31 = .ok (.invokevirtual 547, 3) := by decide +kernel
theorem d_Model_both_34 : decode prog_13_method_106_code 34 = .ok (.istore 4, 2) := by decide +kernel
theorem d_Model_both_36 : decode prog_13_method_106_code 36 = .ok (.iconst 0, 1) := by decide +kernel
theorem d_Model_both_37 : decode prog_13_method_106_code 37 = .ok (.istore 5, 2) := by decide +kernel
theorem d_Model_both_39 : decode prog_13_method_106_code 39 = .ok (.aload_n 0, 1) := by decide +kernel
theorem d_Model_both_40 : decode prog_13_method_106_code 40 = .ok (.invokevirtual 510, 3) := by decide +kernel
theorem d_Model_both_43 : decode prog_13_method_106_code 43 = .ok (.iconst 0, 1) := by decide +kernel
theorem d_Model_both_44 : decode prog_13_method_106_code 44 = .ok (.istore 6, 2) := by decide +kernel
theorem d_Model_both_46 : decode prog_13_method_106_code 46 = .ok (.iload 6, 2) := by decide +kernel
theorem d_Model_both_48 : decode prog_13_method_106_code 48 = .ok (.bipush 20, 2) := by decide +kernel
theorem d_Model_both_50 : decode prog_13_method_106_code 50 = .ok (.if_icmp .gt 118, 3) := by decide +kernel
theorem d_Model_both_168 : decode prog_13_method_106_code 168 = .ok (.aload_n 0, 1) := by decide +kernel
theorem d_Model_both_169 : decode prog_13_method_106_code 169 = .ok (.invokevirtual 495, 3) := by decide +kernel
theorem d_Model_both_172 : decode prog_13_method_106_code 172 = .ok (.iload 5, 2) := by decide +kernel
theorem d_Model_both_174 : decode prog_13_method_106_code 174 = .ok (.ireturn, 1) := by decide +kernel
theorem d_Model_both_53 : decode prog_13_method_106_code 53 = .ok (.iload 5, 2) := by decide +kernel
theorem d_Model_both_55 : decode prog_13_method_106_code 55 = .ok (.ifCond .ne 113, 3) := by decide +kernel
theorem d_Model_both_58 : decode prog_13_method_106_code 58 = .ok (.iconst 0, 1) := by decide +kernel
theorem d_Model_both_59 : decode prog_13_method_106_code 59 = .ok (.istore 7, 2) := by decide +kernel
theorem d_Model_both_61 : decode prog_13_method_106_code 61 = .ok (.iload 7, 2) := by decide +kernel
theorem d_Model_both_63 : decode prog_13_method_106_code 63 = .ok (.bipush 20, 2) := by decide +kernel
theorem d_Model_both_65 : decode prog_13_method_106_code 65 = .ok (.if_icmp .gt 97, 3) := by decide +kernel
theorem d_Model_both_162 : decode prog_13_method_106_code 162 = .ok (.iinc 6 1, 3) := by decide +kernel
theorem d_Model_both_165 : decode prog_13_method_106_code 165 = .ok (.goto (-119), 3) := by decide +kernel
theorem d_Model_both_68 : decode prog_13_method_106_code 68 = .ok (.iload 5, 2) := by decide +kernel
theorem d_Model_both_70 : decode prog_13_method_106_code 70 = .ok (.ifCond .ne 92, 3) := by decide +kernel
theorem d_Model_both_73 : decode prog_13_method_106_code 73 = .ok (.iload_n 3, 1) := by decide +kernel
theorem d_Model_both_74 : decode prog_13_method_106_code 74 = .ok (.iload 4, 2) := by decide +kernel
theorem d_Model_both_76 : decode prog_13_method_106_code 76 = .ok (.if_icmp .eq 13, 3) := by decide +kernel
theorem d_Model_both_89 : decode prog_13_method_106_code 89 = .ok (.iload 6, 2) := by decide +kernel
theorem d_Model_both_91 : decode prog_13_method_106_code 91 = .ok (.iload 7, 2) := by decide +kernel
theorem d_Model_both_93 : decode prog_13_method_106_code 93 = .ok (.if_icmp .eq 6, 3) := by decide +kernel
theorem d_Model_both_99 : decode prog_13_method_106_code 99 = .ok (.aload_n 0, 1) := by decide +kernel
theorem d_Model_both_100 : decode prog_13_method_106_code 100 = .ok (.invokevirtual 495, 3) := by decide +kernel
theorem d_Model_both_103 : decode prog_13_method_106_code 103 = .ok (.aload_n 0, 1) := by decide +kernel
theorem d_Model_both_104 : decode prog_13_method_106_code 104 = .ok (.iload_n 3, 1) := by decide +kernel
theorem d_Model_both_105 : decode prog_13_method_106_code 105 = .ok (.iload 6, 2) := by decide +kernel
theorem d_Model_both_107 : decode prog_13_method_106_code 107 = .ok (.invokevirtual 536, 3) := by decide +kernel
theorem d_Model_both_110 : decode prog_13_method_106_code 110 = .ok (.aload_n 0, 1) := by decide +kernel
theorem d_Model_both_111 : decode prog_13_method_106_code 111 = .ok (.iload 4, 2) := by decide +kernel
theorem d_Model_both_113 : decode prog_13_method_106_code 113 = .ok (.iload 7, 2) := by decide +kernel
theorem d_Model_both_115 : decode prog_13_method_106_code 115 = .ok (.invokevirtual 536, 3) := by decide +kernel
theorem d_Model_both_118 : decode prog_13_method_106_code 118 = .ok (.aload_n 0, 1) := by decide +kernel
theorem d_Model_both_119 : decode prog_13_method_106_code 119 = .ok (.invokevirtual 434, 3) := by decide +kernel
theorem d_Model_both_122 : decode prog_13_method_106_code 122 = .ok (.istore 8, 2) := by decide +kernel
theorem d_Model_both_124 : decode prog_13_method_106_code 124 = .ok (.aload_n 0, 1) := by decide +kernel
theorem d_Model_both_125 : decode prog_13_method_106_code 125 = .ok (.iload_n 1, 1) := by decide +kernel
theorem d_Model_both_126 : decode prog_13_method_106_code 126 = .ok (.aload_n 0, 1) := by decide +kernel
theorem d_Model_both_127 : decode prog_13_method_106_code 127 = .ok (.getfield 161, 3) := by decide +kernel
theorem d_Model_both_130 : decode prog_13_method_106_code 130 = .ok (.iload_n 3, 1) := by decide +kernel
theorem d_Model_both_131 : decode prog_13_method_106_code 131 = .ok (.iaload, 1) := by decide +kernel
theorem d_Model_both_132 : decode prog_13_method_106_code 132 = .ok (.invokevirtual 550, 3) := by decide +kernel
theorem d_Model_both_135 : decode prog_13_method_106_code 135 = .ok (.ifCond .eq 21, 3) := by decide +kernel
theorem d_Model_both_156 : decode prog_13_method_106_code 156 = .ok (.iinc 7 1, 3) := by decide +kernel
theorem d_Model_both_159 : decode prog_13_method_106_code 159 = .ok (.goto (-98), 3) := by decide +kernel
theorem d_Model_both_138 : decode prog_13_method_106_code 138 = .ok (.aload_n 0, 1) := by decide +kernel
theorem d_Model_both_139 : decode prog_13_method_106_code 139 = .ok (.iload_n 2, 1) := by decide +kernel
theorem d_Model_both_140 : decode prog_13_method_106_code 140 = .ok (.aload_n 0, 1) := by decide +kernel
theorem d_Model_both_141 : decode prog_13_method_106_code 141 = .ok (.getfield 161, 3) := by decide +kernel
theorem d_Model_both_144 : decode prog_13_method_106_code 144 = .ok (.iload 4, 2) := by decide +kernel
theorem d_Model_both_146 : decode prog_13_method_106_code 146 = .ok (.iaload, 1) := by decide +kernel
theorem d_Model_both_147 : decode prog_13_method_106_code 147 = .ok (.invokevirtual 550, 3) := by decide +kernel
theorem d_Model_both_150 : decode prog_13_method_106_code 150 = .ok (.ifCond .eq 6, 3) := by decide +kernel
theorem d_Model_both_153 : decode prog_13_method_106_code 153 = .ok (.iconst 1, 1) := by decide +kernel
theorem d_Model_both_154 : decode prog_13_method_106_code 154 = .ok (.istore 5, 2) := by decide +kernel
theorem d_Model_both_96 : decode prog_13_method_106_code 96 = .ok (.goto 60, 3) := by decide +kernel
theorem d_Model_both_79 : decode prog_13_method_106_code 79 = .ok (.aload_n 0, 1) := by decide +kernel
theorem d_Model_both_80 : decode prog_13_method_106_code 80 = .ok (.iload_n 3, 1) := by decide +kernel
theorem d_Model_both_81 : decode prog_13_method_106_code 81 = .ok (.invokevirtual 418, 3) := by decide +kernel
theorem d_Model_both_84 : decode prog_13_method_106_code 84 = .ok (.iload 4, 2) := by decide +kernel
theorem d_Model_both_86 : decode prog_13_method_106_code 86 = .ok (.if_icmp .ne 13, 3) := by decide +kernel
theorem d_Model_until_0 : decode prog_13_method_107_code 0 = .ok (.iconst (-1), 1) := by decide +kernel
theorem d_Model_until_1 : decode prog_13_method_107_code 1 = .ok (.istore_n 3, 1) := by decide +kernel
theorem d_Model_until_2 : decode prog_13_method_107_code 2 = .ok (.aload_n 0, 1) := by decide +kernel
theorem d_Model_until_3 : decode prog_13_method_107_code 3 = .ok (.invokevirtual 510, 3) := by decide +kernel
theorem d_Model_until_6 : decode prog_13_method_107_code 6 = .ok (.iconst 0, 1) := by decide +kernel
theorem d_Model_until_7 : decode prog_13_method_107_code 7 = .ok (.istore 4, 2) := by decide +kernel
theorem d_Model_until_9 : decode prog_13_method_107_code 9 = .ok (.iload 4, 2) := by decide +kernel
theorem d_Model_until_11 : decode prog_13_method_107_code 11 = .ok (.bipush 100, 2) := by decide +kernel
theorem d_Model_until_13 : decode prog_13_method_107_code 13 = .ok (.if_icmp .ge 71, 3) := by decide +kernel
theorem d_Model_until_84 : decode prog_13_method_107_code 84 = .ok (.aload_n 0, 1) := by decide +kernel
theorem d_Model_until_85 : decode prog_13_method_107_code 85 = .ok (.invokevirtual 495, 3) := by decide +kernel
theorem d_Model_until_88 : decode prog_13_method_107_code 88 = .ok (.iload_n 3, 1) := by decide +kernel
theorem d_Model_until_89 : decode prog_13_method_107_code 89 = .ok (.ireturn, 1) := by decide +kernel
theorem d_Model_until_16 : decode prog_13_method_107_code 16 = .ok (.iload_n 3, 1) := by decide +kernel
theorem d_Model_until_17 : decode prog_13_method_107_code 17 = .ok (.iconst (-1), 1) := by decide +kernel
theorem d_Model_until_18 : decode prog_13_method_107_code 18 = .ok (.if_icmp .ne 66, 3) := by decide +kernel
theorem d_Model_until_21 : decode prog_13_method_107_code 21 = .ok (.iload_n 2, 1) := by decide +kernel
theorem d_Model_until_22 : decode prog_13_method_107_code 22 = .ok (.ifCond .eq 14, 3) := by decide +kernel
theorem d_Model_until_36 : decode prog_13_method_107_code 36 = .ok (.aload_n 0, 1) := by decide +kernel
theorem d_Model_until_37 : decode prog_13_method_107_code 37 = .ok (.invokevirtual 427, 3) := by decide +kernel
theorem d_Model_until_40 : decode prog_13_method_107_code 40 = .ok (.iload_n 1, 1) := by decide +kernel
theorem d_Model_until_41 : decode prog_13_method_107_code 41 = .ok (.if_icmp .ge 13, 3) := by decide +kernel
theorem d_Model_until_54 : decode prog_13_method_107_code 54 = .ok (.aload_n 0, 1) := by decide +kernel
theorem d_Model_until_55 : decode prog_13_method_107_code 55 = .ok (.getfield 158, 3) := by decide +kernel
theorem d_Model_until_58 : decode prog_13_method_107_code 58 = .ok (.iconst 0, 1) := by decide +kernel
theorem d_Model_until_59 : decode prog_13_method_107_code 59 = .ok (.iaload, 1) := by decide +kernel
theorem d_Model_until_60 : decode prog_13_method_107_code 60 = .ok (.sipush 999, 3) := by decide +kernel
theorem d_Model_until_63 : decode prog_13_method_107_code 63 = .ok (.if_icmp .ne 10, 3) := by decide +kernel
theorem d_Model_until_73 : decode prog_13_method_107_code 73 = .ok (.aload_n 0, 1) := by decide +kernel
theorem d_Model_until_74 : decode prog_13_method_107_code 74 = .ok (.iconst 0, 1) := by decide +kernel
theorem d_Model_until_75 : decode prog_13_method_107_code 75 = .ok (.invokevirtual 488, 3) := by decide +kernel
theorem d_Model_until_78 : decode prog_13_method_107_code 78 = .ok (.iinc 4 1, 3) := by decide +kernel
theorem d_Model_until_81 : decode prog_13_method_107_code 81 = .ok (.goto (-72), 3) := by decide +kernel
theorem d_Model_until_66 : decode prog_13_method_107_code 66 = .ok (.bipush 100, 2) := by decide +kernel
theorem d_Model_until_68 : decode prog_13_method_107_code 68 = .ok (.istore 4, 2) := by decide +kernel
theorem d_Model_until_70 : decode prog_13_method_107_code 70 = .ok (.goto 8, 3) := by decide +kernel
theorem d_Model_until_44 : decode prog_13_method_107_code 44 = .ok (.aload_n 0, 1) := by decide +kernel
theorem d_Model_until_45 : decode prog_13_method_107_code 45 = .ok (.getfield 158, 3) := by decide +kernel
theorem d_Model_until_48 : decode prog_13_method_107_code 48 = .ok (.iconst 0, 1) := by decide +kernel
theorem d_Model_until_49 : decode prog_13_method_107_code 49 = .ok (.iaload, 1) := by decide +kernel
theorem d_Model_until_50 : decode prog_13_method_107_code 50 = .ok (.istore_n 3, 1) := by decide +kernel
theorem d_Model_until_51 : decode prog_13_method_107_code 51 = .ok (.goto 27, 3) := by decide +kernel
theorem d_Model_until_25 : decode prog_13_method_107_code 25 = .ok (.aload_n 0, 1) := by decide +kernel
theorem d_Model_until_26 : decode prog_13_method_107_code 26 = .ok (.invokevirtual 427, 3) := by decide +kernel
theorem d_Model_until_29 : decode prog_13_method_107_code 29 = .ok (.iload_n 1, 1) := by decide +kernel
theorem d_Model_until_30 : decode prog_13_method_107_code 30 = .ok (.if_icmp .le 24, 3) := by decide +kernel
theorem d_Model_until_33 : decode prog_13_method_107_code 33 = .ok (.goto 11, 3) := by decide +kernel
theorem d_Model_today_0 : decode prog_13_method_110_code 0 = .ok (.iload_n 2, 1) := by decide +kernel
theorem d_Model_today_1 : decode prog_13_method_110_code 1 = .ok (.i2l, 1) := by decide +kernel
theorem d_Model_today_2 : decode prog_13_method_110_code 2 = .ok (.lconst 0, 1) := by decide +kernel
theorem d_Model_today_3 : decode prog_13_method_110_code 3 = .ok (.lconst 1, 1) := by decide +kernel
theorem d_Model_today_4 : decode prog_13_method_110_code 4 = .ok (.invokestatic 240, 3) := by decide +kernel
theorem d_Model_today_7 : decode prog_13_method_110_code 7 = .ok (.ifCond .eq 27, 3) := by decide +kernel
theorem d_Model_today_34 : decode prog_13_method_110_code 34 = .ok (.iconst (-1), 1) := by decide +kernel
theorem d_Model_today_35 : decode prog_13_method_110_code 35 = .ok (.ireturn, 1) := by decide +kernel
theorem d_Model_today_10 : decode prog_13_method_110_code 10 = .ok (.aload_n 0, 1) := by decide +kernel
theorem d_Model_today_11 : decode prog_13_method_110_code 11 = .ok (.getfield 158, 3) := by decide +kernel
theorem d_Model_today_14 : decode prog_13_method_110_code 14 = .ok (.iconst 0, 1) := by decide +kernel
theorem d_Model_today_15 : decode prog_13_method_110_code 15 = .ok (.iaload, 1) := by decide +kernel
theorem d_Model_today_16 : decode prog_13_method_110_code 16 = .ok (.sipush 999, 3) := by decide +kernel
theorem d_Model_today_19 : decode prog_13_method_110_code 19 = .ok (.if_icmp .eq 15, 3) := by decide +kernel
theorem d_Model_today_22 : decode prog_13_method_110_code 22 = .ok (.iload_n 2, 1) := by decide +kernel
theorem d_Model_today_23 : decode prog_13_method_110_code 23 = .ok (.ifCond .ne 13, 3) := by decide +kernel
theorem d_Model_today_26 : decode prog_13_method_110_code 26 = .ok (.aload_n 0, 1) := by decide +kernel
theorem d_Model_today_27 : decode prog_13_method_110_code 27 = .ok (.iload_n 1, 1) := by decide +kernel
theorem d_Model_today_28 : decode prog_13_method_110_code 28 = .ok (.invokevirtual 472, 3) := by decide +kernel
theorem d_Model_today_31 : decode prog_13_method_110_code 31 = .ok (.ifCond .ne 5, 3) := by decide +kernel
theorem d_Model_today_36 : decode prog_13_method_110_code 36 = .ok (.iconst (-1), 1) := by decide +kernel
theorem d_Model_today_37 : decode prog_13_method_110_code 37 = .ok (.istore_n 3, 1) := by decide +kernel
theorem d_Model_today_38 : decode prog_13_method_110_code 38 = .ok (.iconst 0, 1) := by decide +kernel
theorem d_Model_today_39 : decode prog_13_method_110_code 39 = .ok (.istore 4, 2) := by decide +kernel
theorem d_Model_today_41 : decode prog_13_method_110_code 41 = .ok (.aload_n 0, 1) := by decide +kernel
theorem d_Model_today_42 : decode prog_13_method_110_code 42 = .ok (.invokevirtual 510, 3) := by decide +kernel
theorem d_Model_today_45 : decode prog_13_method_110_code 45 = .ok (.iconst 0, 1) := by decide +kernel
theorem d_Model_today_46 : decode prog_13_method_110_code 46 = .ok (.istore 5, 2) := by decide +kernel
theorem d_Model_today_48 : decode prog_13_method_110_code 48 = .ok (.iload 5, 2) := by decide +kernel
theorem d_Model_today_50 : decode prog_13_method_110_code 50 = .ok (.iconst 2, 1) := by decide +kernel
theorem d_Model_today_51 : decode prog_13_method_110_code 51 = .ok (.if_icmp .gt 82, 3) := by decide +kernel
theorem d_Model_today_133 : decode prog_13_method_110_code 133 = .ok (.aload_n 0, 1) := by decide +kernel
theorem d_Model_today_134 : decode prog_13_method_110_code 134 = .ok (.invokevirtual 495, 3) := by decide +kernel
theorem d_Model_today_137 : decode prog_13_method_110_code 137 = .ok (.iload_n 3, 1) := by decide +kernel
theorem d_Model_today_138 : decode prog_13_method_110_code 138 = .ok (.ireturn, 1) := by decide +kernel
theorem d_Model_today_54 : decode prog_13_method_110_code 54 = .ok (.aload_n 0, 1) := by decide +kernel
theorem d_Model_today_55 : decode prog_13_method_110_code 55 = .ok (.invokevirtual 495, 3) := by decide +kernel
theorem d_Model_today_58 : decode prog_13_method_110_code 58 = .ok (.aload_n 0, 1) := by decide +kernel
theorem d_Model_today_59 : decode prog_13_method_110_code 59 = .ok (.iconst 0, 1) := by decide +kernel
theorem d_Model_today_60 : decode prog_13_method_110_code 60 = .ok (.iload 5, 2) := by decide +kernel
theorem d_Model_today_62 : decode prog_13_method_110_code 62 = .ok (.invokevirtual 478, 3) := by decide +kernel
theorem d_Model_today_65 : decode prog_13_method_110_code 65 = .ok (.ifCond .ne 6, 3) := by decide +kernel
theorem d_Model_today_71 : decode prog_13_method_110_code 71 = .ok (.aload_n 0, 1) := by decide +kernel
theorem d_Model_today_72 : decode prog_13_method_110_code 72 = .ok (.iload 5, 2) := by decide +kernel
theorem d_Model_today_74 : decode prog_13_method_110_code 74 = .ok (.invokevirtual 485, 3) := by decide +kernel
theorem d_Model_today_77 : decode prog_13_method_110_code 77 = .ok (.aload_n 0, 1) := by decide +kernel
theorem d_Model_today_78 : decode prog_13_method_110_code 78 = .ok (.iconst 0, 1) := by decide +kernel
theorem d_Model_today_79 : decode prog_13_method_110_code 79 = .ok (.invokevirtual 488, 3) := by decide +kernel
theorem d_Model_today_82 : decode prog_13_method_110_code 82 = .ok (.iload_n 2, 1) := by decide +kernel
theorem d_Model_today_83 : decode prog_13_method_110_code 83 = .ok (.iconst 1, 1) := by decide +kernel
theorem d_Model_today_84 : decode prog_13_method_110_code 84 = .ok (.if_icmp .ne 10, 3) := by decide +kernel
theorem d_Model_today_94 : decode prog_13_method_110_code 94 = .ok (.aload_n 0, 1) := by decide +kernel
theorem d_Model_today_95 : decode prog_13_method_110_code 95 = .ok (.getfield 158, 3) := by decide +kernel
theorem d_Model_today_98 : decode prog_13_method_110_code 98 = .ok (.bipush 41, 2) := by decide +kernel
theorem d_Model_today_100 : decode prog_13_method_110_code 100 = .ok (.iload_n 1, 1) := by decide +kernel
theorem d_Model_today_101 : decode prog_13_method_110_code 101 = .ok (.iadd, 1) := by decide +kernel
theorem d_Model_today_102 : decode prog_13_method_110_code 102 = .ok (.iaload, 1) := by decide +kernel
theorem d_Model_today_103 : decode prog_13_method_110_code 103 = .ok (.istore 6, 2) := by decide +kernel
theorem d_Model_today_105 : decode prog_13_method_110_code 105 = .ok (.iload_n 3, 1) := by decide +kernel
theorem d_Model_today_106 : decode prog_13_method_110_code 106 = .ok (.iconst (-1), 1) := by decide +kernel
theorem d_Model_today_107 : decode prog_13_method_110_code 107 = .ok (.if_icmp .eq 13, 3) := by decide +kernel
theorem d_Model_today_120 : decode prog_13_method_110_code 120 = .ok (.iload 5, 2) := by decide +kernel
theorem d_Model_today_122 : decode prog_13_method_110_code 122 = .ok (.istore_n 3, 1) := by decide +kernel
theorem d_Model_today_123 : decode prog_13_method_110_code 123 = .ok (.iload 6, 2) := by decide +kernel
theorem d_Model_today_125 : decode prog_13_method_110_code 125 = .ok (.istore 4, 2) := by decide +kernel
theorem d_Model_today_127 : decode prog_13_method_110_code 127 = .ok (.iinc 5 1, 3) := by decide +kernel
theorem d_Model_today_130 : decode prog_13_method_110_code 130 = .ok (.goto (-82), 3) := by decide +kernel
theorem d_Model_today_68 : decode prog_13_method_110_code 68 = .ok (.goto 59, 3) := by decide +kernel
theorem d_Model_today_110 : decode prog_13_method_110_code 110 = .ok (.iload 6, 2) := by decide +kernel
theorem d_Model_today_112 : decode prog_13_method_110_code 112 = .ok (.iload 4, 2) := by decide +kernel
theorem d_Model_today_114 : decode prog_13_method_110_code 114 = .ok (.if_icmp .gt 6, 3) := by decide +kernel
theorem d_Model_today_117 : decode prog_13_method_110_code 117 = .ok (.goto 10, 3) := by decide +kernel
theorem d_Model_today_87 : decode prog_13_method_110_code 87 = .ok (.aload_n 0, 1) := by decide +kernel
theorem d_Model_today_88 : decode prog_13_method_110_code 88 = .ok (.invokevirtual 427, 3) := by decide +kernel
theorem d_Model_today_91 : decode prog_13_method_110_code 91 = .ok (.goto 12, 3) := by decide +kernel
theorem d_Model_steal_0 : decode prog_13_method_111_code 0 = .ok (.aload_n 0, 1) := by decide +kernel
theorem d_Model_steal_1 : decode prog_13_method_111_code 1 = .ok (.iload_n 1, 1) := by decide +kernel
theorem d_Model_steal_2 : decode prog_13_method_111_code 2 = .ok (.invokevirtual 465, 3) := by decide +kernel
theorem d_Model_steal_5 : decode prog_13_method_111_code 5 = .ok (.ifCond .eq 14, 3) := by decide +kernel
theorem d_Model_steal_19 : decode prog_13_method_111_code 19 = .ok (.iconst (-1), 1) := by decide +kernel
theorem d_Model_steal_20 : decode prog_13_method_111_code 20 = .ok (.ireturn, 1) := by decide +kernel
theorem d_Model_steal_8 : decode prog_13_method_111_code 8 = .ok (.aload_n 0, 1) := by decide +kernel
theorem d_Model_steal_9 : decode prog_13_method_111_code 9 = .ok (.iload_n 1, 1) := by decide +kernel
theorem d_Model_steal_10 : decode prog_13_method_111_code 10 = .ok (.iconst 1, 1) := by decide +kernel
theorem d_Model_steal_11 : decode prog_13_method_111_code 11 = .ok (.bipush 20, 2) := by decide +kernel
theorem d_Model_steal_13 : decode prog_13_method_111_code 13 = .ok (.invokevirtual 424, 3) := by decide +kernel
theorem d_Model_steal_16 : decode prog_13_method_111_code 16 = .ok (.ifCond .ne 5, 3) := by decide +kernel
theorem d_Model_steal_21 : decode prog_13_method_111_code 21 = .ok (.aload_n 0, 1) := by decide +kernel
theorem d_Model_steal_22 : decode prog_13_method_111_code 22 = .ok (.iload_n 1, 1) := by decide +kernel
theorem d_Model_steal_23 : decode prog_13_method_111_code 23 = .ok (.iconst (-1), 1) := by decide +kernel
theorem d_Model_steal_24 : decode prog_13_method_111_code 24 = .ok (.invokevirtual 454, 3) := by decide +kernel
theorem d_Model_steal_27 : decode prog_13_method_111_code 27 = .ok (.aload_n 0, 1) := by decide +kernel
theorem d_Model_steal_28 : decode prog_13_method_111_code 28 = .ok (.iload_n 1, 1) := by decide +kernel
theorem d_Model_steal_29 : decode prog_13_method_111_code 29 = .ok (.invokevirtual 421, 3) := by decide +kernel
theorem d_Model_steal_32 : decode prog_13_method_111_code 32 = .ok (.ireturn, 1) := by decide +kernel
theorem d_Model_areSeen_0 : decode prog_13_method_112_code 0 = .ok (.aload_n 0, 1) := by decide +kernel
theorem d_Model_areSeen_1 : decode prog_13_method_112_code 1 = .ok (.getfield 198, 3) := by decide +kernel
theorem gf_Model_198 : GF "NineBoardsModel" 198 10 1 := ⟨_, _, _, rfl, ci_Model, by decide, (mt_5 (List.mem_of_getElem? (i := 89) rfl) rfl)⟩
theorem d_Model_areSeen_4 : decode prog_13_method_112_code 4 = .ok (.istore_n 1, 1) := by decide +kernel
theorem d_Model_areSeen_5 : decode prog_13_method_112_code 5 = .ok (.aload_n 0, 1) := by decide +kernel
theorem d_Model_areSeen_6 : decode prog_13_method_112_code 6 = .ok (.iconst 0, 1) := by decide +kernel
theorem d_Model_areSeen_7 : decode prog_13_method_112_code 7 = .ok (.putfield 198, 3) := by decide +kernel
theorem pf_Model_198 : PF "NineBoardsModel" 198 10 1 (.int) false := ⟨_, _, _, ct_Model, rfl, ci_Model, by decide, (mt_5 (List.mem_of_getElem? (i := 89) rfl) rfl), cp_Model, cn_Model, rfl, by decide +kernel, (fun h => by cases h)⟩
theorem d_Model_areSeen_10 : decode prog_13_method_112_code 10 = .ok (.iload_n 1, 1) := by decide +kernel
theorem d_Model_areSeen_11 : decode prog_13_method_112_code 11 = .ok (.iconst 2, 1) := by decide +kernel
theorem d_Model_areSeen_12 : decode prog_13_method_112_code 12 = .ok (.aload_n 0, 1) := by decide +kernel
theorem d_Model_areSeen_13 : decode prog_13_method_112_code 13 = .ok (.invokevirtual 341, 3) := by decide +kernel
theorem d_Model_areSeen_16 : decode prog_13_method_112_code 16 = .ok (.imul, 1) := by decide +kernel
theorem d_Model_areSeen_17 : decode prog_13_method_112_code 17 = .ok (.if_icmp .ne 19, 3) := by decide +kernel
theorem d_Model_areSeen_36 : decode prog_13_method_112_code 36 = .ok (.iconst 0, 1) := by decide +kernel
theorem d_Model_areSeen_37 : decode prog_13_method_112_code 37 = .ok (.ireturn, 1) := by decide +kernel
theorem d_Model_areSeen_20 : decode prog_13_method_112_code 20 = .ok (.aload_n 0, 1) := by decide +kernel
theorem d_Model_areSeen_21 : decode prog_13_method_112_code 21 = .ok (.getfield 158, 3) := by decide +kernel
theorem d_Model_areSeen_24 : decode prog_13_method_112_code 24 = .ok (.iconst 0, 1) := by decide +kernel
theorem d_Model_areSeen_25 : decode prog_13_method_112_code 25 = .ok (.iaload, 1) := by decide +kernel
theorem d_Model_areSeen_26 : decode prog_13_method_112_code 26 = .ok (.sipush 999, 3) := by decide +kernel
theorem d_Model_areSeen_29 : decode prog_13_method_112_code 29 = .ok (.if_icmp .ge 7, 3) := by decide +kernel
theorem d_Model_areSeen_32 : decode prog_13_method_112_code 32 = .ok (.iconst 1, 1) := by decide +kernel
theorem d_Model_areSeen_33 : decode prog_13_method_112_code 33 = .ok (.goto 4, 3) := by decide +kernel
set_option maxHeartbeats 4000000 in
set_option maxRecDepth 100000 in
theorem c_M_areSeen (l : Launch) (D : va_G) (y : Nat → ClassId) (mo : Nat) (ma : Nat → Nat) (t1 : Nat) (i2 : Int32) (i3 : Int32) (i4 : Int32) (i5 : Int32) (i6 : Int32) (i7 : Int32) (i8 : Int32) (i42 : Int32) (i49 : Int32) (i51 : Int32) (i53 : Int32) (i54 : Int32) (i59 : Int32) (i61 : Int32) (i64 : Int32) (i66 : Int32) (t67 : Nat) (i76 : Int64) (i78 : Int32) (g43 : Nat → Int32) (g62 : Nat → Int32) (c0 : Nat) (dy : Nat) (hc0 : g43 4 = nI c0) (bc0 : c0 ≤ 9) (hD : g62 0 = nI dy) (bD : dy ≤ 999) (bt : t1 ≤ 1600) : CT l D y ⟨"NineBoardsModel", "areSeen", "()Z"⟩ prog_13_method_112_code 2 (some .boolean) ({ frames := 1, cells := 0, slots := 0, locals := 20 } : Room) [.ref mo] [MB mo ma (nI t1) i2 i3 i4 i5 i6 i7 i8 i42 i49 i51 i53 i54 i59 i61 i64 i66 (nI t67) i76 i78, (ma 43, .inl (y 0, 8, .inl g43)), (ma 62, .inl (y 0, 63, .inl g62))] (QI D [MB mo ma (nI t1) i2 i3 i4 i5 i6 i7 i8 i42 i49 i51 i53 i54 i59 i61 i64 i66 (nI t67) i76 i78, (ma 43, .inl (y 0, 8, .inl g43)), (ma 62, .inl (y 0, 63, .inl g62))] (fun (r : Int32) (u : Nat) => (r = 0 ∨ r = 1) ∧ u = 0) (fun u => [MB mo ma (nI u) i2 i3 i4 i5 i6 i7 i8 i42 i49 i51 i53 i54 i59 i61 i64 i66 (nI t67) i76 i78, (ma 43, .inl (y 0, 8, .inl g43)), (ma 62, .inl (y 0, 63, .inl g62))])) := by
  refine CT.of (by decide) (nb rfl) ?_
  intro p e s m args below meth c C hr
  refine j_lv (lv' := [(0, .ref mo)]) rfl ?_
  refine j_aload_n (pc := 0) C d_Model_areSeen_0 rfl 0 rfl ?_
  refine j_get (pc := 1) C gf_Model_198 0 rfl rfl d_Model_areSeen_1 ?_
  refine j_istore_n (pc := 4) C (lv' := [(1, .int (nI t1)), (0, .ref mo)]) d_Model_areSeen_4 rfl (by decide) rfl ?_
  refine j_aload_n (pc := 5) C d_Model_areSeen_5 rfl 1 rfl ?_
  refine j_iconst (pc := 6) C (v := 0) d_Model_areSeen_6 (by decide) ?_
  refine j_put (pc := 7) C pf_Model_198 0 (ws' := [MB mo ma 0 i2 i3 i4 i5 i6 i7 i8 i42 i49 i51 i53 i54 i59 i61 i64 i66 (nI t67) i76 i78, (ma 43, .inl (y 0, 8, .inl g43)), (ma 62, .inl (y 0, 63, .inl g62))]) rfl rfl rfl (nl rfl) rfl d_Model_areSeen_7 ?_
  refine j_iload_n (pc := 10) C d_Model_areSeen_10 rfl 0 rfl ?_
  refine j_iconst (pc := 11) C (v := 2) d_Model_areSeen_11 (by decide) ?_
  refine j_aload_n (pc := 12) C d_Model_areSeen_12 rfl 1 rfl ?_
  refine j_callVi (pc := 13) C (c_M_gateMany l D y mo ma 0 i2 i3 i4 i5 i6 i7 i8 i42 i49 i51 i53 i54 i59 i61 i64 i66 t67 i76 i78 g43 c0 hc0 bc0) kw_Model_341 kv_Model_gateMany 0 10 rfl rfl ⟨by decide, by decide⟩ ⟨by decide, by decide⟩ (wr := [(ma 62, .inl (y 0, 63, .inl g62))]) [0, 1] [2] rfl rfl (by decide) (by decide) (by decide) (As := []) (rest := [.int 2, .int (nI t1)]) rfl (nb rfl) rfl d_Model_areSeen_13 (fun r1 _ hr1 => ?_)
  obtain rfl := hr1
  refine j_ws (ws' := [(ma 62, .inl (y 0, 63, .inl g62)), MB mo ma (nI 0) i2 i3 i4 i5 i6 i7 i8 i42 i49 i51 i53 i54 i59 i61 i64 i66 (nI t67) i76 i78, (ma 43, .inl (y 0, 8, .inl g43))]) rfl ?_
  refine j_imul (pc := 16) C (v := nI (2 * c0)) d_Model_areSeen_16 (pk_mul _ _) ?_
  by_cases c2 : ¬ t1 = (2 * c0)
  · refine j_icmp_neT (pc := 17) C (tgt := 36) d_Model_areSeen_17 (by decide) (show ¬ nI t1 = nI (2 * c0) from fun e => absurd ((nI_eq (by omega) (by omega)).mp e) (by omega)) ?_
    refine j_iconst (pc := 36) C (v := 0) d_Model_areSeen_36 (by decide) ?_
    exact j_iret (pc := 37) C hr (by decide) 0 ⟨(by decide), rfl⟩ [1, 2, 0] rfl (by decide) (by decide) (by decide) d_Model_areSeen_37
  · refine j_icmp_neF (pc := 17) C (tgt := 36) d_Model_areSeen_17 (by decide) (show nI t1 = nI (2 * c0) from (nI_eq (by omega) (by omega)).mpr (by omega)) ?_
    refine j_aload_n (pc := 20) C d_Model_areSeen_20 rfl 1 rfl ?_
    refine j_get (pc := 21) C gf_Model_158 1 rfl rfl d_Model_areSeen_21 ?_
    refine j_iconst (pc := 24) C (v := 0) d_Model_areSeen_24 (by decide) ?_
    refine j_iald (pc := 25) C 0 rfl (v := nI dy) (vin (by decide)) (by exact hD) d_Model_areSeen_25 ?_
    refine j_sipush (pc := 26) C (v := 999) d_Model_areSeen_26 (by decide) ?_
    by_cases c3 : 999 ≤ dy
    · refine j_icmp_geT (pc := 29) C (tgt := 36) d_Model_areSeen_29 (by decide) (show nI 999 ≤ nI dy from nI_le (by omega) (by omega)) ?_
      refine j_iconst (pc := 36) C (v := 0) d_Model_areSeen_36 (by decide) ?_
      exact j_iret (pc := 37) C hr (by decide) 0 ⟨(by decide), rfl⟩ [1, 2, 0] rfl (by decide) (by decide) (by decide) d_Model_areSeen_37
    · refine j_icmp_geF (pc := 29) C (tgt := 36) d_Model_areSeen_29 (by decide) (show ¬ nI 999 ≤ nI dy from nI_ge (by omega) (by omega)) ?_
      refine j_iconst (pc := 32) C (v := 1) d_Model_areSeen_32 (by decide) ?_
      refine j_goto (pc := 33) C (tgt := 37) d_Model_areSeen_33 (by decide) ?_
      exact j_iret (pc := 37) C hr (by decide) 0 ⟨(by decide), rfl⟩ [1, 2, 0] rfl (by decide) (by decide) (by decide) d_Model_areSeen_37
theorem d_Model_seenAt_0 : decode prog_13_method_113_code 0 = .ok (.sipush 256, 3) := by decide +kernel
theorem d_Model_seenAt_3 : decode prog_13_method_113_code 3 = .ok (.aload_n 0, 1) := by decide +kernel
theorem d_Model_seenAt_4 : decode prog_13_method_113_code 4 = .ok (.getfield 7, 3) := by decide +kernel
theorem gf_Model_7 : GF "NineBoardsModel" 7 10 0 := ⟨_, _, _, rfl, ci_Model, by decide, (mt_5 (List.mem_of_getElem? (i := 88) rfl) rfl)⟩
theorem d_Model_seenAt_7 : decode prog_13_method_113_code 7 = .ok (.iconst 2, 1) := by decide +kernel
theorem d_Model_seenAt_8 : decode prog_13_method_113_code 8 = .ok (.iload_n 1, 1) := by decide +kernel
theorem d_Model_seenAt_9 : decode prog_13_method_113_code 9 = .ok (.imul, 1) := by decide +kernel
theorem d_Model_seenAt_10 : decode prog_13_method_113_code 10 = .ok (.iaload, 1) := by decide +kernel
theorem d_Model_seenAt_11 : decode prog_13_method_113_code 11 = .ok (.imul, 1) := by decide +kernel
theorem d_Model_seenAt_12 : decode prog_13_method_113_code 12 = .ok (.aload_n 0, 1) := by decide +kernel
theorem d_Model_seenAt_13 : decode prog_13_method_113_code 13 = .ok (.getfield 7, 3) := by decide +kernel
theorem d_Model_seenAt_16 : decode prog_13_method_113_code 16 = .ok (.iconst 2, 1) := by decide +kernel
theorem d_Model_seenAt_17 : decode prog_13_method_113_code 17 = .ok (.iload_n 1, 1) := by decide +kernel
theorem d_Model_seenAt_18 : decode prog_13_method_113_code 18 = .ok (.imul, 1) := by decide +kernel
theorem d_Model_seenAt_19 : decode prog_13_method_113_code 19 = .ok (.iconst 1, 1) := by decide +kernel
theorem d_Model_seenAt_20 : decode prog_13_method_113_code 20 = .ok (.iadd, 1) := by decide +kernel
theorem d_Model_seenAt_21 : decode prog_13_method_113_code 21 = .ok (.iaload, 1) := by decide +kernel
theorem d_Model_seenAt_22 : decode prog_13_method_113_code 22 = .ok (.iadd, 1) := by decide +kernel
theorem d_Model_seenAt_23 : decode prog_13_method_113_code 23 = .ok (.ireturn, 1) := by decide +kernel
set_option maxHeartbeats 4000000 in
set_option maxRecDepth 100000 in
theorem c_M_seenAt (l : Launch) (D : va_G) (y : Nat → ClassId) (mo : Nat) (ma : Nat → Nat) (t1 : Nat) (i2 : Int32) (i3 : Int32) (i4 : Int32) (i5 : Int32) (i6 : Int32) (i7 : Int32) (i8 : Int32) (i42 : Int32) (i49 : Int32) (i51 : Int32) (i53 : Int32) (i54 : Int32) (i59 : Int32) (i61 : Int32) (i64 : Int32) (i66 : Int32) (t67 : Nat) (i76 : Int64) (i78 : Int32) (g0 : Nat → Int32) (j : Nat) (hj : j < 9) : CT l D y ⟨"NineBoardsModel", "seenAt", "(I)I"⟩ prog_13_method_113_code 2 (some .int) ({ frames := 0, cells := 0, slots := 0, locals := 0 } : Room) [.ref mo, .int (nI j)] [MB mo ma (nI t1) i2 i3 i4 i5 i6 i7 i8 i42 i49 i51 i53 i54 i59 i61 i64 i66 (nI t67) i76 i78, (ma 0, .inl (y 0, 1600, .inl g0))] (QI D [MB mo ma (nI t1) i2 i3 i4 i5 i6 i7 i8 i42 i49 i51 i53 i54 i59 i61 i64 i66 (nI t67) i76 i78, (ma 0, .inl (y 0, 1600, .inl g0))] (fun (r : Int32) (u : Unit) => True) (fun _ => [MB mo ma (nI t1) i2 i3 i4 i5 i6 i7 i8 i42 i49 i51 i53 i54 i59 i61 i64 i66 (nI t67) i76 i78, (ma 0, .inl (y 0, 1600, .inl g0))])) := by
  refine CT.of (by decide) (nb rfl) ?_
  intro p e s m args below meth c C hr
  refine j_lv (lv' := [(0, .ref mo), (1, .int (nI j))]) rfl ?_
  refine j_sipush (pc := 0) C (v := 256) d_Model_seenAt_0 (by decide) ?_
  refine j_aload_n (pc := 3) C d_Model_seenAt_3 rfl 0 rfl ?_
  refine j_get (pc := 4) C gf_Model_7 0 rfl rfl d_Model_seenAt_4 ?_
  refine j_iconst (pc := 7) C (v := 2) d_Model_seenAt_7 (by decide) ?_
  refine j_iload_n (pc := 8) C d_Model_seenAt_8 rfl 1 rfl ?_
  refine j_imul (pc := 9) C (v := nI (2 * j)) d_Model_seenAt_9 (pk_mul _ _) ?_
  refine j_iald (pc := 10) C 1 rfl (v := g0 (2 * j)) (vp_in_nI (by omega) (by decide)) (by rw [nI_clamp (by omega)]) d_Model_seenAt_10 ?_
  refine j_imul (pc := 11) C (v := 256 * (g0 (2 * j))) d_Model_seenAt_11 rfl ?_
  refine j_aload_n (pc := 12) C d_Model_seenAt_12 rfl 0 rfl ?_
  refine j_get (pc := 13) C gf_Model_7 0 rfl rfl d_Model_seenAt_13 ?_
  refine j_iconst (pc := 16) C (v := 2) d_Model_seenAt_16 (by decide) ?_
  refine j_iload_n (pc := 17) C d_Model_seenAt_17 rfl 1 rfl ?_
  refine j_imul (pc := 18) C (v := nI (2 * j)) d_Model_seenAt_18 (pk_mul _ _) ?_
  refine j_iconst (pc := 19) C (v := 1) d_Model_seenAt_19 (by decide) ?_
  refine j_iadd (pc := 20) C (v := nI ((2 * j) + 1)) d_Model_seenAt_20 (nI_add _ _) ?_
  refine j_iald (pc := 21) C 1 rfl (v := g0 ((2 * j) + 1)) (vp_in_nI (by omega) (by decide)) (by rw [nI_clamp (by omega)]) d_Model_seenAt_21 ?_
  refine j_iadd (pc := 22) C (v := (256 * (g0 (2 * j))) + (g0 ((2 * j) + 1))) d_Model_seenAt_22 rfl ?_
  refine j_anyI (fun v1 => ?_)
  exact j_iret (pc := 23) C hr rfl () trivial [0, 1] rfl (by decide) (by decide) (by decide) d_Model_seenAt_23
theorem d_Model_isAsSeen_0 : decode prog_13_method_114_code 0 = .ok (.aload_n 0, 1) := by decide +kernel
theorem d_Model_isAsSeen_1 : decode prog_13_method_114_code 1 = .ok (.invokevirtual 434, 3) := by decide +kernel
theorem d_Model_isAsSeen_4 : decode prog_13_method_114_code 4 = .ok (.istore_n 1, 1) := by decide +kernel
theorem d_Model_isAsSeen_5 : decode prog_13_method_114_code 5 = .ok (.iconst 0, 1) := by decide +kernel
theorem d_Model_isAsSeen_6 : decode prog_13_method_114_code 6 = .ok (.istore_n 2, 1) := by decide +kernel
theorem d_Model_isAsSeen_7 : decode prog_13_method_114_code 7 = .ok (.iload_n 2, 1) := by decide +kernel
theorem d_Model_isAsSeen_8 : decode prog_13_method_114_code 8 = .ok (.aload_n 0, 1) := by decide +kernel
theorem d_Model_isAsSeen_9 : decode prog_13_method_114_code 9 = .ok (.invokevirtual 341, 3) := by decide +kernel
theorem d_Model_isAsSeen_12 : decode prog_13_method_114_code 12 = .ok (.if_icmp .ge 25, 3) := by decide +kernel
theorem d_Model_isAsSeen_37 : decode prog_13_method_114_code 37 = .ok (.iconst 1, 1) := by decide +kernel
theorem d_Model_isAsSeen_38 : decode prog_13_method_114_code 38 = .ok (.ireturn, 1) := by decide +kernel
theorem d_Model_isAsSeen_15 : decode prog_13_method_114_code 15 = .ok (.aload_n 0, 1) := by decide +kernel
theorem d_Model_isAsSeen_16 : decode prog_13_method_114_code 16 = .ok (.getfield 161, 3) := by decide +kernel
theorem d_Model_isAsSeen_19 : decode prog_13_method_114_code 19 = .ok (.iload_n 2, 1) := by decide +kernel
theorem d_Model_isAsSeen_20 : decode prog_13_method_114_code 20 = .ok (.iaload, 1) := by decide +kernel
theorem d_Model_isAsSeen_21 : decode prog_13_method_114_code 21 = .ok (.aload_n 0, 1) := by decide +kernel
theorem d_Model_isAsSeen_22 : decode prog_13_method_114_code 22 = .ok (.iload_n 2, 1) := by decide +kernel
theorem d_Model_isAsSeen_23 : decode prog_13_method_114_code 23 = .ok (.invokevirtual 558, 3) := by decide +kernel
theorem kw_Model_558 : KW "NineBoardsModel" 558 ⟨"NineBoardsModel", "seenAt", "(I)I"⟩ prog_13_method_113_code 2 (some .int) 1 := ⟨(mt_8 (List.mem_of_getElem? (i := 73) rfl) rfl), (mt_1 (List.mem_of_getElem? (i := 16) rfl) rfl), (mt_8 (List.mem_of_getElem? (i := 76) rfl) rfl), by decide +kernel⟩
theorem kv_Model_seenAt : Cond.instanceMethod ⟨"NineBoardsModel", "seenAt", "(I)I"⟩ ∈ TB ∧ Cond.selects "NineBoardsModel" ⟨"NineBoardsModel", "seenAt", "(I)I"⟩ ⟨"NineBoardsModel", "seenAt", "(I)I"⟩ ∈ TB := ⟨(mt_8 (List.mem_of_getElem? (i := 75) rfl) rfl), (ms_0 (List.mem_map.mpr ⟨(⟨"NineBoardsModel", "seenAt", "(I)I"⟩, 79), List.mem_of_getElem? (i := 130) (by decide +kernel), rfl⟩) rfl)⟩
theorem d_Model_isAsSeen_26 : decode prog_13_method_114_code 26 = .ok (.if_icmp .eq 5, 3) := by decide +kernel
theorem d_Model_isAsSeen_31 : decode prog_13_method_114_code 31 = .ok (.iinc 2 1, 3) := by decide +kernel
theorem d_Model_isAsSeen_34 : decode prog_13_method_114_code 34 = .ok (.goto (-27), 3) := by decide +kernel
theorem d_Model_isAsSeen_29 : decode prog_13_method_114_code 29 = .ok (.iconst 0, 1) := by decide +kernel
theorem d_Model_isAsSeen_30 : decode prog_13_method_114_code 30 = .ok (.ireturn, 1) := by decide +kernel
theorem d_Model_thief_0 : decode prog_13_method_115_code 0 = .ok (.aload_n 0, 1) := by decide +kernel
theorem d_Model_thief_1 : decode prog_13_method_115_code 1 = .ok (.invokevirtual 561, 3) := by decide +kernel
theorem kw_Model_561 : KW "NineBoardsModel" 561 ⟨"NineBoardsModel", "areSeen", "()Z"⟩ prog_13_method_112_code 2 (some .boolean) 0 := ⟨(mt_8 (List.mem_of_getElem? (i := 65) rfl) rfl), (mt_1 (List.mem_of_getElem? (i := 16) rfl) rfl), (mt_8 (List.mem_of_getElem? (i := 68) rfl) rfl), by decide +kernel⟩
theorem kv_Model_areSeen : Cond.instanceMethod ⟨"NineBoardsModel", "areSeen", "()Z"⟩ ∈ TB ∧ Cond.selects "NineBoardsModel" ⟨"NineBoardsModel", "areSeen", "()Z"⟩ ⟨"NineBoardsModel", "areSeen", "()Z"⟩ ∈ TB := ⟨(mt_8 (List.mem_of_getElem? (i := 67) rfl) rfl), (ms_0 (List.mem_map.mpr ⟨(⟨"NineBoardsModel", "areSeen", "()Z"⟩, 79), List.mem_of_getElem? (i := 128) (by decide +kernel), rfl⟩) rfl)⟩
theorem d_Model_thief_4 : decode prog_13_method_115_code 4 = .ok (.ifCond .ne 5, 3) := by decide +kernel
theorem d_Model_thief_9 : decode prog_13_method_115_code 9 = .ok (.aload_n 0, 1) := by decide +kernel
theorem d_Model_thief_10 : decode prog_13_method_115_code 10 = .ok (.invokevirtual 564, 3) := by decide +kernel
theorem kw_Model_564 : KW "NineBoardsModel" 564 ⟨"NineBoardsModel", "isAsSeen", "()Z"⟩ prog_13_method_114_code 3 (some .boolean) 0 := ⟨(mt_8 (List.mem_of_getElem? (i := 69) rfl) rfl), (mt_1 (List.mem_of_getElem? (i := 16) rfl) rfl), (mt_8 (List.mem_of_getElem? (i := 72) rfl) rfl), by decide +kernel⟩
theorem kv_Model_isAsSeen : Cond.instanceMethod ⟨"NineBoardsModel", "isAsSeen", "()Z"⟩ ∈ TB ∧ Cond.selects "NineBoardsModel" ⟨"NineBoardsModel", "isAsSeen", "()Z"⟩ ⟨"NineBoardsModel", "isAsSeen", "()Z"⟩ ∈ TB := ⟨(mt_8 (List.mem_of_getElem? (i := 71) rfl) rfl), (ms_0 (List.mem_map.mpr ⟨(⟨"NineBoardsModel", "isAsSeen", "()Z"⟩, 79), List.mem_of_getElem? (i := 129) (by decide +kernel), rfl⟩) rfl)⟩
theorem d_Model_thief_13 : decode prog_13_method_115_code 13 = .ok (.ifCond .eq 9, 3) := by decide +kernel
theorem d_Model_thief_22 : decode prog_13_method_115_code 22 = .ok (.iconst 0, 1) := by decide +kernel
theorem d_Model_thief_23 : decode prog_13_method_115_code 23 = .ok (.istore_n 1, 1) := by decide +kernel
theorem d_Model_thief_24 : decode prog_13_method_115_code 24 = .ok (.iconst 0, 1) := by decide +kernel
theorem d_Model_thief_25 : decode prog_13_method_115_code 25 = .ok (.istore_n 2, 1) := by decide +kernel
theorem d_Model_thief_26 : decode prog_13_method_115_code 26 = .ok (.iload_n 2, 1) := by decide +kernel
theorem d_Model_thief_27 : decode prog_13_method_115_code 27 = .ok (.aload_n 0, 1) := by decide +kernel
theorem d_Model_thief_28 : decode prog_13_method_115_code 28 = .ok (.invokevirtual 341, 3) := by decide +kernel
theorem d_Model_thief_31 : decode prog_13_method_115_code 31 = .ok (.if_icmp .ge 48, 3) := by decide +kernel
theorem d_Model_thief_79 : decode prog_13_method_115_code 79 = .ok (.iload_n 1, 1) := by decide +kernel
theorem d_Model_thief_80 : decode prog_13_method_115_code 80 = .ok (.ireturn, 1) := by decide +kernel
theorem d_Model_thief_34 : decode prog_13_method_115_code 34 = .ok (.aload_n 0, 1) := by decide +kernel
theorem d_Model_thief_35 : decode prog_13_method_115_code 35 = .ok (.iload_n 2, 1) := by decide +kernel
theorem d_Model_thief_36 : decode prog_13_method_115_code 36 = .ok (.iconst 1, 1) := by decide +kernel
theorem d_Model_thief_37 : decode prog_13_method_115_code 37 = .ok (.bipush 20, 2) := by decide +kernel
theorem d_Model_thief_39 : decode prog_13_method_115_code 39 = .ok (.invokevirtual 424, 3) := by decide +kernel
theorem d_Model_thief_42 : decode prog_13_method_115_code 42 = .ok (.ifCond .ne 6, 3) := by decide +kernel
theorem d_Model_thief_48 : decode prog_13_method_115_code 48 = .ok (.aload_n 0, 1) := by decide +kernel
theorem d_Model_thief_49 : decode prog_13_method_115_code 49 = .ok (.iload_n 2, 1) := by decide +kernel
theorem d_Model_thief_50 : decode prog_13_method_115_code 50 = .ok (.iconst (-1), 1) := by decide +kernel
theorem d_Model_thief_51 : decode prog_13_method_115_code 51 = .ok (.invokevirtual 454, 3) := by decide +kernel
theorem d_Model_thief_54 : decode prog_13_method_115_code 54 = .ok (.aload_n 0, 1) := by decide +kernel
theorem d_Model_thief_55 : decode prog_13_method_115_code 55 = .ok (.invokevirtual 564, 3) := by decide +kernel
theorem d_Model_thief_58 : decode prog_13_method_115_code 58 = .ok (.ifCond .eq 9, 3) := by decide +kernel
theorem d_Model_thief_67 : decode prog_13_method_115_code 67 = .ok (.aload_n 0, 1) := by decide +kernel
theorem d_Model_thief_68 : decode prog_13_method_115_code 68 = .ok (.iload_n 2, 1) := by decide +kernel
theorem d_Model_thief_69 : decode prog_13_method_115_code 69 = .ok (.iconst 1, 1) := by decide +kernel
theorem d_Model_thief_70 : decode prog_13_method_115_code 70 = .ok (.invokevirtual 454, 3) := by decide +kernel
theorem d_Model_thief_73 : decode prog_13_method_115_code 73 = .ok (.iinc 2 1, 3) := by decide +kernel
theorem d_Model_thief_76 : decode prog_13_method_115_code 76 = .ok (.goto (-50), 3) := by decide +kernel
theorem d_Model_thief_61 : decode prog_13_method_115_code 61 = .ok (.iload_n 1, 1) := by decide +kernel
theorem d_Model_thief_62 : decode prog_13_method_115_code 62 = .ok (.iconst 1, 1) := by decide +kernel
theorem d_Model_thief_63 : decode prog_13_method_115_code 63 = .ok (.iload_n 2, 1) := by decide +kernel
theorem d_Model_thief_64 : decode prog_13_method_115_code 64 = .ok (.ishl, 1) := by decide +kernel
theorem d_Model_thief_65 : decode prog_13_method_115_code 65 = .ok (.ior, 1) := by decide +kernel
theorem d_Model_thief_66 : decode prog_13_method_115_code 66 = .ok (.istore_n 1, 1) := by decide +kernel
theorem d_Model_thief_45 : decode prog_13_method_115_code 45 = .ok (.goto 28, 3) := by decide +kernel
theorem d_Model_thief_16 : decode prog_13_method_115_code 16 = .ok (.sipush 512, 3) := by decide +kernel
theorem d_Model_thief_19 : decode prog_13_method_115_code 19 = .ok (.goto 4, 3) := by decide +kernel
theorem d_Model_thief_7 : decode prog_13_method_115_code 7 = .ok (.iconst (-1), 1) := by decide +kernel
theorem d_Model_thief_8 : decode prog_13_method_115_code 8 = .ok (.ireturn, 1) := by decide +kernel
theorem d_Model_beaver_0 : decode prog_13_method_116_code 0 = .ok (.aload_n 0, 1) := by decide +kernel
theorem d_Model_beaver_1 : decode prog_13_method_116_code 1 = .ok (.invokevirtual 561, 3) := by decide +kernel
theorem d_Model_beaver_4 : decode prog_13_method_116_code 4 = .ok (.ifCond .ne 5, 3) := by decide +kernel
theorem d_Model_beaver_9 : decode prog_13_method_116_code 9 = .ok (.aload_n 0, 1) := by decide +kernel
theorem d_Model_beaver_10 : decode prog_13_method_116_code 10 = .ok (.invokevirtual 434, 3) := by decide +kernel
theorem d_Model_beaver_13 : decode prog_13_method_116_code 13 = .ok (.istore_n 1, 1) := by decide +kernel
theorem d_Model_beaver_14 : decode prog_13_method_116_code 14 = .ok (.iconst (-1), 1) := by decide +kernel
theorem d_Model_beaver_15 : decode prog_13_method_116_code 15 = .ok (.istore_n 2, 1) := by decide +kernel
theorem d_Model_beaver_16 : decode prog_13_method_116_code 16 = .ok (.iconst 0, 1) := by decide +kernel
theorem d_Model_beaver_17 : decode prog_13_method_116_code 17 = .ok (.istore_n 3, 1) := by decide +kernel
theorem d_Model_beaver_18 : decode prog_13_method_116_code 18 = .ok (.iload_n 3, 1) := by decide +kernel
theorem d_Model_beaver_19 : decode prog_13_method_116_code 19 = .ok (.aload_n 0, 1) := by decide +kernel
theorem d_Model_beaver_20 : decode prog_13_method_116_code 20 = .ok (.invokevirtual 341, 3) := by decide +kernel
theorem d_Model_beaver_23 : decode prog_13_method_116_code 23 = .ok (.if_icmp .ge 49, 3) := by decide +kernel
theorem d_Model_beaver_72 : decode prog_13_method_116_code 72 = .ok (.iload_n 2, 1) := by decide +kernel
theorem d_Model_beaver_73 : decode prog_13_method_116_code 73 = .ok (.ireturn, 1) := by decide +kernel
theorem d_Model_beaver_26 : decode prog_13_method_116_code 26 = .ok (.aload_n 0, 1) := by decide +kernel
theorem d_Model_beaver_27 : decode prog_13_method_116_code 27 = .ok (.iload_n 3, 1) := by decide +kernel
theorem d_Model_beaver_28 : decode prog_13_method_116_code 28 = .ok (.invokevirtual 558, 3) := by decide +kernel
theorem d_Model_beaver_31 : decode prog_13_method_116_code 31 = .ok (.aload_n 0, 1) := by decide +kernel
theorem d_Model_beaver_32 : decode prog_13_method_116_code 32 = .ok (.getfield 161, 3) := by decide +kernel
theorem d_Model_beaver_35 : decode prog_13_method_116_code 35 = .ok (.iload_n 3, 1) := by decide +kernel
theorem d_Model_beaver_36 : decode prog_13_method_116_code 36 = .ok (.iaload, 1) := by decide +kernel
theorem d_Model_beaver_37 : decode prog_13_method_116_code 37 = .ok (.if_icmp .ne 6, 3) := by decide +kernel
theorem d_Model_beaver_43 : decode prog_13_method_116_code 43 = .ok (.aload_n 0, 1) := by decide +kernel
theorem d_Model_beaver_44 : decode prog_13_method_116_code 44 = .ok (.iload_n 3, 1) := by decide +kernel
theorem d_Model_beaver_45 : decode prog_13_method_116_code 45 = .ok (.invokevirtual 558, 3) := by decide +kernel
theorem d_Model_beaver_48 : decode prog_13_method_116_code 48 = .ok (.aload_n 0, 1) := by decide +kernel
theorem d_Model_beaver_49 : decode prog_13_method_116_code 49 = .ok (.getfield 161, 3) := by decide +kernel
theorem d_Model_beaver_52 : decode prog_13_method_116_code 52 = .ok (.iload_n 3, 1) := by decide +kernel
theorem d_Model_beaver_53 : decode prog_13_method_116_code 53 = .ok (.iaload, 1) := by decide +kernel
theorem d_Model_beaver_54 : decode prog_13_method_116_code 54 = .ok (.if_icmp .gt 8, 3) := by decide +kernel
theorem d_Model_beaver_62 : decode prog_13_method_116_code 62 = .ok (.iconst (-1), 1) := by decide +kernel
theorem d_Model_beaver_63 : decode prog_13_method_116_code 63 = .ok (.ireturn, 1) := by decide +kernel
theorem d_Model_beaver_57 : decode prog_13_method_116_code 57 = .ok (.iload_n 2, 1) := by decide +kernel
theorem d_Model_beaver_58 : decode prog_13_method_116_code 58 = .ok (.iconst (-1), 1) := by decide +kernel
theorem d_Model_beaver_59 : decode prog_13_method_116_code 59 = .ok (.if_icmp .eq 5, 3) := by decide +kernel
theorem d_Model_beaver_64 : decode prog_13_method_116_code 64 = .ok (.iload_n 3, 1) := by decide +kernel
theorem d_Model_beaver_65 : decode prog_13_method_116_code 65 = .ok (.istore_n 2, 1) := by decide +kernel
theorem d_Model_beaver_66 : decode prog_13_method_116_code 66 = .ok (.iinc 3 1, 3) := by decide +kernel
theorem d_Model_beaver_69 : decode prog_13_method_116_code 69 = .ok (.goto (-51), 3) := by decide +kernel
theorem d_Model_beaver_40 : decode prog_13_method_116_code 40 = .ok (.goto 26, 3) := by decide +kernel
theorem d_Model_beaver_7 : decode prog_13_method_116_code 7 = .ok (.iconst (-1), 1) := by decide +kernel
theorem d_Model_beaver_8 : decode prog_13_method_116_code 8 = .ok (.ireturn, 1) := by decide +kernel
set_option maxHeartbeats 4000000 in
set_option maxRecDepth 100000 in
theorem c_M_beaver (l : Launch) (D : va_G) (y : Nat → ClassId) (mo : Nat) (ma : Nat → Nat) (t1 : Nat) (i2 : Int32) (i3 : Int32) (i4 : Int32) (i5 : Int32) (i6 : Int32) (i7 : Int32) (i8 : Int32) (i42 : Int32) (i49 : Int32) (i51 : Int32) (i53 : Int32) (i54 : Int32) (i59 : Int32) (i61 : Int32) (i64 : Int32) (i66 : Int32) (t67 : Nat) (i76 : Int64) (i78 : Int32) (g0 : Nat → Int32) (g43 : Nat → Int32) (g45 : Nat → Int32) (g46 : Nat → Int32) (g62 : Nat → Int32) (g63 : Nat → Int32) (c0 : Nat) (dy : Nat) (hc0 : g43 4 = nI c0) (bc0 : c0 ≤ 9) (hL : ¬ g45 7 = 0) (hS : ∀ j, j < 9 → g46 (54 + 6 * j) = 2 → ¬ g46 (54 + 6 * j + 1) = 0) (hD : g62 0 = nI dy) (bD : dy ≤ 999) (bt : t1 ≤ 1600) : CT l D y ⟨"NineBoardsModel", "beaver", "()I"⟩ prog_13_method_116_code 4 (some .int) ({ frames := 3, cells := 0, slots := 0, locals := 74 } : Room) [.ref mo] [MB mo ma (nI t1) i2 i3 i4 i5 i6 i7 i8 i42 i49 i51 i53 i54 i59 i61 i64 i66 (nI t67) i76 i78, (ma 0, .inl (y 0, 1600, .inl g0)), (ma 43, .inl (y 0, 8, .inl g43)), (ma 45, .inl (y 0, 14, .inl g45)), (ma 46, .inl (y 0, 108, .inl g46)), (ma 62, .inl (y 0, 63, .inl g62)), (ma 63, .inl (y 0, 9, .inl g63))] (QI D [MB mo ma (nI t1) i2 i3 i4 i5 i6 i7 i8 i42 i49 i51 i53 i54 i59 i61 i64 i66 (nI t67) i76 i78, (ma 0, .inl (y 0, 1600, .inl g0)), (ma 43, .inl (y 0, 8, .inl g43)), (ma 45, .inl (y 0, 14, .inl g45)), (ma 46, .inl (y 0, 108, .inl g46)), (ma 62, .inl (y 0, 63, .inl g62)), (ma 63, .inl (y 0, 9, .inl g63))] (fun (r : Int32) (u : Nat × (Nat → Int32)) => u.1 ≤ 1600 ∧ u.1 = 0) (fun u => [MB mo ma (nI u.1) i2 i3 i4 i5 i6 i7 i8 i42 i49 i51 i53 i54 i59 i61 i64 i66 (nI t67) i76 i78, (ma 0, .inl (y 0, 1600, .inl g0)), (ma 43, .inl (y 0, 8, .inl g43)), (ma 45, .inl (y 0, 14, .inl g45)), (ma 46, .inl (y 0, 108, .inl g46)), (ma 62, .inl (y 0, 63, .inl g62)), (ma 63, .inl (y 0, 9, .inl u.2))])) := by
  refine CT.of (by decide) (nb rfl) ?_
  intro p e s m args below meth c C hr
  refine j_lv (lv' := [(0, .ref mo)]) rfl ?_
  refine j_aload_n (pc := 0) C d_Model_beaver_0 rfl 0 rfl ?_
  refine j_callVi (pc := 1) C (c_M_areSeen l D y mo ma t1 i2 i3 i4 i5 i6 i7 i8 i42 i49 i51 i53 i54 i59 i61 i64 i66 t67 i76 i78 g43 g62 c0 dy hc0 bc0 hD bD bt) kw_Model_561 kv_Model_areSeen 0 10 rfl rfl ⟨by decide, by decide⟩ ⟨by decide, by decide⟩ (wr := [(ma 0, .inl (y 0, 1600, .inl g0)), (ma 45, .inl (y 0, 14, .inl g45)), (ma 46, .inl (y 0, 108, .inl g46)), (ma 63, .inl (y 0, 9, .inl g63))]) [0, 2, 5] [1, 3, 4, 6] rfl rfl (by decide +kernel) (by decide +kernel) (by decide +kernel) (As := []) (rest := []) rfl (nb rfl) rfl d_Model_beaver_1 (fun r1 u2 hr1 => ?_)
  obtain ⟨xh3, xh4⟩ := hr1
  refine j_ws (ws' := [(ma 0, .inl (y 0, 1600, .inl g0)), (ma 45, .inl (y 0, 14, .inl g45)), (ma 46, .inl (y 0, 108, .inl g46)), (ma 63, .inl (y 0, 9, .inl g63)), MB mo ma (nI u2) i2 i3 i4 i5 i6 i7 i8 i42 i49 i51 i53 i54 i59 i61 i64 i66 (nI t67) i76 i78, (ma 43, .inl (y 0, 8, .inl g43)), (ma 62, .inl (y 0, 63, .inl g62))]) rfl ?_
  refine j_if_ne (pc := 4) C (tgt := 9) d_Model_beaver_4 (by decide) (fun c5 => ?_) (fun c5 => ?_)
  · refine j_aload_n (pc := 9) C d_Model_beaver_9 rfl 0 rfl ?_
    refine j_callVi (pc := 10) C (c_M_flowsNow l D y mo ma u2 i2 i3 i4 i5 i6 i7 i8 i42 i49 i51 i53 i54 i59 i61 i64 i66 t67 i76 i78 g43 g45 g46 g62 g63 c0 hc0 bc0 hL hS) kw_Model_434 kv_Model_flowsNow 0 10 rfl rfl ⟨by decide, by decide⟩ ⟨by decide, by decide⟩ (wr := [(ma 0, .inl (y 0, 1600, .inl g0))]) [4, 5, 1, 2, 6, 3] [0] rfl rfl (by decide +kernel) (by decide +kernel) (by decide +kernel) (As := []) (rest := []) rfl (nb rfl) rfl d_Model_beaver_10 (fun r6 u7 hr6 => ?_)
    refine j_ws (ws' := [(ma 0, .inl (y 0, 1600, .inl g0)), MB mo ma (nI u2) i2 i3 i4 i5 i6 i7 i8 i42 i49 i51 i53 i54 i59 i61 i64 i66 (nI t67) i76 i78, (ma 43, .inl (y 0, 8, .inl g43)), (ma 45, .inl (y 0, 14, .inl g45)), (ma 46, .inl (y 0, 108, .inl g46)), (ma 62, .inl (y 0, 63, .inl g62)), (ma 63, .inl (y 0, 9, .inl u7))]) rfl ?_
    refine j_istore_n (pc := 13) C (lv' := [(1, .int r6), (0, .ref mo)]) d_Model_beaver_13 rfl (by decide) rfl ?_
    refine j_iconst (pc := 14) C (v := (-1)) d_Model_beaver_14 (by decide) ?_
    refine j_istore_n (pc := 15) C (lv' := [(2, .int (-1)), (1, .int r6), (0, .ref mo)]) d_Model_beaver_15 rfl (by decide) rfl ?_
    refine j_iconst (pc := 16) C (v := 0) d_Model_beaver_16 (by decide) ?_
    refine j_istore_n (pc := 17) C (lv' := [(3, .int 0), (2, .int (-1)), (1, .int r6), (0, .ref mo)]) d_Model_beaver_17 rfl (by decide) rfl ?_
    refine j_loop (α := Nat × Int32) (fun a => c0 - a.1) (fun a => (a.1 ≤ c0)) (fun a => [(ma 0, .inl (y 0, 1600, .inl g0)), MB mo ma (nI u2) i2 i3 i4 i5 i6 i7 i8 i42 i49 i51 i53 i54 i59 i61 i64 i66 (nI t67) i76 i78, (ma 43, .inl (y 0, 8, .inl g43)), (ma 45, .inl (y 0, 14, .inl g45)), (ma 46, .inl (y 0, 108, .inl g46)), (ma 62, .inl (y 0, 63, .inl g62)), (ma 63, .inl (y 0, 9, .inl u7))]) (fun a => [(3, .int (nI a.1)), (2, .int a.2), (1, .int r6), (0, .ref mo)]) (0, (-1)) rfl rfl (show 0 ≤ c0 by omega) ?_
    rintro ⟨iz, z14⟩ hP22 ih23
    have hi__ := hP22
    have hi_ : iz ≤ c0 := hi__
    refine j_ws (ws' := [(ma 0, .inl (y 0, 1600, .inl g0)), MB mo ma (nI u2) i2 i3 i4 i5 i6 i7 i8 i42 i49 i51 i53 i54 i59 i61 i64 i66 (nI t67) i76 i78, (ma 43, .inl (y 0, 8, .inl g43)), (ma 45, .inl (y 0, 14, .inl g45)), (ma 46, .inl (y 0, 108, .inl g46)), (ma 62, .inl (y 0, 63, .inl g62)), (ma 63, .inl (y 0, 9, .inl u7))]) rfl ?_
    refine j_lv (lv' := [(3, .int (nI iz)), (2, .int z14), (1, .int r6), (0, .ref mo)]) rfl ?_
    refine j_iload_n (pc := 18) C d_Model_beaver_18 rfl 0 rfl ?_
    refine j_aload_n (pc := 19) C d_Model_beaver_19 rfl 3 rfl ?_
    refine j_callVi (pc := 20) C (c_M_gateMany l D y mo ma u2 i2 i3 i4 i5 i6 i7 i8 i42 i49 i51 i53 i54 i59 i61 i64 i66 t67 i76 i78 g43 c0 hc0 bc0) kw_Model_341 kv_Model_gateMany 0 10 rfl rfl ⟨by decide, by decide⟩ ⟨by decide, by decide⟩ (wr := [(ma 0, .inl (y 0, 1600, .inl g0)), (ma 45, .inl (y 0, 14, .inl g45)), (ma 46, .inl (y 0, 108, .inl g46)), (ma 62, .inl (y 0, 63, .inl g62)), (ma 63, .inl (y 0, 9, .inl u7))]) [1, 2] [0, 3, 4, 5, 6] rfl rfl (by decide +kernel) (by decide +kernel) (by decide +kernel) (As := []) (rest := [.int (nI iz)]) rfl (nb rfl) rfl d_Model_beaver_20 (fun r24 _ hr24 => ?_)
    obtain rfl := hr24
    refine j_ws (ws' := [(ma 0, .inl (y 0, 1600, .inl g0)), (ma 45, .inl (y 0, 14, .inl g45)), (ma 46, .inl (y 0, 108, .inl g46)), (ma 62, .inl (y 0, 63, .inl g62)), (ma 63, .inl (y 0, 9, .inl u7)), MB mo ma (nI u2) i2 i3 i4 i5 i6 i7 i8 i42 i49 i51 i53 i54 i59 i61 i64 i66 (nI t67) i76 i78, (ma 43, .inl (y 0, 8, .inl g43))]) rfl ?_
    by_cases c25 : c0 ≤ iz
    · refine j_icmp_geT (pc := 23) C (tgt := 72) d_Model_beaver_23 (by decide) (show nI c0 ≤ nI iz from nI_le (by omega) (by omega)) ?_
      refine j_iload_n (pc := 72) C d_Model_beaver_72 rfl 1 rfl ?_
      exact j_iret (pc := 73) C hr rfl (u2, u7) ⟨(by omega), (by omega)⟩ [5, 0, 6, 1, 2, 3, 4] rfl (by decide) (by decide) (by decide) d_Model_beaver_73
    · refine j_icmp_geF (pc := 23) C (tgt := 72) d_Model_beaver_23 (by decide) (show ¬ nI c0 ≤ nI iz from nI_ge (by omega) (by omega)) ?_
      refine j_aload_n (pc := 26) C d_Model_beaver_26 rfl 3 rfl ?_
      refine j_iload_n (pc := 27) C d_Model_beaver_27 rfl 0 rfl ?_
      refine j_callVi (pc := 28) C (c_M_seenAt l D y mo ma u2 i2 i3 i4 i5 i6 i7 i8 i42 i49 i51 i53 i54 i59 i61 i64 i66 t67 i76 i78 g0 iz (by omega)) kw_Model_558 kv_Model_seenAt 0 10 rfl rfl ⟨by decide, by decide⟩ ⟨by decide, by decide⟩ (wr := [(ma 45, .inl (y 0, 14, .inl g45)), (ma 46, .inl (y 0, 108, .inl g46)), (ma 62, .inl (y 0, 63, .inl g62)), (ma 63, .inl (y 0, 9, .inl u7)), (ma 43, .inl (y 0, 8, .inl g43))]) [5, 0] [1, 2, 3, 4, 6] rfl rfl (by decide +kernel) (by decide +kernel) (by decide +kernel) (As := [.int (nI iz)]) (rest := []) rfl (nb rfl) rfl d_Model_beaver_28 (fun r26 _ hr26 => ?_)
      refine j_ws (ws' := [(ma 45, .inl (y 0, 14, .inl g45)), (ma 46, .inl (y 0, 108, .inl g46)), (ma 62, .inl (y 0, 63, .inl g62)), (ma 63, .inl (y 0, 9, .inl u7)), (ma 43, .inl (y 0, 8, .inl g43)), MB mo ma (nI u2) i2 i3 i4 i5 i6 i7 i8 i42 i49 i51 i53 i54 i59 i61 i64 i66 (nI t67) i76 i78, (ma 0, .inl (y 0, 1600, .inl g0))]) rfl ?_
      refine j_aload_n (pc := 31) C d_Model_beaver_31 rfl 3 rfl ?_
      refine j_get (pc := 32) C gf_Model_161 5 rfl rfl d_Model_beaver_32 ?_
      refine j_iload_n (pc := 35) C d_Model_beaver_35 rfl 0 rfl ?_
      refine j_iald (pc := 36) C 3 rfl (v := u7 iz) (vp_in_nI (by omega) (by decide)) (by rw [nI_clamp (by omega)]) d_Model_beaver_36 ?_
      refine j_icmp_ne (pc := 37) C (tgt := 43) d_Model_beaver_37 (by decide) (fun c27 => ?_) (fun c27 => ?_)
      · refine j_aload_n (pc := 43) C d_Model_beaver_43 rfl 3 rfl ?_
        refine j_iload_n (pc := 44) C d_Model_beaver_44 rfl 0 rfl ?_
        refine j_callVi (pc := 45) C (c_M_seenAt l D y mo ma u2 i2 i3 i4 i5 i6 i7 i8 i42 i49 i51 i53 i54 i59 i61 i64 i66 t67 i76 i78 g0 iz (by omega)) kw_Model_558 kv_Model_seenAt 0 10 rfl rfl ⟨by decide, by decide⟩ ⟨by decide, by decide⟩ (wr := [(ma 45, .inl (y 0, 14, .inl g45)), (ma 46, .inl (y 0, 108, .inl g46)), (ma 62, .inl (y 0, 63, .inl g62)), (ma 63, .inl (y 0, 9, .inl u7)), (ma 43, .inl (y 0, 8, .inl g43))]) [5, 6] [0, 1, 2, 3, 4] rfl rfl (by decide +kernel) (by decide +kernel) (by decide +kernel) (As := [.int (nI iz)]) (rest := []) rfl (nb rfl) rfl d_Model_beaver_45 (fun r28 _ hr28 => ?_)
        refine j_ws (ws' := [(ma 45, .inl (y 0, 14, .inl g45)), (ma 46, .inl (y 0, 108, .inl g46)), (ma 62, .inl (y 0, 63, .inl g62)), (ma 63, .inl (y 0, 9, .inl u7)), (ma 43, .inl (y 0, 8, .inl g43)), MB mo ma (nI u2) i2 i3 i4 i5 i6 i7 i8 i42 i49 i51 i53 i54 i59 i61 i64 i66 (nI t67) i76 i78, (ma 0, .inl (y 0, 1600, .inl g0))]) rfl ?_
        refine j_aload_n (pc := 48) C d_Model_beaver_48 rfl 3 rfl ?_
        refine j_get (pc := 49) C gf_Model_161 5 rfl rfl d_Model_beaver_49 ?_
        refine j_iload_n (pc := 52) C d_Model_beaver_52 rfl 0 rfl ?_
        refine j_iald (pc := 53) C 3 rfl (v := u7 iz) (vp_in_nI (by omega) (by decide)) (by rw [nI_clamp (by omega)]) d_Model_beaver_53 ?_
        refine j_icmp_gt (pc := 54) C (tgt := 62) d_Model_beaver_54 (by decide) (fun c29 => ?_) (fun c29 => ?_)
        · refine j_iconst (pc := 62) C (v := (-1)) d_Model_beaver_62 (by decide) ?_
          exact j_iret (pc := 63) C hr rfl (u2, u7) ⟨(by omega), (by omega)⟩ [5, 6, 4, 0, 1, 2, 3] rfl (by decide) (by decide) (by decide) d_Model_beaver_63
        · refine j_iload_n (pc := 57) C d_Model_beaver_57 rfl 1 rfl ?_
          refine j_iconst (pc := 58) C (v := (-1)) d_Model_beaver_58 (by decide) ?_
          refine j_icmp_eq (pc := 59) C (tgt := 64) d_Model_beaver_59 (by decide) (fun c30 => ?_) (fun c30 => ?_)
          · refine j_iload_n (pc := 64) C d_Model_beaver_64 rfl 0 rfl ?_
            refine j_istore_n (pc := 65) C (lv' := [(2, .int (nI iz)), (3, .int (nI iz)), (1, .int r6), (0, .ref mo)]) d_Model_beaver_65 rfl (by decide) rfl ?_
            refine j_iinc (pc := 66) C (v := nI (iz + 1)) (lv' := [(3, .int (nI (iz + 1))), (2, .int (nI iz)), (1, .int r6), (0, .ref mo)]) d_Model_beaver_66 1 rfl (nI_add _ _) (by decide) rfl ?_
            refine j_goto (pc := 69) C (tgt := 18) d_Model_beaver_69 (by decide) ?_
            refine j_sub (ws' := [(ma 0, .inl (y 0, 1600, .inl g0)), MB mo ma (nI u2) i2 i3 i4 i5 i6 i7 i8 i42 i49 i51 i53 i54 i59 i61 i64 i66 (nI t67) i76 i78, (ma 43, .inl (y 0, 8, .inl g43)), (ma 45, .inl (y 0, 14, .inl g45)), (ma 46, .inl (y 0, 108, .inl g46)), (ma 62, .inl (y 0, 63, .inl g62)), (ma 63, .inl (y 0, 9, .inl u7))]) [6, 5, 4, 0, 1, 2, 3] rfl (by decide +kernel) ?_
            exact ih23 ((iz + 1), nI iz) (show (iz + 1) ≤ c0 by omega) (show c0 - (iz + 1) < c0 - iz by omega)
          · refine j_iconst (pc := 62) C (v := (-1)) d_Model_beaver_62 (by decide) ?_
            exact j_iret (pc := 63) C hr rfl (u2, u7) ⟨(by omega), (by omega)⟩ [5, 6, 4, 0, 1, 2, 3] rfl (by decide) (by decide) (by decide) d_Model_beaver_63
      · refine j_goto (pc := 40) C (tgt := 66) d_Model_beaver_40 (by decide) ?_
        refine j_iinc (pc := 66) C (v := nI (iz + 1)) (lv' := [(3, .int (nI (iz + 1))), (2, .int z14), (1, .int r6), (0, .ref mo)]) d_Model_beaver_66 0 rfl (nI_add _ _) (by decide) rfl ?_
        refine j_goto (pc := 69) C (tgt := 18) d_Model_beaver_69 (by decide) ?_
        refine j_sub (ws' := [(ma 0, .inl (y 0, 1600, .inl g0)), MB mo ma (nI u2) i2 i3 i4 i5 i6 i7 i8 i42 i49 i51 i53 i54 i59 i61 i64 i66 (nI t67) i76 i78, (ma 43, .inl (y 0, 8, .inl g43)), (ma 45, .inl (y 0, 14, .inl g45)), (ma 46, .inl (y 0, 108, .inl g46)), (ma 62, .inl (y 0, 63, .inl g62)), (ma 63, .inl (y 0, 9, .inl u7))]) [6, 5, 4, 0, 1, 2, 3] rfl (by decide +kernel) ?_
        exact ih23 ((iz + 1), z14) (show (iz + 1) ≤ c0 by omega) (show c0 - (iz + 1) < c0 - iz by omega)
  · refine j_iconst (pc := 7) C (v := (-1)) d_Model_beaver_7 (by decide) ?_
    exact j_iret (pc := 8) C hr rfl (u2, g63) ⟨(by omega), (by omega)⟩ [4, 0, 5, 1, 2, 6, 3] rfl (by decide) (by decide) (by decide) d_Model_beaver_8
