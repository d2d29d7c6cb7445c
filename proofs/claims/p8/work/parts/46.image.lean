theorem d_Model_writes_0 : decode prog_13_method_120_code 0 = .ok (.aload_n 0, 1) := by decide +kernel
theorem d_Model_writes_1 : decode prog_13_method_120_code 1 = .ok (.getfield 195, 3) := by decide +kernel
theorem gf_Model_195 : GF "NineBoardsModel" 195 10 77 := ⟨_, _, _, rfl, ci_Model, by decide, (mt_5 (List.mem_of_getElem? (i := 165) rfl) rfl)⟩
theorem d_Model_writes_4 : decode prog_13_method_120_code 4 = .ok (.aload_n 0, 1) := by decide +kernel
theorem d_Model_writes_5 : decode prog_13_method_120_code 5 = .ok (.getfield 582, 3) := by decide +kernel
theorem gf_Model_582 : GF "NineBoardsModel" 582 10 78 := ⟨_, _, _, rfl, ci_Model, by decide, (mt_5 (List.mem_of_getElem? (i := 166) rfl) rfl)⟩
theorem d_Model_writes_8 : decode prog_13_method_120_code 8 = .ok (.iload_n 1, 1) := by decide +kernel
theorem d_Model_writes_9 : decode prog_13_method_120_code 9 = .ok (.iastore, 1) := by decide +kernel
theorem d_Model_writes_10 : decode prog_13_method_120_code 10 = .ok (.aload_n 0, 1) := by decide +kernel
theorem d_Model_writes_11 : decode prog_13_method_120_code 11 = .ok (.dup, 1) := by decide +kernel
theorem d_Model_writes_12 : decode prog_13_method_120_code 12 = .ok (.getfield 582, 3) := by decide +kernel
theorem d_Model_writes_15 : decode prog_13_method_120_code 15 = .ok (.iconst 1, 1) := by decide +kernel
theorem d_Model_writes_16 : decode prog_13_method_120_code 16 = .ok (.iadd, 1) := by decide +kernel
theorem d_Model_writes_17 : decode prog_13_method_120_code 17 = .ok (.putfield 582, 3) := by decide +kernel
theorem pf_Model_582 : PF "NineBoardsModel" 582 10 78 (.int) false := ⟨_, _, _, ct_Model, rfl, ci_Model, by decide, (mt_5 (List.mem_of_getElem? (i := 166) rfl) rfl), cp_Model, cn_Model, rfl, by decide +kernel, (fun h => by cases h)⟩
theorem d_Model_writes_20 : decode prog_13_method_120_code 20 = .ok (.return_, 1) := by decide +kernel
set_option maxHeartbeats 4000000 in
set_option maxRecDepth 100000 in
theorem c_M_writes (l : Launch) (D : va_G) (y : Nat → ClassId) (mo : Nat) (ma : Nat → Nat) (t1 : Nat) (i2 : Int32) (i3 : Int32) (i4 : Int32) (i5 : Int32) (i6 : Int32) (i7 : Int32) (i8 : Int32) (i42 : Int32) (i49 : Int32) (i51 : Int32) (i53 : Int32) (i54 : Int32) (i59 : Int32) (i61 : Int32) (i64 : Int32) (i66 : Int32) (t67 : Nat) (i76 : Int64) (t78 : Nat) (g77 : Nat → Int32) (v : Int32) (hp : t78 < 15) : CT l D y ⟨"NineBoardsModel", "writes", "(I)V"⟩ prog_13_method_120_code 2 none ({ frames := 0, cells := 0, slots := 0, locals := 0 } : Room) [.ref mo, .int v] [MB mo ma (nI t1) i2 i3 i4 i5 i6 i7 i8 i42 i49 i51 i53 i54 i59 i61 i64 i66 (nI t67) i76 (nI t78), (ma 77, .inl (y 0, 15, .inl g77))] (QV D [MB mo ma (nI t1) i2 i3 i4 i5 i6 i7 i8 i42 i49 i51 i53 i54 i59 i61 i64 i66 (nI t67) i76 (nI t78), (ma 77, .inl (y 0, 15, .inl g77))] (fun (u : Nat × (Nat → Int32)) => u.1 = t78 + 1) (fun u => [MB mo ma (nI t1) i2 i3 i4 i5 i6 i7 i8 i42 i49 i51 i53 i54 i59 i61 i64 i66 (nI t67) i76 (nI u.1), (ma 77, .inl (y 0, 15, .inl u.2))])) := by
  refine CT.of (by decide) (nb rfl) ?_
  intro p e s m args below meth c C hr
  refine j_lv (lv' := [(0, .ref mo), (1, .int v)]) rfl ?_
  refine j_aload_n (pc := 0) C d_Model_writes_0 rfl 0 rfl ?_
  refine j_get (pc := 1) C gf_Model_195 0 rfl rfl d_Model_writes_1 ?_
  refine j_aload_n (pc := 4) C d_Model_writes_4 rfl 0 rfl ?_
  refine j_get (pc := 5) C gf_Model_582 0 rfl rfl d_Model_writes_5 ?_
  refine j_iload_n (pc := 8) C d_Model_writes_8 rfl 1 rfl ?_
  refine j_iast (pc := 9) C 1 rfl (ws' := [MB mo ma (nI t1) i2 i3 i4 i5 i6 i7 i8 i42 i49 i51 i53 i54 i59 i61 i64 i66 (nI t67) i76 (nI t78), (ma 77, .inl (y 0, 15, .inl (upd g77 t78 v)))]) (vp_in_nI (by omega) (by decide)) (by rw [nI_clamp (by omega)]; rfl) d_Model_writes_9 ?_
  refine j_anyW (fun f1 => [MB mo ma (nI t1) i2 i3 i4 i5 i6 i7 i8 i42 i49 i51 i53 i54 i59 i61 i64 i66 (nI t67) i76 (nI t78), (ma 77, .inl (y 0, 15, .inl f1))]) (upd g77 t78 v) rfl (fun f1 => ?_)
  refine j_aload_n (pc := 10) C d_Model_writes_10 rfl 0 rfl ?_
  refine j_dup (pc := 11) C d_Model_writes_11 rfl ?_
  refine j_get (pc := 12) C gf_Model_582 0 rfl rfl d_Model_writes_12 ?_
  refine j_iconst (pc := 15) C (v := 1) d_Model_writes_15 (by decide) ?_
  refine j_iadd (pc := 16) C (v := nI (t78 + 1)) d_Model_writes_16 (nI_add _ _) ?_
  refine j_put (pc := 17) C pf_Model_582 0 (ws' := [MB mo ma (nI t1) i2 i3 i4 i5 i6 i7 i8 i42 i49 i51 i53 i54 i59 i61 i64 i66 (nI t67) i76 (nI (t78 + 1)), (ma 77, .inl (y 0, 15, .inl f1))]) rfl rfl rfl (nl rfl) rfl d_Model_writes_17 ?_
  exact j_vret (pc := 20) C hr ((t78 + 1), f1) (show t78 + 1 = t78 + 1 from rfl) [0, 1] rfl (by decide) (by decide) (by decide) d_Model_writes_20
theorem d_Model_checked_0 : decode prog_13_method_121_code 0 = .ok (.bipush 67, 2) := by decide +kernel
theorem d_Model_checked_2 : decode prog_13_method_121_code 2 = .ok (.istore_n 2, 1) := by decide +kernel
theorem d_Model_checked_3 : decode prog_13_method_121_code 3 = .ok (.iconst 0, 1) := by decide +kernel
theorem d_Model_checked_4 : decode prog_13_method_121_code 4 = .ok (.istore_n 3, 1) := by decide +kernel
theorem d_Model_checked_5 : decode prog_13_method_121_code 5 = .ok (.iload_n 3, 1) := by decide +kernel
theorem d_Model_checked_6 : decode prog_13_method_121_code 6 = .ok (.iload_n 1, 1) := by decide +kernel
theorem d_Model_checked_7 : decode prog_13_method_121_code 7 = .ok (.if_icmp .ge 21, 3) := by decide +kernel
theorem d_Model_checked_28 : decode prog_13_method_121_code 28 = .ok (.iload_n 2, 1) := by decide +kernel
theorem d_Model_checked_29 : decode prog_13_method_121_code 29 = .ok (.ireturn, 1) := by decide +kernel
theorem d_Model_checked_10 : decode prog_13_method_121_code 10 = .ok (.iconst 3, 1) := by decide +kernel
theorem d_Model_checked_11 : decode prog_13_method_121_code 11 = .ok (.iload_n 2, 1) := by decide +kernel
theorem d_Model_checked_12 : decode prog_13_method_121_code 12 = .ok (.imul, 1) := by decide +kernel
theorem d_Model_checked_13 : decode prog_13_method_121_code 13 = .ok (.aload_n 0, 1) := by decide +kernel
theorem d_Model_checked_14 : decode prog_13_method_121_code 14 = .ok (.iload_n 3, 1) := by decide +kernel
theorem d_Model_checked_15 : decode prog_13_method_121_code 15 = .ok (.iaload, 1) := by decide +kernel
theorem d_Model_checked_16 : decode prog_13_method_121_code 16 = .ok (.iadd, 1) := by decide +kernel
theorem d_Model_checked_17 : decode prog_13_method_121_code 17 = .ok (.sipush 251, 3) := by decide +kernel
theorem d_Model_checked_20 : decode prog_13_method_121_code 20 = .ok (.irem, 1) := by decide +kernel
theorem d_Model_checked_21 : decode prog_13_method_121_code 21 = .ok (.istore_n 2, 1) := by decide +kernel
theorem d_Model_checked_22 : decode prog_13_method_121_code 22 = .ok (.iinc 3 1, 3) := by decide +kernel
theorem d_Model_checked_25 : decode prog_13_method_121_code 25 = .ok (.goto (-20), 3) := by decide +kernel
set_option maxHeartbeats 4000000 in
set_option maxRecDepth 100000 in
theorem c_M_checked_octet (l : Launch) (D : va_G) (y : Nat → ClassId) (ar : Nat) (f : Nat → Int32) (N : Nat) (hN : N ≤ 15) : CT l D y ⟨"NineBoardsModel", "checked", "([II)I"⟩ prog_13_method_121_code 4 (some .int) ({ frames := 0, cells := 0, slots := 0, locals := 0 } : Room) [.ref ar, .int (nI N)] [(ar, .inl (y 0, 15, .inl f))] (QI D [(ar, .inl (y 0, 15, .inl f))] (fun (r : Int32) (u : Unit) => True) (fun _ => [(ar, .inl (y 0, 15, .inl f))])) := by
  refine CT.of (by decide) (nb rfl) ?_
  intro p e s m args below meth c C hr
  refine j_lv (lv' := [(0, .ref ar), (1, .int (nI N))]) rfl ?_
  refine j_bipush (pc := 0) C (v := 67) d_Model_checked_0 (by decide) ?_
  refine j_istore_n (pc := 2) C (lv' := [(2, .int 67), (0, .ref ar), (1, .int (nI N))]) d_Model_checked_2 rfl (by decide) rfl ?_
  refine j_iconst (pc := 3) C (v := 0) d_Model_checked_3 (by decide) ?_
  refine j_istore_n (pc := 4) C (lv' := [(3, .int 0), (2, .int 67), (0, .ref ar), (1, .int (nI N))]) d_Model_checked_4 rfl (by decide) rfl ?_
  refine j_loop (α := Nat × Int32) (fun a => N - a.1) (fun a => (a.1 ≤ N)) (fun a => [(ar, .inl (y 0, 15, .inl f))]) (fun a => [(3, .int (nI a.1)), (2, .int a.2), (0, .ref ar), (1, .int (nI N))]) (0, 67) rfl rfl (show 0 ≤ N by omega) ?_
  rintro ⟨iz, z2⟩ hP4 ih5
  have hi__ := hP4
  have hi_ : iz ≤ N := hi__
  refine j_ws (ws' := [(ar, .inl (y 0, 15, .inl f))]) rfl ?_
  refine j_lv (lv' := [(3, .int (nI iz)), (2, .int z2), (0, .ref ar), (1, .int (nI N))]) rfl ?_
  refine j_iload_n (pc := 5) C d_Model_checked_5 rfl 0 rfl ?_
  refine j_iload_n (pc := 6) C d_Model_checked_6 rfl 3 rfl ?_
  by_cases c6 : N ≤ iz
  · refine j_icmp_geT (pc := 7) C (tgt := 28) d_Model_checked_7 (by decide) (show nI N ≤ nI iz from nI_le (by omega) (by omega)) ?_
    refine j_iload_n (pc := 28) C d_Model_checked_28 rfl 1 rfl ?_
    exact j_iret (pc := 29) C hr rfl () trivial [0] rfl (by decide) (by decide) (by decide) d_Model_checked_29
  · refine j_icmp_geF (pc := 7) C (tgt := 28) d_Model_checked_7 (by decide) (show ¬ nI N ≤ nI iz from nI_ge (by omega) (by omega)) ?_
    refine j_iconst (pc := 10) C (v := 3) d_Model_checked_10 (by decide) ?_
    refine j_iload_n (pc := 11) C d_Model_checked_11 rfl 1 rfl ?_
    refine j_imul (pc := 12) C (v := 3 * z2) d_Model_checked_12 rfl ?_
    refine j_aload_n (pc := 13) C d_Model_checked_13 rfl 2 rfl ?_
    refine j_iload_n (pc := 14) C d_Model_checked_14 rfl 0 rfl ?_
    refine j_iald (pc := 15) C 0 rfl (v := f iz) (vp_in_nI (by omega) (by decide)) (by rw [nI_clamp (by omega)]) d_Model_checked_15 ?_
    refine j_iadd (pc := 16) C (v := (3 * z2) + (f iz)) d_Model_checked_16 rfl ?_
    refine j_sipush (pc := 17) C (v := 251) d_Model_checked_17 (by decide) ?_
    refine j_irem (pc := 20) C (v := ((3 * z2) + (f iz)) - ((3 * z2) + (f iz)) / 251 * 251) d_Model_checked_20 (by decide) rfl ?_
    refine j_istore_n (pc := 21) C (lv' := [(2, .int (((3 * z2) + (f iz)) - ((3 * z2) + (f iz)) / 251 * 251)), (3, .int (nI iz)), (0, .ref ar), (1, .int (nI N))]) d_Model_checked_21 rfl (by decide) rfl ?_
    refine j_iinc (pc := 22) C (v := nI (iz + 1)) (lv' := [(3, .int (nI (iz + 1))), (2, .int (((3 * z2) + (f iz)) - ((3 * z2) + (f iz)) / 251 * 251)), (0, .ref ar), (1, .int (nI N))]) d_Model_checked_22 1 rfl (nI_add _ _) (by decide) rfl ?_
    refine j_goto (pc := 25) C (tgt := 5) d_Model_checked_25 (by decide) ?_
    exact ih5 ((iz + 1), ((3 * z2) + (f iz)) - ((3 * z2) + (f iz)) / 251 * 251) (show (iz + 1) ≤ N by omega) (show N - (iz + 1) < N - iz by omega)
theorem d_Model_image_0 : decode prog_13_method_122_code 0 = .ok (.aload_n 0, 1) := by decide +kernel
theorem d_Model_image_1 : decode prog_13_method_122_code 1 = .ok (.iconst 0, 1) := by decide +kernel
theorem d_Model_image_2 : decode prog_13_method_122_code 2 = .ok (.putfield 582, 3) := by decide +kernel
theorem d_Model_image_5 : decode prog_13_method_122_code 5 = .ok (.aload_n 0, 1) := by decide +kernel
theorem d_Model_image_6 : decode prog_13_method_122_code 6 = .ok (.aload_n 0, 1) := by decide +kernel
theorem d_Model_image_7 : decode prog_13_method_122_code 7 = .ok (.getfield 158, 3) := by decide +kernel
theorem d_Model_image_10 : decode prog_13_method_122_code 10 = .ok (.iconst 0, 1) := by decide +kernel
theorem d_Model_image_11 : decode prog_13_method_122_code 11 = .ok (.iaload, 1) := by decide +kernel
theorem d_Model_image_12 : decode prog_13_method_122_code 12 = .ok (.sipush 256, 3) := by decide +kernel
theorem d_Model_image_15 : decode prog_13_method_122_code 15 = .ok (.idiv, 1) := by decide +kernel
theorem d_Model_image_16 : decode prog_13_method_122_code 16 = .ok (.invokevirtual 585, 3) := by decide +kernel
theorem kw_Model_585 : KW "NineBoardsModel" 585 ⟨"NineBoardsModel", "writes", "(I)V"⟩ prog_13_method_120_code 2 none 1 := ⟨(mt_8 (List.mem_of_getElem? (i := 103) rfl) rfl), (mt_1 (List.mem_of_getElem? (i := 16) rfl) rfl), (mt_8 (List.mem_of_getElem? (i := 106) rfl) rfl), by decide +kernel⟩
theorem kv_Model_writes : Cond.instanceMethod ⟨"NineBoardsModel", "writes", "(I)V"⟩ ∈ TB ∧ Cond.selects "NineBoardsModel" ⟨"NineBoardsModel", "writes", "(I)V"⟩ ⟨"NineBoardsModel", "writes", "(I)V"⟩ ∈ TB := ⟨(mt_8 (List.mem_of_getElem? (i := 105) rfl) rfl), (ms_0 (List.mem_map.mpr ⟨(⟨"NineBoardsModel", "writes", "(I)V"⟩, 79), List.mem_of_getElem? (i := 132) (by decide +kernel), rfl⟩) rfl)⟩
theorem d_Model_image_19 : decode prog_13_method_122_code 19 = .ok (.aload_n 0, 1) := by decide +kernel
theorem d_Model_image_20 : decode prog_13_method_122_code 20 = .ok (.aload_n 0, 1) := by decide +kernel
theorem d_Model_image_21 : decode prog_13_method_122_code 21 = .ok (.getfield 158, 3) := by decide +kernel
theorem d_Model_image_24 : decode prog_13_method_122_code 24 = .ok (.iconst 0, 1) := by decide +kernel
theorem d_Model_image_25 : decode prog_13_method_122_code 25 = .ok (.iaload, 1) := by decide +kernel
theorem d_Model_image_26 : decode prog_13_method_122_code 26 = .ok (.sipush 256, 3) := by decide +kernel
theorem d_Model_image_29 : decode prog_13_method_122_code 29 = .ok (.irem, 1) := by decide +kernel
theorem d_Model_image_30 : decode prog_13_method_122_code 30 = .ok (.invokevirtual 585, 3) := by decide +kernel
theorem d_Model_image_33 : decode prog_13_method_122_code 33 = .ok (.aload_n 0, 1) := by decide +kernel
theorem d_Model_image_34 : decode prog_13_method_122_code 34 = .ok (.aload_n 0, 1) := by decide +kernel
theorem d_Model_image_35 : decode prog_13_method_122_code 35 = .ok (.getfield 158, 3) := by decide +kernel
theorem d_Model_image_38 : decode prog_13_method_122_code 38 = .ok (.iconst 1, 1) := by decide +kernel
theorem d_Model_image_39 : decode prog_13_method_122_code 39 = .ok (.iaload, 1) := by decide +kernel
theorem d_Model_image_40 : decode prog_13_method_122_code 40 = .ok (.sipush 256, 3) := by decide +kernel
theorem d_Model_image_43 : decode prog_13_method_122_code 43 = .ok (.idiv, 1) := by decide +kernel
theorem d_Model_image_44 : decode prog_13_method_122_code 44 = .ok (.invokevirtual 585, 3) := by decide +kernel
theorem d_Model_image_47 : decode prog_13_method_122_code 47 = .ok (.aload_n 0, 1) := by decide +kernel
theorem d_Model_image_48 : decode prog_13_method_122_code 48 = .ok (.aload_n 0, 1) := by decide +kernel
theorem d_Model_image_49 : decode prog_13_method_122_code 49 = .ok (.getfield 158, 3) := by decide +kernel
theorem d_Model_image_52 : decode prog_13_method_122_code 52 = .ok (.iconst 1, 1) := by decide +kernel
theorem d_Model_image_53 : decode prog_13_method_122_code 53 = .ok (.iaload, 1) := by decide +kernel
theorem d_Model_image_54 : decode prog_13_method_122_code 54 = .ok (.sipush 256, 3) := by decide +kernel
theorem d_Model_image_57 : decode prog_13_method_122_code 57 = .ok (.irem, 1) := by decide +kernel
theorem d_Model_image_58 : decode prog_13_method_122_code 58 = .ok (.invokevirtual 585, 3) := by decide +kernel
theorem d_Model_image_61 : decode prog_13_method_122_code 61 = .ok (.aload_n 0, 1) := by decide +kernel
theorem d_Model_image_62 : decode prog_13_method_122_code 62 = .ok (.aload_n 0, 1) := by decide +kernel
theorem d_Model_image_63 : decode prog_13_method_122_code 63 = .ok (.getfield 158, 3) := by decide +kernel
theorem d_Model_image_66 : decode prog_13_method_122_code 66 = .ok (.iconst 2, 1) := by decide +kernel
theorem d_Model_image_67 : decode prog_13_method_122_code 67 = .ok (.iaload, 1) := by decide +kernel
theorem d_Model_image_68 : decode prog_13_method_122_code 68 = .ok (.invokevirtual 585, 3) := by decide +kernel
theorem d_Model_image_71 : decode prog_13_method_122_code 71 = .ok (.iconst 0, 1) := by decide +kernel
theorem d_Model_image_72 : decode prog_13_method_122_code 72 = .ok (.istore_n 1, 1) := by decide +kernel
theorem d_Model_image_73 : decode prog_13_method_122_code 73 = .ok (.iload_n 1, 1) := by decide +kernel
theorem d_Model_image_74 : decode prog_13_method_122_code 74 = .ok (.aload_n 0, 1) := by decide +kernel
theorem d_Model_image_75 : decode prog_13_method_122_code 75 = .ok (.invokevirtual 341, 3) := by decide +kernel
theorem d_Model_image_78 : decode prog_13_method_122_code 78 = .ok (.if_icmp .ge 18, 3) := by decide +kernel
theorem d_Model_image_96 : decode prog_13_method_122_code 96 = .ok (.aload_n 0, 1) := by decide +kernel
theorem d_Model_image_97 : decode prog_13_method_122_code 97 = .ok (.aload_n 0, 1) := by decide +kernel
theorem d_Model_image_98 : decode prog_13_method_122_code 98 = .ok (.getfield 195, 3) := by decide +kernel
theorem d_Model_image_101 : decode prog_13_method_122_code 101 = .ok (.aload_n 0, 1) := by decide +kernel
theorem d_Model_image_102 : decode prog_13_method_122_code 102 = .ok (.getfield 582, 3) := by decide +kernel
theorem d_Model_image_105 : decode prog_13_method_122_code 105 = .ok (.invokestatic 588, 3) := by decide +kernel
theorem kw_Model_588 : KW "NineBoardsModel" 588 ⟨"NineBoardsModel", "checked", "([II)I"⟩ prog_13_method_121_code 4 (some .int) 2 := ⟨(mt_8 (List.mem_of_getElem? (i := 107) rfl) rfl), (mt_1 (List.mem_of_getElem? (i := 16) rfl) rfl), (mt_8 (List.mem_of_getElem? (i := 109) rfl) rfl), by decide +kernel⟩
theorem ks_Model_checked : Cond.static ⟨"NineBoardsModel", "checked", "([II)I"⟩ ∈ TB := (mt_8 (List.mem_of_getElem? (i := 108) rfl) rfl)
theorem d_Model_image_108 : decode prog_13_method_122_code 108 = .ok (.invokevirtual 585, 3) := by decide +kernel
theorem d_Model_image_111 : decode prog_13_method_122_code 111 = .ok (.aload_n 0, 1) := by decide +kernel
theorem d_Model_image_112 : decode prog_13_method_122_code 112 = .ok (.getfield 582, 3) := by decide +kernel
theorem d_Model_image_115 : decode prog_13_method_122_code 115 = .ok (.ireturn, 1) := by decide +kernel
theorem d_Model_image_81 : decode prog_13_method_122_code 81 = .ok (.aload_n 0, 1) := by decide +kernel
theorem d_Model_image_82 : decode prog_13_method_122_code 82 = .ok (.aload_n 0, 1) := by decide +kernel
theorem d_Model_image_83 : decode prog_13_method_122_code 83 = .ok (.iload_n 1, 1) := by decide +kernel
theorem d_Model_image_84 : decode prog_13_method_122_code 84 = .ok (.invokevirtual 421, 3) := by decide +kernel
theorem d_Model_image_87 : decode prog_13_method_122_code 87 = .ok (.invokevirtual 585, 3) := by decide +kernel
theorem d_Model_image_90 : decode prog_13_method_122_code 90 = .ok (.iinc 1 1, 3) := by decide +kernel
theorem d_Model_image_93 : decode prog_13_method_122_code 93 = .ok (.goto (-20), 3) := by decide +kernel
theorem d_Model_octet_0 : decode prog_13_method_123_code 0 = .ok (.iload_n 1, 1) := by decide +kernel
theorem d_Model_octet_1 : decode prog_13_method_123_code 1 = .ok (.ifCond .lt 20, 3) := by decide +kernel
theorem d_Model_octet_21 : decode prog_13_method_123_code 21 = .ok (.iconst (-1), 1) := by decide +kernel
theorem d_Model_octet_22 : decode prog_13_method_123_code 22 = .ok (.ireturn, 1) := by decide +kernel
theorem d_Model_octet_4 : decode prog_13_method_123_code 4 = .ok (.iload_n 1, 1) := by decide +kernel
theorem d_Model_octet_5 : decode prog_13_method_123_code 5 = .ok (.aload_n 0, 1) := by decide +kernel
theorem d_Model_octet_6 : decode prog_13_method_123_code 6 = .ok (.getfield 582, 3) := by decide +kernel
theorem d_Model_octet_9 : decode prog_13_method_123_code 9 = .ok (.if_icmp .ge 12, 3) := by decide +kernel
theorem d_Model_octet_12 : decode prog_13_method_123_code 12 = .ok (.aload_n 0, 1) := by decide +kernel
theorem d_Model_octet_13 : decode prog_13_method_123_code 13 = .ok (.getfield 195, 3) := by decide +kernel
theorem d_Model_octet_16 : decode prog_13_method_123_code 16 = .ok (.iload_n 1, 1) := by decide +kernel
theorem d_Model_octet_17 : decode prog_13_method_123_code 17 = .ok (.iaload, 1) := by decide +kernel
theorem d_Model_octet_18 : decode prog_13_method_123_code 18 = .ok (.goto 4, 3) := by decide +kernel
set_option maxHeartbeats 4000000 in
set_option maxRecDepth 100000 in
theorem c_M_octet (l : Launch) (D : va_G) (y : Nat → ClassId) (mo : Nat) (ma : Nat → Nat) (t1 : Nat) (i2 : Int32) (i3 : Int32) (i4 : Int32) (i5 : Int32) (i6 : Int32) (i7 : Int32) (i8 : Int32) (i42 : Int32) (i49 : Int32) (i51 : Int32) (i53 : Int32) (i54 : Int32) (i59 : Int32) (i61 : Int32) (i64 : Int32) (i66 : Int32) (t67 : Nat) (i76 : Int64) (t78 : Nat) (g77 : Nat → Int32) (v : Int32) (hp : t78 ≤ 15) : CT l D y ⟨"NineBoardsModel", "octet", "(I)I"⟩ prog_13_method_123_code 2 (some .int) ({ frames := 0, cells := 0, slots := 0, locals := 0 } : Room) [.ref mo, .int v] [MB mo ma (nI t1) i2 i3 i4 i5 i6 i7 i8 i42 i49 i51 i53 i54 i59 i61 i64 i66 (nI t67) i76 (nI t78), (ma 77, .inl (y 0, 15, .inl g77))] (QI D [MB mo ma (nI t1) i2 i3 i4 i5 i6 i7 i8 i42 i49 i51 i53 i54 i59 i61 i64 i66 (nI t67) i76 (nI t78), (ma 77, .inl (y 0, 15, .inl g77))] (fun (r : Int32) (u : Unit) => True) (fun _ => [MB mo ma (nI t1) i2 i3 i4 i5 i6 i7 i8 i42 i49 i51 i53 i54 i59 i61 i64 i66 (nI t67) i76 (nI t78), (ma 77, .inl (y 0, 15, .inl g77))])) := by
  refine CT.of (by decide) (nb rfl) ?_
  intro p e s m args below meth c C hr
  refine j_lv (lv' := [(0, .ref mo), (1, .int v)]) rfl ?_
  refine j_iload_n (pc := 0) C d_Model_octet_0 rfl 1 rfl ?_
  refine j_if_lt (pc := 1) C (tgt := 21) d_Model_octet_1 (by decide) (fun c1 => ?_) (fun c1 => ?_)
  · refine j_iconst (pc := 21) C (v := (-1)) d_Model_octet_21 (by decide) ?_
    exact j_iret (pc := 22) C hr rfl () trivial [0, 1] rfl (by decide) (by decide) (by decide) d_Model_octet_22
  · refine j_iload_n (pc := 4) C d_Model_octet_4 rfl 1 rfl ?_
    refine j_aload_n (pc := 5) C d_Model_octet_5 rfl 0 rfl ?_
    refine j_get (pc := 6) C gf_Model_582 0 rfl rfl d_Model_octet_6 ?_
    refine j_icmp_ge (pc := 9) C (tgt := 21) d_Model_octet_9 (by decide) (fun c2 => ?_) (fun c2 => ?_)
    · refine j_iconst (pc := 21) C (v := (-1)) d_Model_octet_21 (by decide) ?_
      exact j_iret (pc := 22) C hr rfl () trivial [0, 1] rfl (by decide) (by decide) (by decide) d_Model_octet_22
    · obtain ⟨jz, hjz, hje⟩ := nI_lt2 c1 c2 (by omega)
      subst hje
      refine j_aload_n (pc := 12) C d_Model_octet_12 rfl 0 rfl ?_
      refine j_get (pc := 13) C gf_Model_195 0 rfl rfl d_Model_octet_13 ?_
      refine j_iload_n (pc := 16) C d_Model_octet_16 rfl 1 rfl ?_
      refine j_iald (pc := 17) C 1 rfl (v := g77 jz) (vp_in_nI (by omega) (by decide)) (by rw [nI_clamp (by omega)]) d_Model_octet_17 ?_
      refine j_goto (pc := 18) C (tgt := 22) d_Model_octet_18 (by decide) ?_
      exact j_iret (pc := 22) C hr rfl () trivial [0, 1] rfl (by decide) (by decide) (by decide) d_Model_octet_22
theorem d_Model_isTold_0 : decode prog_13_method_124_code 0 = .ok (.iload_n 1, 1) := by decide +kernel
theorem d_Model_isTold_1 : decode prog_13_method_124_code 1 = .ok (.bipush 6, 2) := by decide +kernel
theorem d_Model_isTold_3 : decode prog_13_method_124_code 3 = .ok (.aload_n 0, 1) := by decide +kernel
theorem d_Model_isTold_4 : decode prog_13_method_124_code 4 = .ok (.invokevirtual 341, 3) := by decide +kernel
theorem d_Model_isTold_7 : decode prog_13_method_124_code 7 = .ok (.iadd, 1) := by decide +kernel
theorem d_Model_isTold_8 : decode prog_13_method_124_code 8 = .ok (.if_icmp .ne 24, 3) := by decide +kernel
theorem d_Model_isTold_32 : decode prog_13_method_124_code 32 = .ok (.iconst 0, 1) := by decide +kernel
theorem d_Model_isTold_33 : decode prog_13_method_124_code 33 = .ok (.ireturn, 1) := by decide +kernel
theorem d_Model_isTold_11 : decode prog_13_method_124_code 11 = .ok (.aload_n 0, 1) := by decide +kernel
theorem d_Model_isTold_12 : decode prog_13_method_124_code 12 = .ok (.getfield 7, 3) := by decide +kernel
theorem d_Model_isTold_15 : decode prog_13_method_124_code 15 = .ok (.iload_n 1, 1) := by decide +kernel
theorem d_Model_isTold_16 : decode prog_13_method_124_code 16 = .ok (.iconst 1, 1) := by decide +kernel
theorem d_Model_isTold_17 : decode prog_13_method_124_code 17 = .ok (.isub, 1) := by decide +kernel
theorem d_Model_isTold_18 : decode prog_13_method_124_code 18 = .ok (.iaload, 1) := by decide +kernel
theorem d_Model_isTold_19 : decode prog_13_method_124_code 19 = .ok (.aload_n 0, 1) := by decide +kernel
theorem d_Model_isTold_20 : decode prog_13_method_124_code 20 = .ok (.getfield 7, 3) := by decide +kernel
theorem d_Model_isTold_23 : decode prog_13_method_124_code 23 = .ok (.iload_n 1, 1) := by decide +kernel
theorem d_Model_isTold_24 : decode prog_13_method_124_code 24 = .ok (.iconst 1, 1) := by decide +kernel
theorem d_Model_isTold_25 : decode prog_13_method_124_code 25 = .ok (.isub, 1) := by decide +kernel
theorem d_Model_isTold_26 : decode prog_13_method_124_code 26 = .ok (.invokestatic 588, 3) := by decide +kernel
theorem d_Model_isTold_29 : decode prog_13_method_124_code 29 = .ok (.if_icmp .eq 5, 3) := by decide +kernel
theorem d_Model_isTold_34 : decode prog_13_method_124_code 34 = .ok (.sipush 256, 3) := by decide +kernel
theorem d_Model_isTold_37 : decode prog_13_method_124_code 37 = .ok (.aload_n 0, 1) := by decide +kernel
theorem d_Model_isTold_38 : decode prog_13_method_124_code 38 = .ok (.getfield 7, 3) := by decide +kernel
theorem d_Model_isTold_41 : decode prog_13_method_124_code 41 = .ok (.iconst 0, 1) := by decide +kernel
theorem d_Model_isTold_42 : decode prog_13_method_124_code 42 = .ok (.iaload, 1) := by decide +kernel
theorem d_Model_isTold_43 : decode prog_13_method_124_code 43 = .ok (.imul, 1) := by decide +kernel
theorem d_Model_isTold_44 : decode prog_13_method_124_code 44 = .ok (.aload_n 0, 1) := by decide +kernel
theorem d_Model_isTold_45 : decode prog_13_method_124_code 45 = .ok (.getfield 7, 3) := by decide +kernel
theorem d_Model_isTold_48 : decode prog_13_method_124_code 48 = .ok (.iconst 1, 1) := by decide +kernel
theorem d_Model_isTold_49 : decode prog_13_method_124_code 49 = .ok (.iaload, 1) := by decide +kernel
theorem d_Model_isTold_50 : decode prog_13_method_124_code 50 = .ok (.iadd, 1) := by decide +kernel
theorem d_Model_isTold_51 : decode prog_13_method_124_code 51 = .ok (.sipush 999, 3) := by decide +kernel
theorem d_Model_isTold_54 : decode prog_13_method_124_code 54 = .ok (.if_icmp .gt 40, 3) := by decide +kernel
theorem d_Model_isTold_94 : decode prog_13_method_124_code 94 = .ok (.iconst 0, 1) := by decide +kernel
theorem d_Model_isTold_95 : decode prog_13_method_124_code 95 = .ok (.ireturn, 1) := by decide +kernel
theorem d_Model_isTold_57 : decode prog_13_method_124_code 57 = .ok (.sipush 256, 3) := by decide +kernel
theorem d_Model_isTold_60 : decode prog_13_method_124_code 60 = .ok (.aload_n 0, 1) := by decide +kernel
theorem d_Model_isTold_61 : decode prog_13_method_124_code 61 = .ok (.getfield 7, 3) := by decide +kernel
theorem d_Model_isTold_64 : decode prog_13_method_124_code 64 = .ok (.iconst 2, 1) := by decide +kernel
theorem d_Model_isTold_65 : decode prog_13_method_124_code 65 = .ok (.iaload, 1) := by decide +kernel
theorem d_Model_isTold_66 : decode prog_13_method_124_code 66 = .ok (.imul, 1) := by decide +kernel
theorem d_Model_isTold_67 : decode prog_13_method_124_code 67 = .ok (.aload_n 0, 1) := by decide +kernel
theorem d_Model_isTold_68 : decode prog_13_method_124_code 68 = .ok (.getfield 7, 3) := by decide +kernel
theorem d_Model_isTold_71 : decode prog_13_method_124_code 71 = .ok (.iconst 3, 1) := by decide +kernel
theorem d_Model_isTold_72 : decode prog_13_method_124_code 72 = .ok (.iaload, 1) := by decide +kernel
theorem d_Model_isTold_73 : decode prog_13_method_124_code 73 = .ok (.iadd, 1) := by decide +kernel
theorem d_Model_isTold_74 : decode prog_13_method_124_code 74 = .ok (.aload_n 0, 1) := by decide +kernel
theorem d_Model_isTold_75 : decode prog_13_method_124_code 75 = .ok (.getfield 124, 3) := by decide +kernel
theorem d_Model_isTold_78 : decode prog_13_method_124_code 78 = .ok (.bipush 8, 2) := by decide +kernel
theorem d_Model_isTold_80 : decode prog_13_method_124_code 80 = .ok (.iaload, 1) := by decide +kernel
theorem d_Model_isTold_81 : decode prog_13_method_124_code 81 = .ok (.if_icmp .gt 13, 3) := by decide +kernel
theorem d_Model_isTold_84 : decode prog_13_method_124_code 84 = .ok (.aload_n 0, 1) := by decide +kernel
theorem d_Model_isTold_85 : decode prog_13_method_124_code 85 = .ok (.getfield 7, 3) := by decide +kernel
theorem d_Model_isTold_88 : decode prog_13_method_124_code 88 = .ok (.iconst 4, 1) := by decide +kernel
theorem d_Model_isTold_89 : decode prog_13_method_124_code 89 = .ok (.iaload, 1) := by decide +kernel
theorem d_Model_isTold_90 : decode prog_13_method_124_code 90 = .ok (.iconst 2, 1) := by decide +kernel
theorem d_Model_isTold_91 : decode prog_13_method_124_code 91 = .ok (.if_icmp .le 5, 3) := by decide +kernel
theorem d_Model_isTold_96 : decode prog_13_method_124_code 96 = .ok (.iconst 0, 1) := by decide +kernel
theorem d_Model_isTold_97 : decode prog_13_method_124_code 97 = .ok (.istore_n 2, 1) := by decide +kernel
theorem d_Model_isTold_98 : decode prog_13_method_124_code 98 = .ok (.iload_n 2, 1) := by decide +kernel
theorem d_Model_isTold_99 : decode prog_13_method_124_code 99 = .ok (.aload_n 0, 1) := by decide +kernel
theorem d_Model_isTold_100 : decode prog_13_method_124_code 100 = .ok (.invokevirtual 341, 3) := by decide +kernel
theorem d_Model_isTold_103 : decode prog_13_method_124_code 103 = .ok (.if_icmp .ge 24, 3) := by decide +kernel
theorem d_Model_isTold_127 : decode prog_13_method_124_code 127 = .ok (.iconst 1, 1) := by decide +kernel
theorem d_Model_isTold_128 : decode prog_13_method_124_code 128 = .ok (.ireturn, 1) := by decide +kernel
theorem d_Model_isTold_106 : decode prog_13_method_124_code 106 = .ok (.aload_n 0, 1) := by decide +kernel
theorem d_Model_isTold_107 : decode prog_13_method_124_code 107 = .ok (.getfield 7, 3) := by decide +kernel
theorem d_Model_isTold_110 : decode prog_13_method_124_code 110 = .ok (.iconst 5, 1) := by decide +kernel
theorem d_Model_isTold_111 : decode prog_13_method_124_code 111 = .ok (.iload_n 2, 1) := by decide +kernel
theorem d_Model_isTold_112 : decode prog_13_method_124_code 112 = .ok (.iadd, 1) := by decide +kernel
theorem d_Model_isTold_113 : decode prog_13_method_124_code 113 = .ok (.iaload, 1) := by decide +kernel
theorem d_Model_isTold_114 : decode prog_13_method_124_code 114 = .ok (.bipush 20, 2) := by decide +kernel
theorem d_Model_isTold_116 : decode prog_13_method_124_code 116 = .ok (.if_icmp .le 5, 3) := by decide +kernel
theorem d_Model_isTold_121 : decode prog_13_method_124_code 121 = .ok (.iinc 2 1, 3) := by decide +kernel
theorem d_Model_isTold_124 : decode prog_13_method_124_code 124 = .ok (.goto (-26), 3) := by decide +kernel
theorem d_Model_isTold_119 : decode prog_13_method_124_code 119 = .ok (.iconst 0, 1) := by decide +kernel
theorem d_Model_isTold_120 : decode prog_13_method_124_code 120 = .ok (.ireturn, 1) := by decide +kernel
theorem d_Model_on_0 : decode prog_13_method_125_code 0 = .ok (.aload_n 0, 1) := by decide +kernel
theorem d_Model_on_1 : decode prog_13_method_125_code 1 = .ok (.getfield 198, 3) := by decide +kernel
theorem d_Model_on_4 : decode prog_13_method_125_code 4 = .ok (.istore_n 1, 1) := by decide +kernel
theorem d_Model_on_5 : decode prog_13_method_125_code 5 = .ok (.aload_n 0, 1) := by decide +kernel
theorem d_Model_on_6 : decode prog_13_method_125_code 6 = .ok (.iconst 0, 1) := by decide +kernel
theorem d_Model_on_7 : decode prog_13_method_125_code 7 = .ok (.putfield 198, 3) := by decide +kernel
theorem d_Model_on_10 : decode prog_13_method_125_code 10 = .ok (.aload_n 0, 1) := by decide +kernel
theorem d_Model_on_11 : decode prog_13_method_125_code 11 = .ok (.iload_n 1, 1) := by decide +kernel
theorem d_Model_on_12 : decode prog_13_method_125_code 12 = .ok (.invokevirtual 592, 3) := by decide +kernel
theorem kw_Model_592 : KW "NineBoardsModel" 592 ⟨"NineBoardsModel", "isTold", "(I)Z"⟩ prog_13_method_124_code 3 (some .boolean) 1 := ⟨(mt_8 (List.mem_of_getElem? (i := 118) rfl) rfl), (mt_1 (List.mem_of_getElem? (i := 16) rfl) rfl), (mt_8 (List.mem_of_getElem? (i := 121) rfl) rfl), by decide +kernel⟩
theorem kv_Model_isTold : Cond.instanceMethod ⟨"NineBoardsModel", "isTold", "(I)Z"⟩ ∈ TB ∧ Cond.selects "NineBoardsModel" ⟨"NineBoardsModel", "isTold", "(I)Z"⟩ ⟨"NineBoardsModel", "isTold", "(I)Z"⟩ ∈ TB := ⟨(mt_8 (List.mem_of_getElem? (i := 120) rfl) rfl), (ms_0 (List.mem_map.mpr ⟨(⟨"NineBoardsModel", "isTold", "(I)Z"⟩, 79), List.mem_of_getElem? (i := 133) (by decide +kernel), rfl⟩) rfl)⟩
theorem d_Model_on_15 : decode prog_13_method_125_code 15 = .ok (.ifCond .ne 5, 3) := by decide +kernel
theorem d_Model_on_20 : decode prog_13_method_125_code 20 = .ok (.aload_n 0, 1) := by decide +kernel
theorem d_Model_on_21 : decode prog_13_method_125_code 21 = .ok (.invokevirtual 338, 3) := by decide +kernel
theorem kw_Model_338 : KW "NineBoardsModel" 338 ⟨"NineBoardsModel", "nothing", "()V"⟩ prog_13_method_53_code 2 none 0 := ⟨(mt_7 (List.mem_of_getElem? (i := 23) rfl) rfl), (mt_1 (List.mem_of_getElem? (i := 16) rfl) rfl), (mt_7 (List.mem_of_getElem? (i := 26) rfl) rfl), by decide +kernel⟩
theorem kv_Model_nothing : Cond.instanceMethod ⟨"NineBoardsModel", "nothing", "()V"⟩ ∈ TB ∧ Cond.selects "NineBoardsModel" ⟨"NineBoardsModel", "nothing", "()V"⟩ ⟨"NineBoardsModel", "nothing", "()V"⟩ ∈ TB := ⟨(mt_7 (List.mem_of_getElem? (i := 25) rfl) rfl), (ms_0 (List.mem_map.mpr ⟨(⟨"NineBoardsModel", "nothing", "()V"⟩, 79), List.mem_of_getElem? (i := 87) (by decide +kernel), rfl⟩) rfl)⟩
theorem d_Model_on_24 : decode prog_13_method_125_code 24 = .ok (.aload_n 0, 1) := by decide +kernel
theorem d_Model_on_25 : decode prog_13_method_125_code 25 = .ok (.getfield 158, 3) := by decide +kernel
theorem d_Model_on_28 : decode prog_13_method_125_code 28 = .ok (.iconst 0, 1) := by decide +kernel
theorem d_Model_on_29 : decode prog_13_method_125_code 29 = .ok (.sipush 256, 3) := by decide +kernel
theorem d_Model_on_32 : decode prog_13_method_125_code 32 = .ok (.aload_n 0, 1) := by decide +kernel
theorem d_Model_on_33 : decode prog_13_method_125_code 33 = .ok (.getfield 7, 3) := by decide +kernel
theorem d_Model_on_36 : decode prog_13_method_125_code 36 = .ok (.iconst 0, 1) := by decide +kernel
theorem d_Model_on_37 : decode prog_13_method_125_code 37 = .ok (.iaload, 1) := by decide +kernel
theorem d_Model_on_38 : decode prog_13_method_125_code 38 = .ok (.imul, 1) := by decide +kernel
theorem d_Model_on_39 : decode prog_13_method_125_code 39 = .ok (.aload_n 0, 1) := by decide +kernel
theorem d_Model_on_40 : decode prog_13_method_125_code 40 = .ok (.getfield 7, 3) := by decide +kernel
theorem d_Model_on_43 : decode prog_13_method_125_code 43 = .ok (.iconst 1, 1) := by decide +kernel
theorem d_Model_on_44 : decode prog_13_method_125_code 44 = .ok (.iaload, 1) := by decide +kernel
theorem d_Model_on_45 : decode prog_13_method_125_code 45 = .ok (.iadd, 1) := by decide +kernel
theorem d_Model_on_46 : decode prog_13_method_125_code 46 = .ok (.iastore, 1) := by decide +kernel
theorem d_Model_on_47 : decode prog_13_method_125_code 47 = .ok (.aload_n 0, 1) := by decide +kernel
theorem d_Model_on_48 : decode prog_13_method_125_code 48 = .ok (.getfield 158, 3) := by decide +kernel
theorem d_Model_on_51 : decode prog_13_method_125_code 51 = .ok (.iconst 1, 1) := by decide +kernel
theorem d_Model_on_52 : decode prog_13_method_125_code 52 = .ok (.sipush 256, 3) := by decide +kernel
theorem d_Model_on_55 : decode prog_13_method_125_code 55 = .ok (.aload_n 0, 1) := by decide +kernel
theorem d_Model_on_56 : decode prog_13_method_125_code 56 = .ok (.getfield 7, 3) := by decide +kernel
theorem d_Model_on_59 : decode prog_13_method_125_code 59 = .ok (.iconst 2, 1) := by decide +kernel
theorem d_Model_on_60 : decode prog_13_method_125_code 60 = .ok (.iaload, 1) := by decide +kernel
theorem d_Model_on_61 : decode prog_13_method_125_code 61 = .ok (.imul, 1) := by decide +kernel
theorem d_Model_on_62 : decode prog_13_method_125_code 62 = .ok (.aload_n 0, 1) := by decide +kernel
theorem d_Model_on_63 : decode prog_13_method_125_code 63 = .ok (.getfield 7, 3) := by decide +kernel
theorem d_Model_on_66 : decode prog_13_method_125_code 66 = .ok (.iconst 3, 1) := by decide +kernel
theorem d_Model_on_67 : decode prog_13_method_125_code 67 = .ok (.iaload, 1) := by decide +kernel
theorem d_Model_on_68 : decode prog_13_method_125_code 68 = .ok (.iadd, 1) := by decide +kernel
theorem d_Model_on_69 : decode prog_13_method_125_code 69 = .ok (.iastore, 1) := by decide +kernel
theorem d_Model_on_70 : decode prog_13_method_125_code 70 = .ok (.aload_n 0, 1) := by decide +kernel
theorem d_Model_on_71 : decode prog_13_method_125_code 71 = .ok (.getfield 158, 3) := by decide +kernel
theorem d_Model_on_74 : decode prog_13_method_125_code 74 = .ok (.bipush 30, 2) := by decide +kernel
theorem d_Model_on_76 : decode prog_13_method_125_code 76 = .ok (.aload_n 0, 1) := by decide +kernel
theorem d_Model_on_77 : decode prog_13_method_125_code 77 = .ok (.getfield 158, 3) := by decide +kernel
theorem d_Model_on_80 : decode prog_13_method_125_code 80 = .ok (.iconst 1, 1) := by decide +kernel
theorem d_Model_on_81 : decode prog_13_method_125_code 81 = .ok (.iaload, 1) := by decide +kernel
theorem d_Model_on_82 : decode prog_13_method_125_code 82 = .ok (.iastore, 1) := by decide +kernel
theorem d_Model_on_83 : decode prog_13_method_125_code 83 = .ok (.aload_n 0, 1) := by decide +kernel
theorem d_Model_on_84 : decode prog_13_method_125_code 84 = .ok (.getfield 158, 3) := by decide +kernel
theorem d_Model_on_87 : decode prog_13_method_125_code 87 = .ok (.iconst 2, 1) := by decide +kernel
theorem d_Model_on_88 : decode prog_13_method_125_code 88 = .ok (.aload_n 0, 1) := by decide +kernel
theorem d_Model_on_89 : decode prog_13_method_125_code 89 = .ok (.getfield 7, 3) := by decide +kernel
theorem d_Model_on_92 : decode prog_13_method_125_code 92 = .ok (.iconst 4, 1) := by decide +kernel
theorem d_Model_on_93 : decode prog_13_method_125_code 93 = .ok (.iaload, 1) := by decide +kernel
theorem d_Model_on_94 : decode prog_13_method_125_code 94 = .ok (.iastore, 1) := by decide +kernel
theorem d_Model_on_95 : decode prog_13_method_125_code 95 = .ok (.iconst 0, 1) := by decide +kernel
theorem d_Model_on_96 : decode prog_13_method_125_code 96 = .ok (.istore_n 2, 1) := by decide +kernel
theorem d_Model_on_97 : decode prog_13_method_125_code 97 = .ok (.iload_n 2, 1) := by decide +kernel
theorem d_Model_on_98 : decode prog_13_method_125_code 98 = .ok (.aload_n 0, 1) := by decide +kernel
theorem d_Model_on_99 : decode prog_13_method_125_code 99 = .ok (.invokevirtual 341, 3) := by decide +kernel
theorem d_Model_on_102 : decode prog_13_method_125_code 102 = .ok (.if_icmp .ge 25, 3) := by decide +kernel
theorem d_Model_on_127 : decode prog_13_method_125_code 127 = .ok (.iconst 1, 1) := by decide +kernel
theorem d_Model_on_128 : decode prog_13_method_125_code 128 = .ok (.ireturn, 1) := by decide +kernel
theorem d_Model_on_105 : decode prog_13_method_125_code 105 = .ok (.aload_n 0, 1) := by decide +kernel
theorem d_Model_on_106 : decode prog_13_method_125_code 106 = .ok (.getfield 158, 3) := by decide +kernel
theorem d_Model_on_109 : decode prog_13_method_125_code 109 = .ok (.iconst 3, 1) := by decide +kernel
theorem d_Model_on_110 : decode prog_13_method_125_code 110 = .ok (.iload_n 2, 1) := by decide +kernel
theorem d_Model_on_111 : decode prog_13_method_125_code 111 = .ok (.iadd, 1) := by decide +kernel
theorem d_Model_on_112 : decode prog_13_method_125_code 112 = .ok (.aload_n 0, 1) := by decide +kernel
theorem d_Model_on_113 : decode prog_13_method_125_code 113 = .ok (.getfield 7, 3) := by decide +kernel
theorem d_Model_on_116 : decode prog_13_method_125_code 116 = .ok (.iconst 5, 1) := by decide +kernel
theorem d_Model_on_117 : decode prog_13_method_125_code 117 = .ok (.iload_n 2, 1) := by decide +kernel
theorem d_Model_on_118 : decode prog_13_method_125_code 118 = .ok (.iadd, 1) := by decide +kernel
theorem d_Model_on_119 : decode prog_13_method_125_code 119 = .ok (.iaload, 1) := by decide +kernel
theorem d_Model_on_120 : decode prog_13_method_125_code 120 = .ok (.iastore, 1) := by decide +kernel
theorem d_Model_on_121 : decode prog_13_method_125_code 121 = .ok (.iinc 2 1, 3) := by decide +kernel
theorem d_Model_on_124 : decode prog_13_method_125_code 124 = .ok (.goto (-27), 3) := by decide +kernel
theorem d_Model_on_18 : decode prog_13_method_125_code 18 = .ok (.iconst 0, 1) := by decide +kernel
theorem d_Model_on_19 : decode prog_13_method_125_code 19 = .ok (.ireturn, 1) := by decide +kernel
theorem d_Model_feed_0 : decode prog_13_method_3_code 0 = .ok (.aload_n 0, 1) := by decide +kernel
theorem d_Model_feed_1 : decode prog_13_method_3_code 1 = .ok (.getfield 198, 3) := by decide +kernel
theorem d_Model_feed_4 : decode prog_13_method_3_code 4 = .ok (.bipush 20, 2) := by decide +kernel
theorem d_Model_feed_6 : decode prog_13_method_3_code 6 = .ok (.iadd, 1) := by decide +kernel
theorem d_Model_feed_7 : decode prog_13_method_3_code 7 = .ok (.sipush 1600, 3) := by decide +kernel
theorem d_Model_feed_10 : decode prog_13_method_3_code 10 = .ok (.if_icmp .le 5, 3) := by decide +kernel
theorem d_Model_feed_15 : decode prog_13_method_3_code 15 = .ok (.iconst 0, 1) := by decide +kernel
theorem d_Model_feed_16 : decode prog_13_method_3_code 16 = .ok (.istore 6, 2) := by decide +kernel
theorem d_Model_feed_18 : decode prog_13_method_3_code 18 = .ok (.iload 6, 2) := by decide +kernel
theorem d_Model_feed_20 : decode prog_13_method_3_code 20 = .ok (.bipush 20, 2) := by decide +kernel
theorem d_Model_feed_22 : decode prog_13_method_3_code 22 = .ok (.if_icmp .ge 92, 3) := by decide +kernel
theorem d_Model_feed_114 : decode prog_13_method_3_code 114 = .ok (.aload_n 0, 1) := by decide +kernel
theorem d_Model_feed_115 : decode prog_13_method_3_code 115 = .ok (.getfield 198, 3) := by decide +kernel
theorem d_Model_feed_118 : decode prog_13_method_3_code 118 = .ok (.ireturn, 1) := by decide +kernel
theorem d_Model_feed_25 : decode prog_13_method_3_code 25 = .ok (.iload 6, 2) := by decide +kernel
theorem d_Model_feed_27 : decode prog_13_method_3_code 27 = .ok (.iconst 4, 1) := by decide +kernel
theorem d_Model_feed_28 : decode prog_13_method_3_code 28 = .ok (.if_icmp .ge 7, 3) := by decide +kernel
theorem d_Model_feed_35 : decode prog_13_method_3_code 35 = .ok (.iload 6, 2) := by decide +kernel
theorem d_Model_feed_37 : decode prog_13_method_3_code 37 = .ok (.bipush 8, 2) := by decide +kernel
theorem d_Model_feed_39 : decode prog_13_method_3_code 39 = .ok (.if_icmp .ge 7, 3) := by decide +kernel
theorem d_Model_feed_46 : decode prog_13_method_3_code 46 = .ok (.iload 6, 2) := by decide +kernel
theorem d_Model_feed_48 : decode prog_13_method_3_code 48 = .ok (.bipush 12, 2) := by decide +kernel
theorem d_Model_feed_50 : decode prog_13_method_3_code 50 = .ok (.if_icmp .ge 7, 3) := by decide +kernel
theorem d_Model_feed_57 : decode prog_13_method_3_code 57 = .ok (.iload 6, 2) := by decide +kernel
theorem d_Model_feed_59 : decode prog_13_method_3_code 59 = .ok (.bipush 16, 2) := by decide +kernel
theorem d_Model_feed_61 : decode prog_13_method_3_code 61 = .ok (.if_icmp .ge 8, 3) := by decide +kernel
theorem d_Model_feed_69 : decode prog_13_method_3_code 69 = .ok (.iload 5, 2) := by decide +kernel
theorem d_Model_feed_71 : decode prog_13_method_3_code 71 = .ok (.istore 7, 2) := by decide +kernel
theorem d_Model_feed_73 : decode prog_13_method_3_code 73 = .ok (.aload_n 0, 1) := by decide +kernel
theorem d_Model_feed_74 : decode prog_13_method_3_code 74 = .ok (.getfield 7, 3) := by decide +kernel
theorem d_Model_feed_77 : decode prog_13_method_3_code 77 = .ok (.aload_n 0, 1) := by decide +kernel
theorem d_Model_feed_78 : decode prog_13_method_3_code 78 = .ok (.getfield 198, 3) := by decide +kernel
theorem d_Model_feed_81 : decode prog_13_method_3_code 81 = .ok (.iload 7, 2) := by decide +kernel
theorem d_Model_feed_83 : decode prog_13_method_3_code 83 = .ok (.bipush 8, 2) := by decide +kernel
theorem d_Model_feed_85 : decode prog_13_method_3_code 85 = .ok (.iconst 3, 1) := by decide +kernel
theorem d_Model_feed_86 : decode prog_13_method_3_code 86 = .ok (.iload 6, 2) := by decide +kernel
theorem d_Model_feed_88 : decode prog_13_method_3_code 88 = .ok (.iconst 4, 1) := by decide +kernel
theorem d_Model_feed_89 : decode prog_13_method_3_code 89 = .ok (.irem, 1) := by decide +kernel
theorem d_Model_feed_90 : decode prog_13_method_3_code 90 = .ok (.isub, 1) := by decide +kernel
theorem d_Model_feed_91 : decode prog_13_method_3_code 91 = .ok (.imul, 1) := by decide +kernel
theorem d_Model_feed_92 : decode prog_13_method_3_code 92 = .ok (.ishr, 1) := by decide +kernel
theorem d_Model_feed_93 : decode prog_13_method_3_code 93 = .ok (.sipush 255, 3) := by decide +kernel
theorem d_Model_feed_96 : decode prog_13_method_3_code 96 = .ok (.iand, 1) := by decide +kernel
theorem d_Model_feed_97 : decode prog_13_method_3_code 97 = .ok (.iastore, 1) := by decide +kernel
theorem d_Model_feed_98 : decode prog_13_method_3_code 98 = .ok (.aload_n 0, 1) := by decide +kernel
theorem d_Model_feed_99 : decode prog_13_method_3_code 99 = .ok (.dup, 1) := by decide +kernel
theorem d_Model_feed_100 : decode prog_13_method_3_code 100 = .ok (.getfield 198, 3) := by decide +kernel
theorem d_Model_feed_103 : decode prog_13_method_3_code 103 = .ok (.iconst 1, 1) := by decide +kernel
theorem d_Model_feed_104 : decode prog_13_method_3_code 104 = .ok (.iadd, 1) := by decide +kernel
theorem d_Model_feed_105 : decode prog_13_method_3_code 105 = .ok (.putfield 198, 3) := by decide +kernel
theorem d_Model_feed_108 : decode prog_13_method_3_code 108 = .ok (.iinc 6 1, 3) := by decide +kernel
theorem d_Model_feed_111 : decode prog_13_method_3_code 111 = .ok (.goto (-93), 3) := by decide +kernel
theorem d_Model_feed_64 : decode prog_13_method_3_code 64 = .ok (.iload 4, 2) := by decide +kernel
theorem d_Model_feed_66 : decode prog_13_method_3_code 66 = .ok (.goto 5, 3) := by decide +kernel
theorem d_Model_feed_53 : decode prog_13_method_3_code 53 = .ok (.iload_n 3, 1) := by decide +kernel
theorem d_Model_feed_54 : decode prog_13_method_3_code 54 = .ok (.goto 17, 3) := by decide +kernel
theorem d_Model_feed_42 : decode prog_13_method_3_code 42 = .ok (.iload_n 2, 1) := by decide +kernel
theorem d_Model_feed_43 : decode prog_13_method_3_code 43 = .ok (.goto 28, 3) := by decide +kernel
theorem d_Model_feed_31 : decode prog_13_method_3_code 31 = .ok (.iload_n 1, 1) := by decide +kernel
theorem d_Model_feed_32 : decode prog_13_method_3_code 32 = .ok (.goto 39, 3) := by decide +kernel
theorem d_Model_feed_13 : decode prog_13_method_3_code 13 = .ok (.iconst (-1), 1) := by decide +kernel
theorem d_Model_feed_14 : decode prog_13_method_3_code 14 = .ok (.ireturn, 1) := by decide +kernel
theorem end_x {v : Int32} {t : Nat} (h0 : ¬ v < 0) (h : v ≤ nI t) (ht : t ≤ 1600) : ∃ q, q ≤ 1600 ∧ v = nI q := by
  have hn : ¬ nI (t + 1) ≤ v := by
    intro e
    rw [Int32.le_iff_toInt_le, nI_toInt (by omega)] at e
    rw [Int32.le_iff_toInt_le, nI_toInt (by omega)] at h
    omega
  obtain ⟨j, hj, e⟩ := nI_lt2 (n := t + 1) h0 hn (by omega)
  exact ⟨j, by omega, e⟩
theorem d_Model_end_0 : decode prog_13_method_4_code 0 = .ok (.iload_n 1, 1) := by decide +kernel
theorem d_Model_end_1 : decode prog_13_method_4_code 1 = .ok (.ifCond .lt 11, 3) := by decide +kernel
theorem d_Model_end_12 : decode prog_13_method_4_code 12 = .ok (.iconst 0, 1) := by decide +kernel
theorem d_Model_end_13 : decode prog_13_method_4_code 13 = .ok (.ireturn, 1) := by decide +kernel
theorem d_Model_end_4 : decode prog_13_method_4_code 4 = .ok (.iload_n 1, 1) := by decide +kernel
theorem d_Model_end_5 : decode prog_13_method_4_code 5 = .ok (.aload_n 0, 1) := by decide +kernel
theorem d_Model_end_6 : decode prog_13_method_4_code 6 = .ok (.getfield 198, 3) := by decide +kernel
theorem d_Model_end_9 : decode prog_13_method_4_code 9 = .ok (.if_icmp .le 5, 3) := by decide +kernel
theorem d_Model_end_14 : decode prog_13_method_4_code 14 = .ok (.aload_n 0, 1) := by decide +kernel
theorem d_Model_end_15 : decode prog_13_method_4_code 15 = .ok (.iload_n 1, 1) := by decide +kernel
theorem d_Model_end_16 : decode prog_13_method_4_code 16 = .ok (.putfield 198, 3) := by decide +kernel
theorem d_Model_end_19 : decode prog_13_method_4_code 19 = .ok (.iconst 1, 1) := by decide +kernel
theorem d_Model_end_20 : decode prog_13_method_4_code 20 = .ok (.ireturn, 1) := by decide +kernel
set_option maxHeartbeats 4000000 in
set_option maxRecDepth 100000 in
theorem c_M_end (l : Launch) (D : va_G) (y : Nat → ClassId) (mo : Nat) (ma : Nat → Nat) (t1 : Nat) (i2 : Int32) (i3 : Int32) (i4 : Int32) (i5 : Int32) (i6 : Int32) (i7 : Int32) (i8 : Int32) (i42 : Int32) (i49 : Int32) (i51 : Int32) (i53 : Int32) (i54 : Int32) (i59 : Int32) (i61 : Int32) (i64 : Int32) (i66 : Int32) (t67 : Nat) (i76 : Int64) (i78 : Int32) (v : Int32) (bt : t1 ≤ 1600) : CT l D y ⟨"NineBoardsModel", "end", "(I)Z"⟩ prog_13_method_4_code 2 (some .boolean) ({ frames := 0, cells := 0, slots := 0, locals := 0 } : Room) [.ref mo, .int v] [MB mo ma (nI t1) i2 i3 i4 i5 i6 i7 i8 i42 i49 i51 i53 i54 i59 i61 i64 i66 (nI t67) i76 i78] (QI D [MB mo ma (nI t1) i2 i3 i4 i5 i6 i7 i8 i42 i49 i51 i53 i54 i59 i61 i64 i66 (nI t67) i76 i78] (fun (r : Int32) (u : Int32) => (∃ q, q ≤ 1600 ∧ u = nI q) ∧ ((r = 0 ∧ u = nI t1 ∧ (v < 0 ∨ nI t1 < v)) ∨ (r = 1 ∧ u = v ∧ ¬ v < 0 ∧ v ≤ nI t1))) (fun u => [MB mo ma u i2 i3 i4 i5 i6 i7 i8 i42 i49 i51 i53 i54 i59 i61 i64 i66 (nI t67) i76 i78])) := by
  refine CT.of (by decide) (nb rfl) ?_
  intro p e s m args below meth c C hr
  refine j_lv (lv' := [(0, .ref mo), (1, .int v)]) rfl ?_
  refine j_iload_n (pc := 0) C d_Model_end_0 rfl 1 rfl ?_
  refine j_if_lt (pc := 1) C (tgt := 12) d_Model_end_1 (by decide) (fun c1 => ?_) (fun c1 => ?_)
  · refine j_iconst (pc := 12) C (v := 0) d_Model_end_12 (by decide) ?_
    exact j_iret (pc := 13) C hr (by decide) (nI t1) ⟨⟨t1, bt, rfl⟩, (Or.inl ⟨rfl, rfl, Or.inl c1⟩)⟩ [0] rfl (by decide) (by decide) (by decide) d_Model_end_13
  · refine j_iload_n (pc := 4) C d_Model_end_4 rfl 1 rfl ?_
    refine j_aload_n (pc := 5) C d_Model_end_5 rfl 0 rfl ?_
    refine j_get (pc := 6) C gf_Model_198 0 rfl rfl d_Model_end_6 ?_
    refine j_icmp_le (pc := 9) C (tgt := 14) d_Model_end_9 (by decide) (fun c2 => ?_) (fun c2 => ?_)
    · refine j_aload_n (pc := 14) C d_Model_end_14 rfl 0 rfl ?_
      refine j_iload_n (pc := 15) C d_Model_end_15 rfl 1 rfl ?_
      refine j_put (pc := 16) C pf_Model_198 0 (ws' := [MB mo ma v i2 i3 i4 i5 i6 i7 i8 i42 i49 i51 i53 i54 i59 i61 i64 i66 (nI t67) i76 i78]) rfl rfl rfl (nl rfl) rfl d_Model_end_16 ?_
      refine j_iconst (pc := 19) C (v := 1) d_Model_end_19 (by decide) ?_
      exact j_iret (pc := 20) C hr (by decide) v ⟨(end_x c1 c2 bt), (Or.inr ⟨rfl, rfl, c1, c2⟩)⟩ [0] rfl (by decide) (by decide) (by decide) d_Model_end_20
    · refine j_iconst (pc := 12) C (v := 0) d_Model_end_12 (by decide) ?_
      exact j_iret (pc := 13) C hr (by decide) (nI t1) ⟨⟨t1, bt, rfl⟩, (Or.inl ⟨rfl, rfl, Or.inr (Int32.not_le.mp c2)⟩)⟩ [0] rfl (by decide) (by decide) (by decide) d_Model_end_13
theorem d_Model_fault_0 : decode prog_13_method_46_code 0 = .ok (.iload_n 1, 1) := by decide +kernel
theorem d_Model_fault_1 : decode prog_13_method_46_code 1 = .ok (.ifCond .ne 10, 3) := by decide +kernel
theorem d_Model_fault_11 : decode prog_13_method_46_code 11 = .ok (.iload_n 1, 1) := by decide +kernel
theorem d_Model_fault_12 : decode prog_13_method_46_code 12 = .ok (.iconst 1, 1) := by decide +kernel
theorem d_Model_fault_13 : decode prog_13_method_46_code 13 = .ok (.if_icmp .ne 10, 3) := by decide +kernel
theorem d_Model_fault_23 : decode prog_13_method_46_code 23 = .ok (.iconst (-1), 1) := by decide +kernel
theorem d_Model_fault_24 : decode prog_13_method_46_code 24 = .ok (.ireturn, 1) := by decide +kernel
theorem d_Model_fault_16 : decode prog_13_method_46_code 16 = .ok (.aload_n 0, 1) := by decide +kernel
theorem d_Model_fault_17 : decode prog_13_method_46_code 17 = .ok (.getfield 13, 3) := by decide +kernel
theorem gf_Model_13 : GF "NineBoardsModel" 13 10 8 := ⟨_, _, _, rfl, ci_Model, by decide, (mt_5 (List.mem_of_getElem? (i := 96) rfl) rfl)⟩
theorem d_Model_fault_20 : decode prog_13_method_46_code 20 = .ok (.goto 4, 3) := by decide +kernel
theorem d_Model_fault_4 : decode prog_13_method_46_code 4 = .ok (.aload_n 0, 1) := by decide +kernel
theorem d_Model_fault_5 : decode prog_13_method_46_code 5 = .ok (.getfield 332, 3) := by decide +kernel
theorem gf_Model_332 : GF "NineBoardsModel" 332 10 7 := ⟨_, _, _, rfl, ci_Model, by decide, (mt_5 (List.mem_of_getElem? (i := 95) rfl) rfl)⟩
theorem d_Model_fault_8 : decode prog_13_method_46_code 8 = .ok (.goto 16, 3) := by decide +kernel
