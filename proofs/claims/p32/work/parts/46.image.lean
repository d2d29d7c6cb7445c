theorem d_Model_writes_0 : decode prog_13_method_120_code 0 = .ok (.aload_n 0, 1) := by decide +kernel
theorem d_Model_writes_1 : decode prog_13_method_120_code 1 = .ok (.getfield 195, 3) := by decide +kernel
theorem gf_Model_195 : GF "NineBoardsModel" 195 10 77 := ⟨_, _, _, rfl, ci_Model, by decide, (mt_5 (List.mem_of_getElem? (i := 165) rfl) rfl)⟩
theorem d_Model_writes_4 : decode prog_13_method_120_code 4 = .ok (.aload_n 0, 1) := by decide +kernel
theorem d_Model_writes_5 : decode prog_13_method_120_code 5 = .ok (.getfield 582, 3) := by decide +kernel
theorem gf_Model_582 : GF "NineBoardsModel" 582 10 78 := ⟨_, _, _, rfl, ci_Model, by decide, (mt_5 (List.mem_of_getElem? (i := 166) rfl) rfl)⟩
theorem d_Model_writes_8 : decode prog_13_method_120_code 8 = .ok (.iload_n 1, 1) := by decide +kernel
theorem d_Model_writes_9 : decode prog_13_method_120_code 9 = .ok (.iastore, 1) := by decide +kernel
theorem d_Model_writes_10 : decode prog_13_method_120_code 10 = .ok (.aload_n 0, 1) := by decide +kernel
theorem d_Model_writes_11 : decode prog_13_method_120_code 11 = .ok (.dup, 1) := by decide +kernel
theorem d_Model_writes_12 : decode prog_13_method_120_code 12 = .ok (.getfield 582, 3) := by decide +kernel
theorem d_Model_writes_15 : decode prog_13_method_120_code 15 = .ok (.iconst 1, 1) := by decide +kernel
theorem d_Model_writes_16 : decode prog_13_method_120_code 16 = .ok (.iadd, 1) := by decide +kernel
theorem d_Model_writes_17 : decode prog_13_method_120_code 17 = .ok (.putfield 582, 3) := by decide +kernel
theorem pf_Model_582 : PF "NineBoardsModel" 582 10 78 (.int) false := ⟨_, _, _, ct_Model, rfl, ci_Model, by decide, (mt_5 (List.mem_of_getElem? (i := 166) rfl) rfl), cp_Model, cn_Model, rfl, by decide +kernel, (fun h => by cases h)⟩
theorem d_Model_writes_20 : decode prog_13_method_120_code 20 = .ok (.return_, 1) := by decide +kernel
set_option maxHeartbeats 4000000 in
set_option maxRecDepth 100000 in
theorem c_M_writes (l : Launch) (D : va_G) (y : Nat → ClassId) (mo : Nat) (ma : Nat → Nat) (t1 : Nat) (i2 : Int32) (i3 : Int32) (i4 : Int32) (i5 : Int32) (i6 : Int32) (i7 : Int32) (i8 : Int32) (i42 : Int32) (i49 : Int32) (i51 : Int32) (i53 : Int32) (i54 : Int32) (i59 : Int32) (i61 : Int32) (i64 : Int32) (i66 : Int32) (t67 : Nat) (i76 : Int64) (t78 : Nat) (g77 : Nat → Int32) (v : Int32) (hp : t78 < 15) : CT l D y ⟨"NineBoardsModel", "writes", "(I)V"⟩ prog_13_method_120_code 2 none ({ frames := 0, cells := 0, slots := 0, locals := 0 } : Room) [.ref mo, .int v] [MB mo ma (nI t1) i2 i3 i4 i5 i6 i7 i8 i42 i49 i51 i53 i54 i59 i61 i64 i66 (nI t67) i76 (nI t78), (ma 77, .inl (y 0, 15, .inl g77))] (QV D [MB mo ma (nI t1) i2 i3 i4 i5 i6 i7 i8 i42 i49 i51 i53 i54 i59 i61 i64 i66 (nI t67) i76 (nI t78), (ma 77, .inl (y 0, 15, .inl g77))] (fun (u : Nat × (Nat → Int32)) => u.1 = t78 + 1) (fun u => [MB mo ma (nI t1) i2 i3 i4 i5 i6 i7 i8 i42 i49 i51 i53 i54 i59 i61 i64 i66 (nI t67) i76 (nI u.1), (ma 77, .inl (y 0, 15, .inl u.2))])) := by
  refine CT.of (by decide) (nb rfl) ?_
  intro p e s m args below meth c C hr
  refine j_lv (lv' := [(0, .ref mo), (1, .int v)]) rfl ?_
  refine j_aload_n (pc := 0) C d_Model_writes_0 rfl 0 rfl ?_
  refine j_get (pc := 1) C gf_Model_195 0 rfl rfl d_Model_writes_1 ?_
  refine j_aload_n (pc := 4) C d_Model_writes_4 rfl 0 rfl ?_
  refine j_get (pc := 5) C gf_Model_582 0 rfl rfl d_Model_writes_5 ?_
  refine j_iload_n (pc := 8) C d_Model_writes_8 rfl 1 rfl ?_
  refine j_iast (pc := 9) C 1 rfl (ws' := [MB mo ma (nI t1) i2 i3 i4 i5 i6 i7 i8 i42 i49 i51 i53 i54 i59 i61 i64 i66 (nI t67) i76 (nI t78), (ma 77, .inl (y 0, 15, .inl (upd g77 t78 v)))]) (vp_in_nI (by omega) (by decide)) (by rw [nI_clamp (by omega)]; rfl) d_Model_writes_9 ?_
  refine j_anyW (fun f1 => [MB mo ma (nI t1) i2 i3 i4 i5 i6 i7 i8 i42 i49 i51 i53 i54 i59 i61 i64 i66 (nI t67) i76 (nI t78), (ma 77, .inl (y 0, 15, .inl f1))]) (upd g77 t78 v) rfl (fun f1 => ?_)
  refine j_aload_n (pc := 10) C d_Model_writes_10 rfl 0 rfl ?_
  refine j_dup (pc := 11) C d_Model_writes_11 rfl ?_
  refine j_get (pc := 12) C gf_Model_582 0 rfl rfl d_Model_writes_12 ?_
  refine j_iconst (pc := 15) C (v := 1) d_Model_writes_15 (by decide) ?_
  refine j_iadd (pc := 16) C (v := nI (t78 + 1)) d_Model_writes_16 (nI_add _ _) ?_
  refine j_put (pc := 17) C pf_Model_582 0 (ws' := [MB mo ma (nI t1) i2 i3 i4 i5 i6 i7 i8 i42 i49 i51 i53 i54 i59 i61 i64 i66 (nI t67) i76 (nI (t78 + 1)), (ma 77, .inl (y 0, 15, .inl f1))]) rfl rfl rfl (nl rfl) rfl d_Model_writes_17 ?_
  exact j_vret (pc := 20) C hr ((t78 + 1), f1) (show t78 + 1 = t78 + 1 from rfl) [0, 1] rfl (by decide) (by decide) (by decide) d_Model_writes_20
theorem d_Model_checked_0 : decode prog_13_method_121_code 0 = .ok (.bipush 67, 2) := by decide +kernel
theorem d_Model_checked_2 : decode prog_13_method_121_code 2 = .ok (.istore_n 2, 1) := by decide +kernel
theorem d_Model_checked_3 : decode prog_13_method_121_code 3 = .ok (.iconst 0, 1) := by decide +kernel
theorem d_Model_checked_4 : decode prog_13_method_121_code 4 = .ok (.istore_n 3, 1) := by decide +kernel
theorem d_Model_checked_5 : decode prog_13_method_121_code 5 = .ok (.iload_n 3, 1) := by decide +kernel
theorem d_Model_checked_6 : decode prog_13_method_121_code 6 = .ok (.iload_n 1, 1) := by decide +kernel
theorem d_Model_checked_7 : decode prog_13_method_121_code 7 = .ok (.if_icmp .ge 21, 3) := by decide +kernel
theorem d_Model_checked_28 : decode prog_13_method_121_code 28 = .ok (.iload_n 2, 1) := by decide +kernel
theorem d_Model_checked_29 : decode prog_13_method_121_code 29 = .ok (.ireturn, 1) := by decide +kernel
theorem d_Model_checked_10 : decode prog_13_method_121_code 10 = .ok (.iconst 3, 1) := by decide +kernel
theorem d_Model_checked_11 : decode prog_13_method_121_code 11 = .ok (.iload_n 2, 1) := by decide +kernel
theorem d_Model_checked_12 : decode prog_13_method_121_code 12 = .ok (.imul, 1) := by decide +kernel
theorem d_Model_checked_13 : decode prog_13_method_121_code 13 = .ok (.aload_n 0, 1) := by decide +kernel
theorem d_Model_checked_14 : decode prog_13_method_121_code 14 = .ok (.iload_n 3, 1) := by decide +kernel
theorem d_Model_checked_15 : decode prog_13_method_121_code 15 = .ok (.iaload, 1) := by decide +kernel
theorem d_Model_checked_16 : decode prog_13_method_121_code 16 = .ok (.iadd, 1) := by decide +kernel
theorem d_Model_checked_17 : decode prog_13_method_121_code 17 = .ok (.sipush 251, 3) := by decide +kernel
theorem d_Model_checked_20 : decode prog_13_method_121_code 20 = .ok (.irem, 1) := by decide +kernel
theorem d_Model_checked_21 : decode prog_13_method_121_code 21 = .ok (.istore_n 2, 1) := by decide +kernel
theorem d_Model_checked_22 : decode prog_13_method_121_code 22 = .ok (.iinc 3 1, 3) := by decide +kernel
theorem d_Model_checked_25 : decode prog_13_method_121_code 25 = .ok (.goto (-20), 3) := by decide +kernel
set_option maxHeartbeats 4000000 in
set_option maxRecDepth 100000 in
theorem c_M_checked_octet (l : Launch) (D : va_G) (y : Nat → ClassId) (ar : Nat) (f : Nat → Int32) (N : Nat) (hN : N ≤ 15) : CT l D y ⟨"NineBoardsModel", "checked", "([II)I"⟩ prog_13_method_121_code 4 (some .int) ({ frames := 0, cells := 0, slots := 0, locals := 0 } : Room) [.ref ar, .int (nI N)] [(ar, .inl (y 0, 15, .inl f))] (QI D [(ar, .inl (y 0, 15, .inl f))] (fun (r : Int32) (u : Unit) => True) (fun _ => [(ar, .inl (y 0, 15, .inl f))])) := by
  refine CT.of (by decide) (nb rfl) ?_
  intro p e s m args below meth c C hr
  refine j_lv (lv' := [(0, .ref ar), (1, .int (nI N))]) rfl ?_
  refine j_bipush (pc := 0) C (v := 67) d_Model_checked_0 (by decide) ?_
  refine j_istore_n (pc := 2) C (lv' := [(2, .int 67), (0, .ref ar), (1, .int (nI N))]) d_Model_checked_2 rfl (by decide) rfl ?_
  refine j_iconst (pc := 3) C (v := 0) d_Model_checked_3 (by decide) ?_
  refine j_istore_n (pc := 4) C (lv' := [(3, .int 0), (2, .int 67), (0, .ref ar), (1, .int (nI N))]) d_Model_checked_4 rfl (by decide) rfl ?_
  refine j_loop (α := Nat × Int32) (fun a => N - a.1) (fun a => (a.1 ≤ N)) (fun a => [(ar, .inl (y 0, 15, .inl f))]) (fun a => [(3, .int (nI a.1)), (2, .int a.2), (0, .ref ar), (1, .int (nI N))]) (0, 67) rfl rfl (show 0 ≤ N by omega) ?_
  rintro ⟨iz, z2⟩ hP4 ih5
  have hi__ := hP4
  have hi_ : iz ≤ N := hi__
  refine j_ws (ws' := [(ar, .inl (y 0, 15, .inl f))]) rfl ?_
  refine j_lv (lv' := [(3, .int (nI iz)), (2, .int z2), (0, .ref ar), (1, .int (nI N))]) rfl ?_
  refine j_iload_n (pc := 5) C d_Model_checked_5 rfl 0 rfl ?_
  refine j_iload_n (pc := 6) C d_Model_checked_6 rfl 3 rfl ?_
  by_cases c6 : N ≤ iz
  · refine j_icmp_geT (pc := 7) C (tgt := 28) d_Model_checked_7 (by decide) (show nI N ≤ nI iz from nI_le (by omega) (by omega)) ?_
    refine j_iload_n (pc := 28) C d_Model_checked_28 rfl 1 rfl ?_
    exact j_iret (pc := 29) C hr rfl () trivial [0] rfl (by decide) (by decide) (by decide) d_Model_checked_29
  · refine j_icmp_geF (pc := 7) C (tgt := 28) d_Model_checked_7 (by decide) (show ¬ nI N ≤ nI iz from nI_ge (by omega) (by omega)) ?_
    refine j_iconst (pc := 10) C (v := 3) d_Model_checked_10 (by decide) ?_
    refine j_iload_n (pc := 11) C d_Model_checked_11 rfl 1 rfl ?_
    refine j_imul (pc := 12) C (v := 3 * z2) d_Model_checked_12 rfl ?_
    refine j_aload_n (pc := 13) C d_Model_checked_13 rfl 2 rfl ?_
    refine j_iload_n (pc := 14) C d_Model_checked_14 rfl 0 rfl ?_
    refine j_iald (pc := 15) C 0 rfl (v := f iz) (vp_in_nI (by omega) (by decide)) (by rw [nI_clamp (by omega)]) d_Model_checked_15 ?_
    refine j_iadd (pc := 16) C (v := (3 * z2) + (f iz)) d_Model_checked_16 rfl ?_
    refine j_sipush (pc := 17) C (v := 251) d_Model_checked_17 (by decide) ?_
    refine j_irem (pc := 20) C (v := ((3 * z2) + (f iz)) - ((3 * z2) + (f iz)) / 251 * 251) d_Model_checked_20 (by decide) rfl ?_
    refine j_istore_n (pc := 21) C (lv' := [(2, .int (((3 * z2) + (f iz)) - ((3 * z2) + (f iz)) / 251 * 251)), (3, .int (nI iz)), (0, .ref ar), (1, .int (nI N))]) d_Model_checked_21 rfl (by decide) rfl ?_
    refine j_iinc (pc := 22) C (v := nI (iz + 1)) (lv' := [(3, .int (nI (iz + 1))), (2, .int (((3 * z2) + (f iz)) - ((3 * z2) + (f iz)) / 251 * 251)), (0, .ref ar), (1, .int (nI N))]) d_Model_checked_22 1 rfl (nI_add _ _) (by decide) rfl ?_
    refine j_goto (pc := 25) C (tgt := 5) d_Model_checked_25 (by decide) ?_
    exact ih5 ((iz + 1), ((3 * z2) + (f iz)) - ((3 * z2) + (f iz)) / 251 * 251) (show (iz + 1) ≤ N by omega) (show N - (iz + 1) < N - iz by omega)
set_option maxHeartbeats 4000000 in
set_option maxRecDepth 100000 in
theorem c_M_checked_tape (l : Launch) (D : va_G) (y : Nat → ClassId) (ar : Nat) (f : Nat → Int32) (N : Nat) (hN : N ≤ 1600) : CT l D y ⟨"NineBoardsModel", "checked", "([II)I"⟩ prog_13_method_121_code 4 (some .int) ({ frames := 0, cells := 0, slots := 0, locals := 0 } : Room) [.ref ar, .int (nI N)] [(ar, .inl (y 0, 1600, .inl f))] (QI D [(ar, .inl (y 0, 1600, .inl f))] (fun (r : Int32) (u : Unit) => True) (fun _ => [(ar, .inl (y 0, 1600, .inl f))])) := by
  refine CT.of (by decide) (nb rfl) ?_
  intro p e s m args below meth c C hr
  refine j_lv (lv' := [(0, .ref ar), (1, .int (nI N))]) rfl ?_
  refine j_bipush (pc := 0) C (v := 67) d_Model_checked_0 (by decide) ?_
  refine j_istore_n (pc := 2) C (lv' := [(2, .int 67), (0, .ref ar), (1, .int (nI N))]) d_Model_checked_2 rfl (by decide) rfl ?_
  refine j_iconst (pc := 3) C (v := 0) d_Model_checked_3 (by decide) ?_
  refine j_istore_n (pc := 4) C (lv' := [(3, .int 0), (2, .int 67), (0, .ref ar), (1, .int (nI N))]) d_Model_checked_4 rfl (by decide) rfl ?_
  refine j_loop (α := Nat × Int32) (fun a => N - a.1) (fun a => (a.1 ≤ N)) (fun a => [(ar, .inl (y 0, 1600, .inl f))]) (fun a => [(3, .int (nI a.1)), (2, .int a.2), (0, .ref ar), (1, .int (nI N))]) (0, 67) rfl rfl (show 0 ≤ N by omega) ?_
  rintro ⟨iz, z2⟩ hP4 ih5
  have hi__ := hP4
  have hi_ : iz ≤ N := hi__
  refine j_ws (ws' := [(ar, .inl (y 0, 1600, .inl f))]) rfl ?_
  refine j_lv (lv' := [(3, .int (nI iz)), (2, .int z2), (0, .ref ar), (1, .int (nI N))]) rfl ?_
  refine j_iload_n (pc := 5) C d_Model_checked_5 rfl 0 rfl ?_
  refine j_iload_n (pc := 6) C d_Model_checked_6 rfl 3 rfl ?_
  by_cases c6 : N ≤ iz
  · refine j_icmp_geT (pc := 7) C (tgt := 28) d_Model_checked_7 (by decide) (show nI N ≤ nI iz from nI_le (by omega) (by omega)) ?_
    refine j_iload_n (pc := 28) C d_Model_checked_28 rfl 1 rfl ?_
    exact j_iret (pc := 29) C hr rfl () trivial [0] rfl (by decide) (by decide) (by decide) d_Model_checked_29
  · refine j_icmp_geF (pc := 7) C (tgt := 28) d_Model_checked_7 (by decide) (show ¬ nI N ≤ nI iz from nI_ge (by omega) (by omega)) ?_
    refine j_iconst (pc := 10) C (v := 3) d_Model_checked_10 (by decide) ?_
    refine j_iload_n (pc := 11) C d_Model_checked_11 rfl 1 rfl ?_
    refine j_imul (pc := 12) C (v := 3 * z2) d_Model_checked_12 rfl ?_
    refine j_aload_n (pc := 13) C d_Model_checked_13 rfl 2 rfl ?_
    refine j_iload_n (pc := 14) C d_Model_checked_14 rfl 0 rfl ?_
    refine j_iald (pc := 15) C 0 rfl (v := f iz) (vp_in_nI (by omega) (by decide)) (by rw [nI_clamp (by omega)]) d_Model_checked_15 ?_
    refine j_iadd (pc := 16) C (v := (3 * z2) + (f iz)) d_Model_checked_16 rfl ?_
    refine j_sipush (pc := 17) C (v := 251) d_Model_checked_17 (by decide) ?_
    refine j_irem (pc := 20) C (v := ((3 * z2) + (f iz)) - ((3 * z2) + (f iz)) / 251 * 251) d_Model_checked_20 (by decide) rfl ?_
    refine j_istore_n (pc := 21) C (lv' := [(2, .int (((3 * z2) + (f iz)) - ((3 * z2) + (f iz)) / 251 * 251)), (3, .int (nI iz)), (0, .ref ar), (1, .int (nI N))]) d_Model_checked_21 rfl (by decide) rfl ?_
    refine j_iinc (pc := 22) C (v := nI (iz + 1)) (lv' := [(3, .int (nI (iz + 1))), (2, .int (((3 * z2) + (f iz)) - ((3 * z2) + (f iz)) / 251 * 251)), (0, .ref ar), (1, .int (nI N))]) d_Model_checked_22 1 rfl (nI_add _ _) (by decide) rfl ?_
    refine j_goto (pc := 25) C (tgt := 5) d_Model_checked_25 (by decide) ?_
    exact ih5 ((iz + 1), ((3 * z2) + (f iz)) - ((3 * z2) + (f iz)) / 251 * 251) (show (iz + 1) ≤ N by omega) (show N - (iz + 1) < N - iz by omega)
theorem d_Model_image_0 : decode prog_13_method_122_code 0 = .ok (.aload_n 0, 1) := by decide +kernel
theorem d_Model_image_1 : decode prog_13_method_122_code 1 = .ok (.iconst 0, 1) := by decide +kernel
theorem d_Model_image_2 : decode prog_13_method_122_code 2 = .ok (.putfield 582, 3) := by decide +kernel
theorem d_Model_image_5 : decode prog_13_method_122_code 5 = .ok (.aload_n 0, 1) := by decide +kernel
theorem d_Model_image_6 : decode prog_13_method_122_code 6 = .ok (.aload_n 0, 1) := by decide +kernel
theorem d_Model_image_7 : decode prog_13_method_122_code 7 = .ok (.getfield 158, 3) := by decide +kernel
theorem d_Model_image_10 : decode prog_13_method_122_code 10 = .ok (.iconst 0, 1) := by decide +kernel
theorem d_Model_image_11 : decode prog_13_method_122_code 11 = .ok (.iaload, 1) := by decide +kernel
theorem d_Model_image_12 : decode prog_13_method_122_code 12 = .ok (.sipush 256, 3) := by decide +kernel
theorem d_Model_image_15 : decode prog_13_method_122_code 15 = .ok (.idiv, 1) := by decide +kernel
theorem d_Model_image_16 : decode prog_13_method_122_code 16 = .ok (.invokevirtual 585, 3) := by decide +kernel
theorem kw_Model_585 : KW "NineBoardsModel" 585 ⟨"NineBoardsModel", "writes", "(I)V"⟩ prog_13_method_120_code 2 none 1 := ⟨(mt_8 (List.mem_of_getElem? (i := 103) rfl) rfl), (mt_1 (List.mem_of_getElem? (i := 16) rfl) rfl), (mt_8 (List.mem_of_getElem? (i := 106) rfl) rfl), by decide +kernel⟩
theorem kv_Model_writes : Cond.instanceMethod ⟨"NineBoardsModel", "writes", "(I)V"⟩ ∈ TB ∧ Cond.selects "NineBoardsModel" ⟨"NineBoardsModel", "writes", "(I)V"⟩ ⟨"NineBoardsModel", "writes", "(I)V"⟩ ∈ TB := ⟨(mt_8 (List.mem_of_getElem? (i := 105) rfl) rfl), (ms_0 (List.mem_map.mpr ⟨(⟨"NineBoardsModel", "writes", "(I)V"⟩, 79), List.mem_of_getElem? (i := 132) (by decide +kernel), rfl⟩) rfl)⟩
theorem d_Model_image_19 : decode prog_13_method_122_code 19 = .ok (.aload_n 0, 1) := by decide +kernel
theorem d_Model_image_20 : decode prog_13_method_122_code 20 = .ok (.aload_n 0, 1) := by decide +kernel
theorem d_Model_image_21 : decode prog_13_method_122_code 21 = .ok (.getfield 158, 3) := by decide +kernel
theorem d_Model_image_24 : decode prog_13_method_122_code 24 = .ok (.iconst 0, 1) := by decide +kernel
theorem d_Model_image_25 : decode prog_13_method_122_code 25 = .ok (.iaload, 1) := by decide +kernel
theorem d_Model_image_26 : decode prog_13_method_122_code 26 = .ok (.sipush 256, 3) := by decide +kernel
theorem d_Model_image_29 : decode prog_13_method_122_code 29 = .ok (.irem, 1) := by decide +kernel
theorem d_Model_image_30 : decode prog_13_method_122_code 30 = .ok (.invokevirtual 585, 3) := by decide +kernel
theorem d_Model_image_33 : decode prog_13_method_122_code 33 = .ok (.aload_n 0, 1) := by decide +kernel
theorem d_Model_image_34 : decode prog_13_method_122_code 34 = .ok (.aload_n 0, 1) := by decide +kernel
theorem d_Model_image_35 : decode prog_13_method_122_code 35 = .ok (.getfield 158, 3) := by decide +kernel
theorem d_Model_image_38 : decode prog_13_method_122_code 38 = .ok (.iconst 1, 1) := by decide +kernel
theorem d_Model_image_39 : decode prog_13_method_122_code 39 = .ok (.iaload, 1) := by decide +kernel
theorem d_Model_image_40 : decode prog_13_method_122_code 40 = .ok (.sipush 256, 3) := by decide +kernel
theorem d_Model_image_43 : decode prog_13_method_122_code 43 = .ok (.idiv, 1) := by decide +kernel
theorem d_Model_image_44 : decode prog_13_method_122_code 44 = .ok (.invokevirtual 585, 3) := by decide +kernel
theorem d_Model_image_47 : decode prog_13_method_122_code 47 = .ok (.aload_n 0, 1) := by decide +kernel
theorem d_Model_image_48 : decode prog_13_method_122_code 48 = .ok (.aload_n 0, 1) := by decide +kernel
theorem d_Model_image_49 : decode prog_13_method_122_code 49 = .ok (.getfield 158, 3) := by decide +kernel
theorem d_Model_image_52 : decode prog_13_method_122_code 52 = .ok (.iconst 1, 1) := by decide +kernel
theorem d_Model_image_53 : decode prog_13_method_122_code 53 = .ok (.iaload, 1) := by decide +kernel
theorem d_Model_image_54 : decode prog_13_method_122_code 54 = .ok (.sipush 256, 3) := by decide +kernel
theorem d_Model_image_57 : decode prog_13_method_122_code 57 = .ok (.irem, 1) := by decide +kernel
theorem d_Model_image_58 : decode prog_13_method_122_code 58 = .ok (.invokevirtual 585, 3) := by decide +kernel
theorem d_Model_image_61 : decode prog_13_method_122_code 61 = .ok (.aload_n 0, 1) := by decide +kernel
theorem d_Model_image_62 : decode prog_13_method_122_code 62 = .ok (.aload_n 0, 1) := by decide +kernel
theorem d_Model_image_63 : decode prog_13_method_122_code 63 = .ok (.getfield 158, 3) := by decide +kernel
theorem d_Model_image_66 : decode prog_13_method_122_code 66 = .ok (.iconst 2, 1) := by decide +kernel
theorem d_Model_image_67 : decode prog_13_method_122_code 67 = .ok (.iaload, 1) := by decide +kernel
theorem d_Model_image_68 : decode prog_13_method_122_code 68 = .ok (.invokevirtual 585, 3) := by decide +kernel
theorem d_Model_image_71 : decode prog_13_method_122_code 71 = .ok (.iconst 0, 1) := by decide +kernel
theorem d_Model_image_72 : decode prog_13_method_122_code 72 = .ok (.istore_n 1, 1) := by decide +kernel
theorem d_Model_image_73 : decode prog_13_method_122_code 73 = .ok (.iload_n 1, 1) := by decide +kernel
theorem d_Model_image_74 : decode prog_13_method_122_code 74 = .ok (.aload_n 0, 1) := by decide +kernel
theorem d_Model_image_75 : decode prog_13_method_122_code 75 = .ok (.invokevirtual 341, 3) := by decide +kernel
theorem d_Model_image_78 : decode prog_13_method_122_code 78 = .ok (.if_icmp .ge 18, 3) := by decide +kernel
theorem d_Model_image_96 : decode prog_13_method_122_code 96 = .ok (.aload_n 0, 1) := by decide +kernel
theorem d_Model_image_97 : decode prog_13_method_122_code 97 = .ok (.aload_n 0, 1) := by decide +kernel
theorem d_Model_image_98 : decode prog_13_method_122_code 98 = .ok (.getfield 195, 3) := by decide +kernel
theorem d_Model_image_101 : decode prog_13_method_122_code 101 = .ok (.aload_n 0, 1) := by decide +kernel
theorem d_Model_image_102 : decode prog_13_method_122_code 102 = .ok (.getfield 582, 3) := by decide +kernel
theorem d_Model_image_105 : decode prog_13_method_122_code 105 = .ok (.invokestatic 588, 3) := by decide +kernel
theorem kw_Model_588 : KW "NineBoardsModel" 588 ⟨"NineBoardsModel", "checked", "([II)I"⟩ prog_13_method_121_code 4 (some .int) 2 := ⟨(mt_8 (List.mem_of_getElem? (i := 107) rfl) rfl), (mt_1 (List.mem_of_getElem? (i := 16) rfl) rfl), (mt_8 (List.mem_of_getElem? (i := 109) rfl) rfl), by decide +kernel⟩
theorem ks_Model_checked : Cond.static ⟨"NineBoardsModel", "checked", "([II)I"⟩ ∈ TB := (mt_8 (List.mem_of_getElem? (i := 108) rfl) rfl)
theorem d_Model_image_108 : decode prog_13_method_122_code 108 = .ok (.invokevirtual 585, 3) := by decide +kernel
theorem d_Model_image_111 : decode prog_13_method_122_code 111 = .ok (.aload_n 0, 1) := by decide +kernel
theorem d_Model_image_112 : decode prog_13_method_122_code 112 = .ok (.getfield 582, 3) := by decide +kernel
theorem d_Model_image_115 : decode prog_13_method_122_code 115 = .ok (.ireturn, 1) := by decide +kernel
theorem d_Model_image_81 : decode prog_13_method_122_code 81 = .ok (.aload_n 0, 1) := by decide +kernel
theorem d_Model_image_82 : decode prog_13_method_122_code 82 = .ok (.aload_n 0, 1) := by decide +kernel
theorem d_Model_image_83 : decode prog_13_method_122_code 83 = .ok (.iload_n 1, 1) := by decide +kernel
theorem d_Model_image_84 : decode prog_13_method_122_code 84 = .ok (.invokevirtual 421, 3) := by decide +kernel
theorem d_Model_image_87 : decode prog_13_method_122_code 87 = .ok (.invokevirtual 585, 3) := by decide +kernel
theorem d_Model_image_90 : decode prog_13_method_122_code 90 = .ok (.iinc 1 1, 3) := by decide +kernel
theorem d_Model_image_93 : decode prog_13_method_122_code 93 = .ok (.goto (-20), 3) := by decide +kernel
set_option maxHeartbeats 4000000 in
set_option maxRecDepth 100000 in
theorem c_M_image (l : Launch) (D : va_G) (y : Nat → ClassId) (mo : Nat) (ma : Nat → Nat) (t1 : Nat) (i2 : Int32) (i3 : Int32) (i4 : Int32) (i5 : Int32) (i6 : Int32) (i7 : Int32) (i8 : Int32) (i42 : Int32) (i49 : Int32) (i51 : Int32) (i53 : Int32) (i54 : Int32) (i59 : Int32) (i61 : Int32) (i64 : Int32) (i66 : Int32) (t67 : Nat) (i76 : Int64) (i78 : Int32) (g43 : Nat → Int32) (g62 : Nat → Int32) (g77 : Nat → Int32) (c0 : Nat) (dy : Nat) (hc0 : g43 4 = nI c0) (bc0 : c0 ≤ 9) (hD : g62 0 = nI dy) (bD : dy ≤ 999) : CT l D y ⟨"NineBoardsModel", "image", "()I"⟩ prog_13_method_122_code 2 (some .int) ({ frames := 1, cells := 0, slots := 0, locals := 23 } : Room) [.ref mo] [MB mo ma (nI t1) i2 i3 i4 i5 i6 i7 i8 i42 i49 i51 i53 i54 i59 i61 i64 i66 (nI t67) i76 i78, (ma 43, .inl (y 0, 8, .inl g43)), (ma 62, .inl (y 0, 63, .inl g62)), (ma 77, .inl (y 0, 15, .inl g77))] (QI D [MB mo ma (nI t1) i2 i3 i4 i5 i6 i7 i8 i42 i49 i51 i53 i54 i59 i61 i64 i66 (nI t67) i76 i78, (ma 43, .inl (y 0, 8, .inl g43)), (ma 62, .inl (y 0, 63, .inl g62)), (ma 77, .inl (y 0, 15, .inl g77))] (fun (r : Int32) (u : Nat × (Nat → Int32)) => u.1 ≤ 15) (fun u => [MB mo ma (nI t1) i2 i3 i4 i5 i6 i7 i8 i42 i49 i51 i53 i54 i59 i61 i64 i66 (nI t67) i76 (nI u.1), (ma 43, .inl (y 0, 8, .inl g43)), (ma 62, .inl (y 0, 63, .inl g62)), (ma 77, .inl (y 0, 15, .inl u.2))])) := by
  refine CT.of (by decide) (nb rfl) ?_
  intro p e s m args below meth c C hr
  refine j_lv (lv' := [(0, .ref mo)]) rfl ?_
  refine j_aload_n (pc := 0) C d_Model_image_0 rfl 0 rfl ?_
  refine j_iconst (pc := 1) C (v := 0) d_Model_image_1 (by decide) ?_
  refine j_put (pc := 2) C pf_Model_582 0 (ws' := [MB mo ma (nI t1) i2 i3 i4 i5 i6 i7 i8 i42 i49 i51 i53 i54 i59 i61 i64 i66 (nI t67) i76 0, (ma 43, .inl (y 0, 8, .inl g43)), (ma 62, .inl (y 0, 63, .inl g62)), (ma 77, .inl (y 0, 15, .inl g77))]) rfl rfl rfl (nl rfl) rfl d_Model_image_2 ?_
  refine j_aload_n (pc := 5) C d_Model_image_5 rfl 0 rfl ?_
  refine j_aload_n (pc := 6) C d_Model_image_6 rfl 0 rfl ?_
  refine j_get (pc := 7) C gf_Model_158 0 rfl rfl d_Model_image_7 ?_
  refine j_iconst (pc := 10) C (v := 0) d_Model_image_10 (by decide) ?_
  refine j_iald (pc := 11) C 2 rfl (v := nI dy) (vin (by decide)) (by exact hD) d_Model_image_11 ?_
  refine j_sipush (pc := 12) C (v := 256) d_Model_image_12 (by decide) ?_
  refine j_idiv (pc := 15) C (v := nI (dy / 256)) d_Model_image_15 (by decide) (pk_div (a := dy) (d := 256) (by omega) (by omega) (by omega)) ?_
  refine j_callVv (pc := 16) C (c_M_writes l D y mo ma t1 i2 i3 i4 i5 i6 i7 i8 i42 i49 i51 i53 i54 i59 i61 i64 i66 t67 i76 0 g77 (nI (dy / 256)) (by omega)) kw_Model_585 kv_Model_writes 0 10 rfl rfl ⟨by decide, by decide⟩ ⟨by decide, by decide⟩ (wr := [(ma 43, .inl (y 0, 8, .inl g43)), (ma 62, .inl (y 0, 63, .inl g62))]) [0, 3] [1, 2] rfl rfl (by decide) (by decide) (by decide) (As := [.int (nI (dy / 256))]) (rest := []) rfl (nb rfl) rfl d_Model_image_16 (fun u1 hu2 => ?_)
  have xh3 := hu2
  refine j_ws (ws' := [(ma 43, .inl (y 0, 8, .inl g43)), (ma 62, .inl (y 0, 63, .inl g62)), MB mo ma (nI t1) i2 i3 i4 i5 i6 i7 i8 i42 i49 i51 i53 i54 i59 i61 i64 i66 (nI t67) i76 (nI u1.1), (ma 77, .inl (y 0, 15, .inl u1.2))]) rfl ?_
  refine j_aload_n (pc := 19) C d_Model_image_19 rfl 0 rfl ?_
  refine j_aload_n (pc := 20) C d_Model_image_20 rfl 0 rfl ?_
  refine j_get (pc := 21) C gf_Model_158 2 rfl rfl d_Model_image_21 ?_
  refine j_iconst (pc := 24) C (v := 0) d_Model_image_24 (by decide) ?_
  refine j_iald (pc := 25) C 1 rfl (v := nI dy) (vin (by decide)) (by exact hD) d_Model_image_25 ?_
  refine j_sipush (pc := 26) C (v := 256) d_Model_image_26 (by decide) ?_
  refine j_irem (pc := 29) C (v := nI (dy % 256)) d_Model_image_29 (by decide) (pk_rem (a := dy) (d := 256) (by omega) (by omega) (by omega)) ?_
  refine j_callVv (pc := 30) C (c_M_writes l D y mo ma t1 i2 i3 i4 i5 i6 i7 i8 i42 i49 i51 i53 i54 i59 i61 i64 i66 t67 i76 u1.1 u1.2 (nI (dy % 256)) (by omega)) kw_Model_585 kv_Model_writes 0 10 rfl rfl ⟨by decide, by decide⟩ ⟨by decide, by decide⟩ (wr := [(ma 43, .inl (y 0, 8, .inl g43)), (ma 62, .inl (y 0, 63, .inl g62))]) [2, 3] [0, 1] rfl rfl (by decide) (by decide) (by decide) (As := [.int (nI (dy % 256))]) (rest := []) rfl (nb rfl) rfl d_Model_image_30 (fun u4 hu5 => ?_)
  have xh6 := hu5
  refine j_ws (ws' := [(ma 43, .inl (y 0, 8, .inl g43)), (ma 62, .inl (y 0, 63, .inl g62)), MB mo ma (nI t1) i2 i3 i4 i5 i6 i7 i8 i42 i49 i51 i53 i54 i59 i61 i64 i66 (nI t67) i76 (nI u4.1), (ma 77, .inl (y 0, 15, .inl u4.2))]) rfl ?_
  refine j_aload_n (pc := 33) C d_Model_image_33 rfl 0 rfl ?_
  refine j_aload_n (pc := 34) C d_Model_image_34 rfl 0 rfl ?_
  refine j_get (pc := 35) C gf_Model_158 2 rfl rfl d_Model_image_35 ?_
  refine j_iconst (pc := 38) C (v := 1) d_Model_image_38 (by decide) ?_
  refine j_iald (pc := 39) C 1 rfl (v := g62 1) (vin (by decide)) rfl d_Model_image_39 ?_
  refine j_sipush (pc := 40) C (v := 256) d_Model_image_40 (by decide) ?_
  refine j_idiv (pc := 43) C (v := (g62 1) / 256) d_Model_image_43 (by decide) rfl ?_
  refine j_callVv (pc := 44) C (c_M_writes l D y mo ma t1 i2 i3 i4 i5 i6 i7 i8 i42 i49 i51 i53 i54 i59 i61 i64 i66 t67 i76 u4.1 u4.2 ((g62 1) / 256) (by omega)) kw_Model_585 kv_Model_writes 0 10 rfl rfl ⟨by decide, by decide⟩ ⟨by decide, by decide⟩ (wr := [(ma 43, .inl (y 0, 8, .inl g43)), (ma 62, .inl (y 0, 63, .inl g62))]) [2, 3] [0, 1] rfl rfl (by decide) (by decide) (by decide) (As := [.int ((g62 1) / 256)]) (rest := []) rfl (nb rfl) rfl d_Model_image_44 (fun u7 hu8 => ?_)
  have xh9 := hu8
  refine j_ws (ws' := [(ma 43, .inl (y 0, 8, .inl g43)), (ma 62, .inl (y 0, 63, .inl g62)), MB mo ma (nI t1) i2 i3 i4 i5 i6 i7 i8 i42 i49 i51 i53 i54 i59 i61 i64 i66 (nI t67) i76 (nI u7.1), (ma 77, .inl (y 0, 15, .inl u7.2))]) rfl ?_
  refine j_aload_n (pc := 47) C d_Model_image_47 rfl 0 rfl ?_
  refine j_aload_n (pc := 48) C d_Model_image_48 rfl 0 rfl ?_
  refine j_get (pc := 49) C gf_Model_158 2 rfl rfl d_Model_image_49 ?_
  refine j_iconst (pc := 52) C (v := 1) d_Model_image_52 (by decide) ?_
  refine j_iald (pc := 53) C 1 rfl (v := g62 1) (vin (by decide)) rfl d_Model_image_53 ?_
  refine j_sipush (pc := 54) C (v := 256) d_Model_image_54 (by decide) ?_
  refine j_irem (pc := 57) C (v := (g62 1) - (g62 1) / 256 * 256) d_Model_image_57 (by decide) rfl ?_
  refine j_callVv (pc := 58) C (c_M_writes l D y mo ma t1 i2 i3 i4 i5 i6 i7 i8 i42 i49 i51 i53 i54 i59 i61 i64 i66 t67 i76 u7.1 u7.2 ((g62 1) - (g62 1) / 256 * 256) (by omega)) kw_Model_585 kv_Model_writes 0 10 rfl rfl ⟨by decide, by decide⟩ ⟨by decide, by decide⟩ (wr := [(ma 43, .inl (y 0, 8, .inl g43)), (ma 62, .inl (y 0, 63, .inl g62))]) [2, 3] [0, 1] rfl rfl (by decide) (by decide) (by decide) (As := [.int ((g62 1) - (g62 1) / 256 * 256)]) (rest := []) rfl (nb rfl) rfl d_Model_image_58 (fun u10 hu11 => ?_)
  have xh12 := hu11
  refine j_ws (ws' := [(ma 43, .inl (y 0, 8, .inl g43)), (ma 62, .inl (y 0, 63, .inl g62)), MB mo ma (nI t1) i2 i3 i4 i5 i6 i7 i8 i42 i49 i51 i53 i54 i59 i61 i64 i66 (nI t67) i76 (nI u10.1), (ma 77, .inl (y 0, 15, .inl u10.2))]) rfl ?_
  refine j_aload_n (pc := 61) C d_Model_image_61 rfl 0 rfl ?_
  refine j_aload_n (pc := 62) C d_Model_image_62 rfl 0 rfl ?_
  refine j_get (pc := 63) C gf_Model_158 2 rfl rfl d_Model_image_63 ?_
  refine j_iconst (pc := 66) C (v := 2) d_Model_image_66 (by decide) ?_
  refine j_iald (pc := 67) C 1 rfl (v := g62 2) (vin (by decide)) rfl d_Model_image_67 ?_
  refine j_callVv (pc := 68) C (c_M_writes l D y mo ma t1 i2 i3 i4 i5 i6 i7 i8 i42 i49 i51 i53 i54 i59 i61 i64 i66 t67 i76 u10.1 u10.2 (g62 2) (by omega)) kw_Model_585 kv_Model_writes 0 10 rfl rfl ⟨by decide, by decide⟩ ⟨by decide, by decide⟩ (wr := [(ma 43, .inl (y 0, 8, .inl g43)), (ma 62, .inl (y 0, 63, .inl g62))]) [2, 3] [0, 1] rfl rfl (by decide) (by decide) (by decide) (As := [.int (g62 2)]) (rest := []) rfl (nb rfl) rfl d_Model_image_68 (fun u13 hu14 => ?_)
  have xh15 := hu14
  refine j_ws (ws' := [(ma 43, .inl (y 0, 8, .inl g43)), (ma 62, .inl (y 0, 63, .inl g62)), MB mo ma (nI t1) i2 i3 i4 i5 i6 i7 i8 i42 i49 i51 i53 i54 i59 i61 i64 i66 (nI t67) i76 (nI u13.1), (ma 77, .inl (y 0, 15, .inl u13.2))]) rfl ?_
  refine j_iconst (pc := 71) C (v := 0) d_Model_image_71 (by decide) ?_
  refine j_istore_n (pc := 72) C (lv' := [(1, .int 0), (0, .ref mo)]) d_Model_image_72 rfl (by decide) rfl ?_
  refine j_loop (α := Nat × Nat × (Nat → Int32)) (fun a => c0 - a.1) (fun a => (a.1 ≤ c0) ∧ (a.2.1 = 5 + a.1)) (fun a => [(ma 43, .inl (y 0, 8, .inl g43)), (ma 62, .inl (y 0, 63, .inl g62)), MB mo ma (nI t1) i2 i3 i4 i5 i6 i7 i8 i42 i49 i51 i53 i54 i59 i61 i64 i66 (nI t67) i76 (nI a.2.1), (ma 77, .inl (y 0, 15, .inl a.2.2))]) (fun a => [(1, .int (nI a.1)), (0, .ref mo)]) (0, u13.1, u13.2) rfl rfl ⟨(show 0 ≤ c0 by omega), (show u13.1 = 5 + 0 by omega)⟩ ?_
  rintro ⟨iz, oz, z26⟩ hP37 ih38
  obtain ⟨hi__, ho__⟩ := hP37
  have hi_ : iz ≤ c0 := hi__
  have ho_ : oz = 5 + iz := ho__
  refine j_ws (ws' := [(ma 43, .inl (y 0, 8, .inl g43)), (ma 62, .inl (y 0, 63, .inl g62)), MB mo ma (nI t1) i2 i3 i4 i5 i6 i7 i8 i42 i49 i51 i53 i54 i59 i61 i64 i66 (nI t67) i76 (nI oz), (ma 77, .inl (y 0, 15, .inl z26))]) rfl ?_
  refine j_lv (lv' := [(1, .int (nI iz)), (0, .ref mo)]) rfl ?_
  refine j_iload_n (pc := 73) C d_Model_image_73 rfl 0 rfl ?_
  refine j_aload_n (pc := 74) C d_Model_image_74 rfl 1 rfl ?_
  refine j_callVi (pc := 75) C (c_M_gateMany l D y mo ma t1 i2 i3 i4 i5 i6 i7 i8 i42 i49 i51 i53 i54 i59 i61 i64 i66 t67 i76 (nI oz) g43 c0 hc0 bc0) kw_Model_341 kv_Model_gateMany 0 10 rfl rfl ⟨by decide, by decide⟩ ⟨by decide, by decide⟩ (wr := [(ma 62, .inl (y 0, 63, .inl g62)), (ma 77, .inl (y 0, 15, .inl z26))]) [2, 0] [1, 3] rfl rfl (by decide) (by decide) (by decide) (As := []) (rest := [.int (nI iz)]) rfl (nb rfl) rfl d_Model_image_75 (fun r39 _ hr39 => ?_)
  obtain rfl := hr39
  refine j_ws (ws' := [(ma 62, .inl (y 0, 63, .inl g62)), (ma 77, .inl (y 0, 15, .inl z26)), MB mo ma (nI t1) i2 i3 i4 i5 i6 i7 i8 i42 i49 i51 i53 i54 i59 i61 i64 i66 (nI t67) i76 (nI oz), (ma 43, .inl (y 0, 8, .inl g43))]) rfl ?_
  by_cases c40 : c0 ≤ iz
  · refine j_icmp_geT (pc := 78) C (tgt := 96) d_Model_image_78 (by decide) (show nI c0 ≤ nI iz from nI_le (by omega) (by omega)) ?_
    refine j_aload_n (pc := 96) C d_Model_image_96 rfl 1 rfl ?_
    refine j_aload_n (pc := 97) C d_Model_image_97 rfl 1 rfl ?_
    refine j_get (pc := 98) C gf_Model_195 2 rfl rfl d_Model_image_98 ?_
    refine j_aload_n (pc := 101) C d_Model_image_101 rfl 1 rfl ?_
    refine j_get (pc := 102) C gf_Model_582 2 rfl rfl d_Model_image_102 ?_
    refine j_callSi (pc := 105) C (c_M_checked_octet l D y (ma 77) z26 oz (by omega)) kw_Model_588 ks_Model_checked ⟨by decide, by decide⟩ ⟨by decide, by decide⟩ (wr := [(ma 62, .inl (y 0, 63, .inl g62)), MB mo ma (nI t1) i2 i3 i4 i5 i6 i7 i8 i42 i49 i51 i53 i54 i59 i61 i64 i66 (nI t67) i76 (nI oz), (ma 43, .inl (y 0, 8, .inl g43))]) [1] [0, 2, 3] rfl rfl (by decide) (by decide) (by decide) (As := [.ref (ma 77), .int (nI oz)]) (rest := [.ref mo]) rfl (nb rfl) rfl d_Model_image_105 (fun r41 _ hr41 => ?_)
    refine j_ws (ws' := [(ma 62, .inl (y 0, 63, .inl g62)), MB mo ma (nI t1) i2 i3 i4 i5 i6 i7 i8 i42 i49 i51 i53 i54 i59 i61 i64 i66 (nI t67) i76 (nI oz), (ma 43, .inl (y 0, 8, .inl g43)), (ma 77, .inl (y 0, 15, .inl z26))]) rfl ?_
    refine j_callVv (pc := 108) C (c_M_writes l D y mo ma t1 i2 i3 i4 i5 i6 i7 i8 i42 i49 i51 i53 i54 i59 i61 i64 i66 t67 i76 oz z26 r41 (by omega)) kw_Model_585 kv_Model_writes 0 10 rfl rfl ⟨by decide, by decide⟩ ⟨by decide, by decide⟩ (wr := [(ma 62, .inl (y 0, 63, .inl g62)), (ma 43, .inl (y 0, 8, .inl g43))]) [1, 3] [0, 2] rfl rfl (by decide) (by decide) (by decide) (As := [.int r41]) (rest := []) rfl (nb rfl) rfl d_Model_image_108 (fun u42 hu43 => ?_)
    have xh44 := hu43
    refine j_ws (ws' := [(ma 62, .inl (y 0, 63, .inl g62)), (ma 43, .inl (y 0, 8, .inl g43)), MB mo ma (nI t1) i2 i3 i4 i5 i6 i7 i8 i42 i49 i51 i53 i54 i59 i61 i64 i66 (nI t67) i76 (nI u42.1), (ma 77, .inl (y 0, 15, .inl u42.2))]) rfl ?_
    refine j_aload_n (pc := 111) C d_Model_image_111 rfl 1 rfl ?_
    refine j_get (pc := 112) C gf_Model_582 2 rfl rfl d_Model_image_112 ?_
    exact j_iret (pc := 115) C hr rfl (u42.1, u42.2) (show u42.1 ≤ 15 by omega) [2, 1, 0, 3] rfl (by decide) (by decide) (by decide) d_Model_image_115
  · refine j_icmp_geF (pc := 78) C (tgt := 96) d_Model_image_78 (by decide) (show ¬ nI c0 ≤ nI iz from nI_ge (by omega) (by omega)) ?_
    refine j_aload_n (pc := 81) C d_Model_image_81 rfl 1 rfl ?_
    refine j_aload_n (pc := 82) C d_Model_image_82 rfl 1 rfl ?_
    refine j_iload_n (pc := 83) C d_Model_image_83 rfl 0 rfl ?_
    refine j_callVi (pc := 84) C (c_M_boards l D y mo ma t1 i2 i3 i4 i5 i6 i7 i8 i42 i49 i51 i53 i54 i59 i61 i64 i66 t67 i76 (nI oz) g62 iz (by omega)) kw_Model_421 kv_Model_boards 0 10 rfl rfl ⟨by decide, by decide⟩ ⟨by decide, by decide⟩ (wr := [(ma 77, .inl (y 0, 15, .inl z26)), (ma 43, .inl (y 0, 8, .inl g43))]) [2, 0] [1, 3] rfl rfl (by decide) (by decide) (by decide) (As := [.int (nI iz)]) (rest := [.ref mo]) rfl (nb rfl) rfl d_Model_image_84 (fun r45 _ hr45 => ?_)
    refine j_ws (ws' := [(ma 77, .inl (y 0, 15, .inl z26)), (ma 43, .inl (y 0, 8, .inl g43)), MB mo ma (nI t1) i2 i3 i4 i5 i6 i7 i8 i42 i49 i51 i53 i54 i59 i61 i64 i66 (nI t67) i76 (nI oz), (ma 62, .inl (y 0, 63, .inl g62))]) rfl ?_
    refine j_callVv (pc := 87) C (c_M_writes l D y mo ma t1 i2 i3 i4 i5 i6 i7 i8 i42 i49 i51 i53 i54 i59 i61 i64 i66 t67 i76 oz z26 r45 (by omega)) kw_Model_585 kv_Model_writes 0 10 rfl rfl ⟨by decide, by decide⟩ ⟨by decide, by decide⟩ (wr := [(ma 43, .inl (y 0, 8, .inl g43)), (ma 62, .inl (y 0, 63, .inl g62))]) [2, 0] [1, 3] rfl rfl (by decide) (by decide) (by decide) (As := [.int r45]) (rest := []) rfl (nb rfl) rfl d_Model_image_87 (fun u46 hu47 => ?_)
    have xh48 := hu47
    refine j_ws (ws' := [(ma 43, .inl (y 0, 8, .inl g43)), (ma 62, .inl (y 0, 63, .inl g62)), MB mo ma (nI t1) i2 i3 i4 i5 i6 i7 i8 i42 i49 i51 i53 i54 i59 i61 i64 i66 (nI t67) i76 (nI u46.1), (ma 77, .inl (y 0, 15, .inl u46.2))]) rfl ?_
    refine j_iinc (pc := 90) C (v := nI (iz + 1)) (lv' := [(1, .int (nI (iz + 1))), (0, .ref mo)]) d_Model_image_90 0 rfl (nI_add _ _) (by decide) rfl ?_
    refine j_goto (pc := 93) C (tgt := 73) d_Model_image_93 (by decide) ?_
    exact ih38 ((iz + 1), u46.1, u46.2) ⟨(show (iz + 1) ≤ c0 by omega), (show u46.1 = 5 + (iz + 1) by omega)⟩ (show c0 - (iz + 1) < c0 - iz by omega)
theorem d_Model_octet_0 : decode prog_13_method_123_code 0 = .ok (.iload_n 1, 1) := by decide +kernel
theorem d_Model_octet_1 : decode prog_13_method_123_code 1 = .ok (.ifCond .lt 20, 3) := by decide +kernel
theorem d_Model_octet_21 : decode prog_13_method_123_code 21 = .ok (.iconst (-1), 1) := by decide +kernel
theorem d_Model_octet_22 : decode prog_13_method_123_code 22 = .ok (.ireturn, 1) := by decide +kernel
theorem d_Model_octet_4 : decode prog_13_method_123_code 4 = .ok (.iload_n 1, 1) := by decide +kernel
theorem d_Model_octet_5 : decode prog_13_method_123_code 5 = .ok (.aload_n 0, 1) := by decide +kernel
theorem d_Model_octet_6 : decode prog_13_method_123_code 6 = .ok (.getfield 582, 3) := by decide +kernel
theorem d_Model_octet_9 : decode prog_13_method_123_code 9 = .ok (.if_icmp .ge 12, 3) := by decide +kernel
theorem d_Model_octet_12 : decode prog_13_method_123_code 12 = .ok (.aload_n 0, 1) := by decide +kernel
theorem d_Model_octet_13 : decode prog_13_method_123_code 13 = .ok (.getfield 195, 3) := by decide +kernel
theorem d_Model_octet_16 : decode prog_13_method_123_code 16 = .ok (.iload_n 1, 1) := by decide +kernel
theorem d_Model_octet_17 : decode prog_13_method_123_code 17 = .ok (.iaload, 1) := by decide +kernel
theorem d_Model_octet_18 : decode prog_13_method_123_code 18 = .ok (.goto 4, 3) := by decide +kernel
set_option maxHeartbeats 4000000 in
set_option maxRecDepth 100000 in
theorem c_M_octet (l : Launch) (D : va_G) (y : Nat → ClassId) (mo : Nat) (ma : Nat → Nat) (t1 : Nat) (i2 : Int32) (i3 : Int32) (i4 : Int32) (i5 : Int32) (i6 : Int32) (i7 : Int32) (i8 : Int32) (i42 : Int32) (i49 : Int32) (i51 : Int32) (i53 : Int32) (i54 : Int32) (i59 : Int32) (i61 : Int32) (i64 : Int32) (i66 : Int32) (t67 : Nat) (i76 : Int64) (t78 : Nat) (g77 : Nat → Int32) (v : Int32) (hp : t78 ≤ 15) : CT l D y ⟨"NineBoardsModel", "octet", "(I)I"⟩ prog_13_method_123_code 2 (some .int) ({ frames := 0, cells := 0, slots := 0, locals := 0 } : Room) [.ref mo, .int v] [MB mo ma (nI t1) i2 i3 i4 i5 i6 i7 i8 i42 i49 i51 i53 i54 i59 i61 i64 i66 (nI t67) i76 (nI t78), (ma 77, .inl (y 0, 15, .inl g77))] (QI D [MB mo ma (nI t1) i2 i3 i4 i5 i6 i7 i8 i42 i49 i51 i53 i54 i59 i61 i64 i66 (nI t67) i76 (nI t78), (ma 77, .inl (y 0, 15, .inl g77))] (fun (r : Int32) (u : Unit) => True) (fun _ => [MB mo ma (nI t1) i2 i3 i4 i5 i6 i7 i8 i42 i49 i51 i53 i54 i59 i61 i64 i66 (nI t67) i76 (nI t78), (ma 77, .inl (y 0, 15, .inl g77))])) := by
  refine CT.of (by decide) (nb rfl) ?_
  intro p e s m args below meth c C hr
  refine j_lv (lv' := [(0, .ref mo), (1, .int v)]) rfl ?_
  refine j_iload_n (pc := 0) C d_Model_octet_0 rfl 1 rfl ?_
  refine j_if_lt (pc := 1) C (tgt := 21) d_Model_octet_1 (by decide) (fun c1 => ?_) (fun c1 => ?_)
  · refine j_iconst (pc := 21) C (v := (-1)) d_Model_octet_21 (by decide) ?_
    exact j_iret (pc := 22) C hr rfl () trivial [0, 1] rfl (by decide) (by decide) (by decide) d_Model_octet_22
  · refine j_iload_n (pc := 4) C d_Model_octet_4 rfl 1 rfl ?_
    refine j_aload_n (pc := 5) C d_Model_octet_5 rfl 0 rfl ?_
    refine j_get (pc := 6) C gf_Model_582 0 rfl rfl d_Model_octet_6 ?_
    refine j_icmp_ge (pc := 9) C (tgt := 21) d_Model_octet_9 (by decide) (fun c2 => ?_) (fun c2 => ?_)
    · refine j_iconst (pc := 21) C (v := (-1)) d_Model_octet_21 (by decide) ?_
      exact j_iret (pc := 22) C hr rfl () trivial [0, 1] rfl (by decide) (by decide) (by decide) d_Model_octet_22
    · obtain ⟨jz, hjz, hje⟩ := nI_lt2 c1 c2 (by omega)
      subst hje
      refine j_aload_n (pc := 12) C d_Model_octet_12 rfl 0 rfl ?_
      refine j_get (pc := 13) C gf_Model_195 0 rfl rfl d_Model_octet_13 ?_
      refine j_iload_n (pc := 16) C d_Model_octet_16 rfl 1 rfl ?_
      refine j_iald (pc := 17) C 1 rfl (v := g77 jz) (vp_in_nI (by omega) (by decide)) (by rw [nI_clamp (by omega)]) d_Model_octet_17 ?_
      refine j_goto (pc := 18) C (tgt := 22) d_Model_octet_18 (by decide) ?_
      exact j_iret (pc := 22) C hr rfl () trivial [0, 1] rfl (by decide) (by decide) (by decide) d_Model_octet_22
theorem d_Model_isTold_0 : decode prog_13_method_124_code 0 = .ok (.iload_n 1, 1) := by decide +kernel
theorem d_Model_isTold_1 : decode prog_13_method_124_code 1 = .ok (.bipush 6, 2) := by decide +kernel
theorem d_Model_isTold_3 : decode prog_13_method_124_code 3 = .ok (.aload_n 0, 1) := by decide +kernel
theorem d_Model_isTold_4 : decode prog_13_method_124_code 4 = .ok (.invokevirtual 341, 3) := by decide +kernel
theorem d_Model_isTold_7 : decode prog_13_method_124_code 7 = .ok (.iadd, 1) := by decide +kernel
theorem d_Model_isTold_8 : decode prog_13_method_124_code 8 = .ok (.if_icmp .ne 24, 3) := by decide +kernel
theorem d_Model_isTold_32 : decode prog_13_method_124_code 32 = .ok (.iconst 0, 1) := by decide +kernel
theorem d_Model_isTold_33 : decode prog_13_method_124_code 33 = .ok (.ireturn, 1) := by decide +kernel
theorem d_Model_isTold_11 : decode prog_13_method_124_code 11 = .ok (.aload_n 0, 1) := by decide +kernel
theorem d_Model_isTold_12 : decode prog_13_method_124_code 12 = .ok (.getfield 7, 3) := by decide +kernel
theorem d_Model_isTold_15 : decode prog_13_method_124_code 15 = .ok (.iload_n 1, 1) := by decide +kernel
theorem d_Model_isTold_16 : decode prog_13_method_124_code 16 = .ok (.iconst 1, 1) := by decide +kernel
theorem d_Model_isTold_17 : decode prog_13_method_124_code 17 = .ok (.isub, 1) := by decide +kernel
theorem d_Model_isTold_18 : decode prog_13_method_124_code 18 = .ok (.iaload, 1) := by decide +kernel
theorem d_Model_isTold_19 : decode prog_13_method_124_code 19 = .ok (.aload_n 0, 1) := by decide +kernel
theorem d_Model_isTold_20 : decode prog_13_method_124_code 20 = .ok (.getfield 7, 3) := by decide +kernel
theorem d_Model_isTold_23 : decode prog_13_method_124_code 23 = .ok (.iload_n 1, 1) := by decide +kernel
theorem d_Model_isTold_24 : decode prog_13_method_124_code 24 = .ok (.iconst 1, 1) := by decide +kernel
theorem d_Model_isTold_25 : decode prog_13_method_124_code 25 = .ok (.isub, 1) := by decide +kernel
theorem d_Model_isTold_26 : decode prog_13_method_124_code 26 = .ok (.invokestatic 588, 3) := by decide +kernel
theorem d_Model_isTold_29 : decode prog_13_method_124_code 29 = .ok (.if_icmp .eq 5, 3) := by decide +kernel
theorem d_Model_isTold_34 : decode prog_13_method_124_code 34 = .ok (.sipush 256, 3) := by decide +kernel
theorem d_Model_isTold_37 : decode prog_13_method_124_code 37 = .ok (.aload_n 0, 1) := by decide +kernel
theorem d_Model_isTold_38 : decode prog_13_method_124_code 38 = .ok (.getfield 7, 3) := by decide +kernel
theorem d_Model_isTold_41 : decode prog_13_method_124_code 41 = .ok (.iconst 0, 1) := by decide +kernel
theorem d_Model_isTold_42 : decode prog_13_method_124_code 42 = .ok (.iaload, 1) := by decide +kernel
theorem d_Model_isTold_43 : decode prog_13_method_124_code 43 = .ok (.imul, 1) := by decide +kernel
theorem d_Model_isTold_44 : decode prog_13_method_124_code 44 = .ok (.aload_n 0, 1) := by decide +kernel
theorem d_Model_isTold_45 : decode prog_13_method_124_code 45 = .ok (.getfield 7, 3) := by decide +kernel
theorem d_Model_isTold_48 : decode prog_13_method_124_code 48 = .ok (.iconst 1, 1) := by decide +kernel
theorem d_Model_isTold_49 : decode prog_13_method_124_code 49 = .ok (.iaload, 1) := by decide +kernel
theorem d_Model_isTold_50 : decode prog_13_method_124_code 50 = .ok (.iadd, 1) := by decide +kernel
theorem d_Model_isTold_51 : decode prog_13_method_124_code 51 = .ok (.sipush 999, 3) := by decide +kernel
theorem d_Model_isTold_54 : decode prog_13_method_124_code 54 = .ok (.if_icmp .gt 40, 3) := by decide +kernel
theorem d_Model_isTold_94 : decode prog_13_method_124_code 94 = .ok (.iconst 0, 1) := by decide +kernel
theorem d_Model_isTold_95 : decode prog_13_method_124_code 95 = .ok (.ireturn, 1) := by decide +kernel
theorem d_Model_isTold_57 : decode prog_13_method_124_code 57 = .ok (.sipush 256, 3) := by decide +kernel
theorem d_Model_isTold_60 : decode prog_13_method_124_code 60 = .ok (.aload_n 0, 1) := by decide +kernel
theorem d_Model_isTold_61 : decode prog_13_method_124_code 61 = .ok (.getfield 7, 3) := by decide +kernel
theorem d_Model_isTold_64 : decode prog_13_method_124_code 64 = .ok (.iconst 2, 1) := by decide +kernel
theorem d_Model_isTold_65 : decode prog_13_method_124_code 65 = .ok (.iaload, 1) := by decide +kernel
theorem d_Model_isTold_66 : decode prog_13_method_124_code 66 = .ok (.imul, 1) := by decide +kernel
theorem d_Model_isTold_67 : decode prog_13_method_124_code 67 = .ok (.aload_n 0, 1) := by decide +kernel
theorem d_Model_isTold_68 : decode prog_13_method_124_code 68 = .ok (.getfield 7, 3) := by decide +kernel
theorem d_Model_isTold_71 : decode prog_13_method_124_code 71 = .ok (.iconst 3, 1) := by decide +kernel
theorem d_Model_isTold_72 : decode prog_13_method_124_code 72 = .ok (.iaload, 1) := by decide +kernel
theorem d_Model_isTold_73 : decode prog_13_method_124_code 73 = .ok (.iadd, 1) := by decide +kernel
theorem d_Model_isTold_74 : decode prog_13_method_124_code 74 = .ok (.aload_n 0, 1) := by decide +kernel
theorem d_Model_isTold_75 : decode prog_13_method_124_code 75 = .ok (.getfield 124, 3) := by decide +kernel
theorem d_Model_isTold_78 : decode prog_13_method_124_code 78 = .ok (.bipush 8, 2) := by decide +kernel
theorem d_Model_isTold_80 : decode prog_13_method_124_code 80 = .ok (.iaload, 1) := by decide +kernel
theorem d_Model_isTold_81 : decode prog_13_method_124_code 81 = .ok (.if_icmp .gt 13, 3) := by decide +kernel
theorem d_Model_isTold_84 : decode prog_13_method_124_code 84 = .ok (.aload_n 0, 1) := by decide +kernel
theorem d_Model_isTold_85 : decode prog_13_method_124_code 85 = .ok (.getfield 7, 3) := by decide +kernel
theorem d_Model_isTold_88 : decode prog_13_method_124_code 88 = .ok (.iconst 4, 1) := by decide +kernel
theorem d_Model_isTold_89 : decode prog_13_method_124_code 89 = .ok (.iaload, 1) := by decide +kernel
theorem d_Model_isTold_90 : decode prog_13_method_124_code 90 = .ok (.iconst 2, 1) := by decide +kernel
theorem d_Model_isTold_91 : decode prog_13_method_124_code 91 = .ok (.if_icmp .le 5, 3) := by decide +kernel
theorem d_Model_isTold_96 : decode prog_13_method_124_code 96 = .ok (.iconst 0, 1) := by decide +kernel
theorem d_Model_isTold_97 : decode prog_13_method_124_code 97 = .ok (.istore_n 2, 1) := by decide +kernel
theorem d_Model_isTold_98 : decode prog_13_method_124_code 98 = .ok (.iload_n 2, 1) := by decide +kernel
theorem d_Model_isTold_99 : decode prog_13_method_124_code 99 = .ok (.aload_n 0, 1) := by decide +kernel
theorem d_Model_isTold_100 : decode prog_13_method_124_code 100 = .ok (.invokevirtual 341, 3) := by decide +kernel
theorem d_Model_isTold_103 : decode prog_13_method_124_code 103 = .ok (.if_icmp .ge 24, 3) := by decide +kernel
theorem d_Model_isTold_127 : decode prog_13_method_124_code 127 = .ok (.iconst 1, 1) := by decide +kernel
theorem d_Model_isTold_128 : decode prog_13_method_124_code 128 = .ok (.ireturn, 1) := by decide +kernel
theorem d_Model_isTold_106 : decode prog_13_method_124_code 106 = .ok (.aload_n 0, 1) := by decide +kernel
theorem d_Model_isTold_107 : decode prog_13_method_124_code 107 = .ok (.getfield 7, 3) := by decide +kernel
theorem d_Model_isTold_110 : decode prog_13_method_124_code 110 = .ok (.iconst 5, 1) := by decide +kernel
theorem d_Model_isTold_111 : decode prog_13_method_124_code 111 = .ok (.iload_n 2, 1) := by decide +kernel
theorem d_Model_isTold_112 : decode prog_13_method_124_code 112 = .ok (.iadd, 1) := by decide +kernel
theorem d_Model_isTold_113 : decode prog_13_method_124_code 113 = .ok (.iaload, 1) := by decide +kernel
theorem d_Model_isTold_114 : decode prog_13_method_124_code 114 = .ok (.bipush 20, 2) := by decide +kernel
theorem d_Model_isTold_116 : decode prog_13_method_124_code 116 = .ok (.if_icmp .le 5, 3) := by decide +kernel
theorem d_Model_isTold_121 : decode prog_13_method_124_code 121 = .ok (.iinc 2 1, 3) := by decide +kernel
theorem d_Model_isTold_124 : decode prog_13_method_124_code 124 = .ok (.goto (-26), 3) := by decide +kernel
theorem d_Model_isTold_119 : decode prog_13_method_124_code 119 = .ok (.iconst 0, 1) := by decide +kernel
theorem d_Model_isTold_120 : decode prog_13_method_124_code 120 = .ok (.ireturn, 1) := by decide +kernel
set_option maxHeartbeats 4000000 in
set_option maxRecDepth 100000 in
theorem c_M_isTold (l : Launch) (D : va_G) (y : Nat → ClassId) (mo : Nat) (ma : Nat → Nat) (t1 : Nat) (i2 : Int32) (i3 : Int32) (i4 : Int32) (i5 : Int32) (i6 : Int32) (i7 : Int32) (i8 : Int32) (i42 : Int32) (i49 : Int32) (i51 : Int32) (i53 : Int32) (i54 : Int32) (i59 : Int32) (i61 : Int32) (i64 : Int32) (i66 : Int32) (t67 : Nat) (i76 : Int64) (i78 : Int32) (g0 : Nat → Int32) (g43 : Nat → Int32) (g45 : Nat → Int32) (j : Nat) (c0 : Nat) (ta : Nat) (tb : Nat) (hc0 : g43 4 = nI c0) (bc0 : c0 ≤ 9) (hj : j ≤ 1600) (hta : g0 0 = nI ta) (htb : g0 1 = nI tb) (bta : ta < 256) (btb : tb < 256) : CT l D y ⟨"NineBoardsModel", "isTold", "(I)Z"⟩ prog_13_method_124_code 3 (some .boolean) ({ frames := 1, cells := 0, slots := 0, locals := 23 } : Room) [.ref mo, .int (nI j)] [MB mo ma (nI t1) i2 i3 i4 i5 i6 i7 i8 i42 i49 i51 i53 i54 i59 i61 i64 i66 (nI t67) i76 i78, (ma 0, .inl (y 0, 1600, .inl g0)), (ma 43, .inl (y 0, 8, .inl g43)), (ma 45, .inl (y 0, 14, .inl g45))] (QI D [MB mo ma (nI t1) i2 i3 i4 i5 i6 i7 i8 i42 i49 i51 i53 i54 i59 i61 i64 i66 (nI t67) i76 i78, (ma 0, .inl (y 0, 1600, .inl g0)), (ma 43, .inl (y 0, 8, .inl g43)), (ma 45, .inl (y 0, 14, .inl g45))] (fun (r : Int32) (u : Unit) => (r = 0 ∨ r = 1) ∧ (r = 1 → 256 * ta + tb ≤ 999)) (fun _ => [MB mo ma (nI t1) i2 i3 i4 i5 i6 i7 i8 i42 i49 i51 i53 i54 i59 i61 i64 i66 (nI t67) i76 i78, (ma 0, .inl (y 0, 1600, .inl g0)), (ma 43, .inl (y 0, 8, .inl g43)), (ma 45, .inl (y 0, 14, .inl g45))])) := by
  refine CT.of (by decide) (nb rfl) ?_
  intro p e s m args below meth c C hr
  refine j_lv (lv' := [(0, .ref mo), (1, .int (nI j))]) rfl ?_
  refine j_iload_n (pc := 0) C d_Model_isTold_0 rfl 1 rfl ?_
  refine j_bipush (pc := 1) C (v := 6) d_Model_isTold_1 (by decide) ?_
  refine j_aload_n (pc := 3) C d_Model_isTold_3 rfl 0 rfl ?_
  refine j_callVi (pc := 4) C (c_M_gateMany l D y mo ma t1 i2 i3 i4 i5 i6 i7 i8 i42 i49 i51 i53 i54 i59 i61 i64 i66 t67 i76 i78 g43 c0 hc0 bc0) kw_Model_341 kv_Model_gateMany 0 10 rfl rfl ⟨by decide, by decide⟩ ⟨by decide, by decide⟩ (wr := [(ma 0, .inl (y 0, 1600, .inl g0)), (ma 45, .inl (y 0, 14, .inl g45))]) [0, 2] [1, 3] rfl rfl (by decide) (by decide) (by decide) (As := []) (rest := [.int 6, .int (nI j)]) rfl (nb rfl) rfl d_Model_isTold_4 (fun r1 _ hr1 => ?_)
  obtain rfl := hr1
  refine j_ws (ws' := [(ma 0, .inl (y 0, 1600, .inl g0)), (ma 45, .inl (y 0, 14, .inl g45)), MB mo ma (nI t1) i2 i3 i4 i5 i6 i7 i8 i42 i49 i51 i53 i54 i59 i61 i64 i66 (nI t67) i76 i78, (ma 43, .inl (y 0, 8, .inl g43))]) rfl ?_
  refine j_iadd (pc := 7) C (v := nI (6 + c0)) d_Model_isTold_7 (nI_add _ _) ?_
  by_cases c2 : ¬ j = (6 + c0)
  · refine j_icmp_neT (pc := 8) C (tgt := 32) d_Model_isTold_8 (by decide) (show ¬ nI j = nI (6 + c0) from fun e => absurd ((nI_eq (by omega) (by omega)).mp e) (by omega)) ?_
    refine j_iconst (pc := 32) C (v := 0) d_Model_isTold_32 (by decide) ?_
    exact j_iret (pc := 33) C hr (by decide) () ⟨(by decide), (fun e => absurd e (by decide))⟩ [2, 0, 3, 1] rfl (by decide) (by decide) (by decide) d_Model_isTold_33
  · refine j_icmp_neF (pc := 8) C (tgt := 32) d_Model_isTold_8 (by decide) (show nI j = nI (6 + c0) from (nI_eq (by omega) (by omega)).mpr (by omega)) ?_
    refine j_aload_n (pc := 11) C d_Model_isTold_11 rfl 0 rfl ?_
    refine j_get (pc := 12) C gf_Model_7 2 rfl rfl d_Model_isTold_12 ?_
    refine j_iload_n (pc := 15) C d_Model_isTold_15 rfl 1 rfl ?_
    refine j_iconst (pc := 16) C (v := 1) d_Model_isTold_16 (by decide) ?_
    refine j_isub (pc := 17) C (v := nI (j - 1)) d_Model_isTold_17 (pk_sub (a := j) (b := 1) (by omega)) ?_
    refine j_iald (pc := 18) C 0 rfl (v := g0 (j - 1)) (vp_in_nI (by omega) (by decide)) (by rw [nI_clamp (by omega)]) d_Model_isTold_18 ?_
    refine j_aload_n (pc := 19) C d_Model_isTold_19 rfl 0 rfl ?_
    refine j_get (pc := 20) C gf_Model_7 2 rfl rfl d_Model_isTold_20 ?_
    refine j_iload_n (pc := 23) C d_Model_isTold_23 rfl 1 rfl ?_
    refine j_iconst (pc := 24) C (v := 1) d_Model_isTold_24 (by decide) ?_
    refine j_isub (pc := 25) C (v := nI (j - 1)) d_Model_isTold_25 (pk_sub (a := j) (b := 1) (by omega)) ?_
    refine j_callSi (pc := 26) C (c_M_checked_tape l D y (ma 0) g0 (j - 1) (by omega)) kw_Model_588 ks_Model_checked ⟨by decide, by decide⟩ ⟨by decide, by decide⟩ (wr := [(ma 45, .inl (y 0, 14, .inl g45)), MB mo ma (nI t1) i2 i3 i4 i5 i6 i7 i8 i42 i49 i51 i53 i54 i59 i61 i64 i66 (nI t67) i76 i78, (ma 43, .inl (y 0, 8, .inl g43))]) [0] [1, 2, 3] rfl rfl (by decide) (by decide) (by decide) (As := [.ref (ma 0), .int (nI (j - 1))]) (rest := [.int (g0 (j - 1))]) rfl (nb rfl) rfl d_Model_isTold_26 (fun r3 _ hr3 => ?_)
    refine j_ws (ws' := [(ma 45, .inl (y 0, 14, .inl g45)), MB mo ma (nI t1) i2 i3 i4 i5 i6 i7 i8 i42 i49 i51 i53 i54 i59 i61 i64 i66 (nI t67) i76 i78, (ma 43, .inl (y 0, 8, .inl g43)), (ma 0, .inl (y 0, 1600, .inl g0))]) rfl ?_
    refine j_icmp_eq (pc := 29) C (tgt := 34) d_Model_isTold_29 (by decide) (fun c4 => ?_) (fun c4 => ?_)
    · refine j_sipush (pc := 34) C (v := 256) d_Model_isTold_34 (by decide) ?_
      refine j_aload_n (pc := 37) C d_Model_isTold_37 rfl 0 rfl ?_
      refine j_get (pc := 38) C gf_Model_7 1 rfl rfl d_Model_isTold_38 ?_
      refine j_iconst (pc := 41) C (v := 0) d_Model_isTold_41 (by decide) ?_
      refine j_iald (pc := 42) C 3 rfl (v := nI ta) (vin (by decide)) (by exact hta) d_Model_isTold_42 ?_
      refine j_imul (pc := 43) C (v := nI (256 * ta)) d_Model_isTold_43 (pk_mul _ _) ?_
      refine j_aload_n (pc := 44) C d_Model_isTold_44 rfl 0 rfl ?_
      refine j_get (pc := 45) C gf_Model_7 1 rfl rfl d_Model_isTold_45 ?_
      refine j_iconst (pc := 48) C (v := 1) d_Model_isTold_48 (by decide) ?_
      refine j_iald (pc := 49) C 3 rfl (v := nI tb) (vin (by decide)) (by exact htb) d_Model_isTold_49 ?_
      refine j_iadd (pc := 50) C (v := nI ((256 * ta) + tb)) d_Model_isTold_50 (nI_add _ _) ?_
      refine j_sipush (pc := 51) C (v := 999) d_Model_isTold_51 (by decide) ?_
      by_cases c5 : 999 < ((256 * ta) + tb)
      · refine j_icmp_gtT (pc := 54) C (tgt := 94) d_Model_isTold_54 (by decide) (show nI 999 < nI ((256 * ta) + tb) from nI_lt (by omega) (by omega)) ?_
        refine j_iconst (pc := 94) C (v := 0) d_Model_isTold_94 (by decide) ?_
        exact j_iret (pc := 95) C hr (by decide) () ⟨(by decide), (fun e => absurd e (by decide))⟩ [1, 3, 2, 0] rfl (by decide) (by decide) (by decide) d_Model_isTold_95
      · refine j_icmp_gtF (pc := 54) C (tgt := 94) d_Model_isTold_54 (by decide) (show ¬ nI 999 < nI ((256 * ta) + tb) from nI_nlt (by omega) (by omega)) ?_
        refine j_sipush (pc := 57) C (v := 256) d_Model_isTold_57 (by decide) ?_
        refine j_aload_n (pc := 60) C d_Model_isTold_60 rfl 0 rfl ?_
        refine j_get (pc := 61) C gf_Model_7 1 rfl rfl d_Model_isTold_61 ?_
        refine j_iconst (pc := 64) C (v := 2) d_Model_isTold_64 (by decide) ?_
        refine j_iald (pc := 65) C 3 rfl (v := g0 2) (vin (by decide)) rfl d_Model_isTold_65 ?_
        refine j_imul (pc := 66) C (v := 256 * (g0 2)) d_Model_isTold_66 rfl ?_
        refine j_aload_n (pc := 67) C d_Model_isTold_67 rfl 0 rfl ?_
        refine j_get (pc := 68) C gf_Model_7 1 rfl rfl d_Model_isTold_68 ?_
        refine j_iconst (pc := 71) C (v := 3) d_Model_isTold_71 (by decide) ?_
        refine j_iald (pc := 72) C 3 rfl (v := g0 3) (vin (by decide)) rfl d_Model_isTold_72 ?_
        refine j_iadd (pc := 73) C (v := (256 * (g0 2)) + (g0 3)) d_Model_isTold_73 rfl ?_
        refine j_aload_n (pc := 74) C d_Model_isTold_74 rfl 0 rfl ?_
        refine j_get (pc := 75) C gf_Model_124 1 rfl rfl d_Model_isTold_75 ?_
        refine j_bipush (pc := 78) C (v := 8) d_Model_isTold_78 (by decide) ?_
        refine j_iald (pc := 80) C 0 rfl (v := g45 8) (vin (by decide)) rfl d_Model_isTold_80 ?_
        refine j_icmp_gt (pc := 81) C (tgt := 94) d_Model_isTold_81 (by decide) (fun c6 => ?_) (fun c6 => ?_)
        · refine j_iconst (pc := 94) C (v := 0) d_Model_isTold_94 (by decide) ?_
          exact j_iret (pc := 95) C hr (by decide) () ⟨(by decide), (fun e => absurd e (by decide))⟩ [1, 3, 2, 0] rfl (by decide) (by decide) (by decide) d_Model_isTold_95
        · refine j_aload_n (pc := 84) C d_Model_isTold_84 rfl 0 rfl ?_
          refine j_get (pc := 85) C gf_Model_7 1 rfl rfl d_Model_isTold_85 ?_
          refine j_iconst (pc := 88) C (v := 4) d_Model_isTold_88 (by decide) ?_
          refine j_iald (pc := 89) C 3 rfl (v := g0 4) (vin (by decide)) rfl d_Model_isTold_89 ?_
          refine j_iconst (pc := 90) C (v := 2) d_Model_isTold_90 (by decide) ?_
          refine j_icmp_le (pc := 91) C (tgt := 96) d_Model_isTold_91 (by decide) (fun c7 => ?_) (fun c7 => ?_)
          · refine j_iconst (pc := 96) C (v := 0) d_Model_isTold_96 (by decide) ?_
            refine j_istore_n (pc := 97) C (lv' := [(2, .int 0), (0, .ref mo), (1, .int (nI j))]) d_Model_isTold_97 rfl (by decide) rfl ?_
            refine j_loop (α := Nat) (fun a => c0 - a) (fun a => (a ≤ c0)) (fun a => [(ma 45, .inl (y 0, 14, .inl g45)), MB mo ma (nI t1) i2 i3 i4 i5 i6 i7 i8 i42 i49 i51 i53 i54 i59 i61 i64 i66 (nI t67) i76 i78, (ma 43, .inl (y 0, 8, .inl g43)), (ma 0, .inl (y 0, 1600, .inl g0))]) (fun a => [(2, .int (nI a)), (0, .ref mo), (1, .int (nI j))]) (0) rfl rfl (show 0 ≤ c0 by omega) ?_
            rintro iz hP11 ih12
            have hi__ := hP11
            have hi_ : iz ≤ c0 := hi__
            refine j_ws (ws' := [(ma 45, .inl (y 0, 14, .inl g45)), MB mo ma (nI t1) i2 i3 i4 i5 i6 i7 i8 i42 i49 i51 i53 i54 i59 i61 i64 i66 (nI t67) i76 i78, (ma 43, .inl (y 0, 8, .inl g43)), (ma 0, .inl (y 0, 1600, .inl g0))]) rfl ?_
            refine j_lv (lv' := [(2, .int (nI iz)), (0, .ref mo), (1, .int (nI j))]) rfl ?_
            refine j_iload_n (pc := 98) C d_Model_isTold_98 rfl 0 rfl ?_
            refine j_aload_n (pc := 99) C d_Model_isTold_99 rfl 1 rfl ?_
            refine j_callVi (pc := 100) C (c_M_gateMany l D y mo ma t1 i2 i3 i4 i5 i6 i7 i8 i42 i49 i51 i53 i54 i59 i61 i64 i66 t67 i76 i78 g43 c0 hc0 bc0) kw_Model_341 kv_Model_gateMany 0 10 rfl rfl ⟨by decide, by decide⟩ ⟨by decide, by decide⟩ (wr := [(ma 45, .inl (y 0, 14, .inl g45)), (ma 0, .inl (y 0, 1600, .inl g0))]) [1, 2] [0, 3] rfl rfl (by decide) (by decide) (by decide) (As := []) (rest := [.int (nI iz)]) rfl (nb rfl) rfl d_Model_isTold_100 (fun r13 _ hr13 => ?_)
            obtain rfl := hr13
            refine j_ws (ws' := [(ma 45, .inl (y 0, 14, .inl g45)), (ma 0, .inl (y 0, 1600, .inl g0)), MB mo ma (nI t1) i2 i3 i4 i5 i6 i7 i8 i42 i49 i51 i53 i54 i59 i61 i64 i66 (nI t67) i76 i78, (ma 43, .inl (y 0, 8, .inl g43))]) rfl ?_
            by_cases c14 : c0 ≤ iz
            · refine j_icmp_geT (pc := 103) C (tgt := 127) d_Model_isTold_103 (by decide) (show nI c0 ≤ nI iz from nI_le (by omega) (by omega)) ?_
              refine j_iconst (pc := 127) C (v := 1) d_Model_isTold_127 (by decide) ?_
              exact j_iret (pc := 128) C hr (by decide) () ⟨(by decide), (fun _ => by omega)⟩ [2, 1, 3, 0] rfl (by decide) (by decide) (by decide) d_Model_isTold_128
            · refine j_icmp_geF (pc := 103) C (tgt := 127) d_Model_isTold_103 (by decide) (show ¬ nI c0 ≤ nI iz from nI_ge (by omega) (by omega)) ?_
              refine j_aload_n (pc := 106) C d_Model_isTold_106 rfl 1 rfl ?_
              refine j_get (pc := 107) C gf_Model_7 2 rfl rfl d_Model_isTold_107 ?_
              refine j_iconst (pc := 110) C (v := 5) d_Model_isTold_110 (by decide) ?_
              refine j_iload_n (pc := 111) C d_Model_isTold_111 rfl 0 rfl ?_
              refine j_iadd (pc := 112) C (v := nI (5 + iz)) d_Model_isTold_112 (nI_add _ _) ?_
              refine j_iald (pc := 113) C 1 rfl (v := g0 (5 + iz)) (vp_in_nI (by omega) (by decide)) (by rw [nI_clamp (by omega)]) d_Model_isTold_113 ?_
              refine j_bipush (pc := 114) C (v := 20) d_Model_isTold_114 (by decide) ?_
              refine j_icmp_le (pc := 116) C (tgt := 121) d_Model_isTold_116 (by decide) (fun c15 => ?_) (fun c15 => ?_)
              · refine j_iinc (pc := 121) C (v := nI (iz + 1)) (lv' := [(2, .int (nI (iz + 1))), (0, .ref mo), (1, .int (nI j))]) d_Model_isTold_121 0 rfl (nI_add _ _) (by decide) rfl ?_
                refine j_goto (pc := 124) C (tgt := 98) d_Model_isTold_124 (by decide) ?_
                refine j_sub (ws' := [(ma 45, .inl (y 0, 14, .inl g45)), MB mo ma (nI t1) i2 i3 i4 i5 i6 i7 i8 i42 i49 i51 i53 i54 i59 i61 i64 i66 (nI t67) i76 i78, (ma 43, .inl (y 0, 8, .inl g43)), (ma 0, .inl (y 0, 1600, .inl g0))]) [0, 2, 3, 1] rfl (by decide) ?_
                exact ih12 ((iz + 1)) (show (iz + 1) ≤ c0 by omega) (show c0 - (iz + 1) < c0 - iz by omega)
              · refine j_iconst (pc := 119) C (v := 0) d_Model_isTold_119 (by decide) ?_
                exact j_iret (pc := 120) C hr (by decide) () ⟨(by decide), (fun e => absurd e (by decide))⟩ [2, 1, 3, 0] rfl (by decide) (by decide) (by decide) d_Model_isTold_120
          · refine j_iconst (pc := 94) C (v := 0) d_Model_isTold_94 (by decide) ?_
            exact j_iret (pc := 95) C hr (by decide) () ⟨(by decide), (fun e => absurd e (by decide))⟩ [1, 3, 2, 0] rfl (by decide) (by decide) (by decide) d_Model_isTold_95
    · refine j_iconst (pc := 32) C (v := 0) d_Model_isTold_32 (by decide) ?_
      exact j_iret (pc := 33) C hr (by decide) () ⟨(by decide), (fun e => absurd e (by decide))⟩ [1, 3, 2, 0] rfl (by decide) (by decide) (by decide) d_Model_isTold_33
theorem d_Model_on_0 : decode prog_13_method_125_code 0 = .ok (.aload_n 0, 1) := by decide +kernel
theorem d_Model_on_1 : decode prog_13_method_125_code 1 = .ok (.getfield 198, 3) := by decide +kernel
theorem d_Model_on_4 : decode prog_13_method_125_code 4 = .ok (.istore_n 1, 1) := by decide +kernel
theorem d_Model_on_5 : decode prog_13_method_125_code 5 = .ok (.aload_n 0, 1) := by decide +kernel
theorem d_Model_on_6 : decode prog_13_method_125_code 6 = .ok (.iconst 0, 1) := by decide +kernel
theorem d_Model_on_7 : decode prog_13_method_125_code 7 = .ok (.putfield 198, 3) := by decide +kernel
theorem d_Model_on_10 : decode prog_13_method_125_code 10 = .ok (.aload_n 0, 1) := by decide +kernel
theorem d_Model_on_11 : decode prog_13_method_125_code 11 = .ok (.iload_n 1, 1) := by decide +kernel
theorem d_Model_on_12 : decode prog_13_method_125_code 12 = .ok (.invokevirtual 592, 3) := by decide +kernel
theorem kw_Model_592 : KW "NineBoardsModel" 592 ⟨"NineBoardsModel", "isTold", "(I)Z"⟩ prog_13_method_124_code 3 (some .boolean) 1 := ⟨(mt_8 (List.mem_of_getElem? (i := 118) rfl) rfl), (mt_1 (List.mem_of_getElem? (i := 16) rfl) rfl), (mt_8 (List.mem_of_getElem? (i := 121) rfl) rfl), by decide +kernel⟩
theorem kv_Model_isTold : Cond.instanceMethod ⟨"NineBoardsModel", "isTold", "(I)Z"⟩ ∈ TB ∧ Cond.selects "NineBoardsModel" ⟨"NineBoardsModel", "isTold", "(I)Z"⟩ ⟨"NineBoardsModel", "isTold", "(I)Z"⟩ ∈ TB := ⟨(mt_8 (List.mem_of_getElem? (i := 120) rfl) rfl), (ms_0 (List.mem_map.mpr ⟨(⟨"NineBoardsModel", "isTold", "(I)Z"⟩, 79), List.mem_of_getElem? (i := 133) (by decide +kernel), rfl⟩) rfl)⟩
theorem d_Model_on_15 : decode prog_13_method_125_code 15 = .ok (.ifCond .ne 5, 3) := by decide +kernel
theorem d_Model_on_20 : decode prog_13_method_125_code 20 = .ok (.aload_n 0, 1) := by decide +kernel
theorem d_Model_on_21 : decode prog_13_method_125_code 21 = .ok (.invokevirtual 338, 3) := by decide +kernel
theorem kw_Model_338 : KW "NineBoardsModel" 338 ⟨"NineBoardsModel", "nothing", "()V"⟩ prog_13_method_53_code 2 none 0 := ⟨(mt_7 (List.mem_of_getElem? (i := 23) rfl) rfl), (mt_1 (List.mem_of_getElem? (i := 16) rfl) rfl), (mt_7 (List.mem_of_getElem? (i := 26) rfl) rfl), by decide +kernel⟩
theorem kv_Model_nothing : Cond.instanceMethod ⟨"NineBoardsModel", "nothing", "()V"⟩ ∈ TB ∧ Cond.selects "NineBoardsModel" ⟨"NineBoardsModel", "nothing", "()V"⟩ ⟨"NineBoardsModel", "nothing", "()V"⟩ ∈ TB := ⟨(mt_7 (List.mem_of_getElem? (i := 25) rfl) rfl), (ms_0 (List.mem_map.mpr ⟨(⟨"NineBoardsModel", "nothing", "()V"⟩, 79), List.mem_of_getElem? (i := 87) (by decide +kernel), rfl⟩) rfl)⟩
theorem d_Model_on_24 : decode prog_13_method_125_code 24 = .ok (.aload_n 0, 1) := by decide +kernel
theorem d_Model_on_25 : decode prog_13_method_125_code 25 = .ok (.getfield 158, 3) := by decide +kernel
theorem d_Model_on_28 : decode prog_13_method_125_code 28 = .ok (.iconst 0, 1) := by decide +kernel
theorem d_Model_on_29 : decode prog_13_method_125_code 29 = .ok (.sipush 256, 3) := by decide +kernel
theorem d_Model_on_32 : decode prog_13_method_125_code 32 = .ok (.aload_n 0, 1) := by decide +kernel
theorem d_Model_on_33 : decode prog_13_method_125_code 33 = .ok (.getfield 7, 3) := by decide +kernel
theorem d_Model_on_36 : decode prog_13_method_125_code 36 = .ok (.iconst 0, 1) := by decide +kernel
theorem d_Model_on_37 : decode prog_13_method_125_code 37 = .ok (.iaload, 1) := by decide +kernel
theorem d_Model_on_38 : decode prog_13_method_125_code 38 = .ok (.imul, 1) := by decide +kernel
theorem d_Model_on_39 : decode prog_13_method_125_code 39 = .ok (.aload_n 0, 1) := by decide +kernel
theorem d_Model_on_40 : decode prog_13_method_125_code 40 = .ok (.getfield 7, 3) := by decide +kernel
theorem d_Model_on_43 : decode prog_13_method_125_code 43 = .ok (.iconst 1, 1) := by decide +kernel
theorem d_Model_on_44 : decode prog_13_method_125_code 44 = .ok (.iaload, 1) := by decide +kernel
theorem d_Model_on_45 : decode prog_13_method_125_code 45 = .ok (.iadd, 1) := by decide +kernel
theorem d_Model_on_46 : decode prog_13_method_125_code 46 = .ok (.iastore, 1) := by decide +kernel
theorem d_Model_on_47 : decode prog_13_method_125_code 47 = .ok (.aload_n 0, 1) := by decide +kernel
theorem d_Model_on_48 : decode prog_13_method_125_code 48 = .ok (.getfield 158, 3) := by decide +kernel
theorem d_Model_on_51 : decode prog_13_method_125_code 51 = .ok (.iconst 1, 1) := by decide +kernel
theorem d_Model_on_52 : decode prog_13_method_125_code 52 = .ok (.sipush 256, 3) := by decide +kernel
theorem d_Model_on_55 : decode prog_13_method_125_code 55 = .ok (.aload_n 0, 1) := by decide +kernel
theorem d_Model_on_56 : decode prog_13_method_125_code 56 = .ok (.getfield 7, 3) := by decide +kernel
theorem d_Model_on_59 : decode prog_13_method_125_code 59 = .ok (.iconst 2, 1) := by decide +kernel
theorem d_Model_on_60 : decode prog_13_method_125_code 60 = .ok (.iaload, 1) := by decide +kernel
theorem d_Model_on_61 : decode prog_13_method_125_code 61 = .ok (.imul, 1) := by decide +kernel
theorem d_Model_on_62 : decode prog_13_method_125_code 62 = .ok (.aload_n 0, 1) := by decide +kernel
theorem d_Model_on_63 : decode prog_13_method_125_code 63 = .ok (.getfield 7, 3) := by decide +kernel
theorem d_Model_on_66 : decode prog_13_method_125_code 66 = .ok (.iconst 3, 1) := by decide +kernel
theorem d_Model_on_67 : decode prog_13_method_125_code 67 = .ok (.iaload, 1) := by decide +kernel
theorem d_Model_on_68 : decode prog_13_method_125_code 68 = .ok (.iadd, 1) := by decide +kernel
theorem d_Model_on_69 : decode prog_13_method_125_code 69 = .ok (.iastore, 1) := by decide +kernel
theorem d_Model_on_70 : decode prog_13_method_125_code 70 = .ok (.aload_n 0, 1) := by decide +kernel
theorem d_Model_on_71 : decode prog_13_method_125_code 71 = .ok (.getfield 158, 3) := by decide +kernel
theorem d_Model_on_74 : decode prog_13_method_125_code 74 = .ok (.bipush 30, 2) := by decide +kernel
theorem d_Model_on_76 : decode prog_13_method_125_code 76 = .ok (.aload_n 0, 1) := by decide +kernel
theorem d_Model_on_77 : decode prog_13_method_125_code 77 = .ok (.getfield 158, 3) := by decide +kernel
theorem d_Model_on_80 : decode prog_13_method_125_code 80 = .ok (.iconst 1, 1) := by decide +kernel
theorem d_Model_on_81 : decode prog_13_method_125_code 81 = .ok (.iaload, 1) := by decide +kernel
theorem d_Model_on_82 : decode prog_13_method_125_code 82 = .ok (.iastore, 1) := by decide +kernel
theorem d_Model_on_83 : decode prog_13_method_125_code 83 = .ok (.aload_n 0, 1) := by decide +kernel
theorem d_Model_on_84 : decode prog_13_method_125_code 84 = .ok (.getfield 158, 3) := by decide +kernel
theorem d_Model_on_87 : decode prog_13_method_125_code 87 = .ok (.iconst 2, 1) := by decide +kernel
theorem d_Model_on_88 : decode prog_13_method_125_code 88 = .ok (.aload_n 0, 1) := by decide +kernel
theorem d_Model_on_89 : decode prog_13_method_125_code 89 = .ok (.getfield 7, 3) := by decide +kernel
theorem d_Model_on_92 : decode prog_13_method_125_code 92 = .ok (.iconst 4, 1) := by decide +kernel
theorem d_Model_on_93 : decode prog_13_method_125_code 93 = .ok (.iaload, 1) := by decide +kernel
theorem d_Model_on_94 : decode prog_13_method_125_code 94 = .ok (.iastore, 1) := by decide +kernel
theorem d_Model_on_95 : decode prog_13_method_125_code 95 = .ok (.iconst 0, 1) := by decide +kernel
theorem d_Model_on_96 : decode prog_13_method_125_code 96 = .ok (.istore_n 2, 1) := by decide +kernel
theorem d_Model_on_97 : decode prog_13_method_125_code 97 = .ok (.iload_n 2, 1) := by decide +kernel
theorem d_Model_on_98 : decode prog_13_method_125_code 98 = .ok (.aload_n 0, 1) := by decide +kernel
theorem d_Model_on_99 : decode prog_13_method_125_code 99 = .ok (.invokevirtual 341, 3) := by decide +kernel
theorem d_Model_on_102 : decode prog_13_method_125_code 102 = .ok (.if_icmp .ge 25, 3) := by decide +kernel
theorem d_Model_on_127 : decode prog_13_method_125_code 127 = .ok (.iconst 1, 1) := by decide +kernel
theorem d_Model_on_128 : decode prog_13_method_125_code 128 = .ok (.ireturn, 1) := by decide +kernel
theorem d_Model_on_105 : decode prog_13_method_125_code 105 = .ok (.aload_n 0, 1) := by decide +kernel
theorem d_Model_on_106 : decode prog_13_method_125_code 106 = .ok (.getfield 158, 3) := by decide +kernel
theorem d_Model_on_109 : decode prog_13_method_125_code 109 = .ok (.iconst 3, 1) := by decide +kernel
theorem d_Model_on_110 : decode prog_13_method_125_code 110 = .ok (.iload_n 2, 1) := by decide +kernel
theorem d_Model_on_111 : decode prog_13_method_125_code 111 = .ok (.iadd, 1) := by decide +kernel
theorem d_Model_on_112 : decode prog_13_method_125_code 112 = .ok (.aload_n 0, 1) := by decide +kernel
theorem d_Model_on_113 : decode prog_13_method_125_code 113 = .ok (.getfield 7, 3) := by decide +kernel
theorem d_Model_on_116 : decode prog_13_method_125_code 116 = .ok (.iconst 5, 1) := by decide +kernel
theorem d_Model_on_117 : decode prog_13_method_125_code 117 = .ok (.iload_n 2, 1) := by decide +kernel
theorem d_Model_on_118 : decode prog_13_method_125_code 118 = .ok (.iadd, 1) := by decide +kernel
theorem d_Model_on_119 : decode prog_13_method_125_code 119 = .ok (.iaload, 1) := by decide +kernel
theorem d_Model_on_120 : decode prog_13_method_125_code 120 = .ok (.iastore, 1) := by decide +kernel
theorem d_Model_on_121 : decode prog_13_method_125_code 121 = .ok (.iinc 2 1, 3) := by decide +kernel
theorem d_Model_on_124 : decode prog_13_method_125_code 124 = .ok (.goto (-27), 3) := by decide +kernel
theorem d_Model_on_18 : decode prog_13_method_125_code 18 = .ok (.iconst 0, 1) := by decide +kernel
theorem d_Model_on_19 : decode prog_13_method_125_code 19 = .ok (.ireturn, 1) := by decide +kernel
set_option maxHeartbeats 4000000 in
set_option maxRecDepth 100000 in
theorem c_M_on (l : Launch) (D : va_G) (y : Nat → ClassId) (mo : Nat) (ma : Nat → Nat) (t1 : Nat) (i2 : Int32) (i3 : Int32) (i4 : Int32) (i5 : Int32) (i6 : Int32) (i7 : Int32) (i8 : Int32) (i42 : Int32) (i49 : Int32) (i51 : Int32) (i53 : Int32) (i54 : Int32) (i59 : Int32) (i61 : Int32) (i64 : Int32) (i66 : Int32) (t67 : Nat) (i76 : Int64) (i78 : Int32) (g0 : Nat → Int32) (g43 : Nat → Int32) (g45 : Nat → Int32) (g62 : Nat → Int32) (c0 : Nat) (dy : Nat) (hc0 : g43 4 = nI c0) (bc0 : c0 ≤ 9) (hTB : ∀ j, j < 1600 → ∃ q, q < 256 ∧ g0 j = nI q) (hD : g62 0 = nI dy) (bD : dy ≤ 999) (bt : t1 ≤ 1600) : CT l D y ⟨"NineBoardsModel", "on", "()Z"⟩ prog_13_method_125_code 3 (some .boolean) ({ frames := 2, cells := 0, slots := 0, locals := 45 } : Room) [.ref mo] [MB mo ma (nI t1) i2 i3 i4 i5 i6 i7 i8 i42 i49 i51 i53 i54 i59 i61 i64 i66 (nI t67) i76 i78, (ma 0, .inl (y 0, 1600, .inl g0)), (ma 43, .inl (y 0, 8, .inl g43)), (ma 45, .inl (y 0, 14, .inl g45)), (ma 62, .inl (y 0, 63, .inl g62))] (QI D [MB mo ma (nI t1) i2 i3 i4 i5 i6 i7 i8 i42 i49 i51 i53 i54 i59 i61 i64 i66 (nI t67) i76 i78, (ma 0, .inl (y 0, 1600, .inl g0)), (ma 43, .inl (y 0, 8, .inl g43)), (ma 45, .inl (y 0, 14, .inl g45)), (ma 62, .inl (y 0, 63, .inl g62))] (fun (r : Int32) (u : Nat × Int32 × (Nat → Int32)) => (∃ q, q ≤ 999 ∧ u.2.2 0 = nI q) ∧ u.1 = 0) (fun u => [MB mo ma (nI u.1) i2 i3 i4 i5 i6 i7 i8 i42 i49 i51 i53 i54 i59 i61 i64 u.2.1 (nI t67) i76 i78, (ma 0, .inl (y 0, 1600, .inl g0)), (ma 43, .inl (y 0, 8, .inl g43)), (ma 45, .inl (y 0, 14, .inl g45)), (ma 62, .inl (y 0, 63, .inl u.2.2))])) := by
  refine CT.of (by decide) (nb rfl) ?_
  intro p e s m args below meth c C hr
  refine j_lv (lv' := [(0, .ref mo)]) rfl ?_
  obtain ⟨ta, bta, hta⟩ := hTB 0 (by omega)
  obtain ⟨tb, btb, htb⟩ := hTB 1 (by omega)
  refine j_aload_n (pc := 0) C d_Model_on_0 rfl 0 rfl ?_
  refine j_get (pc := 1) C gf_Model_198 0 rfl rfl d_Model_on_1 ?_
  refine j_istore_n (pc := 4) C (lv' := [(1, .int (nI t1)), (0, .ref mo)]) d_Model_on_4 rfl (by decide) rfl ?_
  refine j_aload_n (pc := 5) C d_Model_on_5 rfl 1 rfl ?_
  refine j_iconst (pc := 6) C (v := 0) d_Model_on_6 (by decide) ?_
  refine j_put (pc := 7) C pf_Model_198 0 (ws' := [MB mo ma 0 i2 i3 i4 i5 i6 i7 i8 i42 i49 i51 i53 i54 i59 i61 i64 i66 (nI t67) i76 i78, (ma 0, .inl (y 0, 1600, .inl g0)), (ma 43, .inl (y 0, 8, .inl g43)), (ma 45, .inl (y 0, 14, .inl g45)), (ma 62, .inl (y 0, 63, .inl g62))]) rfl rfl rfl (nl rfl) rfl d_Model_on_7 ?_
  refine j_aload_n (pc := 10) C d_Model_on_10 rfl 1 rfl ?_
  refine j_iload_n (pc := 11) C d_Model_on_11 rfl 0 rfl ?_
  refine j_callVi (pc := 12) C (c_M_isTold l D y mo ma 0 i2 i3 i4 i5 i6 i7 i8 i42 i49 i51 i53 i54 i59 i61 i64 i66 t67 i76 i78 g0 g43 g45 t1 c0 ta tb hc0 bc0 bt hta htb (by omega) (by omega)) kw_Model_592 kv_Model_isTold 0 10 rfl rfl ⟨by decide, by decide⟩ ⟨by decide, by decide⟩ (wr := [(ma 62, .inl (y 0, 63, .inl g62))]) [0, 1, 2, 3] [4] rfl rfl (by decide) (by decide) (by decide) (As := [.int (nI t1)]) (rest := []) rfl (nb rfl) rfl d_Model_on_12 (fun r1 _ hr1 => ?_)
  obtain ⟨xh2, xh3⟩ := hr1
  refine j_ws (ws' := [(ma 62, .inl (y 0, 63, .inl g62)), MB mo ma (nI 0) i2 i3 i4 i5 i6 i7 i8 i42 i49 i51 i53 i54 i59 i61 i64 i66 (nI t67) i76 i78, (ma 0, .inl (y 0, 1600, .inl g0)), (ma 43, .inl (y 0, 8, .inl g43)), (ma 45, .inl (y 0, 14, .inl g45))]) rfl ?_
  refine j_if_ne (pc := 15) C (tgt := 20) d_Model_on_15 (by decide) (fun c4 => ?_) (fun c4 => ?_)
  · have hdz : 256 * ta + tb ≤ 999 := xh3 (xh2.resolve_left c4)
    refine j_aload_n (pc := 20) C d_Model_on_20 rfl 1 rfl ?_
    refine j_callVv (pc := 21) C (c_M_nothing l D y mo ma 0 i2 i3 i4 i5 i6 i7 i8 i42 i49 i51 i53 i54 i59 i61 i64 i66 t67 i76 i78 g62) kw_Model_338 kv_Model_nothing 0 10 rfl rfl ⟨by decide, by decide⟩ ⟨by decide, by decide⟩ (wr := [(ma 0, .inl (y 0, 1600, .inl g0)), (ma 43, .inl (y 0, 8, .inl g43)), (ma 45, .inl (y 0, 14, .inl g45))]) [1, 0] [2, 3, 4] rfl rfl (by decide) (by decide) (by decide) (As := []) (rest := []) rfl (nb rfl) rfl d_Model_on_21 (fun u5 hu6 => ?_)
    have xh7 := hu6
    refine j_ws (ws' := [(ma 0, .inl (y 0, 1600, .inl g0)), (ma 43, .inl (y 0, 8, .inl g43)), (ma 45, .inl (y 0, 14, .inl g45)), MB mo ma (nI 0) i2 i3 i4 i5 i6 i7 i8 i42 i49 i51 i53 i54 i59 i61 i64 u5.1 (nI t67) i76 i78, (ma 62, .inl (y 0, 63, .inl u5.2))]) rfl ?_
    refine j_aload_n (pc := 24) C d_Model_on_24 rfl 1 rfl ?_
    refine j_get (pc := 25) C gf_Model_158 3 rfl rfl d_Model_on_25 ?_
    refine j_iconst (pc := 28) C (v := 0) d_Model_on_28 (by decide) ?_
    refine j_sipush (pc := 29) C (v := 256) d_Model_on_29 (by decide) ?_
    refine j_aload_n (pc := 32) C d_Model_on_32 rfl 1 rfl ?_
    refine j_get (pc := 33) C gf_Model_7 3 rfl rfl d_Model_on_33 ?_
    refine j_iconst (pc := 36) C (v := 0) d_Model_on_36 (by decide) ?_
    refine j_iald (pc := 37) C 0 rfl (v := nI ta) (vin (by decide)) (by exact hta) d_Model_on_37 ?_
    refine j_imul (pc := 38) C (v := nI (256 * ta)) d_Model_on_38 (pk_mul _ _) ?_
    refine j_aload_n (pc := 39) C d_Model_on_39 rfl 1 rfl ?_
    refine j_get (pc := 40) C gf_Model_7 3 rfl rfl d_Model_on_40 ?_
    refine j_iconst (pc := 43) C (v := 1) d_Model_on_43 (by decide) ?_
    refine j_iald (pc := 44) C 0 rfl (v := nI tb) (vin (by decide)) (by exact htb) d_Model_on_44 ?_
    refine j_iadd (pc := 45) C (v := nI ((256 * ta) + tb)) d_Model_on_45 (nI_add _ _) ?_
    refine j_iast (pc := 46) C 4 rfl (ws' := [(ma 0, .inl (y 0, 1600, .inl g0)), (ma 43, .inl (y 0, 8, .inl g43)), (ma 45, .inl (y 0, 14, .inl g45)), MB mo ma (nI 0) i2 i3 i4 i5 i6 i7 i8 i42 i49 i51 i53 i54 i59 i61 i64 u5.1 (nI t67) i76 i78, (ma 62, .inl (y 0, 63, .inl (upd u5.2 0 (nI ((256 * ta) + tb)))))]) (vin (by decide)) rfl d_Model_on_46 ?_
    refine j_genW (fun f8 => [(ma 0, .inl (y 0, 1600, .inl g0)), (ma 43, .inl (y 0, 8, .inl g43)), (ma 45, .inl (y 0, 14, .inl g45)), MB mo ma (nI 0) i2 i3 i4 i5 i6 i7 i8 i42 i49 i51 i53 i54 i59 i61 i64 u5.1 (nI t67) i76 i78, (ma 62, .inl (y 0, 63, .inl f8))]) (upd u5.2 0 (nI ((256 * ta) + tb))) rfl (fun f8 => (f8 0 = nI ((256 * ta) + tb))) (show upd u5.2 0 (nI ((256 * ta) + tb)) 0 = nI ((256 * ta) + tb) from pk_us) ?_
    rintro f8 xh9
    refine j_ws (ws' := [(ma 0, .inl (y 0, 1600, .inl g0)), (ma 43, .inl (y 0, 8, .inl g43)), (ma 45, .inl (y 0, 14, .inl g45)), MB mo ma (nI 0) i2 i3 i4 i5 i6 i7 i8 i42 i49 i51 i53 i54 i59 i61 i64 u5.1 (nI t67) i76 i78, (ma 62, .inl (y 0, 63, .inl f8))]) rfl ?_
    have xh9 : f8 0 = nI ((256 * ta) + tb) := xh9
    refine j_aload_n (pc := 47) C d_Model_on_47 rfl 1 rfl ?_
    refine j_get (pc := 48) C gf_Model_158 3 rfl rfl d_Model_on_48 ?_
    refine j_iconst (pc := 51) C (v := 1) d_Model_on_51 (by decide) ?_
    refine j_sipush (pc := 52) C (v := 256) d_Model_on_52 (by decide) ?_
    refine j_aload_n (pc := 55) C d_Model_on_55 rfl 1 rfl ?_
    refine j_get (pc := 56) C gf_Model_7 3 rfl rfl d_Model_on_56 ?_
    refine j_iconst (pc := 59) C (v := 2) d_Model_on_59 (by decide) ?_
    refine j_iald (pc := 60) C 0 rfl (v := g0 2) (vin (by decide)) rfl d_Model_on_60 ?_
    refine j_imul (pc := 61) C (v := 256 * (g0 2)) d_Model_on_61 rfl ?_
    refine j_aload_n (pc := 62) C d_Model_on_62 rfl 1 rfl ?_
    refine j_get (pc := 63) C gf_Model_7 3 rfl rfl d_Model_on_63 ?_
    refine j_iconst (pc := 66) C (v := 3) d_Model_on_66 (by decide) ?_
    refine j_iald (pc := 67) C 0 rfl (v := g0 3) (vin (by decide)) rfl d_Model_on_67 ?_
    refine j_iadd (pc := 68) C (v := (256 * (g0 2)) + (g0 3)) d_Model_on_68 rfl ?_
    refine j_iast (pc := 69) C 4 rfl (ws' := [(ma 0, .inl (y 0, 1600, .inl g0)), (ma 43, .inl (y 0, 8, .inl g43)), (ma 45, .inl (y 0, 14, .inl g45)), MB mo ma (nI 0) i2 i3 i4 i5 i6 i7 i8 i42 i49 i51 i53 i54 i59 i61 i64 u5.1 (nI t67) i76 i78, (ma 62, .inl (y 0, 63, .inl (upd f8 1 ((256 * (g0 2)) + (g0 3)))))]) (vin (by decide)) rfl d_Model_on_69 ?_
    refine j_genW (fun f10 => [(ma 0, .inl (y 0, 1600, .inl g0)), (ma 43, .inl (y 0, 8, .inl g43)), (ma 45, .inl (y 0, 14, .inl g45)), MB mo ma (nI 0) i2 i3 i4 i5 i6 i7 i8 i42 i49 i51 i53 i54 i59 i61 i64 u5.1 (nI t67) i76 i78, (ma 62, .inl (y 0, 63, .inl f10))]) (upd f8 1 ((256 * (g0 2)) + (g0 3))) rfl (fun f10 => (f10 0 = nI ((256 * ta) + tb))) (show upd f8 1 ((256 * (g0 2)) + (g0 3)) 0 = nI ((256 * ta) + tb) by rw [pk_un (by omega)]; exact xh9) ?_
    rintro f10 xh11
    refine j_ws (ws' := [(ma 0, .inl (y 0, 1600, .inl g0)), (ma 43, .inl (y 0, 8, .inl g43)), (ma 45, .inl (y 0, 14, .inl g45)), MB mo ma (nI 0) i2 i3 i4 i5 i6 i7 i8 i42 i49 i51 i53 i54 i59 i61 i64 u5.1 (nI t67) i76 i78, (ma 62, .inl (y 0, 63, .inl f10))]) rfl ?_
    have xh11 : f10 0 = nI ((256 * ta) + tb) := xh11
    refine j_aload_n (pc := 70) C d_Model_on_70 rfl 1 rfl ?_
    refine j_get (pc := 71) C gf_Model_158 3 rfl rfl d_Model_on_71 ?_
    refine j_bipush (pc := 74) C (v := 30) d_Model_on_74 (by decide) ?_
    refine j_aload_n (pc := 76) C d_Model_on_76 rfl 1 rfl ?_
    refine j_get (pc := 77) C gf_Model_158 3 rfl rfl d_Model_on_77 ?_
    refine j_iconst (pc := 80) C (v := 1) d_Model_on_80 (by decide) ?_
    refine j_iald (pc := 81) C 4 rfl (v := f10 1) (vin (by decide)) rfl d_Model_on_81 ?_
    refine j_iast (pc := 82) C 4 rfl (ws' := [(ma 0, .inl (y 0, 1600, .inl g0)), (ma 43, .inl (y 0, 8, .inl g43)), (ma 45, .inl (y 0, 14, .inl g45)), MB mo ma (nI 0) i2 i3 i4 i5 i6 i7 i8 i42 i49 i51 i53 i54 i59 i61 i64 u5.1 (nI t67) i76 i78, (ma 62, .inl (y 0, 63, .inl (upd f10 30 (f10 1))))]) (vin (by decide)) rfl d_Model_on_82 ?_
    refine j_genW (fun f12 => [(ma 0, .inl (y 0, 1600, .inl g0)), (ma 43, .inl (y 0, 8, .inl g43)), (ma 45, .inl (y 0, 14, .inl g45)), MB mo ma (nI 0) i2 i3 i4 i5 i6 i7 i8 i42 i49 i51 i53 i54 i59 i61 i64 u5.1 (nI t67) i76 i78, (ma 62, .inl (y 0, 63, .inl f12))]) (upd f10 30 (f10 1)) rfl (fun f12 => (f12 0 = nI ((256 * ta) + tb))) (show upd f10 30 (f10 1) 0 = nI ((256 * ta) + tb) by rw [pk_un (by omega)]; exact xh11) ?_
    rintro f12 xh13
    refine j_ws (ws' := [(ma 0, .inl (y 0, 1600, .inl g0)), (ma 43, .inl (y 0, 8, .inl g43)), (ma 45, .inl (y 0, 14, .inl g45)), MB mo ma (nI 0) i2 i3 i4 i5 i6 i7 i8 i42 i49 i51 i53 i54 i59 i61 i64 u5.1 (nI t67) i76 i78, (ma 62, .inl (y 0, 63, .inl f12))]) rfl ?_
    have xh13 : f12 0 = nI ((256 * ta) + tb) := xh13
    refine j_aload_n (pc := 83) C d_Model_on_83 rfl 1 rfl ?_
    refine j_get (pc := 84) C gf_Model_158 3 rfl rfl d_Model_on_84 ?_
    refine j_iconst (pc := 87) C (v := 2) d_Model_on_87 (by decide) ?_
    refine j_aload_n (pc := 88) C d_Model_on_88 rfl 1 rfl ?_
    refine j_get (pc := 89) C gf_Model_7 3 rfl rfl d_Model_on_89 ?_
    refine j_iconst (pc := 92) C (v := 4) d_Model_on_92 (by decide) ?_
    refine j_iald (pc := 93) C 0 rfl (v := g0 4) (vin (by decide)) rfl d_Model_on_93 ?_
    refine j_iast (pc := 94) C 4 rfl (ws' := [(ma 0, .inl (y 0, 1600, .inl g0)), (ma 43, .inl (y 0, 8, .inl g43)), (ma 45, .inl (y 0, 14, .inl g45)), MB mo ma (nI 0) i2 i3 i4 i5 i6 i7 i8 i42 i49 i51 i53 i54 i59 i61 i64 u5.1 (nI t67) i76 i78, (ma 62, .inl (y 0, 63, .inl (upd f12 2 (g0 4))))]) (vin (by decide)) rfl d_Model_on_94 ?_
    refine j_genW (fun f14 => [(ma 0, .inl (y 0, 1600, .inl g0)), (ma 43, .inl (y 0, 8, .inl g43)), (ma 45, .inl (y 0, 14, .inl g45)), MB mo ma (nI 0) i2 i3 i4 i5 i6 i7 i8 i42 i49 i51 i53 i54 i59 i61 i64 u5.1 (nI t67) i76 i78, (ma 62, .inl (y 0, 63, .inl f14))]) (upd f12 2 (g0 4)) rfl (fun f14 => (f14 0 = nI ((256 * ta) + tb))) (show upd f12 2 (g0 4) 0 = nI ((256 * ta) + tb) by rw [pk_un (by omega)]; exact xh13) ?_
    rintro f14 xh15
    refine j_ws (ws' := [(ma 0, .inl (y 0, 1600, .inl g0)), (ma 43, .inl (y 0, 8, .inl g43)), (ma 45, .inl (y 0, 14, .inl g45)), MB mo ma (nI 0) i2 i3 i4 i5 i6 i7 i8 i42 i49 i51 i53 i54 i59 i61 i64 u5.1 (nI t67) i76 i78, (ma 62, .inl (y 0, 63, .inl f14))]) rfl ?_
    have xh15 : f14 0 = nI ((256 * ta) + tb) := xh15
    refine j_iconst (pc := 95) C (v := 0) d_Model_on_95 (by decide) ?_
    refine j_istore_n (pc := 96) C (lv' := [(2, .int 0), (1, .int (nI t1)), (0, .ref mo)]) d_Model_on_96 rfl (by decide) rfl ?_
    refine j_loop (α := Nat × (Nat → Int32) × Nat) (fun a => c0 - a.1) (fun a => (a.1 ≤ c0) ∧ (a.2.1 0 = nI a.2.2) ∧ (a.2.2 ≤ 999)) (fun a => [(ma 0, .inl (y 0, 1600, .inl g0)), (ma 43, .inl (y 0, 8, .inl g43)), (ma 45, .inl (y 0, 14, .inl g45)), MB mo ma (nI 0) i2 i3 i4 i5 i6 i7 i8 i42 i49 i51 i53 i54 i59 i61 i64 u5.1 (nI t67) i76 i78, (ma 62, .inl (y 0, 63, .inl a.2.1))]) (fun a => [(2, .int (nI a.1)), (1, .int (nI t1)), (0, .ref mo)]) (0, f14, ((256 * ta) + tb)) rfl rfl ⟨(show 0 ≤ c0 by omega), xh15, (show ((256 * ta) + tb) ≤ 999 by omega)⟩ ?_
    rintro ⟨iz, nz, qd⟩ hP20 ih21
    obtain ⟨hi__, hn__, hq__⟩ := hP20
    have hi_ : iz ≤ c0 := hi__
    have hn_ : nz 0 = nI qd := hn__
    have hq_ : qd ≤ 999 := hq__
    refine j_ws (ws' := [(ma 0, .inl (y 0, 1600, .inl g0)), (ma 43, .inl (y 0, 8, .inl g43)), (ma 45, .inl (y 0, 14, .inl g45)), MB mo ma (nI 0) i2 i3 i4 i5 i6 i7 i8 i42 i49 i51 i53 i54 i59 i61 i64 u5.1 (nI t67) i76 i78, (ma 62, .inl (y 0, 63, .inl nz))]) rfl ?_
    refine j_lv (lv' := [(2, .int (nI iz)), (1, .int (nI t1)), (0, .ref mo)]) rfl ?_
    refine j_iload_n (pc := 97) C d_Model_on_97 rfl 0 rfl ?_
    refine j_aload_n (pc := 98) C d_Model_on_98 rfl 2 rfl ?_
    refine j_callVi (pc := 99) C (c_M_gateMany l D y mo ma 0 i2 i3 i4 i5 i6 i7 i8 i42 i49 i51 i53 i54 i59 i61 i64 u5.1 t67 i76 i78 g43 c0 hc0 bc0) kw_Model_341 kv_Model_gateMany 0 10 rfl rfl ⟨by decide, by decide⟩ ⟨by decide, by decide⟩ (wr := [(ma 0, .inl (y 0, 1600, .inl g0)), (ma 45, .inl (y 0, 14, .inl g45)), (ma 62, .inl (y 0, 63, .inl nz))]) [3, 1] [0, 2, 4] rfl rfl (by decide) (by decide) (by decide) (As := []) (rest := [.int (nI iz)]) rfl (nb rfl) rfl d_Model_on_99 (fun r22 _ hr22 => ?_)
    obtain rfl := hr22
    refine j_ws (ws' := [(ma 0, .inl (y 0, 1600, .inl g0)), (ma 45, .inl (y 0, 14, .inl g45)), (ma 62, .inl (y 0, 63, .inl nz)), MB mo ma (nI 0) i2 i3 i4 i5 i6 i7 i8 i42 i49 i51 i53 i54 i59 i61 i64 u5.1 (nI t67) i76 i78, (ma 43, .inl (y 0, 8, .inl g43))]) rfl ?_
    by_cases c23 : c0 ≤ iz
    · refine j_icmp_geT (pc := 102) C (tgt := 127) d_Model_on_102 (by decide) (show nI c0 ≤ nI iz from nI_le (by omega) (by omega)) ?_
      refine j_iconst (pc := 127) C (v := 1) d_Model_on_127 (by decide) ?_
      exact j_iret (pc := 128) C hr (by decide) (0, u5.1, nz) ⟨⟨qd, by omega, hn_⟩, rfl⟩ [3, 0, 4, 1, 2] rfl (by decide) (by decide) (by decide) d_Model_on_128
    · refine j_icmp_geF (pc := 102) C (tgt := 127) d_Model_on_102 (by decide) (show ¬ nI c0 ≤ nI iz from nI_ge (by omega) (by omega)) ?_
      refine j_aload_n (pc := 105) C d_Model_on_105 rfl 2 rfl ?_
      refine j_get (pc := 106) C gf_Model_158 3 rfl rfl d_Model_on_106 ?_
      refine j_iconst (pc := 109) C (v := 3) d_Model_on_109 (by decide) ?_
      refine j_iload_n (pc := 110) C d_Model_on_110 rfl 0 rfl ?_
      refine j_iadd (pc := 111) C (v := nI (3 + iz)) d_Model_on_111 (nI_add _ _) ?_
      refine j_aload_n (pc := 112) C d_Model_on_112 rfl 2 rfl ?_
      refine j_get (pc := 113) C gf_Model_7 3 rfl rfl d_Model_on_113 ?_
      refine j_iconst (pc := 116) C (v := 5) d_Model_on_116 (by decide) ?_
      refine j_iload_n (pc := 117) C d_Model_on_117 rfl 0 rfl ?_
      refine j_iadd (pc := 118) C (v := nI (5 + iz)) d_Model_on_118 (nI_add _ _) ?_
      refine j_iald (pc := 119) C 0 rfl (v := g0 (5 + iz)) (vp_in_nI (by omega) (by decide)) (by rw [nI_clamp (by omega)]) d_Model_on_119 ?_
      refine j_iast (pc := 120) C 2 rfl (ws' := [(ma 0, .inl (y 0, 1600, .inl g0)), (ma 45, .inl (y 0, 14, .inl g45)), (ma 62, .inl (y 0, 63, .inl (upd nz (3 + iz) (g0 (5 + iz))))), MB mo ma (nI 0) i2 i3 i4 i5 i6 i7 i8 i42 i49 i51 i53 i54 i59 i61 i64 u5.1 (nI t67) i76 i78, (ma 43, .inl (y 0, 8, .inl g43))]) (vp_in_nI (by omega) (by decide)) (by rw [nI_clamp (by omega)]; rfl) d_Model_on_120 ?_
      refine j_genW (fun f24 => [(ma 0, .inl (y 0, 1600, .inl g0)), (ma 45, .inl (y 0, 14, .inl g45)), (ma 62, .inl (y 0, 63, .inl f24)), MB mo ma (nI 0) i2 i3 i4 i5 i6 i7 i8 i42 i49 i51 i53 i54 i59 i61 i64 u5.1 (nI t67) i76 i78, (ma 43, .inl (y 0, 8, .inl g43))]) (upd nz (3 + iz) (g0 (5 + iz))) rfl (fun f24 => (f24 0 = nI qd)) (show upd nz (3 + iz) (g0 (5 + iz)) 0 = nI qd by rw [pk_un (by omega)]; exact hn_) ?_
      rintro f24 xh25
      refine j_ws (ws' := [(ma 0, .inl (y 0, 1600, .inl g0)), (ma 45, .inl (y 0, 14, .inl g45)), (ma 62, .inl (y 0, 63, .inl f24)), MB mo ma (nI 0) i2 i3 i4 i5 i6 i7 i8 i42 i49 i51 i53 i54 i59 i61 i64 u5.1 (nI t67) i76 i78, (ma 43, .inl (y 0, 8, .inl g43))]) rfl ?_
      have xh25 : f24 0 = nI qd := xh25
      refine j_iinc (pc := 121) C (v := nI (iz + 1)) (lv' := [(2, .int (nI (iz + 1))), (1, .int (nI t1)), (0, .ref mo)]) d_Model_on_121 0 rfl (nI_add _ _) (by decide) rfl ?_
      refine j_goto (pc := 124) C (tgt := 97) d_Model_on_124 (by decide) ?_
      refine j_sub (ws' := [(ma 0, .inl (y 0, 1600, .inl g0)), (ma 43, .inl (y 0, 8, .inl g43)), (ma 45, .inl (y 0, 14, .inl g45)), MB mo ma (nI 0) i2 i3 i4 i5 i6 i7 i8 i42 i49 i51 i53 i54 i59 i61 i64 u5.1 (nI t67) i76 i78, (ma 62, .inl (y 0, 63, .inl f24))]) [0, 4, 1, 3, 2] rfl (by decide) ?_
      exact ih21 ((iz + 1), f24, qd) ⟨(show (iz + 1) ≤ c0 by omega), xh25, hq_⟩ (show c0 - (iz + 1) < c0 - iz by omega)
  · refine j_iconst (pc := 18) C (v := 0) d_Model_on_18 (by decide) ?_
    exact j_iret (pc := 19) C hr (by decide) (0, i66, g62) ⟨⟨dy, by omega, hD⟩, rfl⟩ [1, 2, 3, 4, 0] rfl (by decide) (by decide) (by decide) d_Model_on_19
theorem d_Model_feed_0 : decode prog_13_method_3_code 0 = .ok (.aload_n 0, 1) := by decide +kernel
theorem d_Model_feed_1 : decode prog_13_method_3_code 1 = .ok (.getfield 198, 3) := by decide +kernel
theorem d_Model_feed_4 : decode prog_13_method_3_code 4 = .ok (.bipush 20, 2) := by decide +kernel
theorem d_Model_feed_6 : decode prog_13_method_3_code 6 = .ok (.iadd, 1) := by decide +kernel
theorem d_Model_feed_7 : decode prog_13_method_3_code 7 = .ok (.sipush 1600, 3) := by decide +kernel
theorem d_Model_feed_10 : decode prog_13_method_3_code 10 = .ok (.if_icmp .le 5, 3) := by decide +kernel
theorem d_Model_feed_15 : decode prog_13_method_3_code 15 = .ok (.iconst 0, 1) := by decide +kernel
theorem d_Model_feed_16 : decode prog_13_method_3_code 16 = .ok (.istore 6, 2) := by decide +kernel
theorem d_Model_feed_18 : decode prog_13_method_3_code 18 = .ok (.iload 6, 2) := by decide +kernel
theorem d_Model_feed_20 : decode prog_13_method_3_code 20 = .ok (.bipush 20, 2) := by decide +kernel
theorem d_Model_feed_22 : decode prog_13_method_3_code 22 = .ok (.if_icmp .ge 92, 3) := by decide +kernel
theorem d_Model_feed_114 : decode prog_13_method_3_code 114 = .ok (.aload_n 0, 1) := by decide +kernel
theorem d_Model_feed_115 : decode prog_13_method_3_code 115 = .ok (.getfield 198, 3) := by decide +kernel
theorem d_Model_feed_118 : decode prog_13_method_3_code 118 = .ok (.ireturn, 1) := by decide +kernel
theorem d_Model_feed_25 : decode prog_13_method_3_code 25 = .ok (.iload 6, 2) := by decide +kernel
theorem d_Model_feed_27 : decode prog_13_method_3_code 27 = .ok (.iconst 4, 1) := by decide +kernel
theorem d_Model_feed_28 : decode prog_13_method_3_code 28 = .ok (.if_icmp .ge 7, 3) := by decide +kernel
theorem d_Model_feed_35 : decode prog_13_method_3_code 35 = .ok (.iload 6, 2) := by decide +kernel
theorem d_Model_feed_37 : decode prog_13_method_3_code 37 = .ok (.bipush 8, 2) := by decide +kernel
theorem d_Model_feed_39 : decode prog_13_method_3_code 39 = .ok (.if_icmp .ge 7, 3) := by decide +kernel
theorem d_Model_feed_46 : decode prog_13_method_3_code 46 = .ok (.iload 6, 2) := by decide +kernel
theorem d_Model_feed_48 : decode prog_13_method_3_code 48 = .ok (.bipush 12, 2) := by decide +kernel
theorem d_Model_feed_50 : decode prog_13_method_3_code 50 = .ok (.if_icmp .ge 7, 3) := by decide +kernel
theorem d_Model_feed_57 : decode prog_13_method_3_code 57 = .ok (.iload 6, 2) := by decide +kernel
theorem d_Model_feed_59 : decode prog_13_method_3_code 59 = .ok (.bipush 16, 2) := by decide +kernel
theorem d_Model_feed_61 : decode prog_13_method_3_code 61 = .ok (.if_icmp .ge 8, 3) := by decide +kernel
theorem d_Model_feed_69 : decode prog_13_method_3_code 69 = .ok (.iload 5, 2) := by decide +kernel
theorem d_Model_feed_71 : decode prog_13_method_3_code 71 = .ok (.istore 7, 2) := by decide +kernel
theorem d_Model_feed_73 : decode prog_13_method_3_code 73 = .ok (.aload_n 0, 1) := by decide +kernel
theorem d_Model_feed_74 : decode prog_13_method_3_code 74 = .ok (.getfield 7, 3) := by decide +kernel
theorem d_Model_feed_77 : decode prog_13_method_3_code 77 = .ok (.aload_n 0, 1) := by decide +kernel
theorem d_Model_feed_78 : decode prog_13_method_3_code 78 = .ok (.getfield 198, 3) := by decide +kernel
theorem d_Model_feed_81 : decode prog_13_method_3_code 81 = .ok (.iload 7, 2) := by decide +kernel
theorem d_Model_feed_83 : decode prog_13_method_3_code 83 = .ok (.bipush 8, 2) := by decide +kernel
theorem d_Model_feed_85 : decode prog_13_method_3_code 85 = .ok (.iconst 3, 1) := by decide +kernel
theorem d_Model_feed_86 : decode prog_13_method_3_code 86 = .ok (.iload 6, 2) := by decide +kernel
theorem d_Model_feed_88 : decode prog_13_method_3_code 88 = .ok (.iconst 4, 1) := by decide +kernel
theorem d_Model_feed_89 : decode prog_13_method_3_code 89 = .ok (.irem, 1) := by decide +kernel
theorem d_Model_feed_90 : decode prog_13_method_3_code 90 = .ok (.isub, 1) := by decide +kernel
theorem d_Model_feed_91 : decode prog_13_method_3_code 91 = .ok (.imul, 1) := by decide +kernel
theorem d_Model_feed_92 : decode prog_13_method_3_code 92 = .ok (.ishr, 1) := by decide +kernel
theorem d_Model_feed_93 : decode prog_13_method_3_code 93 = .ok (.sipush 255, 3) := by decide +kernel
theorem d_Model_feed_96 : decode prog_13_method_3_code 96 = .ok (.iand, 1) := by decide +kernel
theorem d_Model_feed_97 : decode prog_13_method_3_code 97 = .ok (.iastore, 1) := by decide +kernel
theorem d_Model_feed_98 : decode prog_13_method_3_code 98 = .ok (.aload_n 0, 1) := by decide +kernel
theorem d_Model_feed_99 : decode prog_13_method_3_code 99 = .ok (.dup, 1) := by decide +kernel
theorem d_Model_feed_100 : decode prog_13_method_3_code 100 = .ok (.getfield 198, 3) := by decide +kernel
theorem d_Model_feed_103 : decode prog_13_method_3_code 103 = .ok (.iconst 1, 1) := by decide +kernel
theorem d_Model_feed_104 : decode prog_13_method_3_code 104 = .ok (.iadd, 1) := by decide +kernel
theorem d_Model_feed_105 : decode prog_13_method_3_code 105 = .ok (.putfield 198, 3) := by decide +kernel
theorem d_Model_feed_108 : decode prog_13_method_3_code 108 = .ok (.iinc 6 1, 3) := by decide +kernel
theorem d_Model_feed_111 : decode prog_13_method_3_code 111 = .ok (.goto (-93), 3) := by decide +kernel
theorem d_Model_feed_64 : decode prog_13_method_3_code 64 = .ok (.iload 4, 2) := by decide +kernel
theorem d_Model_feed_66 : decode prog_13_method_3_code 66 = .ok (.goto 5, 3) := by decide +kernel
theorem d_Model_feed_53 : decode prog_13_method_3_code 53 = .ok (.iload_n 3, 1) := by decide +kernel
theorem d_Model_feed_54 : decode prog_13_method_3_code 54 = .ok (.goto 17, 3) := by decide +kernel
theorem d_Model_feed_42 : decode prog_13_method_3_code 42 = .ok (.iload_n 2, 1) := by decide +kernel
theorem d_Model_feed_43 : decode prog_13_method_3_code 43 = .ok (.goto 28, 3) := by decide +kernel
theorem d_Model_feed_31 : decode prog_13_method_3_code 31 = .ok (.iload_n 1, 1) := by decide +kernel
theorem d_Model_feed_32 : decode prog_13_method_3_code 32 = .ok (.goto 39, 3) := by decide +kernel
theorem d_Model_feed_13 : decode prog_13_method_3_code 13 = .ok (.iconst (-1), 1) := by decide +kernel
theorem d_Model_feed_14 : decode prog_13_method_3_code 14 = .ok (.ireturn, 1) := by decide +kernel
set_option maxHeartbeats 4000000 in
set_option maxRecDepth 100000 in
theorem c_M_feed (l : Launch) (D : va_G) (y : Nat → ClassId) (mo : Nat) (ma : Nat → Nat) (t1 : Nat) (i2 : Int32) (i3 : Int32) (i4 : Int32) (i5 : Int32) (i6 : Int32) (i7 : Int32) (i8 : Int32) (i42 : Int32) (i49 : Int32) (i51 : Int32) (i53 : Int32) (i54 : Int32) (i59 : Int32) (i61 : Int32) (i64 : Int32) (i66 : Int32) (t67 : Nat) (i76 : Int64) (i78 : Int32) (g0 : Nat → Int32) (v1 : Int32) (v2 : Int32) (v3 : Int32) (v4 : Int32) (v5 : Int32) (hTB : ∀ j, j < 1600 → ∃ q, q < 256 ∧ g0 j = nI q) (bt : t1 ≤ 1600) : CT l D y ⟨"NineBoardsModel", "feed", "(IIIII)I"⟩ prog_13_method_3_code 8 (some .int) ({ frames := 0, cells := 0, slots := 0, locals := 0 } : Room) [.ref mo, .int v1, .int v2, .int v3, .int v4, .int v5] [MB mo ma (nI t1) i2 i3 i4 i5 i6 i7 i8 i42 i49 i51 i53 i54 i59 i61 i64 i66 (nI t67) i76 i78, (ma 0, .inl (y 0, 1600, .inl g0))] (QI D [MB mo ma (nI t1) i2 i3 i4 i5 i6 i7 i8 i42 i49 i51 i53 i54 i59 i61 i64 i66 (nI t67) i76 i78, (ma 0, .inl (y 0, 1600, .inl g0))] (fun (r : Int32) (u : Nat × (Nat → Int32)) => u.1 ≤ 1600 ∧ (∀ j, j < 1600 → ∃ q, q < 256 ∧ u.2 j = nI q) ∧ ((r = -1 ∧ u.1 = t1 ∧ ¬ t1 + 20 ≤ 1600) ∨ (r = nI (t1 + 20) ∧ u.1 = t1 + 20 ∧ t1 + 20 ≤ 1600))) (fun u => [MB mo ma (nI u.1) i2 i3 i4 i5 i6 i7 i8 i42 i49 i51 i53 i54 i59 i61 i64 i66 (nI t67) i76 i78, (ma 0, .inl (y 0, 1600, .inl u.2))])) := by
  refine CT.of (by decide) (nb rfl) ?_
  intro p e s m args below meth c C hr
  refine j_lv (lv' := [(0, .ref mo), (1, .int v1), (2, .int v2), (3, .int v3), (4, .int v4), (5, .int v5)]) rfl ?_
  refine j_aload_n (pc := 0) C d_Model_feed_0 rfl 0 rfl ?_
  refine j_get (pc := 1) C gf_Model_198 0 rfl rfl d_Model_feed_1 ?_
  refine j_bipush (pc := 4) C (v := 20) d_Model_feed_4 (by decide) ?_
  refine j_iadd (pc := 6) C (v := nI (t1 + 20)) d_Model_feed_6 (nI_add _ _) ?_
  refine j_sipush (pc := 7) C (v := 1600) d_Model_feed_7 (by decide) ?_
  by_cases c1 : (t1 + 20) ≤ 1600
  · refine j_icmp_leT (pc := 10) C (tgt := 15) d_Model_feed_10 (by decide) (show nI (t1 + 20) ≤ nI 1600 from nI_le (by omega) (by omega)) ?_
    refine j_iconst (pc := 15) C (v := 0) d_Model_feed_15 (by decide) ?_
    refine j_istore (pc := 16) C (lv' := [(6, .int 0), (0, .ref mo), (1, .int v1), (2, .int v2), (3, .int v3), (4, .int v4), (5, .int v5)]) d_Model_feed_16 (by decide) rfl ?_
    refine j_loop (α := Nat × Nat × (Nat → Int32)) (fun a => 20 - a.1) (fun a => (a.1 ≤ 20) ∧ (a.2.1 = t1 + a.1) ∧ (∀ j, j < 1600 → ∃ q, q < 256 ∧ a.2.2 j = nI q)) (fun a => [MB mo ma (nI a.2.1) i2 i3 i4 i5 i6 i7 i8 i42 i49 i51 i53 i54 i59 i61 i64 i66 (nI t67) i76 i78, (ma 0, .inl (y 0, 1600, .inl a.2.2))]) (fun a => [(6, .int (nI a.1)), (0, .ref mo), (1, .int v1), (2, .int v2), (3, .int v3), (4, .int v4), (5, .int v5)]) (0, t1, g0) rfl rfl ⟨(show 0 ≤ 20 by omega), (show t1 = t1 + 0 by omega), hTB⟩ ?_
    rintro ⟨iz, uz, tz⟩ hP37 ih38
    obtain ⟨hi__, hu__, hT__⟩ := hP37
    have hi_ : iz ≤ 20 := hi__
    have hu_ : uz = t1 + iz := hu__
    have hT_ : ∀ j, j < 1600 → ∃ q, q < 256 ∧ tz j = nI q := hT__
    refine j_ws (ws' := [MB mo ma (nI uz) i2 i3 i4 i5 i6 i7 i8 i42 i49 i51 i53 i54 i59 i61 i64 i66 (nI t67) i76 i78, (ma 0, .inl (y 0, 1600, .inl tz))]) rfl ?_
    refine j_lv (lv' := [(6, .int (nI iz)), (0, .ref mo), (1, .int v1), (2, .int v2), (3, .int v3), (4, .int v4), (5, .int v5)]) rfl ?_
    refine j_iload (pc := 18) C d_Model_feed_18 0 rfl ?_
    refine j_bipush (pc := 20) C (v := 20) d_Model_feed_20 (by decide) ?_
    by_cases c39 : 20 ≤ iz
    · refine j_icmp_geT (pc := 22) C (tgt := 114) d_Model_feed_22 (by decide) (show nI 20 ≤ nI iz from nI_le (by omega) (by omega)) ?_
      refine j_aload_n (pc := 114) C d_Model_feed_114 rfl 1 rfl ?_
      refine j_get (pc := 115) C gf_Model_198 0 rfl rfl d_Model_feed_115 ?_
      exact j_iret (pc := 118) C hr rfl (uz, tz) ⟨(show uz ≤ 1600 by omega), hT_, (Or.inr ⟨(show nI uz = nI (t1 + 20) from congrArg nI (by omega)), (show uz = t1 + 20 by omega), by omega⟩)⟩ [0, 1] rfl (by decide) (by decide) (by decide) d_Model_feed_118
    · refine j_icmp_geF (pc := 22) C (tgt := 114) d_Model_feed_22 (by decide) (show ¬ nI 20 ≤ nI iz from nI_ge (by omega) (by omega)) ?_
      refine j_iload (pc := 25) C d_Model_feed_25 0 rfl ?_
      refine j_iconst (pc := 27) C (v := 4) d_Model_feed_27 (by decide) ?_
      by_cases c40 : 4 ≤ iz
      · refine j_icmp_geT (pc := 28) C (tgt := 35) d_Model_feed_28 (by decide) (show nI 4 ≤ nI iz from nI_le (by omega) (by omega)) ?_
        refine j_iload (pc := 35) C d_Model_feed_35 0 rfl ?_
        refine j_bipush (pc := 37) C (v := 8) d_Model_feed_37 (by decide) ?_
        by_cases c41 : 8 ≤ iz
        · refine j_icmp_geT (pc := 39) C (tgt := 46) d_Model_feed_39 (by decide) (show nI 8 ≤ nI iz from nI_le (by omega) (by omega)) ?_
          refine j_iload (pc := 46) C d_Model_feed_46 0 rfl ?_
          refine j_bipush (pc := 48) C (v := 12) d_Model_feed_48 (by decide) ?_
          by_cases c42 : 12 ≤ iz
          · refine j_icmp_geT (pc := 50) C (tgt := 57) d_Model_feed_50 (by decide) (show nI 12 ≤ nI iz from nI_le (by omega) (by omega)) ?_
            refine j_iload (pc := 57) C d_Model_feed_57 0 rfl ?_
            refine j_bipush (pc := 59) C (v := 16) d_Model_feed_59 (by decide) ?_
            by_cases c43 : 16 ≤ iz
            · refine j_icmp_geT (pc := 61) C (tgt := 69) d_Model_feed_61 (by decide) (show nI 16 ≤ nI iz from nI_le (by omega) (by omega)) ?_
              refine j_iload (pc := 69) C d_Model_feed_69 6 rfl ?_
              refine j_istore (pc := 71) C (lv' := [(7, .int v5), (6, .int (nI iz)), (0, .ref mo), (1, .int v1), (2, .int v2), (3, .int v3), (4, .int v4), (5, .int v5)]) d_Model_feed_71 (by decide) rfl ?_
              refine j_aload_n (pc := 73) C d_Model_feed_73 rfl 2 rfl ?_
              refine j_get (pc := 74) C gf_Model_7 0 rfl rfl d_Model_feed_74 ?_
              refine j_aload_n (pc := 77) C d_Model_feed_77 rfl 2 rfl ?_
              refine j_get (pc := 78) C gf_Model_198 0 rfl rfl d_Model_feed_78 ?_
              refine j_iload (pc := 81) C d_Model_feed_81 0 rfl ?_
              refine j_bipush (pc := 83) C (v := 8) d_Model_feed_83 (by decide) ?_
              refine j_iconst (pc := 85) C (v := 3) d_Model_feed_85 (by decide) ?_
              refine j_iload (pc := 86) C d_Model_feed_86 1 rfl ?_
              refine j_iconst (pc := 88) C (v := 4) d_Model_feed_88 (by decide) ?_
              refine j_irem (pc := 89) C (v := nI (iz % 4)) d_Model_feed_89 (by decide) (pk_rem (a := iz) (d := 4) (by omega) (by omega) (by omega)) ?_
              refine j_isub (pc := 90) C (v := nI (3 - (iz % 4))) d_Model_feed_90 (pk_sub (a := 3) (b := (iz % 4)) (by omega)) ?_
              refine j_imul (pc := 91) C (v := nI (8 * (3 - (iz % 4)))) d_Model_feed_91 (pk_mul _ _) ?_
              refine j_ishr (pc := 92) C (v := v5 >>> ((nI (8 * (3 - (iz % 4)))) &&& 31)) d_Model_feed_92 rfl ?_
              refine j_anyI (fun v44 => ?_)
              refine j_sipush (pc := 93) C (v := 255) d_Model_feed_93 (by decide) ?_
              obtain ⟨q45, xh46, e47⟩ := and255 v44
              refine j_iand (pc := 96) C (v := nI q45) d_Model_feed_96 e47 ?_
              refine j_iast (pc := 97) C 1 rfl (ws' := [MB mo ma (nI uz) i2 i3 i4 i5 i6 i7 i8 i42 i49 i51 i53 i54 i59 i61 i64 i66 (nI t67) i76 i78, (ma 0, .inl (y 0, 1600, .inl (upd tz uz (nI q45))))]) (vp_in_nI (by omega) (by decide)) (by rw [nI_clamp (by omega)]; rfl) d_Model_feed_97 ?_
              refine j_genW (fun f48 => [MB mo ma (nI uz) i2 i3 i4 i5 i6 i7 i8 i42 i49 i51 i53 i54 i59 i61 i64 i66 (nI t67) i76 i78, (ma 0, .inl (y 0, 1600, .inl f48))]) (upd tz uz (nI q45)) rfl (fun f48 => (∀ j, j < 1600 → ∃ q, q < 256 ∧ f48 j = nI q)) (tb_up hT_ xh46) ?_
              rintro f48 xh49
              refine j_ws (ws' := [MB mo ma (nI uz) i2 i3 i4 i5 i6 i7 i8 i42 i49 i51 i53 i54 i59 i61 i64 i66 (nI t67) i76 i78, (ma 0, .inl (y 0, 1600, .inl f48))]) rfl ?_
              have xh49 : ∀ j, j < 1600 → ∃ q, q < 256 ∧ f48 j = nI q := xh49
              refine j_aload_n (pc := 98) C d_Model_feed_98 rfl 2 rfl ?_
              refine j_dup (pc := 99) C d_Model_feed_99 rfl ?_
              refine j_get (pc := 100) C gf_Model_198 0 rfl rfl d_Model_feed_100 ?_
              refine j_iconst (pc := 103) C (v := 1) d_Model_feed_103 (by decide) ?_
              refine j_iadd (pc := 104) C (v := nI (uz + 1)) d_Model_feed_104 (nI_add _ _) ?_
              refine j_put (pc := 105) C pf_Model_198 0 (ws' := [MB mo ma (nI (uz + 1)) i2 i3 i4 i5 i6 i7 i8 i42 i49 i51 i53 i54 i59 i61 i64 i66 (nI t67) i76 i78, (ma 0, .inl (y 0, 1600, .inl f48))]) rfl rfl rfl (nl rfl) rfl d_Model_feed_105 ?_
              refine j_iinc (pc := 108) C (v := nI (iz + 1)) (lv' := [(6, .int (nI (iz + 1))), (7, .int v5), (0, .ref mo), (1, .int v1), (2, .int v2), (3, .int v3), (4, .int v4), (5, .int v5)]) d_Model_feed_108 1 rfl (nI_add _ _) (by decide) rfl ?_
              refine j_goto (pc := 111) C (tgt := 18) d_Model_feed_111 (by decide) ?_
              refine j_locs (lv' := [(6, .int (nI (iz + 1))), (0, .ref mo), (1, .int v1), (2, .int v2), (3, .int v3), (4, .int v4), (5, .int v5)]) [0, 2, 3, 4, 5, 6, 7] rfl ?_
              exact ih38 ((iz + 1), (uz + 1), f48) ⟨(show (iz + 1) ≤ 20 by omega), (show (uz + 1) = t1 + (iz + 1) by omega), xh49⟩ (show 20 - (iz + 1) < 20 - iz by omega)
            · refine j_icmp_geF (pc := 61) C (tgt := 69) d_Model_feed_61 (by decide) (show ¬ nI 16 ≤ nI iz from nI_ge (by omega) (by omega)) ?_
              refine j_iload (pc := 64) C d_Model_feed_64 5 rfl ?_
              refine j_goto (pc := 66) C (tgt := 71) d_Model_feed_66 (by decide) ?_
              refine j_istore (pc := 71) C (lv' := [(7, .int v4), (6, .int (nI iz)), (0, .ref mo), (1, .int v1), (2, .int v2), (3, .int v3), (4, .int v4), (5, .int v5)]) d_Model_feed_71 (by decide) rfl ?_
              refine j_aload_n (pc := 73) C d_Model_feed_73 rfl 2 rfl ?_
              refine j_get (pc := 74) C gf_Model_7 0 rfl rfl d_Model_feed_74 ?_
              refine j_aload_n (pc := 77) C d_Model_feed_77 rfl 2 rfl ?_
              refine j_get (pc := 78) C gf_Model_198 0 rfl rfl d_Model_feed_78 ?_
              refine j_iload (pc := 81) C d_Model_feed_81 0 rfl ?_
              refine j_bipush (pc := 83) C (v := 8) d_Model_feed_83 (by decide) ?_
              refine j_iconst (pc := 85) C (v := 3) d_Model_feed_85 (by decide) ?_
              refine j_iload (pc := 86) C d_Model_feed_86 1 rfl ?_
              refine j_iconst (pc := 88) C (v := 4) d_Model_feed_88 (by decide) ?_
              refine j_irem (pc := 89) C (v := nI (iz % 4)) d_Model_feed_89 (by decide) (pk_rem (a := iz) (d := 4) (by omega) (by omega) (by omega)) ?_
              refine j_isub (pc := 90) C (v := nI (3 - (iz % 4))) d_Model_feed_90 (pk_sub (a := 3) (b := (iz % 4)) (by omega)) ?_
              refine j_imul (pc := 91) C (v := nI (8 * (3 - (iz % 4)))) d_Model_feed_91 (pk_mul _ _) ?_
              refine j_ishr (pc := 92) C (v := v4 >>> ((nI (8 * (3 - (iz % 4)))) &&& 31)) d_Model_feed_92 rfl ?_
              refine j_anyI (fun v50 => ?_)
              refine j_sipush (pc := 93) C (v := 255) d_Model_feed_93 (by decide) ?_
              obtain ⟨q51, xh52, e53⟩ := and255 v50
              refine j_iand (pc := 96) C (v := nI q51) d_Model_feed_96 e53 ?_
              refine j_iast (pc := 97) C 1 rfl (ws' := [MB mo ma (nI uz) i2 i3 i4 i5 i6 i7 i8 i42 i49 i51 i53 i54 i59 i61 i64 i66 (nI t67) i76 i78, (ma 0, .inl (y 0, 1600, .inl (upd tz uz (nI q51))))]) (vp_in_nI (by omega) (by decide)) (by rw [nI_clamp (by omega)]; rfl) d_Model_feed_97 ?_
              refine j_genW (fun f54 => [MB mo ma (nI uz) i2 i3 i4 i5 i6 i7 i8 i42 i49 i51 i53 i54 i59 i61 i64 i66 (nI t67) i76 i78, (ma 0, .inl (y 0, 1600, .inl f54))]) (upd tz uz (nI q51)) rfl (fun f54 => (∀ j, j < 1600 → ∃ q, q < 256 ∧ f54 j = nI q)) (tb_up hT_ xh52) ?_
              rintro f54 xh55
              refine j_ws (ws' := [MB mo ma (nI uz) i2 i3 i4 i5 i6 i7 i8 i42 i49 i51 i53 i54 i59 i61 i64 i66 (nI t67) i76 i78, (ma 0, .inl (y 0, 1600, .inl f54))]) rfl ?_
              have xh55 : ∀ j, j < 1600 → ∃ q, q < 256 ∧ f54 j = nI q := xh55
              refine j_aload_n (pc := 98) C d_Model_feed_98 rfl 2 rfl ?_
              refine j_dup (pc := 99) C d_Model_feed_99 rfl ?_
              refine j_get (pc := 100) C gf_Model_198 0 rfl rfl d_Model_feed_100 ?_
              refine j_iconst (pc := 103) C (v := 1) d_Model_feed_103 (by decide) ?_
              refine j_iadd (pc := 104) C (v := nI (uz + 1)) d_Model_feed_104 (nI_add _ _) ?_
              refine j_put (pc := 105) C pf_Model_198 0 (ws' := [MB mo ma (nI (uz + 1)) i2 i3 i4 i5 i6 i7 i8 i42 i49 i51 i53 i54 i59 i61 i64 i66 (nI t67) i76 i78, (ma 0, .inl (y 0, 1600, .inl f54))]) rfl rfl rfl (nl rfl) rfl d_Model_feed_105 ?_
              refine j_iinc (pc := 108) C (v := nI (iz + 1)) (lv' := [(6, .int (nI (iz + 1))), (7, .int v4), (0, .ref mo), (1, .int v1), (2, .int v2), (3, .int v3), (4, .int v4), (5, .int v5)]) d_Model_feed_108 1 rfl (nI_add _ _) (by decide) rfl ?_
              refine j_goto (pc := 111) C (tgt := 18) d_Model_feed_111 (by decide) ?_
              refine j_locs (lv' := [(6, .int (nI (iz + 1))), (0, .ref mo), (1, .int v1), (2, .int v2), (3, .int v3), (4, .int v4), (5, .int v5)]) [0, 2, 3, 4, 5, 6, 7] rfl ?_
              exact ih38 ((iz + 1), (uz + 1), f54) ⟨(show (iz + 1) ≤ 20 by omega), (show (uz + 1) = t1 + (iz + 1) by omega), xh55⟩ (show 20 - (iz + 1) < 20 - iz by omega)
          · refine j_icmp_geF (pc := 50) C (tgt := 57) d_Model_feed_50 (by decide) (show ¬ nI 12 ≤ nI iz from nI_ge (by omega) (by omega)) ?_
            refine j_iload_n (pc := 53) C d_Model_feed_53 rfl 4 rfl ?_
            refine j_goto (pc := 54) C (tgt := 71) d_Model_feed_54 (by decide) ?_
            refine j_istore (pc := 71) C (lv' := [(7, .int v3), (6, .int (nI iz)), (0, .ref mo), (1, .int v1), (2, .int v2), (3, .int v3), (4, .int v4), (5, .int v5)]) d_Model_feed_71 (by decide) rfl ?_
            refine j_aload_n (pc := 73) C d_Model_feed_73 rfl 2 rfl ?_
            refine j_get (pc := 74) C gf_Model_7 0 rfl rfl d_Model_feed_74 ?_
            refine j_aload_n (pc := 77) C d_Model_feed_77 rfl 2 rfl ?_
            refine j_get (pc := 78) C gf_Model_198 0 rfl rfl d_Model_feed_78 ?_
            refine j_iload (pc := 81) C d_Model_feed_81 0 rfl ?_
            refine j_bipush (pc := 83) C (v := 8) d_Model_feed_83 (by decide) ?_
            refine j_iconst (pc := 85) C (v := 3) d_Model_feed_85 (by decide) ?_
            refine j_iload (pc := 86) C d_Model_feed_86 1 rfl ?_
            refine j_iconst (pc := 88) C (v := 4) d_Model_feed_88 (by decide) ?_
            refine j_irem (pc := 89) C (v := nI (iz % 4)) d_Model_feed_89 (by decide) (pk_rem (a := iz) (d := 4) (by omega) (by omega) (by omega)) ?_
            refine j_isub (pc := 90) C (v := nI (3 - (iz % 4))) d_Model_feed_90 (pk_sub (a := 3) (b := (iz % 4)) (by omega)) ?_
            refine j_imul (pc := 91) C (v := nI (8 * (3 - (iz % 4)))) d_Model_feed_91 (pk_mul _ _) ?_
            refine j_ishr (pc := 92) C (v := v3 >>> ((nI (8 * (3 - (iz % 4)))) &&& 31)) d_Model_feed_92 rfl ?_
            refine j_anyI (fun v56 => ?_)
            refine j_sipush (pc := 93) C (v := 255) d_Model_feed_93 (by decide) ?_
            obtain ⟨q57, xh58, e59⟩ := and255 v56
            refine j_iand (pc := 96) C (v := nI q57) d_Model_feed_96 e59 ?_
            refine j_iast (pc := 97) C 1 rfl (ws' := [MB mo ma (nI uz) i2 i3 i4 i5 i6 i7 i8 i42 i49 i51 i53 i54 i59 i61 i64 i66 (nI t67) i76 i78, (ma 0, .inl (y 0, 1600, .inl (upd tz uz (nI q57))))]) (vp_in_nI (by omega) (by decide)) (by rw [nI_clamp (by omega)]; rfl) d_Model_feed_97 ?_
            refine j_genW (fun f60 => [MB mo ma (nI uz) i2 i3 i4 i5 i6 i7 i8 i42 i49 i51 i53 i54 i59 i61 i64 i66 (nI t67) i76 i78, (ma 0, .inl (y 0, 1600, .inl f60))]) (upd tz uz (nI q57)) rfl (fun f60 => (∀ j, j < 1600 → ∃ q, q < 256 ∧ f60 j = nI q)) (tb_up hT_ xh58) ?_
            rintro f60 xh61
            refine j_ws (ws' := [MB mo ma (nI uz) i2 i3 i4 i5 i6 i7 i8 i42 i49 i51 i53 i54 i59 i61 i64 i66 (nI t67) i76 i78, (ma 0, .inl (y 0, 1600, .inl f60))]) rfl ?_
            have xh61 : ∀ j, j < 1600 → ∃ q, q < 256 ∧ f60 j = nI q := xh61
            refine j_aload_n (pc := 98) C d_Model_feed_98 rfl 2 rfl ?_
            refine j_dup (pc := 99) C d_Model_feed_99 rfl ?_
            refine j_get (pc := 100) C gf_Model_198 0 rfl rfl d_Model_feed_100 ?_
            refine j_iconst (pc := 103) C (v := 1) d_Model_feed_103 (by decide) ?_
            refine j_iadd (pc := 104) C (v := nI (uz + 1)) d_Model_feed_104 (nI_add _ _) ?_
            refine j_put (pc := 105) C pf_Model_198 0 (ws' := [MB mo ma (nI (uz + 1)) i2 i3 i4 i5 i6 i7 i8 i42 i49 i51 i53 i54 i59 i61 i64 i66 (nI t67) i76 i78, (ma 0, .inl (y 0, 1600, .inl f60))]) rfl rfl rfl (nl rfl) rfl d_Model_feed_105 ?_
            refine j_iinc (pc := 108) C (v := nI (iz + 1)) (lv' := [(6, .int (nI (iz + 1))), (7, .int v3), (0, .ref mo), (1, .int v1), (2, .int v2), (3, .int v3), (4, .int v4), (5, .int v5)]) d_Model_feed_108 1 rfl (nI_add _ _) (by decide) rfl ?_
            refine j_goto (pc := 111) C (tgt := 18) d_Model_feed_111 (by decide) ?_
            refine j_locs (lv' := [(6, .int (nI (iz + 1))), (0, .ref mo), (1, .int v1), (2, .int v2), (3, .int v3), (4, .int v4), (5, .int v5)]) [0, 2, 3, 4, 5, 6, 7] rfl ?_
            exact ih38 ((iz + 1), (uz + 1), f60) ⟨(show (iz + 1) ≤ 20 by omega), (show (uz + 1) = t1 + (iz + 1) by omega), xh61⟩ (show 20 - (iz + 1) < 20 - iz by omega)
        · refine j_icmp_geF (pc := 39) C (tgt := 46) d_Model_feed_39 (by decide) (show ¬ nI 8 ≤ nI iz from nI_ge (by omega) (by omega)) ?_
          refine j_iload_n (pc := 42) C d_Model_feed_42 rfl 3 rfl ?_
          refine j_goto (pc := 43) C (tgt := 71) d_Model_feed_43 (by decide) ?_
          refine j_istore (pc := 71) C (lv' := [(7, .int v2), (6, .int (nI iz)), (0, .ref mo), (1, .int v1), (2, .int v2), (3, .int v3), (4, .int v4), (5, .int v5)]) d_Model_feed_71 (by decide) rfl ?_
          refine j_aload_n (pc := 73) C d_Model_feed_73 rfl 2 rfl ?_
          refine j_get (pc := 74) C gf_Model_7 0 rfl rfl d_Model_feed_74 ?_
          refine j_aload_n (pc := 77) C d_Model_feed_77 rfl 2 rfl ?_
          refine j_get (pc := 78) C gf_Model_198 0 rfl rfl d_Model_feed_78 ?_
          refine j_iload (pc := 81) C d_Model_feed_81 0 rfl ?_
          refine j_bipush (pc := 83) C (v := 8) d_Model_feed_83 (by decide) ?_
          refine j_iconst (pc := 85) C (v := 3) d_Model_feed_85 (by decide) ?_
          refine j_iload (pc := 86) C d_Model_feed_86 1 rfl ?_
          refine j_iconst (pc := 88) C (v := 4) d_Model_feed_88 (by decide) ?_
          refine j_irem (pc := 89) C (v := nI (iz % 4)) d_Model_feed_89 (by decide) (pk_rem (a := iz) (d := 4) (by omega) (by omega) (by omega)) ?_
          refine j_isub (pc := 90) C (v := nI (3 - (iz % 4))) d_Model_feed_90 (pk_sub (a := 3) (b := (iz % 4)) (by omega)) ?_
          refine j_imul (pc := 91) C (v := nI (8 * (3 - (iz % 4)))) d_Model_feed_91 (pk_mul _ _) ?_
          refine j_ishr (pc := 92) C (v := v2 >>> ((nI (8 * (3 - (iz % 4)))) &&& 31)) d_Model_feed_92 rfl ?_
          refine j_anyI (fun v62 => ?_)
          refine j_sipush (pc := 93) C (v := 255) d_Model_feed_93 (by decide) ?_
          obtain ⟨q63, xh64, e65⟩ := and255 v62
          refine j_iand (pc := 96) C (v := nI q63) d_Model_feed_96 e65 ?_
          refine j_iast (pc := 97) C 1 rfl (ws' := [MB mo ma (nI uz) i2 i3 i4 i5 i6 i7 i8 i42 i49 i51 i53 i54 i59 i61 i64 i66 (nI t67) i76 i78, (ma 0, .inl (y 0, 1600, .inl (upd tz uz (nI q63))))]) (vp_in_nI (by omega) (by decide)) (by rw [nI_clamp (by omega)]; rfl) d_Model_feed_97 ?_
          refine j_genW (fun f66 => [MB mo ma (nI uz) i2 i3 i4 i5 i6 i7 i8 i42 i49 i51 i53 i54 i59 i61 i64 i66 (nI t67) i76 i78, (ma 0, .inl (y 0, 1600, .inl f66))]) (upd tz uz (nI q63)) rfl (fun f66 => (∀ j, j < 1600 → ∃ q, q < 256 ∧ f66 j = nI q)) (tb_up hT_ xh64) ?_
          rintro f66 xh67
          refine j_ws (ws' := [MB mo ma (nI uz) i2 i3 i4 i5 i6 i7 i8 i42 i49 i51 i53 i54 i59 i61 i64 i66 (nI t67) i76 i78, (ma 0, .inl (y 0, 1600, .inl f66))]) rfl ?_
          have xh67 : ∀ j, j < 1600 → ∃ q, q < 256 ∧ f66 j = nI q := xh67
          refine j_aload_n (pc := 98) C d_Model_feed_98 rfl 2 rfl ?_
          refine j_dup (pc := 99) C d_Model_feed_99 rfl ?_
          refine j_get (pc := 100) C gf_Model_198 0 rfl rfl d_Model_feed_100 ?_
          refine j_iconst (pc := 103) C (v := 1) d_Model_feed_103 (by decide) ?_
          refine j_iadd (pc := 104) C (v := nI (uz + 1)) d_Model_feed_104 (nI_add _ _) ?_
          refine j_put (pc := 105) C pf_Model_198 0 (ws' := [MB mo ma (nI (uz + 1)) i2 i3 i4 i5 i6 i7 i8 i42 i49 i51 i53 i54 i59 i61 i64 i66 (nI t67) i76 i78, (ma 0, .inl (y 0, 1600, .inl f66))]) rfl rfl rfl (nl rfl) rfl d_Model_feed_105 ?_
          refine j_iinc (pc := 108) C (v := nI (iz + 1)) (lv' := [(6, .int (nI (iz + 1))), (7, .int v2), (0, .ref mo), (1, .int v1), (2, .int v2), (3, .int v3), (4, .int v4), (5, .int v5)]) d_Model_feed_108 1 rfl (nI_add _ _) (by decide) rfl ?_
          refine j_goto (pc := 111) C (tgt := 18) d_Model_feed_111 (by decide) ?_
          refine j_locs (lv' := [(6, .int (nI (iz + 1))), (0, .ref mo), (1, .int v1), (2, .int v2), (3, .int v3), (4, .int v4), (5, .int v5)]) [0, 2, 3, 4, 5, 6, 7] rfl ?_
          exact ih38 ((iz + 1), (uz + 1), f66) ⟨(show (iz + 1) ≤ 20 by omega), (show (uz + 1) = t1 + (iz + 1) by omega), xh67⟩ (show 20 - (iz + 1) < 20 - iz by omega)
      · refine j_icmp_geF (pc := 28) C (tgt := 35) d_Model_feed_28 (by decide) (show ¬ nI 4 ≤ nI iz from nI_ge (by omega) (by omega)) ?_
        refine j_iload_n (pc := 31) C d_Model_feed_31 rfl 2 rfl ?_
        refine j_goto (pc := 32) C (tgt := 71) d_Model_feed_32 (by decide) ?_
        refine j_istore (pc := 71) C (lv' := [(7, .int v1), (6, .int (nI iz)), (0, .ref mo), (1, .int v1), (2, .int v2), (3, .int v3), (4, .int v4), (5, .int v5)]) d_Model_feed_71 (by decide) rfl ?_
        refine j_aload_n (pc := 73) C d_Model_feed_73 rfl 2 rfl ?_
        refine j_get (pc := 74) C gf_Model_7 0 rfl rfl d_Model_feed_74 ?_
        refine j_aload_n (pc := 77) C d_Model_feed_77 rfl 2 rfl ?_
        refine j_get (pc := 78) C gf_Model_198 0 rfl rfl d_Model_feed_78 ?_
        refine j_iload (pc := 81) C d_Model_feed_81 0 rfl ?_
        refine j_bipush (pc := 83) C (v := 8) d_Model_feed_83 (by decide) ?_
        refine j_iconst (pc := 85) C (v := 3) d_Model_feed_85 (by decide) ?_
        refine j_iload (pc := 86) C d_Model_feed_86 1 rfl ?_
        refine j_iconst (pc := 88) C (v := 4) d_Model_feed_88 (by decide) ?_
        refine j_irem (pc := 89) C (v := nI (iz % 4)) d_Model_feed_89 (by decide) (pk_rem (a := iz) (d := 4) (by omega) (by omega) (by omega)) ?_
        refine j_isub (pc := 90) C (v := nI (3 - (iz % 4))) d_Model_feed_90 (pk_sub (a := 3) (b := (iz % 4)) (by omega)) ?_
        refine j_imul (pc := 91) C (v := nI (8 * (3 - (iz % 4)))) d_Model_feed_91 (pk_mul _ _) ?_
        refine j_ishr (pc := 92) C (v := v1 >>> ((nI (8 * (3 - (iz % 4)))) &&& 31)) d_Model_feed_92 rfl ?_
        refine j_anyI (fun v68 => ?_)
        refine j_sipush (pc := 93) C (v := 255) d_Model_feed_93 (by decide) ?_
        obtain ⟨q69, xh70, e71⟩ := and255 v68
        refine j_iand (pc := 96) C (v := nI q69) d_Model_feed_96 e71 ?_
        refine j_iast (pc := 97) C 1 rfl (ws' := [MB mo ma (nI uz) i2 i3 i4 i5 i6 i7 i8 i42 i49 i51 i53 i54 i59 i61 i64 i66 (nI t67) i76 i78, (ma 0, .inl (y 0, 1600, .inl (upd tz uz (nI q69))))]) (vp_in_nI (by omega) (by decide)) (by rw [nI_clamp (by omega)]; rfl) d_Model_feed_97 ?_
        refine j_genW (fun f72 => [MB mo ma (nI uz) i2 i3 i4 i5 i6 i7 i8 i42 i49 i51 i53 i54 i59 i61 i64 i66 (nI t67) i76 i78, (ma 0, .inl (y 0, 1600, .inl f72))]) (upd tz uz (nI q69)) rfl (fun f72 => (∀ j, j < 1600 → ∃ q, q < 256 ∧ f72 j = nI q)) (tb_up hT_ xh70) ?_
        rintro f72 xh73
        refine j_ws (ws' := [MB mo ma (nI uz) i2 i3 i4 i5 i6 i7 i8 i42 i49 i51 i53 i54 i59 i61 i64 i66 (nI t67) i76 i78, (ma 0, .inl (y 0, 1600, .inl f72))]) rfl ?_
        have xh73 : ∀ j, j < 1600 → ∃ q, q < 256 ∧ f72 j = nI q := xh73
        refine j_aload_n (pc := 98) C d_Model_feed_98 rfl 2 rfl ?_
        refine j_dup (pc := 99) C d_Model_feed_99 rfl ?_
        refine j_get (pc := 100) C gf_Model_198 0 rfl rfl d_Model_feed_100 ?_
        refine j_iconst (pc := 103) C (v := 1) d_Model_feed_103 (by decide) ?_
        refine j_iadd (pc := 104) C (v := nI (uz + 1)) d_Model_feed_104 (nI_add _ _) ?_
        refine j_put (pc := 105) C pf_Model_198 0 (ws' := [MB mo ma (nI (uz + 1)) i2 i3 i4 i5 i6 i7 i8 i42 i49 i51 i53 i54 i59 i61 i64 i66 (nI t67) i76 i78, (ma 0, .inl (y 0, 1600, .inl f72))]) rfl rfl rfl (nl rfl) rfl d_Model_feed_105 ?_
        refine j_iinc (pc := 108) C (v := nI (iz + 1)) (lv' := [(6, .int (nI (iz + 1))), (7, .int v1), (0, .ref mo), (1, .int v1), (2, .int v2), (3, .int v3), (4, .int v4), (5, .int v5)]) d_Model_feed_108 1 rfl (nI_add _ _) (by decide) rfl ?_
        refine j_goto (pc := 111) C (tgt := 18) d_Model_feed_111 (by decide) ?_
        refine j_locs (lv' := [(6, .int (nI (iz + 1))), (0, .ref mo), (1, .int v1), (2, .int v2), (3, .int v3), (4, .int v4), (5, .int v5)]) [0, 2, 3, 4, 5, 6, 7] rfl ?_
        exact ih38 ((iz + 1), (uz + 1), f72) ⟨(show (iz + 1) ≤ 20 by omega), (show (uz + 1) = t1 + (iz + 1) by omega), xh73⟩ (show 20 - (iz + 1) < 20 - iz by omega)
  · refine j_icmp_leF (pc := 10) C (tgt := 15) d_Model_feed_10 (by decide) (show ¬ nI (t1 + 20) ≤ nI 1600 from nI_ge (by omega) (by omega)) ?_
    refine j_iconst (pc := 13) C (v := (-1)) d_Model_feed_13 (by decide) ?_
    exact j_iret (pc := 14) C hr rfl (t1, g0) ⟨(show t1 ≤ 1600 by omega), hTB, (Or.inl ⟨rfl, (show t1 = t1 by omega), by omega⟩)⟩ [0, 1] rfl (by decide) (by decide) (by decide) d_Model_feed_14
theorem end_x {v : Int32} {t : Nat} (h0 : ¬ v < 0) (h : v ≤ nI t) (ht : t ≤ 1600) : ∃ q, q ≤ 1600 ∧ v = nI q := by
  have hn : ¬ nI (t + 1) ≤ v := by
    intro e
    rw [Int32.le_iff_toInt_le, nI_toInt (by omega)] at e
    rw [Int32.le_iff_toInt_le, nI_toInt (by omega)] at h
    omega
  obtain ⟨j, hj, e⟩ := nI_lt2 (n := t + 1) h0 hn (by omega)
  exact ⟨j, by omega, e⟩
theorem d_Model_end_0 : decode prog_13_method_4_code 0 = .ok (.iload_n 1, 1) := by decide +kernel
theorem d_Model_end_1 : decode prog_13_method_4_code 1 = .ok (.ifCond .lt 11, 3) := by decide +kernel
theorem d_Model_end_12 : decode prog_13_method_4_code 12 = .ok (.iconst 0, 1) := by decide +kernel
theorem d_Model_end_13 : decode prog_13_method_4_code 13 = .ok (.ireturn, 1) := by decide +kernel
theorem d_Model_end_4 : decode prog_13_method_4_code 4 = .ok (.iload_n 1, 1) := by decide +kernel
theorem d_Model_end_5 : decode prog_13_method_4_code 5 = .ok (.aload_n 0, 1) := by decide +kernel
theorem d_Model_end_6 : decode prog_13_method_4_code 6 = .ok (.getfield 198, 3) := by decide +kernel
theorem d_Model_end_9 : decode prog_13_method_4_code 9 = .ok (.if_icmp .le 5, 3) := by decide +kernel
theorem d_Model_end_14 : decode prog_13_method_4_code 14 = .ok (.aload_n 0, 1) := by decide +kernel
theorem d_Model_end_15 : decode prog_13_method_4_code 15 = .ok (.iload_n 1, 1) := by decide +kernel
theorem d_Model_end_16 : decode prog_13_method_4_code 16 = .ok (.putfield 198, 3) := by decide +kernel
theorem d_Model_end_19 : decode prog_13_method_4_code 19 = .ok (.iconst 1, 1) := by decide +kernel
theorem d_Model_end_20 : decode prog_13_method_4_code 20 = .ok (.ireturn, 1) := by decide +kernel
set_option maxHeartbeats 4000000 in
set_option maxRecDepth 100000 in
theorem c_M_end (l : Launch) (D : va_G) (y : Nat → ClassId) (mo : Nat) (ma : Nat → Nat) (t1 : Nat) (i2 : Int32) (i3 : Int32) (i4 : Int32) (i5 : Int32) (i6 : Int32) (i7 : Int32) (i8 : Int32) (i42 : Int32) (i49 : Int32) (i51 : Int32) (i53 : Int32) (i54 : Int32) (i59 : Int32) (i61 : Int32) (i64 : Int32) (i66 : Int32) (t67 : Nat) (i76 : Int64) (i78 : Int32) (v : Int32) (bt : t1 ≤ 1600) : CT l D y ⟨"NineBoardsModel", "end", "(I)Z"⟩ prog_13_method_4_code 2 (some .boolean) ({ frames := 0, cells := 0, slots := 0, locals := 0 } : Room) [.ref mo, .int v] [MB mo ma (nI t1) i2 i3 i4 i5 i6 i7 i8 i42 i49 i51 i53 i54 i59 i61 i64 i66 (nI t67) i76 i78] (QI D [MB mo ma (nI t1) i2 i3 i4 i5 i6 i7 i8 i42 i49 i51 i53 i54 i59 i61 i64 i66 (nI t67) i76 i78] (fun (r : Int32) (u : Int32) => (∃ q, q ≤ 1600 ∧ u = nI q) ∧ ((r = 0 ∧ u = nI t1 ∧ (v < 0 ∨ nI t1 < v)) ∨ (r = 1 ∧ u = v ∧ ¬ v < 0 ∧ v ≤ nI t1))) (fun u => [MB mo ma u i2 i3 i4 i5 i6 i7 i8 i42 i49 i51 i53 i54 i59 i61 i64 i66 (nI t67) i76 i78])) := by
  refine CT.of (by decide) (nb rfl) ?_
  intro p e s m args below meth c C hr
  refine j_lv (lv' := [(0, .ref mo), (1, .int v)]) rfl ?_
  refine j_iload_n (pc := 0) C d_Model_end_0 rfl 1 rfl ?_
  refine j_if_lt (pc := 1) C (tgt := 12) d_Model_end_1 (by decide) (fun c1 => ?_) (fun c1 => ?_)
  · refine j_iconst (pc := 12) C (v := 0) d_Model_end_12 (by decide) ?_
    exact j_iret (pc := 13) C hr (by decide) (nI t1) ⟨⟨t1, bt, rfl⟩, (Or.inl ⟨rfl, rfl, Or.inl c1⟩)⟩ [0] rfl (by decide) (by decide) (by decide) d_Model_end_13
  · refine j_iload_n (pc := 4) C d_Model_end_4 rfl 1 rfl ?_
    refine j_aload_n (pc := 5) C d_Model_end_5 rfl 0 rfl ?_
    refine j_get (pc := 6) C gf_Model_198 0 rfl rfl d_Model_end_6 ?_
    refine j_icmp_le (pc := 9) C (tgt := 14) d_Model_end_9 (by decide) (fun c2 => ?_) (fun c2 => ?_)
    · refine j_aload_n (pc := 14) C d_Model_end_14 rfl 0 rfl ?_
      refine j_iload_n (pc := 15) C d_Model_end_15 rfl 1 rfl ?_
      refine j_put (pc := 16) C pf_Model_198 0 (ws' := [MB mo ma v i2 i3 i4 i5 i6 i7 i8 i42 i49 i51 i53 i54 i59 i61 i64 i66 (nI t67) i76 i78]) rfl rfl rfl (nl rfl) rfl d_Model_end_16 ?_
      refine j_iconst (pc := 19) C (v := 1) d_Model_end_19 (by decide) ?_
      exact j_iret (pc := 20) C hr (by decide) v ⟨(end_x c1 c2 bt), (Or.inr ⟨rfl, rfl, c1, c2⟩)⟩ [0] rfl (by decide) (by decide) (by decide) d_Model_end_20
    · refine j_iconst (pc := 12) C (v := 0) d_Model_end_12 (by decide) ?_
      exact j_iret (pc := 13) C hr (by decide) (nI t1) ⟨⟨t1, bt, rfl⟩, (Or.inl ⟨rfl, rfl, Or.inr (Int32.not_le.mp c2)⟩)⟩ [0] rfl (by decide) (by decide) (by decide) d_Model_end_13
theorem d_Model_fault_0 : decode prog_13_method_46_code 0 = .ok (.iload_n 1, 1) := by decide +kernel
theorem d_Model_fault_1 : decode prog_13_method_46_code 1 = .ok (.ifCond .ne 10, 3) := by decide +kernel
theorem d_Model_fault_11 : decode prog_13_method_46_code 11 = .ok (.iload_n 1, 1) := by decide +kernel
theorem d_Model_fault_12 : decode prog_13_method_46_code 12 = .ok (.iconst 1, 1) := by decide +kernel
theorem d_Model_fault_13 : decode prog_13_method_46_code 13 = .ok (.if_icmp .ne 10, 3) := by decide +kernel
theorem d_Model_fault_23 : decode prog_13_method_46_code 23 = .ok (.iconst (-1), 1) := by decide +kernel
theorem d_Model_fault_24 : decode prog_13_method_46_code 24 = .ok (.ireturn, 1) := by decide +kernel
theorem d_Model_fault_16 : decode prog_13_method_46_code 16 = .ok (.aload_n 0, 1) := by decide +kernel
theorem d_Model_fault_17 : decode prog_13_method_46_code 17 = .ok (.getfield 13, 3) := by decide +kernel
theorem gf_Model_13 : GF "NineBoardsModel" 13 10 8 := ⟨_, _, _, rfl, ci_Model, by decide, (mt_5 (List.mem_of_getElem? (i := 96) rfl) rfl)⟩
theorem d_Model_fault_20 : decode prog_13_method_46_code 20 = .ok (.goto 4, 3) := by decide +kernel
theorem d_Model_fault_4 : decode prog_13_method_46_code 4 = .ok (.aload_n 0, 1) := by decide +kernel
theorem d_Model_fault_5 : decode prog_13_method_46_code 5 = .ok (.getfield 332, 3) := by decide +kernel
theorem gf_Model_332 : GF "NineBoardsModel" 332 10 7 := ⟨_, _, _, rfl, ci_Model, by decide, (mt_5 (List.mem_of_getElem? (i := 95) rfl) rfl)⟩
theorem d_Model_fault_8 : decode prog_13_method_46_code 8 = .ok (.goto 16, 3) := by decide +kernel
set_option maxHeartbeats 4000000 in
set_option maxRecDepth 100000 in
theorem c_M_fault (l : Launch) (D : va_G) (y : Nat → ClassId) (mo : Nat) (ma : Nat → Nat) (t1 : Nat) (i2 : Int32) (i3 : Int32) (i4 : Int32) (i5 : Int32) (i6 : Int32) (i7 : Int32) (i8 : Int32) (i42 : Int32) (i49 : Int32) (i51 : Int32) (i53 : Int32) (i54 : Int32) (i59 : Int32) (i61 : Int32) (i64 : Int32) (i66 : Int32) (t67 : Nat) (i76 : Int64) (i78 : Int32) (v : Int32)  : CT l D y ⟨"NineBoardsModel", "fault", "(I)I"⟩ prog_13_method_46_code 2 (some .int) ({ frames := 0, cells := 0, slots := 0, locals := 0 } : Room) [.ref mo, .int v] [MB mo ma (nI t1) i2 i3 i4 i5 i6 i7 i8 i42 i49 i51 i53 i54 i59 i61 i64 i66 (nI t67) i76 i78] (QI D [MB mo ma (nI t1) i2 i3 i4 i5 i6 i7 i8 i42 i49 i51 i53 i54 i59 i61 i64 i66 (nI t67) i76 i78] (fun (r : Int32) (u : Unit) => True) (fun _ => [MB mo ma (nI t1) i2 i3 i4 i5 i6 i7 i8 i42 i49 i51 i53 i54 i59 i61 i64 i66 (nI t67) i76 i78])) := by
  refine CT.of (by decide) (nb rfl) ?_
  intro p e s m args below meth c C hr
  refine j_lv (lv' := [(0, .ref mo), (1, .int v)]) rfl ?_
  refine j_iload_n (pc := 0) C d_Model_fault_0 rfl 1 rfl ?_
  refine j_if_ne (pc := 1) C (tgt := 11) d_Model_fault_1 (by decide) (fun c1 => ?_) (fun c1 => ?_)
  · refine j_iload_n (pc := 11) C d_Model_fault_11 rfl 1 rfl ?_
    refine j_iconst (pc := 12) C (v := 1) d_Model_fault_12 (by decide) ?_
    refine j_icmp_ne (pc := 13) C (tgt := 23) d_Model_fault_13 (by decide) (fun c2 => ?_) (fun c2 => ?_)
    · refine j_iconst (pc := 23) C (v := (-1)) d_Model_fault_23 (by decide) ?_
      exact j_iret (pc := 24) C hr rfl () trivial [0] rfl (by decide) (by decide) (by decide) d_Model_fault_24
    · refine j_aload_n (pc := 16) C d_Model_fault_16 rfl 0 rfl ?_
      refine j_get (pc := 17) C gf_Model_13 0 rfl rfl d_Model_fault_17 ?_
      refine j_goto (pc := 20) C (tgt := 24) d_Model_fault_20 (by decide) ?_
      exact j_iret (pc := 24) C hr rfl () trivial [0] rfl (by decide) (by decide) (by decide) d_Model_fault_24
  · refine j_aload_n (pc := 4) C d_Model_fault_4 rfl 0 rfl ?_
    refine j_get (pc := 5) C gf_Model_332 0 rfl rfl d_Model_fault_5 ?_
    refine j_goto (pc := 8) C (tgt := 24) d_Model_fault_8 (by decide) ?_
    exact j_iret (pc := 24) C hr rfl () trivial [0] rfl (by decide) (by decide) (by decide) d_Model_fault_24
