theorem d_Model_plans_0 : decode prog_13_method_90_code 0 = .ok (.aload_n 0, 1) := by decide +kernel
theorem d_Model_plans_1 : decode prog_13_method_90_code 1 = .ok (.invokevirtual 510, 3) := by decide +kernel
theorem kw_Model_510 : KW "NineBoardsModel" 510 ⟨"NineBoardsModel", "putsAside", "()V"⟩ prog_13_method_70_code 2 none 0 := ⟨(mt_7 (List.mem_of_getElem? (i := 194) rfl) rfl), (mt_1 (List.mem_of_getElem? (i := 16) rfl) rfl), (mt_7 (List.mem_of_getElem? (i := 197) rfl) rfl), by decide +kernel⟩
theorem kv_Model_putsAside : Cond.instanceMethod ⟨"NineBoardsModel", "putsAside", "()V"⟩ ∈ TB ∧ Cond.selects "NineBoardsModel" ⟨"NineBoardsModel", "putsAside", "()V"⟩ ⟨"NineBoardsModel", "putsAside", "()V"⟩ ∈ TB := ⟨(mt_7 (List.mem_of_getElem? (i := 196) rfl) rfl), (ms_0 (List.mem_map.mpr ⟨(⟨"NineBoardsModel", "putsAside", "()V"⟩, 79), List.mem_of_getElem? (i := 112) (by decide +kernel), rfl⟩) rfl)⟩
theorem d_Model_plans_4 : decode prog_13_method_90_code 4 = .ok (.iconst 0, 1) := by decide +kernel
theorem d_Model_plans_5 : decode prog_13_method_90_code 5 = .ok (.istore_n 3, 1) := by decide +kernel
theorem d_Model_plans_6 : decode prog_13_method_90_code 6 = .ok (.iload_n 3, 1) := by decide +kernel
theorem d_Model_plans_7 : decode prog_13_method_90_code 7 = .ok (.aload_n 0, 1) := by decide +kernel
theorem d_Model_plans_8 : decode prog_13_method_90_code 8 = .ok (.getfield 179, 3) := by decide +kernel
theorem d_Model_plans_11 : decode prog_13_method_90_code 11 = .ok (.iload_n 1, 1) := by decide +kernel
theorem d_Model_plans_12 : decode prog_13_method_90_code 12 = .ok (.iaload, 1) := by decide +kernel
theorem d_Model_plans_13 : decode prog_13_method_90_code 13 = .ok (.if_icmp .ge 43, 3) := by decide +kernel
theorem d_Model_plans_56 : decode prog_13_method_90_code 56 = .ok (.iload_n 1, 1) := by decide +kernel
theorem d_Model_plans_57 : decode prog_13_method_90_code 57 = .ok (.iconst 1, 1) := by decide +kernel
theorem d_Model_plans_58 : decode prog_13_method_90_code 58 = .ok (.isub, 1) := by decide +kernel
theorem d_Model_plans_59 : decode prog_13_method_90_code 59 = .ok (.istore_n 3, 1) := by decide +kernel
theorem d_Model_plans_60 : decode prog_13_method_90_code 60 = .ok (.iload_n 3, 1) := by decide +kernel
theorem d_Model_plans_61 : decode prog_13_method_90_code 61 = .ok (.ifCond .lt 37, 3) := by decide +kernel
theorem d_Model_plans_98 : decode prog_13_method_90_code 98 = .ok (.aload_n 0, 1) := by decide +kernel
theorem d_Model_plans_99 : decode prog_13_method_90_code 99 = .ok (.invokevirtual 495, 3) := by decide +kernel
theorem d_Model_plans_102 : decode prog_13_method_90_code 102 = .ok (.return_, 1) := by decide +kernel
theorem d_Model_plans_64 : decode prog_13_method_90_code 64 = .ok (.iconst 0, 1) := by decide +kernel
theorem d_Model_plans_65 : decode prog_13_method_90_code 65 = .ok (.istore 4, 2) := by decide +kernel
theorem d_Model_plans_67 : decode prog_13_method_90_code 67 = .ok (.iload 4, 2) := by decide +kernel
theorem d_Model_plans_69 : decode prog_13_method_90_code 69 = .ok (.aload_n 0, 1) := by decide +kernel
theorem d_Model_plans_70 : decode prog_13_method_90_code 70 = .ok (.getfield 179, 3) := by decide +kernel
theorem d_Model_plans_73 : decode prog_13_method_90_code 73 = .ok (.iload_n 3, 1) := by decide +kernel
theorem d_Model_plans_74 : decode prog_13_method_90_code 74 = .ok (.iaload, 1) := by decide +kernel
theorem d_Model_plans_75 : decode prog_13_method_90_code 75 = .ok (.if_icmp .ge 17, 3) := by decide +kernel
theorem d_Model_plans_92 : decode prog_13_method_90_code 92 = .ok (.iinc 3 (-1), 3) := by decide +kernel
theorem d_Model_plans_95 : decode prog_13_method_90_code 95 = .ok (.goto (-35), 3) := by decide +kernel
theorem d_Model_plans_78 : decode prog_13_method_90_code 78 = .ok (.aload_n 0, 1) := by decide +kernel
theorem d_Model_plans_79 : decode prog_13_method_90_code 79 = .ok (.iload_n 3, 1) := by decide +kernel
theorem d_Model_plans_80 : decode prog_13_method_90_code 80 = .ok (.iload 4, 2) := by decide +kernel
theorem d_Model_plans_82 : decode prog_13_method_90_code 82 = .ok (.iload_n 2, 1) := by decide +kernel
theorem d_Model_plans_83 : decode prog_13_method_90_code 83 = .ok (.invokevirtual 513, 3) := by decide +kernel
theorem kw_Model_513 : KW "NineBoardsModel" 513 ⟨"NineBoardsModel", "takesBest", "(IIZ)V"⟩ prog_13_method_89_code 11 none 3 := ⟨(mt_7 (List.mem_of_getElem? (i := 202) rfl) rfl), (mt_1 (List.mem_of_getElem? (i := 16) rfl) rfl), (mt_7 (List.mem_of_getElem? (i := 205) rfl) rfl), by decide +kernel⟩
theorem kv_Model_takesBest : Cond.instanceMethod ⟨"NineBoardsModel", "takesBest", "(IIZ)V"⟩ ∈ TB ∧ Cond.selects "NineBoardsModel" ⟨"NineBoardsModel", "takesBest", "(IIZ)V"⟩ ⟨"NineBoardsModel", "takesBest", "(IIZ)V"⟩ ∈ TB := ⟨(mt_7 (List.mem_of_getElem? (i := 204) rfl) rfl), (ms_0 (List.mem_map.mpr ⟨(⟨"NineBoardsModel", "takesBest", "(IIZ)V"⟩, 79), List.mem_of_getElem? (i := 114) (by decide +kernel), rfl⟩) rfl)⟩
theorem d_Model_plans_86 : decode prog_13_method_90_code 86 = .ok (.iinc 4 1, 3) := by decide +kernel
theorem d_Model_plans_89 : decode prog_13_method_90_code 89 = .ok (.goto (-22), 3) := by decide +kernel
theorem d_Model_plans_16 : decode prog_13_method_90_code 16 = .ok (.iconst 0, 1) := by decide +kernel
theorem d_Model_plans_17 : decode prog_13_method_90_code 17 = .ok (.istore 4, 2) := by decide +kernel
theorem d_Model_plans_19 : decode prog_13_method_90_code 19 = .ok (.iload 4, 2) := by decide +kernel
theorem d_Model_plans_21 : decode prog_13_method_90_code 21 = .ok (.bipush 6, 2) := by decide +kernel
theorem d_Model_plans_23 : decode prog_13_method_90_code 23 = .ok (.if_icmp .ge 27, 3) := by decide +kernel
theorem d_Model_plans_50 : decode prog_13_method_90_code 50 = .ok (.iinc 3 1, 3) := by decide +kernel
theorem d_Model_plans_53 : decode prog_13_method_90_code 53 = .ok (.goto (-47), 3) := by decide +kernel
theorem d_Model_plans_26 : decode prog_13_method_90_code 26 = .ok (.aload_n 0, 1) := by decide +kernel
theorem d_Model_plans_27 : decode prog_13_method_90_code 27 = .ok (.getfield 173, 3) := by decide +kernel
theorem d_Model_plans_30 : decode prog_13_method_90_code 30 = .ok (.bipush 6, 2) := by decide +kernel
theorem d_Model_plans_32 : decode prog_13_method_90_code 32 = .ok (.aload_n 0, 1) := by decide +kernel
theorem d_Model_plans_33 : decode prog_13_method_90_code 33 = .ok (.iload_n 1, 1) := by decide +kernel
theorem d_Model_plans_34 : decode prog_13_method_90_code 34 = .ok (.iload_n 3, 1) := by decide +kernel
theorem d_Model_plans_35 : decode prog_13_method_90_code 35 = .ok (.invokevirtual 501, 3) := by decide +kernel
theorem d_Model_plans_38 : decode prog_13_method_90_code 38 = .ok (.imul, 1) := by decide +kernel
theorem d_Model_plans_39 : decode prog_13_method_90_code 39 = .ok (.iload 4, 2) := by decide +kernel
theorem d_Model_plans_41 : decode prog_13_method_90_code 41 = .ok (.iadd, 1) := by decide +kernel
theorem d_Model_plans_42 : decode prog_13_method_90_code 42 = .ok (.iconst 0, 1) := by decide +kernel
theorem d_Model_plans_43 : decode prog_13_method_90_code 43 = .ok (.iastore, 1) := by decide +kernel
theorem d_Model_plans_44 : decode prog_13_method_90_code 44 = .ok (.iinc 4 1, 3) := by decide +kernel
theorem d_Model_plans_47 : decode prog_13_method_90_code 47 = .ok (.goto (-28), 3) := by decide +kernel
theorem d_Model_actOf_0 : decode prog_13_method_91_code 0 = .ok (.iconst 0, 1) := by decide +kernel
theorem d_Model_actOf_1 : decode prog_13_method_91_code 1 = .ok (.istore_n 2, 1) := by decide +kernel
theorem d_Model_actOf_2 : decode prog_13_method_91_code 2 = .ok (.iconst 0, 1) := by decide +kernel
theorem d_Model_actOf_3 : decode prog_13_method_91_code 3 = .ok (.istore_n 3, 1) := by decide +kernel
theorem d_Model_actOf_4 : decode prog_13_method_91_code 4 = .ok (.iload_n 3, 1) := by decide +kernel
theorem d_Model_actOf_5 : decode prog_13_method_91_code 5 = .ok (.iload_n 1, 1) := by decide +kernel
theorem d_Model_actOf_6 : decode prog_13_method_91_code 6 = .ok (.if_icmp .ge 25, 3) := by decide +kernel
theorem d_Model_actOf_31 : decode prog_13_method_91_code 31 = .ok (.aload_n 0, 1) := by decide +kernel
theorem d_Model_actOf_32 : decode prog_13_method_91_code 32 = .ok (.getfield 176, 3) := by decide +kernel
theorem d_Model_actOf_35 : decode prog_13_method_91_code 35 = .ok (.aload_n 0, 1) := by decide +kernel
theorem d_Model_actOf_36 : decode prog_13_method_91_code 36 = .ok (.iload_n 1, 1) := by decide +kernel
theorem d_Model_actOf_37 : decode prog_13_method_91_code 37 = .ok (.iload_n 2, 1) := by decide +kernel
theorem d_Model_actOf_38 : decode prog_13_method_91_code 38 = .ok (.invokevirtual 501, 3) := by decide +kernel
theorem d_Model_actOf_41 : decode prog_13_method_91_code 41 = .ok (.iaload, 1) := by decide +kernel
theorem d_Model_actOf_42 : decode prog_13_method_91_code 42 = .ok (.ireturn, 1) := by decide +kernel
theorem d_Model_actOf_9 : decode prog_13_method_91_code 9 = .ok (.iconst 3, 1) := by decide +kernel
theorem d_Model_actOf_10 : decode prog_13_method_91_code 10 = .ok (.iload_n 2, 1) := by decide +kernel
theorem d_Model_actOf_11 : decode prog_13_method_91_code 11 = .ok (.imul, 1) := by decide +kernel
theorem d_Model_actOf_12 : decode prog_13_method_91_code 12 = .ok (.aload_n 0, 1) := by decide +kernel
theorem d_Model_actOf_13 : decode prog_13_method_91_code 13 = .ok (.getfield 176, 3) := by decide +kernel
theorem d_Model_actOf_16 : decode prog_13_method_91_code 16 = .ok (.aload_n 0, 1) := by decide +kernel
theorem d_Model_actOf_17 : decode prog_13_method_91_code 17 = .ok (.iload_n 3, 1) := by decide +kernel
theorem d_Model_actOf_18 : decode prog_13_method_91_code 18 = .ok (.iload_n 2, 1) := by decide +kernel
theorem d_Model_actOf_19 : decode prog_13_method_91_code 19 = .ok (.invokevirtual 501, 3) := by decide +kernel
theorem d_Model_actOf_22 : decode prog_13_method_91_code 22 = .ok (.iaload, 1) := by decide +kernel
theorem d_Model_actOf_23 : decode prog_13_method_91_code 23 = .ok (.iadd, 1) := by decide +kernel
theorem d_Model_actOf_24 : decode prog_13_method_91_code 24 = .ok (.istore_n 2, 1) := by decide +kernel
theorem d_Model_actOf_25 : decode prog_13_method_91_code 25 = .ok (.iinc 3 1, 3) := by decide +kernel
theorem d_Model_actOf_28 : decode prog_13_method_91_code 28 = .ok (.goto (-24), 3) := by decide +kernel
set_option maxHeartbeats 4000000 in
set_option maxRecDepth 100000 in
theorem c_M_actOf (l : Launch) (D : va_G) (y : Nat → ClassId) (mo : Nat) (ma : Nat → Nat) (t1 : Nat) (i2 : Int32) (i3 : Int32) (i4 : Int32) (i5 : Int32) (i6 : Int32) (i7 : Int32) (i8 : Int32) (i42 : Int32) (i49 : Int32) (i51 : Int32) (i53 : Int32) (i54 : Int32) (i59 : Int32) (i61 : Int32) (i64 : Int32) (i66 : Int32) (t67 : Nat) (i76 : Int64) (i78 : Int32) (g71 : Nat → Int32) (g72 : Nat → Int32) (j : Nat) (hj : j < 6) (hP_ : ∀ j, j < 7 → g72 j = nI (3 ^ j)) (hK : ∀ j, ∃ q, q < 3 ∧ g71 j = nI q) : CT l D y ⟨"NineBoardsModel", "actOf", "(I)I"⟩ prog_13_method_91_code 4 (some .int) ({ frames := 1, cells := 0, slots := 0, locals := 22 } : Room) [.ref mo, .int (nI j)] [MB mo ma (nI t1) i2 i3 i4 i5 i6 i7 i8 i42 i49 i51 i53 i54 i59 i61 i64 i66 (nI t67) i76 i78, (ma 71, .inl (y 0, 1093, .inl g71)), (ma 72, .inl (y 0, 7, .inl g72))] (QI D [MB mo ma (nI t1) i2 i3 i4 i5 i6 i7 i8 i42 i49 i51 i53 i54 i59 i61 i64 i66 (nI t67) i76 i78, (ma 71, .inl (y 0, 1093, .inl g71)), (ma 72, .inl (y 0, 7, .inl g72))] (fun (r : Int32) (u : Unit) => True) (fun _ => [MB mo ma (nI t1) i2 i3 i4 i5 i6 i7 i8 i42 i49 i51 i53 i54 i59 i61 i64 i66 (nI t67) i76 i78, (ma 71, .inl (y 0, 1093, .inl g71)), (ma 72, .inl (y 0, 7, .inl g72))])) := by
  refine CT.of (by decide) (nb rfl) ?_
  intro p e s m args below meth c C hr
  refine j_lv (lv' := [(0, .ref mo), (1, .int (nI j))]) rfl ?_
  refine j_iconst (pc := 0) C (v := 0) d_Model_actOf_0 (by decide) ?_
  refine j_istore_n (pc := 1) C (lv' := [(2, .int 0), (0, .ref mo), (1, .int (nI j))]) d_Model_actOf_1 rfl (by decide) rfl ?_
  refine j_iconst (pc := 2) C (v := 0) d_Model_actOf_2 (by decide) ?_
  refine j_istore_n (pc := 3) C (lv' := [(3, .int 0), (2, .int 0), (0, .ref mo), (1, .int (nI j))]) d_Model_actOf_3 rfl (by decide) rfl ?_
  refine j_loop (α := Nat × Nat) (fun a => j - a.1) (fun a => (a.1 ≤ j) ∧ (a.2 < 3 ^ a.1)) (fun a => [MB mo ma (nI t1) i2 i3 i4 i5 i6 i7 i8 i42 i49 i51 i53 i54 i59 i61 i64 i66 (nI t67) i76 i78, (ma 71, .inl (y 0, 1093, .inl g71)), (ma 72, .inl (y 0, 7, .inl g72))]) (fun a => [(3, .int (nI a.1)), (2, .int (nI a.2)), (0, .ref mo), (1, .int (nI j))]) (0, 0) rfl rfl ⟨(show 0 ≤ j by omega), (by decide)⟩ ?_
  rintro ⟨ik, bg⟩ hP16 ih17
  obtain ⟨hi__, hb__⟩ := hP16
  have hi_ : ik ≤ j := hi__
  have hb_ : bg < 3 ^ ik := hb__
  refine j_ws (ws' := [MB mo ma (nI t1) i2 i3 i4 i5 i6 i7 i8 i42 i49 i51 i53 i54 i59 i61 i64 i66 (nI t67) i76 i78, (ma 71, .inl (y 0, 1093, .inl g71)), (ma 72, .inl (y 0, 7, .inl g72))]) rfl ?_
  refine j_lv (lv' := [(3, .int (nI ik)), (2, .int (nI bg)), (0, .ref mo), (1, .int (nI j))]) rfl ?_
  refine j_iload_n (pc := 4) C d_Model_actOf_4 rfl 0 rfl ?_
  refine j_iload_n (pc := 5) C d_Model_actOf_5 rfl 3 rfl ?_
  by_cases c18 : j ≤ ik
  · refine j_icmp_geT (pc := 6) C (tgt := 31) d_Model_actOf_6 (by decide) (show nI j ≤ nI ik from nI_le (by omega) (by omega)) ?_
    have hbe : bg < 3 ^ j := (pw_e (show ik = j by omega)) ▸ hb_
    refine j_aload_n (pc := 31) C d_Model_actOf_31 rfl 2 rfl ?_
    refine j_get (pc := 32) C gf_Model_176 0 rfl rfl d_Model_actOf_32 ?_
    refine j_aload_n (pc := 35) C d_Model_actOf_35 rfl 2 rfl ?_
    refine j_iload_n (pc := 36) C d_Model_actOf_36 rfl 3 rfl ?_
    refine j_iload_n (pc := 37) C d_Model_actOf_37 rfl 1 rfl ?_
    refine j_callVi (pc := 38) C (c_M_placeOf l D y mo ma t1 i2 i3 i4 i5 i6 i7 i8 i42 i49 i51 i53 i54 i59 i61 i64 i66 t67 i76 i78 g72 j bg (by omega) hbe hP_) kw_Model_501 kv_Model_placeOf 0 10 rfl rfl ⟨by decide, by decide⟩ ⟨by decide, by decide⟩ (wr := [(ma 71, .inl (y 0, 1093, .inl g71))]) [0, 2] [1] rfl rfl (by decide) (by decide) (by decide) (As := [.int (nI j), .int (nI bg)]) (rest := [.ref (ma 71)]) rfl (nb rfl) rfl d_Model_actOf_38 (fun r19 _ hr19 => ?_)
    refine j_ws (ws' := [(ma 71, .inl (y 0, 1093, .inl g71)), MB mo ma (nI t1) i2 i3 i4 i5 i6 i7 i8 i42 i49 i51 i53 i54 i59 i61 i64 i66 (nI t67) i76 i78, (ma 72, .inl (y 0, 7, .inl g72))]) rfl ?_
    rcases hr19 with ⟨q21, xh22, rfl⟩
    · obtain ⟨q23, xh24, e25⟩ := hK q21
      refine j_iald (pc := 41) C 0 rfl (v := nI q23) (vp_in_nI (by omega) (by decide)) (by rw [nI_clamp (by omega)]; exact e25) d_Model_actOf_41 ?_
      exact j_iret (pc := 42) C hr rfl () trivial [1, 0, 2] rfl (by decide) (by decide) (by decide) d_Model_actOf_42
  · refine j_icmp_geF (pc := 6) C (tgt := 31) d_Model_actOf_6 (by decide) (show ¬ nI j ≤ nI ik from nI_ge (by omega) (by omega)) ?_
    refine j_iconst (pc := 9) C (v := 3) d_Model_actOf_9 (by decide) ?_
    refine j_iload_n (pc := 10) C d_Model_actOf_10 rfl 1 rfl ?_
    refine j_imul (pc := 11) C (v := nI (3 * bg)) d_Model_actOf_11 (pk_mul _ _) ?_
    refine j_aload_n (pc := 12) C d_Model_actOf_12 rfl 2 rfl ?_
    refine j_get (pc := 13) C gf_Model_176 0 rfl rfl d_Model_actOf_13 ?_
    refine j_aload_n (pc := 16) C d_Model_actOf_16 rfl 2 rfl ?_
    refine j_iload_n (pc := 17) C d_Model_actOf_17 rfl 0 rfl ?_
    refine j_iload_n (pc := 18) C d_Model_actOf_18 rfl 1 rfl ?_
    refine j_callVi (pc := 19) C (c_M_placeOf l D y mo ma t1 i2 i3 i4 i5 i6 i7 i8 i42 i49 i51 i53 i54 i59 i61 i64 i66 t67 i76 i78 g72 ik bg (by omega) hb_ (by omega)) kw_Model_501 kv_Model_placeOf 0 10 rfl rfl ⟨by decide, by decide⟩ ⟨by decide, by decide⟩ (wr := [(ma 71, .inl (y 0, 1093, .inl g71))]) [0, 2] [1] rfl rfl (by decide) (by decide) (by decide) (As := [.int (nI ik), .int (nI bg)]) (rest := [.ref (ma 71), .int (nI (3 * bg))]) rfl (nb rfl) rfl d_Model_actOf_19 (fun r26 _ hr26 => ?_)
    refine j_ws (ws' := [(ma 71, .inl (y 0, 1093, .inl g71)), MB mo ma (nI t1) i2 i3 i4 i5 i6 i7 i8 i42 i49 i51 i53 i54 i59 i61 i64 i66 (nI t67) i76 i78, (ma 72, .inl (y 0, 7, .inl g72))]) rfl ?_
    rcases hr26 with ⟨q28, xh29, rfl⟩
    · obtain ⟨q30, xh31, e32⟩ := hK q28
      refine j_iald (pc := 22) C 0 rfl (v := nI q30) (vp_in_nI (by omega) (by decide)) (by rw [nI_clamp (by omega)]; exact e32) d_Model_actOf_22 ?_
      refine j_iadd (pc := 23) C (v := nI ((3 * bg) + q30)) d_Model_actOf_23 (nI_add _ _) ?_
      refine j_istore_n (pc := 24) C (lv' := [(2, .int (nI ((3 * bg) + q30))), (3, .int (nI ik)), (0, .ref mo), (1, .int (nI j))]) d_Model_actOf_24 rfl (by decide) rfl ?_
      refine j_iinc (pc := 25) C (v := nI (ik + 1)) (lv' := [(3, .int (nI (ik + 1))), (2, .int (nI ((3 * bg) + q30))), (0, .ref mo), (1, .int (nI j))]) d_Model_actOf_25 1 rfl (nI_add _ _) (by decide) rfl ?_
      refine j_goto (pc := 28) C (tgt := 4) d_Model_actOf_28 (by decide) ?_
      refine j_sub (ws' := [MB mo ma (nI t1) i2 i3 i4 i5 i6 i7 i8 i42 i49 i51 i53 i54 i59 i61 i64 i66 (nI t67) i76 i78, (ma 71, .inl (y 0, 1093, .inl g71)), (ma 72, .inl (y 0, 7, .inl g72))]) [1, 0, 2] rfl (by decide) ?_
      exact ih17 ((ik + 1), ((3 * bg) + q30)) ⟨(show (ik + 1) ≤ j by omega), (show ((3 * bg) + q30) < 3 ^ (ik + 1) from pw_s hb_ (by omega))⟩ (show j - (ik + 1) < j - ik by omega)
theorem d_Model_canPlan_0 : decode prog_13_method_92_code 0 = .ok (.iload_n 1, 1) := by decide +kernel
theorem d_Model_canPlan_1 : decode prog_13_method_92_code 1 = .ok (.i2l, 1) := by decide +kernel
theorem d_Model_canPlan_2 : decode prog_13_method_92_code 2 = .ok (.lconst 1, 1) := by decide +kernel
theorem d_Model_canPlan_3 : decode prog_13_method_92_code 3 = .ok (.ldc2_w 517, 3) := by decide +kernel
theorem d_Model_canPlan_6 : decode prog_13_method_92_code 6 = .ok (.invokestatic 240, 3) := by decide +kernel
theorem d_Model_canPlan_9 : decode prog_13_method_92_code 9 = .ok (.ifCond .eq 21, 3) := by decide +kernel
theorem d_Model_canPlan_30 : decode prog_13_method_92_code 30 = .ok (.iconst 0, 1) := by decide +kernel
theorem d_Model_canPlan_31 : decode prog_13_method_92_code 31 = .ok (.ireturn, 1) := by decide +kernel
theorem d_Model_canPlan_12 : decode prog_13_method_92_code 12 = .ok (.aload_n 0, 1) := by decide +kernel
theorem d_Model_canPlan_13 : decode prog_13_method_92_code 13 = .ok (.getfield 158, 3) := by decide +kernel
theorem d_Model_canPlan_16 : decode prog_13_method_92_code 16 = .ok (.iconst 0, 1) := by decide +kernel
theorem d_Model_canPlan_17 : decode prog_13_method_92_code 17 = .ok (.iaload, 1) := by decide +kernel
theorem d_Model_canPlan_18 : decode prog_13_method_92_code 18 = .ok (.iload_n 1, 1) := by decide +kernel
theorem d_Model_canPlan_19 : decode prog_13_method_92_code 19 = .ok (.iadd, 1) := by decide +kernel
theorem d_Model_canPlan_20 : decode prog_13_method_92_code 20 = .ok (.sipush 999, 3) := by decide +kernel
theorem d_Model_canPlan_23 : decode prog_13_method_92_code 23 = .ok (.if_icmp .gt 7, 3) := by decide +kernel
theorem d_Model_canPlan_26 : decode prog_13_method_92_code 26 = .ok (.iconst 1, 1) := by decide +kernel
theorem d_Model_canPlan_27 : decode prog_13_method_92_code 27 = .ok (.goto 4, 3) := by decide +kernel
set_option maxHeartbeats 4000000 in
set_option maxRecDepth 100000 in
theorem c_M_canPlan (l : Launch) (D : va_G) (y : Nat → ClassId) (mo : Nat) (ma : Nat → Nat) (t1 : Nat) (i2 : Int32) (i3 : Int32) (i4 : Int32) (i5 : Int32) (i6 : Int32) (i7 : Int32) (i8 : Int32) (i42 : Int32) (i49 : Int32) (i51 : Int32) (i53 : Int32) (i54 : Int32) (i59 : Int32) (i61 : Int32) (i64 : Int32) (i66 : Int32) (t67 : Nat) (i76 : Int64) (i78 : Int32) (g62 : Nat → Int32) (v : Int32) (dy : Nat) (hD : g62 0 = nI dy) (bD : dy ≤ 999) : CT l D y ⟨"NineBoardsModel", "canPlan", "(I)Z"⟩ prog_13_method_92_code 2 (some .boolean) ({ frames := 1, cells := 0, slots := 0, locals := 25 } : Room) [.ref mo, .int v] [MB mo ma (nI t1) i2 i3 i4 i5 i6 i7 i8 i42 i49 i51 i53 i54 i59 i61 i64 i66 (nI t67) i76 i78, (ma 62, .inl (y 0, 63, .inl g62))] (QI D [MB mo ma (nI t1) i2 i3 i4 i5 i6 i7 i8 i42 i49 i51 i53 i54 i59 i61 i64 i66 (nI t67) i76 i78, (ma 62, .inl (y 0, 63, .inl g62))] (fun (r : Int32) (u : Unit) => (r = 0 ∨ (r = 1 ∧ ∃ j : Nat, (1 ≤ j ∧ j ≤ 6) ∧ v = nI j))) (fun _ => [MB mo ma (nI t1) i2 i3 i4 i5 i6 i7 i8 i42 i49 i51 i53 i54 i59 i61 i64 i66 (nI t67) i76 i78, (ma 62, .inl (y 0, 63, .inl g62))])) := by
  refine CT.of (by decide) (nb rfl) ?_
  intro p e s m args below meth c C hr
  refine j_lv (lv' := [(0, .ref mo), (1, .int v)]) rfl ?_
  refine j_iload_n (pc := 0) C d_Model_canPlan_0 rfl 1 rfl ?_
  refine j_i2l (pc := 1) C (v := v.toInt64) d_Model_canPlan_1 rfl ?_
  refine j_lconst (pc := 2) C (v := 1) d_Model_canPlan_2 (by decide) ?_
  refine j_ldc2 (pc := 3) C (v := 6) (mt_7 (List.mem_of_getElem? (i := 189) rfl) rfl) d_Model_canPlan_3 ?_
  refine j_callSi (pc := 6) C (c_isIn_1_6 l D y v) kw_Model_240 ks_Model_isIn ⟨by decide, by decide⟩ ⟨by decide, by decide⟩ (wr := [MB mo ma (nI t1) i2 i3 i4 i5 i6 i7 i8 i42 i49 i51 i53 i54 i59 i61 i64 i66 (nI t67) i76 i78, (ma 62, .inl (y 0, 63, .inl g62))]) [] [0, 1] rfl rfl (by decide) (by decide) (by decide) (As := [.long v.toInt64, .long 1, .long 6]) (rest := []) rfl (nb rfl) rfl d_Model_canPlan_6 (fun r1 _ hr1 => ?_)
  refine j_ws (ws' := [MB mo ma (nI t1) i2 i3 i4 i5 i6 i7 i8 i42 i49 i51 i53 i54 i59 i61 i64 i66 (nI t67) i76 i78, (ma 62, .inl (y 0, 63, .inl g62))]) rfl ?_
  rcases hr1 with rfl | ⟨rfl, j2, xh3, rfl⟩
  · refine j_if_eqT (pc := 9) C (tgt := 30) d_Model_canPlan_9 (by decide) (by decide) ?_
    refine j_iconst (pc := 30) C (v := 0) d_Model_canPlan_30 (by decide) ?_
    exact j_iret (pc := 31) C hr (by decide) () (Or.inl rfl) [0, 1] rfl (by decide) (by decide) (by decide) d_Model_canPlan_31
  · refine j_if_eqF (pc := 9) C (tgt := 30) d_Model_canPlan_9 (by decide) (by decide) ?_
    refine j_aload_n (pc := 12) C d_Model_canPlan_12 rfl 0 rfl ?_
    refine j_get (pc := 13) C gf_Model_158 0 rfl rfl d_Model_canPlan_13 ?_
    refine j_iconst (pc := 16) C (v := 0) d_Model_canPlan_16 (by decide) ?_
    refine j_iald (pc := 17) C 1 rfl (v := nI dy) (vin (by decide)) (by exact hD) d_Model_canPlan_17 ?_
    refine j_iload_n (pc := 18) C d_Model_canPlan_18 rfl 1 rfl ?_
    refine j_iadd (pc := 19) C (v := nI (dy + j2)) d_Model_canPlan_19 (nI_add _ _) ?_
    refine j_sipush (pc := 20) C (v := 999) d_Model_canPlan_20 (by decide) ?_
    by_cases c4 : 999 < (dy + j2)
    · refine j_icmp_gtT (pc := 23) C (tgt := 30) d_Model_canPlan_23 (by decide) (show nI 999 < nI (dy + j2) from nI_lt (by omega) (by omega)) ?_
      refine j_iconst (pc := 30) C (v := 0) d_Model_canPlan_30 (by decide) ?_
      exact j_iret (pc := 31) C hr (by decide) () (Or.inl rfl) [0, 1] rfl (by decide) (by decide) (by decide) d_Model_canPlan_31
    · refine j_icmp_gtF (pc := 23) C (tgt := 30) d_Model_canPlan_23 (by decide) (show ¬ nI 999 < nI (dy + j2) from nI_nlt (by omega) (by omega)) ?_
      refine j_iconst (pc := 26) C (v := 1) d_Model_canPlan_26 (by decide) ?_
      refine j_goto (pc := 27) C (tgt := 31) d_Model_canPlan_27 (by decide) ?_
      exact j_iret (pc := 31) C hr (by decide) () (Or.inr ⟨rfl, j2, xh3, rfl⟩) [0, 1] rfl (by decide) (by decide) (by decide) d_Model_canPlan_31
theorem d_Model_selfish_0 : decode prog_13_method_93_code 0 = .ok (.aload_n 0, 1) := by decide +kernel
theorem d_Model_selfish_1 : decode prog_13_method_93_code 1 = .ok (.iload_n 1, 1) := by decide +kernel
theorem d_Model_selfish_2 : decode prog_13_method_93_code 2 = .ok (.invokevirtual 519, 3) := by decide +kernel
theorem kw_Model_519 : KW "NineBoardsModel" 519 ⟨"NineBoardsModel", "canPlan", "(I)Z"⟩ prog_13_method_92_code 2 (some .boolean) 1 := ⟨(mt_7 (List.mem_of_getElem? (i := 185) rfl) rfl), (mt_1 (List.mem_of_getElem? (i := 16) rfl) rfl), (mt_7 (List.mem_of_getElem? (i := 188) rfl) rfl), by decide +kernel⟩
theorem kv_Model_canPlan : Cond.instanceMethod ⟨"NineBoardsModel", "canPlan", "(I)Z"⟩ ∈ TB ∧ Cond.selects "NineBoardsModel" ⟨"NineBoardsModel", "canPlan", "(I)Z"⟩ ⟨"NineBoardsModel", "canPlan", "(I)Z"⟩ ∈ TB := ⟨(mt_7 (List.mem_of_getElem? (i := 187) rfl) rfl), (ms_0 (List.mem_map.mpr ⟨(⟨"NineBoardsModel", "canPlan", "(I)Z"⟩, 79), List.mem_of_getElem? (i := 110) (by decide +kernel), rfl⟩) rfl)⟩
theorem d_Model_selfish_5 : decode prog_13_method_93_code 5 = .ok (.ifCond .eq 27, 3) := by decide +kernel
theorem d_Model_selfish_32 : decode prog_13_method_93_code 32 = .ok (.ldc_w 475, 3) := by decide +kernel
theorem d_Model_selfish_35 : decode prog_13_method_93_code 35 = .ok (.ireturn, 1) := by decide +kernel
theorem d_Model_selfish_8 : decode prog_13_method_93_code 8 = .ok (.iload_n 2, 1) := by decide +kernel
theorem d_Model_selfish_9 : decode prog_13_method_93_code 9 = .ok (.i2l, 1) := by decide +kernel
theorem d_Model_selfish_10 : decode prog_13_method_93_code 10 = .ok (.lconst 0, 1) := by decide +kernel
theorem d_Model_selfish_11 : decode prog_13_method_93_code 11 = .ok (.iload_n 1, 1) := by decide +kernel
theorem d_Model_selfish_12 : decode prog_13_method_93_code 12 = .ok (.iconst 1, 1) := by decide +kernel
theorem d_Model_selfish_13 : decode prog_13_method_93_code 13 = .ok (.isub, 1) := by decide +kernel
theorem d_Model_selfish_14 : decode prog_13_method_93_code 14 = .ok (.i2l, 1) := by decide +kernel
theorem d_Model_selfish_15 : decode prog_13_method_93_code 15 = .ok (.invokestatic 240, 3) := by decide +kernel
theorem d_Model_selfish_18 : decode prog_13_method_93_code 18 = .ok (.ifCond .ne 18, 3) := by decide +kernel
theorem d_Model_selfish_21 : decode prog_13_method_93_code 21 = .ok (.aload_n 0, 1) := by decide +kernel
theorem d_Model_selfish_22 : decode prog_13_method_93_code 22 = .ok (.iload_n 2, 1) := by decide +kernel
theorem d_Model_selfish_23 : decode prog_13_method_93_code 23 = .ok (.bipush 10, 2) := by decide +kernel
theorem d_Model_selfish_25 : decode prog_13_method_93_code 25 = .ok (.isub, 1) := by decide +kernel
theorem d_Model_selfish_26 : decode prog_13_method_93_code 26 = .ok (.invokevirtual 472, 3) := by decide +kernel
theorem d_Model_selfish_29 : decode prog_13_method_93_code 29 = .ok (.ifCond .ne 7, 3) := by decide +kernel
theorem d_Model_selfish_36 : decode prog_13_method_93_code 36 = .ok (.aload_n 0, 1) := by decide +kernel
theorem d_Model_selfish_37 : decode prog_13_method_93_code 37 = .ok (.iload_n 1, 1) := by decide +kernel
theorem d_Model_selfish_38 : decode prog_13_method_93_code 38 = .ok (.iconst 0, 1) := by decide +kernel
theorem d_Model_selfish_39 : decode prog_13_method_93_code 39 = .ok (.invokevirtual 522, 3) := by decide +kernel
theorem kw_Model_522 : KW "NineBoardsModel" 522 ⟨"NineBoardsModel", "plans", "(IZ)V"⟩ prog_13_method_90_code 5 none 2 := ⟨(mt_7 (List.mem_of_getElem? (i := 190) rfl) rfl), (mt_1 (List.mem_of_getElem? (i := 16) rfl) rfl), (mt_7 (List.mem_of_getElem? (i := 193) rfl) rfl), by decide +kernel⟩
theorem kv_Model_plans : Cond.instanceMethod ⟨"NineBoardsModel", "plans", "(IZ)V"⟩ ∈ TB ∧ Cond.selects "NineBoardsModel" ⟨"NineBoardsModel", "plans", "(IZ)V"⟩ ⟨"NineBoardsModel", "plans", "(IZ)V"⟩ ∈ TB := ⟨(mt_7 (List.mem_of_getElem? (i := 192) rfl) rfl), (ms_0 (List.mem_map.mpr ⟨(⟨"NineBoardsModel", "plans", "(IZ)V"⟩, 79), List.mem_of_getElem? (i := 111) (by decide +kernel), rfl⟩) rfl)⟩
theorem d_Model_selfish_42 : decode prog_13_method_93_code 42 = .ok (.iload_n 2, 1) := by decide +kernel
theorem d_Model_selfish_43 : decode prog_13_method_93_code 43 = .ok (.iload_n 1, 1) := by decide +kernel
theorem d_Model_selfish_44 : decode prog_13_method_93_code 44 = .ok (.if_icmp .ge 11, 3) := by decide +kernel
theorem d_Model_selfish_55 : decode prog_13_method_93_code 55 = .ok (.aload_n 0, 1) := by decide +kernel
theorem d_Model_selfish_56 : decode prog_13_method_93_code 56 = .ok (.getfield 173, 3) := by decide +kernel
theorem d_Model_selfish_59 : decode prog_13_method_93_code 59 = .ok (.iload_n 2, 1) := by decide +kernel
theorem d_Model_selfish_60 : decode prog_13_method_93_code 60 = .ok (.bipush 10, 2) := by decide +kernel
theorem d_Model_selfish_62 : decode prog_13_method_93_code 62 = .ok (.isub, 1) := by decide +kernel
theorem d_Model_selfish_63 : decode prog_13_method_93_code 63 = .ok (.iaload, 1) := by decide +kernel
theorem d_Model_selfish_64 : decode prog_13_method_93_code 64 = .ok (.ireturn, 1) := by decide +kernel
theorem d_Model_selfish_47 : decode prog_13_method_93_code 47 = .ok (.aload_n 0, 1) := by decide +kernel
theorem d_Model_selfish_48 : decode prog_13_method_93_code 48 = .ok (.iload_n 2, 1) := by decide +kernel
theorem d_Model_selfish_49 : decode prog_13_method_93_code 49 = .ok (.invokevirtual 525, 3) := by decide +kernel
theorem kw_Model_525 : KW "NineBoardsModel" 525 ⟨"NineBoardsModel", "actOf", "(I)I"⟩ prog_13_method_91_code 4 (some .int) 1 := ⟨(mt_7 (List.mem_of_getElem? (i := 222) rfl) rfl), (mt_1 (List.mem_of_getElem? (i := 16) rfl) rfl), (mt_7 (List.mem_of_getElem? (i := 225) rfl) rfl), by decide +kernel⟩
theorem kv_Model_actOf : Cond.instanceMethod ⟨"NineBoardsModel", "actOf", "(I)I"⟩ ∈ TB ∧ Cond.selects "NineBoardsModel" ⟨"NineBoardsModel", "actOf", "(I)I"⟩ ⟨"NineBoardsModel", "actOf", "(I)I"⟩ ∈ TB := ⟨(mt_7 (List.mem_of_getElem? (i := 224) rfl) rfl), (ms_0 (List.mem_map.mpr ⟨(⟨"NineBoardsModel", "actOf", "(I)I"⟩, 79), List.mem_of_getElem? (i := 119) (by decide +kernel), rfl⟩) rfl)⟩
theorem d_Model_selfish_52 : decode prog_13_method_93_code 52 = .ok (.goto 12, 3) := by decide +kernel
theorem d_Model_common_0 : decode prog_13_method_95_code 0 = .ok (.aload_n 0, 1) := by decide +kernel
theorem d_Model_common_1 : decode prog_13_method_95_code 1 = .ok (.iload_n 1, 1) := by decide +kernel
theorem d_Model_common_2 : decode prog_13_method_95_code 2 = .ok (.invokevirtual 519, 3) := by decide +kernel
theorem d_Model_common_5 : decode prog_13_method_95_code 5 = .ok (.ifCond .eq 33, 3) := by decide +kernel
theorem d_Model_common_38 : decode prog_13_method_95_code 38 = .ok (.ldc_w 475, 3) := by decide +kernel
theorem d_Model_common_41 : decode prog_13_method_95_code 41 = .ok (.ireturn, 1) := by decide +kernel
theorem d_Model_common_8 : decode prog_13_method_95_code 8 = .ok (.iload_n 2, 1) := by decide +kernel
theorem d_Model_common_9 : decode prog_13_method_95_code 9 = .ok (.i2l, 1) := by decide +kernel
theorem d_Model_common_10 : decode prog_13_method_95_code 10 = .ok (.lconst 0, 1) := by decide +kernel
theorem d_Model_common_11 : decode prog_13_method_95_code 11 = .ok (.iload_n 1, 1) := by decide +kernel
theorem d_Model_common_12 : decode prog_13_method_95_code 12 = .ok (.iconst 1, 1) := by decide +kernel
theorem d_Model_common_13 : decode prog_13_method_95_code 13 = .ok (.isub, 1) := by decide +kernel
theorem d_Model_common_14 : decode prog_13_method_95_code 14 = .ok (.i2l, 1) := by decide +kernel
theorem d_Model_common_15 : decode prog_13_method_95_code 15 = .ok (.invokestatic 240, 3) := by decide +kernel
theorem d_Model_common_18 : decode prog_13_method_95_code 18 = .ok (.ifCond .ne 24, 3) := by decide +kernel
theorem d_Model_common_21 : decode prog_13_method_95_code 21 = .ok (.iload_n 2, 1) := by decide +kernel
theorem d_Model_common_22 : decode prog_13_method_95_code 22 = .ok (.bipush 9, 2) := by decide +kernel
theorem d_Model_common_24 : decode prog_13_method_95_code 24 = .ok (.if_icmp .eq 18, 3) := by decide +kernel
theorem d_Model_common_42 : decode prog_13_method_95_code 42 = .ok (.aload_n 0, 1) := by decide +kernel
theorem d_Model_common_43 : decode prog_13_method_95_code 43 = .ok (.iload_n 1, 1) := by decide +kernel
theorem d_Model_common_44 : decode prog_13_method_95_code 44 = .ok (.iconst 1, 1) := by decide +kernel
theorem d_Model_common_45 : decode prog_13_method_95_code 45 = .ok (.invokevirtual 522, 3) := by decide +kernel
theorem d_Model_common_48 : decode prog_13_method_95_code 48 = .ok (.iload_n 2, 1) := by decide +kernel
theorem d_Model_common_49 : decode prog_13_method_95_code 49 = .ok (.iload_n 1, 1) := by decide +kernel
theorem d_Model_common_50 : decode prog_13_method_95_code 50 = .ok (.if_icmp .ge 11, 3) := by decide +kernel
theorem d_Model_common_61 : decode prog_13_method_95_code 61 = .ok (.iload_n 2, 1) := by decide +kernel
theorem d_Model_common_62 : decode prog_13_method_95_code 62 = .ok (.bipush 9, 2) := by decide +kernel
theorem d_Model_common_64 : decode prog_13_method_95_code 64 = .ok (.if_icmp .ne 10, 3) := by decide +kernel
theorem d_Model_common_67 : decode prog_13_method_95_code 67 = .ok (.aload_n 0, 1) := by decide +kernel
theorem d_Model_common_68 : decode prog_13_method_95_code 68 = .ok (.invokevirtual 528, 3) := by decide +kernel
theorem kw_Model_528 : KW "NineBoardsModel" 528 ⟨"NineBoardsModel", "sumOfGets", "()I"⟩ prog_13_method_94_code 3 (some .int) 0 := ⟨(mt_7 (List.mem_of_getElem? (i := 230) rfl) rfl), (mt_1 (List.mem_of_getElem? (i := 16) rfl) rfl), (mt_7 (List.mem_of_getElem? (i := 233) rfl) rfl), by decide +kernel⟩
theorem kv_Model_sumOfGets : Cond.instanceMethod ⟨"NineBoardsModel", "sumOfGets", "()I"⟩ ∈ TB ∧ Cond.selects "NineBoardsModel" ⟨"NineBoardsModel", "sumOfGets", "()I"⟩ ⟨"NineBoardsModel", "sumOfGets", "()I"⟩ ∈ TB := ⟨(mt_7 (List.mem_of_getElem? (i := 232) rfl) rfl), (ms_0 (List.mem_map.mpr ⟨(⟨"NineBoardsModel", "sumOfGets", "()I"⟩, 79), List.mem_of_getElem? (i := 120) (by decide +kernel), rfl⟩) rfl)⟩
theorem d_Model_common_71 : decode prog_13_method_95_code 71 = .ok (.goto 12, 3) := by decide +kernel
theorem d_Model_common_83 : decode prog_13_method_95_code 83 = .ok (.ireturn, 1) := by decide +kernel
theorem d_Model_common_27 : decode prog_13_method_95_code 27 = .ok (.aload_n 0, 1) := by decide +kernel
theorem d_Model_common_28 : decode prog_13_method_95_code 28 = .ok (.iload_n 2, 1) := by decide +kernel
theorem d_Model_common_29 : decode prog_13_method_95_code 29 = .ok (.bipush 10, 2) := by decide +kernel
theorem d_Model_common_31 : decode prog_13_method_95_code 31 = .ok (.isub, 1) := by decide +kernel
theorem d_Model_common_32 : decode prog_13_method_95_code 32 = .ok (.invokevirtual 472, 3) := by decide +kernel
theorem d_Model_common_35 : decode prog_13_method_95_code 35 = .ok (.ifCond .ne 7, 3) := by decide +kernel
theorem d_Model_common_74 : decode prog_13_method_95_code 74 = .ok (.aload_n 0, 1) := by decide +kernel
theorem d_Model_common_75 : decode prog_13_method_95_code 75 = .ok (.getfield 173, 3) := by decide +kernel
theorem d_Model_common_78 : decode prog_13_method_95_code 78 = .ok (.iload_n 2, 1) := by decide +kernel
theorem d_Model_common_79 : decode prog_13_method_95_code 79 = .ok (.bipush 10, 2) := by decide +kernel
theorem d_Model_common_81 : decode prog_13_method_95_code 81 = .ok (.isub, 1) := by decide +kernel
theorem d_Model_common_82 : decode prog_13_method_95_code 82 = .ok (.iaload, 1) := by decide +kernel
theorem d_Model_common_53 : decode prog_13_method_95_code 53 = .ok (.aload_n 0, 1) := by decide +kernel
theorem d_Model_common_54 : decode prog_13_method_95_code 54 = .ok (.iload_n 2, 1) := by decide +kernel
theorem d_Model_common_55 : decode prog_13_method_95_code 55 = .ok (.invokevirtual 525, 3) := by decide +kernel
theorem d_Model_common_58 : decode prog_13_method_95_code 58 = .ok (.goto 25, 3) := by decide +kernel
theorem d_Model_share_0 : decode prog_13_method_96_code 0 = .ok (.aload_n 0, 1) := by decide +kernel
theorem d_Model_share_1 : decode prog_13_method_96_code 1 = .ok (.iload_n 1, 1) := by decide +kernel
theorem d_Model_share_2 : decode prog_13_method_96_code 2 = .ok (.invokevirtual 519, 3) := by decide +kernel
theorem d_Model_share_5 : decode prog_13_method_96_code 5 = .ok (.ifCond .eq 11, 3) := by decide +kernel
theorem d_Model_share_16 : decode prog_13_method_96_code 16 = .ok (.ldc_w 475, 3) := by decide +kernel
theorem d_Model_share_19 : decode prog_13_method_96_code 19 = .ok (.ireturn, 1) := by decide +kernel
theorem d_Model_share_8 : decode prog_13_method_96_code 8 = .ok (.aload_n 0, 1) := by decide +kernel
theorem d_Model_share_9 : decode prog_13_method_96_code 9 = .ok (.iload_n 2, 1) := by decide +kernel
theorem d_Model_share_10 : decode prog_13_method_96_code 10 = .ok (.invokevirtual 472, 3) := by decide +kernel
theorem d_Model_share_13 : decode prog_13_method_96_code 13 = .ok (.ifCond .ne 7, 3) := by decide +kernel
theorem d_Model_share_20 : decode prog_13_method_96_code 20 = .ok (.aload_n 0, 1) := by decide +kernel
theorem d_Model_share_21 : decode prog_13_method_96_code 21 = .ok (.iload_n 1, 1) := by decide +kernel
theorem d_Model_share_22 : decode prog_13_method_96_code 22 = .ok (.iconst 1, 1) := by decide +kernel
theorem d_Model_share_23 : decode prog_13_method_96_code 23 = .ok (.invokevirtual 522, 3) := by decide +kernel
theorem d_Model_share_26 : decode prog_13_method_96_code 26 = .ok (.aload_n 0, 1) := by decide +kernel
theorem d_Model_share_27 : decode prog_13_method_96_code 27 = .ok (.invokevirtual 528, 3) := by decide +kernel
theorem d_Model_share_30 : decode prog_13_method_96_code 30 = .ok (.istore_n 3, 1) := by decide +kernel
theorem d_Model_share_31 : decode prog_13_method_96_code 31 = .ok (.aload_n 0, 1) := by decide +kernel
theorem d_Model_share_32 : decode prog_13_method_96_code 32 = .ok (.iload_n 1, 1) := by decide +kernel
theorem d_Model_share_33 : decode prog_13_method_96_code 33 = .ok (.iconst 0, 1) := by decide +kernel
theorem d_Model_share_34 : decode prog_13_method_96_code 34 = .ok (.invokevirtual 522, 3) := by decide +kernel
theorem d_Model_share_37 : decode prog_13_method_96_code 37 = .ok (.iload_n 3, 1) := by decide +kernel
theorem d_Model_share_38 : decode prog_13_method_96_code 38 = .ok (.aload_n 0, 1) := by decide +kernel
theorem d_Model_share_39 : decode prog_13_method_96_code 39 = .ok (.invokevirtual 528, 3) := by decide +kernel
theorem d_Model_share_42 : decode prog_13_method_96_code 42 = .ok (.isub, 1) := by decide +kernel
theorem d_Model_share_43 : decode prog_13_method_96_code 43 = .ok (.istore_n 3, 1) := by decide +kernel
theorem d_Model_share_44 : decode prog_13_method_96_code 44 = .ok (.aload_n 0, 1) := by decide +kernel
theorem d_Model_share_45 : decode prog_13_method_96_code 45 = .ok (.getfield 173, 3) := by decide +kernel
theorem d_Model_share_48 : decode prog_13_method_96_code 48 = .ok (.iload_n 2, 1) := by decide +kernel
theorem d_Model_share_49 : decode prog_13_method_96_code 49 = .ok (.iaload, 1) := by decide +kernel
theorem d_Model_share_50 : decode prog_13_method_96_code 50 = .ok (.iload_n 3, 1) := by decide +kernel
theorem d_Model_share_51 : decode prog_13_method_96_code 51 = .ok (.aload_n 0, 1) := by decide +kernel
theorem d_Model_share_52 : decode prog_13_method_96_code 52 = .ok (.invokevirtual 448, 3) := by decide +kernel
theorem d_Model_share_55 : decode prog_13_method_96_code 55 = .ok (.idiv, 1) := by decide +kernel
theorem d_Model_share_56 : decode prog_13_method_96_code 56 = .ok (.iadd, 1) := by decide +kernel
theorem d_Model_share_57 : decode prog_13_method_96_code 57 = .ok (.iload_n 2, 1) := by decide +kernel
theorem d_Model_share_58 : decode prog_13_method_96_code 58 = .ok (.iload_n 3, 1) := by decide +kernel
theorem d_Model_share_59 : decode prog_13_method_96_code 59 = .ok (.aload_n 0, 1) := by decide +kernel
theorem d_Model_share_60 : decode prog_13_method_96_code 60 = .ok (.invokevirtual 448, 3) := by decide +kernel
theorem d_Model_share_63 : decode prog_13_method_96_code 63 = .ok (.irem, 1) := by decide +kernel
theorem d_Model_share_64 : decode prog_13_method_96_code 64 = .ok (.if_icmp .ge 7, 3) := by decide +kernel
theorem d_Model_share_71 : decode prog_13_method_96_code 71 = .ok (.iconst 0, 1) := by decide +kernel
theorem d_Model_share_72 : decode prog_13_method_96_code 72 = .ok (.iadd, 1) := by decide +kernel
theorem d_Model_share_73 : decode prog_13_method_96_code 73 = .ok (.ireturn, 1) := by decide +kernel
theorem d_Model_share_67 : decode prog_13_method_96_code 67 = .ok (.iconst 1, 1) := by decide +kernel
theorem d_Model_share_68 : decode prog_13_method_96_code 68 = .ok (.goto 4, 3) := by decide +kernel
