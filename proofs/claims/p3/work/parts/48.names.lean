theorem nz_of {v : Int32} (h : 1 ≤ v.toInt) : ¬ v = 0 := by
  intro e
  rw [e] at h
  exact absurd h (by decide)
set_option maxHeartbeats 4000000 in
set_option maxRecDepth 100000 in
theorem c_isIn_1x (l : Launch) (D : va_G) (y : Nat → ClassId) (v : Int32) (vc : Int64)  : CT l D y ⟨"NineBoardsModel", "isIn", "(JJJ)Z"⟩ prog_13_method_2_code 6 (some .boolean) ({ frames := 0, cells := 0, slots := 0, locals := 0 } : Room) [.long v.toInt64, .long 1, .long vc] [] (QI D [] (fun (r : Int32) (u : Unit) => (r = 0 ∨ (r = 1 ∧ ¬ v = 0))) (fun _ => [])) := by
  refine CT.of (by decide) (nb rfl) ?_
  intro p e s m args below meth c C hr
  refine j_lv (lv' := [(0, .long v.toInt64), (2, .long 1), (4, .long vc)]) rfl ?_
  refine j_lload_n (pc := 0) C d_Model_isIn_0 rfl 0 rfl ?_
  refine j_lload_n (pc := 1) C d_Model_isIn_1 rfl 1 rfl ?_
  refine j_lcmp (pc := 2) C (v := lg_cmp v.toInt64 1) d_Model_isIn_2 rfl ?_
  refine j_if_lt (pc := 3) C (tgt := 17) d_Model_isIn_3 (by decide) (fun c1 => ?_) (fun c1 => ?_)
  · refine j_iconst (pc := 17) C (v := 0) d_Model_isIn_17 (by decide) ?_
    exact j_iret (pc := 18) C hr (by decide) () (by exact Or.inl rfl) [] rfl (by decide) (by decide) (by decide) d_Model_isIn_18
  · refine j_lload_n (pc := 6) C d_Model_isIn_6 rfl 0 rfl ?_
    refine j_lload (pc := 7) C d_Model_isIn_7 2 rfl ?_
    refine j_lcmp (pc := 9) C (v := lg_cmp v.toInt64 vc) d_Model_isIn_9 rfl ?_
    refine j_if_gt (pc := 10) C (tgt := 17) d_Model_isIn_10 (by decide) (fun c2 => ?_) (fun c2 => ?_)
    · refine j_iconst (pc := 17) C (v := 0) d_Model_isIn_17 (by decide) ?_
      exact j_iret (pc := 18) C hr (by decide) () (by exact Or.inl rfl) [] rfl (by decide) (by decide) (by decide) d_Model_isIn_18
    · refine j_iconst (pc := 13) C (v := 1) d_Model_isIn_13 (by decide) ?_
      refine j_goto (pc := 14) C (tgt := 18) d_Model_isIn_14 (by decide) ?_
      exact j_iret (pc := 18) C hr (by decide) () (by simp only [lg_cmp_lt, lg_cmp_gt, Int64.lt_iff_toInt_lt, Int32.toInt_toInt64, (by decide : Int64.toInt 1 = 1)] at c1 c2; exact Or.inr ⟨rfl, nz_of (by omega)⟩) [] rfl (by decide) (by decide) (by decide) d_Model_isIn_18
theorem d_Model_number_0 : decode prog_13_method_14_code 0 = .ok (.aload_n 0, 1) := by decide +kernel
theorem d_Model_number_1 : decode prog_13_method_14_code 1 = .ok (.getfield 201, 3) := by decide +kernel
theorem d_Model_number_4 : decode prog_13_method_14_code 4 = .ok (.ifCond .eq 5, 3) := by decide +kernel
theorem d_Model_number_9 : decode prog_13_method_14_code 9 = .ok (.aload_n 0, 1) := by decide +kernel
theorem d_Model_number_10 : decode prog_13_method_14_code 10 = .ok (.invokevirtual 213, 3) := by decide +kernel
theorem d_Model_number_13 : decode prog_13_method_14_code 13 = .ok (.invokestatic 237, 3) := by decide +kernel
theorem kw_Model_237 : KW "NineBoardsModel" 237 ⟨"NineBoardsModel", "isDigit", "(I)Z"⟩ prog_13_method_7_code 1 (some .boolean) 1 := ⟨(mt_6 (List.mem_of_getElem? (i := 131) rfl) rfl), (mt_1 (List.mem_of_getElem? (i := 16) rfl) rfl), (mt_6 (List.mem_of_getElem? (i := 133) rfl) rfl), by decide +kernel⟩
theorem ks_Model_isDigit : Cond.static ⟨"NineBoardsModel", "isDigit", "(I)Z"⟩ ∈ TB := (mt_6 (List.mem_of_getElem? (i := 132) rfl) rfl)
theorem d_Model_number_16 : decode prog_13_method_14_code 16 = .ok (.ifCond .eq 14, 3) := by decide +kernel
theorem d_Model_number_30 : decode prog_13_method_14_code 30 = .ok (.aload_n 0, 1) := by decide +kernel
theorem d_Model_number_31 : decode prog_13_method_14_code 31 = .ok (.iconst 1, 1) := by decide +kernel
theorem d_Model_number_32 : decode prog_13_method_14_code 32 = .ok (.aload_n 0, 1) := by decide +kernel
theorem d_Model_number_33 : decode prog_13_method_14_code 33 = .ok (.getfield 207, 3) := by decide +kernel
theorem d_Model_number_36 : decode prog_13_method_14_code 36 = .ok (.invokevirtual 230, 3) := by decide +kernel
theorem d_Model_number_39 : decode prog_13_method_14_code 39 = .ok (.iconst 0, 1) := by decide +kernel
theorem d_Model_number_40 : decode prog_13_method_14_code 40 = .ok (.ireturn, 1) := by decide +kernel
theorem d_Model_number_19 : decode prog_13_method_14_code 19 = .ok (.aload_n 0, 1) := by decide +kernel
theorem d_Model_number_20 : decode prog_13_method_14_code 20 = .ok (.getfield 207, 3) := by decide +kernel
theorem d_Model_number_23 : decode prog_13_method_14_code 23 = .ok (.aload_n 0, 1) := by decide +kernel
theorem d_Model_number_24 : decode prog_13_method_14_code 24 = .ok (.getfield 221, 3) := by decide +kernel
theorem d_Model_number_27 : decode prog_13_method_14_code 27 = .ok (.if_icmp .ne 14, 3) := by decide +kernel
theorem d_Model_number_41 : decode prog_13_method_14_code 41 = .ok (.aload_n 0, 1) := by decide +kernel
theorem d_Model_number_42 : decode prog_13_method_14_code 42 = .ok (.getfield 207, 3) := by decide +kernel
theorem d_Model_number_45 : decode prog_13_method_14_code 45 = .ok (.istore_n 3, 1) := by decide +kernel
theorem d_Model_number_46 : decode prog_13_method_14_code 46 = .ok (.iconst 0, 1) := by decide +kernel
theorem d_Model_number_47 : decode prog_13_method_14_code 47 = .ok (.istore 4, 2) := by decide +kernel
theorem d_Model_number_49 : decode prog_13_method_14_code 49 = .ok (.aload_n 0, 1) := by decide +kernel
theorem d_Model_number_50 : decode prog_13_method_14_code 50 = .ok (.getfield 207, 3) := by decide +kernel
theorem d_Model_number_53 : decode prog_13_method_14_code 53 = .ok (.aload_n 0, 1) := by decide +kernel
theorem d_Model_number_54 : decode prog_13_method_14_code 54 = .ok (.getfield 210, 3) := by decide +kernel
theorem d_Model_number_57 : decode prog_13_method_14_code 57 = .ok (.if_icmp .ge 72, 3) := by decide +kernel
theorem d_Model_number_129 : decode prog_13_method_14_code 129 = .ok (.aload_n 0, 1) := by decide +kernel
theorem d_Model_number_130 : decode prog_13_method_14_code 130 = .ok (.aload_n 0, 1) := by decide +kernel
theorem d_Model_number_131 : decode prog_13_method_14_code 131 = .ok (.getfield 207, 3) := by decide +kernel
theorem d_Model_number_134 : decode prog_13_method_14_code 134 = .ok (.putfield 221, 3) := by decide +kernel
theorem d_Model_number_137 : decode prog_13_method_14_code 137 = .ok (.iload 4, 2) := by decide +kernel
theorem d_Model_number_139 : decode prog_13_method_14_code 139 = .ok (.i2l, 1) := by decide +kernel
theorem d_Model_number_140 : decode prog_13_method_14_code 140 = .ok (.iload_n 1, 1) := by decide +kernel
theorem d_Model_number_141 : decode prog_13_method_14_code 141 = .ok (.i2l, 1) := by decide +kernel
theorem d_Model_number_142 : decode prog_13_method_14_code 142 = .ok (.iload_n 2, 1) := by decide +kernel
theorem d_Model_number_143 : decode prog_13_method_14_code 143 = .ok (.i2l, 1) := by decide +kernel
theorem d_Model_number_144 : decode prog_13_method_14_code 144 = .ok (.invokestatic 240, 3) := by decide +kernel
theorem d_Model_number_147 : decode prog_13_method_14_code 147 = .ok (.ifCond .ne 9, 3) := by decide +kernel
theorem d_Model_number_156 : decode prog_13_method_14_code 156 = .ok (.iload 4, 2) := by decide +kernel
theorem d_Model_number_158 : decode prog_13_method_14_code 158 = .ok (.ireturn, 1) := by decide +kernel
theorem d_Model_number_150 : decode prog_13_method_14_code 150 = .ok (.aload_n 0, 1) := by decide +kernel
theorem d_Model_number_151 : decode prog_13_method_14_code 151 = .ok (.iconst 2, 1) := by decide +kernel
theorem d_Model_number_152 : decode prog_13_method_14_code 152 = .ok (.iload_n 3, 1) := by decide +kernel
theorem d_Model_number_153 : decode prog_13_method_14_code 153 = .ok (.invokevirtual 230, 3) := by decide +kernel
theorem d_Model_number_60 : decode prog_13_method_14_code 60 = .ok (.aload_n 0, 1) := by decide +kernel
theorem d_Model_number_61 : decode prog_13_method_14_code 61 = .ok (.getfield 7, 3) := by decide +kernel
theorem d_Model_number_64 : decode prog_13_method_14_code 64 = .ok (.aload_n 0, 1) := by decide +kernel
theorem d_Model_number_65 : decode prog_13_method_14_code 65 = .ok (.getfield 207, 3) := by decide +kernel
theorem d_Model_number_68 : decode prog_13_method_14_code 68 = .ok (.iaload, 1) := by decide +kernel
theorem d_Model_number_69 : decode prog_13_method_14_code 69 = .ok (.invokestatic 237, 3) := by decide +kernel
theorem d_Model_number_72 : decode prog_13_method_14_code 72 = .ok (.ifCond .eq 57, 3) := by decide +kernel
theorem d_Model_number_75 : decode prog_13_method_14_code 75 = .ok (.aload_n 0, 1) := by decide +kernel
theorem d_Model_number_76 : decode prog_13_method_14_code 76 = .ok (.getfield 207, 3) := by decide +kernel
theorem d_Model_number_79 : decode prog_13_method_14_code 79 = .ok (.iload_n 3, 1) := by decide +kernel
theorem d_Model_number_80 : decode prog_13_method_14_code 80 = .ok (.isub, 1) := by decide +kernel
theorem d_Model_number_81 : decode prog_13_method_14_code 81 = .ok (.iconst 4, 1) := by decide +kernel
theorem d_Model_number_82 : decode prog_13_method_14_code 82 = .ok (.if_icmp .ne 14, 3) := by decide +kernel
theorem d_Model_number_96 : decode prog_13_method_14_code 96 = .ok (.bipush 10, 2) := by decide +kernel
theorem d_Model_number_98 : decode prog_13_method_14_code 98 = .ok (.iload 4, 2) := by decide +kernel
theorem d_Model_number_100 : decode prog_13_method_14_code 100 = .ok (.imul, 1) := by decide +kernel
theorem d_Model_number_101 : decode prog_13_method_14_code 101 = .ok (.aload_n 0, 1) := by decide +kernel
theorem d_Model_number_102 : decode prog_13_method_14_code 102 = .ok (.getfield 7, 3) := by decide +kernel
theorem d_Model_number_105 : decode prog_13_method_14_code 105 = .ok (.aload_n 0, 1) := by decide +kernel
theorem d_Model_number_106 : decode prog_13_method_14_code 106 = .ok (.getfield 207, 3) := by decide +kernel
theorem d_Model_number_109 : decode prog_13_method_14_code 109 = .ok (.iaload, 1) := by decide +kernel
theorem d_Model_number_110 : decode prog_13_method_14_code 110 = .ok (.iadd, 1) := by decide +kernel
theorem d_Model_number_111 : decode prog_13_method_14_code 111 = .ok (.bipush 48, 2) := by decide +kernel
theorem d_Model_number_113 : decode prog_13_method_14_code 113 = .ok (.isub, 1) := by decide +kernel
theorem d_Model_number_114 : decode prog_13_method_14_code 114 = .ok (.istore 4, 2) := by decide +kernel
theorem d_Model_number_116 : decode prog_13_method_14_code 116 = .ok (.aload_n 0, 1) := by decide +kernel
theorem d_Model_number_117 : decode prog_13_method_14_code 117 = .ok (.dup, 1) := by decide +kernel
theorem d_Model_number_118 : decode prog_13_method_14_code 118 = .ok (.getfield 207, 3) := by decide +kernel
theorem d_Model_number_121 : decode prog_13_method_14_code 121 = .ok (.iconst 1, 1) := by decide +kernel
theorem d_Model_number_122 : decode prog_13_method_14_code 122 = .ok (.iadd, 1) := by decide +kernel
theorem d_Model_number_123 : decode prog_13_method_14_code 123 = .ok (.putfield 207, 3) := by decide +kernel
theorem d_Model_number_126 : decode prog_13_method_14_code 126 = .ok (.goto (-77), 3) := by decide +kernel
theorem d_Model_number_85 : decode prog_13_method_14_code 85 = .ok (.aload_n 0, 1) := by decide +kernel
theorem d_Model_number_86 : decode prog_13_method_14_code 86 = .ok (.iconst 1, 1) := by decide +kernel
theorem d_Model_number_87 : decode prog_13_method_14_code 87 = .ok (.aload_n 0, 1) := by decide +kernel
theorem d_Model_number_88 : decode prog_13_method_14_code 88 = .ok (.getfield 207, 3) := by decide +kernel
theorem d_Model_number_91 : decode prog_13_method_14_code 91 = .ok (.invokevirtual 230, 3) := by decide +kernel
theorem d_Model_number_94 : decode prog_13_method_14_code 94 = .ok (.iconst 0, 1) := by decide +kernel
theorem d_Model_number_95 : decode prog_13_method_14_code 95 = .ok (.ireturn, 1) := by decide +kernel
theorem d_Model_number_7 : decode prog_13_method_14_code 7 = .ok (.iconst 0, 1) := by decide +kernel
theorem d_Model_number_8 : decode prog_13_method_14_code 8 = .ok (.ireturn, 1) := by decide +kernel
set_option maxHeartbeats 4000000 in
set_option maxRecDepth 100000 in
theorem c_M_number (l : Launch) (D : va_G) (y : Nat → ClassId) (mo : Nat) (ma : Nat → Nat) (t1 : Nat) (t2 : Nat) (t3 : Nat) (i4 : Int32) (i5 : Int32) (i6 : Int32) (i7 : Int32) (i8 : Int32) (i42 : Int32) (i49 : Int32) (i51 : Int32) (i53 : Int32) (i54 : Int32) (i59 : Int32) (i61 : Int32) (i64 : Int32) (i66 : Int32) (t67 : Nat) (i76 : Int64) (i78 : Int32) (g0 : Nat → Int32) (v1 : Int32) (v2 : Int32) (ha : t2 ≤ t3) (he : t3 ≤ 1600) : CT l D y ⟨"NineBoardsModel", "number", "(II)I"⟩ prog_13_method_14_code 5 (some .int) ({ frames := 1, cells := 0, slots := 0, locals := 25 } : Room) [.ref mo, .int v1, .int v2] [MB mo ma (nI t1) (nI t2) (nI t3) i4 i5 i6 i7 i8 i42 i49 i51 i53 i54 i59 i61 i64 i66 (nI t67) i76 i78, (ma 0, .inl (y 0, 1600, .inl g0))] (QI D [MB mo ma (nI t1) (nI t2) (nI t3) i4 i5 i6 i7 i8 i42 i49 i51 i53 i54 i59 i61 i64 i66 (nI t67) i76 i78, (ma 0, .inl (y 0, 1600, .inl g0))] (fun (r : Int32) (u : Nat × Int32 × Int32 × Int32) => t2 ≤ u.1 ∧ u.1 ≤ t3 ∧ (u.2.2.1 = 0 → i5 = 0 ∧ t2 < u.1)) (fun u => [MB mo ma (nI t1) (nI u.1) (nI t3) u.2.1 u.2.2.1 u.2.2.2 i7 i8 i42 i49 i51 i53 i54 i59 i61 i64 i66 (nI t67) i76 i78, (ma 0, .inl (y 0, 1600, .inl g0))])) := by
  refine CT.of (by decide) (nb rfl) ?_
  intro p e s m args below meth c C hr
  refine j_lv (lv' := [(0, .ref mo), (1, .int v1), (2, .int v2)]) rfl ?_
  refine j_aload_n (pc := 0) C d_Model_number_0 rfl 0 rfl ?_
  refine j_get (pc := 1) C gf_Model_201 0 rfl rfl d_Model_number_1 ?_
  refine j_if_eq (pc := 4) C (tgt := 9) d_Model_number_4 (by decide) (fun c1 => ?_) (fun c1 => ?_)
  · refine j_aload_n (pc := 9) C d_Model_number_9 rfl 0 rfl ?_
    refine j_callVi (pc := 10) C (c_M_look l D y mo ma t1 t2 t3 i4 i5 i6 i7 i8 i42 i49 i51 i53 i54 i59 i61 i64 i66 t67 i76 i78 g0 ha he) kw_Model_213 kv_Model_look 0 10 rfl rfl ⟨by decide, by decide⟩ ⟨by decide, by decide⟩ (wr := []) [0, 1] [] rfl rfl (by decide) (by decide) (by decide) (As := []) (rest := []) rfl (nb rfl) rfl d_Model_number_10 (fun r2 u3 hr2 => ?_)
    refine j_ws (ws' := [MB mo ma (nI t1) (nI u3) (nI t3) i4 i5 i6 i7 i8 i42 i49 i51 i53 i54 i59 i61 i64 i66 (nI t67) i76 i78, (ma 0, .inl (y 0, 1600, .inl g0))]) rfl ?_
    obtain ⟨xh4, xh5, xh6⟩ := hr2
    rcases xh6 with rfl | ⟨xh7, e8⟩
    · refine j_callSi (pc := 13) C (c_M_isDigit2 l D y (-1)) kw_Model_237 ks_Model_isDigit ⟨by decide, by decide⟩ ⟨by decide, by decide⟩ (wr := [MB mo ma (nI t1) (nI u3) (nI t3) i4 i5 i6 i7 i8 i42 i49 i51 i53 i54 i59 i61 i64 i66 (nI t67) i76 i78, (ma 0, .inl (y 0, 1600, .inl g0))]) [] [0, 1] rfl rfl (by decide) (by decide) (by decide) (As := [.int (-1)]) (rest := []) rfl (nb rfl) rfl d_Model_number_13 (fun r9 _ hr9 => ?_)
      refine j_ws (ws' := [MB mo ma (nI t1) (nI u3) (nI t3) i4 i5 i6 i7 i8 i42 i49 i51 i53 i54 i59 i61 i64 i66 (nI t67) i76 i78, (ma 0, .inl (y 0, 1600, .inl g0))]) rfl ?_
      rcases hr9 with ⟨rfl, xh11⟩ | ⟨rfl, xh12⟩
      · refine j_if_eqT (pc := 16) C (tgt := 30) d_Model_number_16 (by decide) (by decide) ?_
        refine j_aload_n (pc := 30) C d_Model_number_30 rfl 0 rfl ?_
        refine j_iconst (pc := 31) C (v := 1) d_Model_number_31 (by decide) ?_
        refine j_aload_n (pc := 32) C d_Model_number_32 rfl 0 rfl ?_
        refine j_get (pc := 33) C gf_Model_207 0 rfl rfl d_Model_number_33 ?_
        refine j_callVv (pc := 36) C (c_M_fail l D y mo ma t1 u3 t3 i4 i5 i6 i7 i8 i42 i49 i51 i53 i54 i59 i61 i64 i66 t67 i76 i78 1 (nI u3) (by decide)) kw_Model_230 kv_Model_fail 0 10 rfl rfl ⟨by decide, by decide⟩ ⟨by decide, by decide⟩ (wr := [(ma 0, .inl (y 0, 1600, .inl g0))]) [0] [1] rfl rfl (by decide) (by decide) (by decide) (As := [.int 1, .int (nI u3)]) (rest := []) rfl (nb rfl) rfl d_Model_number_36 (fun u13 hu14 => ?_)
        have xh15 := hu14
        refine j_ws (ws' := [(ma 0, .inl (y 0, 1600, .inl g0)), MB mo ma (nI t1) (nI u3) (nI t3) i4 u13.1 u13.2 i7 i8 i42 i49 i51 i53 i54 i59 i61 i64 i66 (nI t67) i76 i78]) rfl ?_
        refine j_iconst (pc := 39) C (v := 0) d_Model_number_39 (by decide) ?_
        exact j_iret (pc := 40) C hr rfl (u3, i4, u13.1, u13.2) ⟨(show t2 ≤ u3 by omega), (show u3 ≤ t3 by omega), (fun e => absurd e xh15)⟩ [1, 0] rfl (by decide) (by decide) (by decide) d_Model_number_40
      · exact absurd xh12 (by decide)
    · refine j_callSi (pc := 13) C (c_M_isDigit2 l D y r2) kw_Model_237 ks_Model_isDigit ⟨by decide, by decide⟩ ⟨by decide, by decide⟩ (wr := [MB mo ma (nI t1) (nI u3) (nI t3) i4 i5 i6 i7 i8 i42 i49 i51 i53 i54 i59 i61 i64 i66 (nI t67) i76 i78, (ma 0, .inl (y 0, 1600, .inl g0))]) [] [0, 1] rfl rfl (by decide) (by decide) (by decide) (As := [.int r2]) (rest := []) rfl (nb rfl) rfl d_Model_number_13 (fun r16 _ hr16 => ?_)
      refine j_ws (ws' := [MB mo ma (nI t1) (nI u3) (nI t3) i4 i5 i6 i7 i8 i42 i49 i51 i53 i54 i59 i61 i64 i66 (nI t67) i76 i78, (ma 0, .inl (y 0, 1600, .inl g0))]) rfl ?_
      rcases hr16 with ⟨rfl, xh18⟩ | ⟨rfl, xh19⟩
      · refine j_if_eqT (pc := 16) C (tgt := 30) d_Model_number_16 (by decide) (by decide) ?_
        refine j_aload_n (pc := 30) C d_Model_number_30 rfl 0 rfl ?_
        refine j_iconst (pc := 31) C (v := 1) d_Model_number_31 (by decide) ?_
        refine j_aload_n (pc := 32) C d_Model_number_32 rfl 0 rfl ?_
        refine j_get (pc := 33) C gf_Model_207 0 rfl rfl d_Model_number_33 ?_
        refine j_callVv (pc := 36) C (c_M_fail l D y mo ma t1 u3 t3 i4 i5 i6 i7 i8 i42 i49 i51 i53 i54 i59 i61 i64 i66 t67 i76 i78 1 (nI u3) (by decide)) kw_Model_230 kv_Model_fail 0 10 rfl rfl ⟨by decide, by decide⟩ ⟨by decide, by decide⟩ (wr := [(ma 0, .inl (y 0, 1600, .inl g0))]) [0] [1] rfl rfl (by decide) (by decide) (by decide) (As := [.int 1, .int (nI u3)]) (rest := []) rfl (nb rfl) rfl d_Model_number_36 (fun u20 hu21 => ?_)
        have xh22 := hu21
        refine j_ws (ws' := [(ma 0, .inl (y 0, 1600, .inl g0)), MB mo ma (nI t1) (nI u3) (nI t3) i4 u20.1 u20.2 i7 i8 i42 i49 i51 i53 i54 i59 i61 i64 i66 (nI t67) i76 i78]) rfl ?_
        refine j_iconst (pc := 39) C (v := 0) d_Model_number_39 (by decide) ?_
        exact j_iret (pc := 40) C hr rfl (u3, i4, u20.1, u20.2) ⟨(show t2 ≤ u3 by omega), (show u3 ≤ t3 by omega), (fun e => absurd e xh22)⟩ [1, 0] rfl (by decide) (by decide) (by decide) d_Model_number_40
      · refine j_if_eqF (pc := 16) C (tgt := 30) d_Model_number_16 (by decide) (by decide) ?_
        refine j_aload_n (pc := 19) C d_Model_number_19 rfl 0 rfl ?_
        refine j_get (pc := 20) C gf_Model_207 0 rfl rfl d_Model_number_20 ?_
        refine j_aload_n (pc := 23) C d_Model_number_23 rfl 0 rfl ?_
        refine j_get (pc := 24) C gf_Model_221 0 rfl rfl d_Model_number_24 ?_
        refine j_icmp_ne (pc := 27) C (tgt := 41) d_Model_number_27 (by decide) (fun c23 => ?_) (fun c23 => ?_)
        · have hd0 : DG (g0 u3) := by rw [← e8]; exact xh19
          refine j_aload_n (pc := 41) C d_Model_number_41 rfl 0 rfl ?_
          refine j_get (pc := 42) C gf_Model_207 0 rfl rfl d_Model_number_42 ?_
          refine j_istore_n (pc := 45) C (lv' := [(3, .int (nI u3)), (0, .ref mo), (1, .int v1), (2, .int v2)]) d_Model_number_45 rfl (by decide) rfl ?_
          refine j_iconst (pc := 46) C (v := 0) d_Model_number_46 (by decide) ?_
          refine j_istore (pc := 47) C (lv' := [(4, .int 0), (3, .int (nI u3)), (0, .ref mo), (1, .int v1), (2, .int v2)]) d_Model_number_47 (by decide) rfl ?_
          refine j_loop (α := Nat × Int32) (fun a => t3 - a.1) (fun a => (a.1 ≤ t3) ∧ (u3 ≤ a.1)) (fun a => [MB mo ma (nI t1) (nI a.1) (nI t3) i4 i5 i6 i7 i8 i42 i49 i51 i53 i54 i59 i61 i64 i66 (nI t67) i76 i78, (ma 0, .inl (y 0, 1600, .inl g0))]) (fun a => [(4, .int a.2), (3, .int (nI u3)), (0, .ref mo), (1, .int v1), (2, .int v2)]) (u3, 0) rfl rfl ⟨xh5, (show u3 ≤ u3 by omega)⟩ ?_
          rintro ⟨az, vz⟩ hP46 ih47
          obtain ⟨hz__, hy__⟩ := hP46
          have hz_ : az ≤ t3 := hz__
          have hy_ : u3 ≤ az := hy__
          refine j_ws (ws' := [MB mo ma (nI t1) (nI az) (nI t3) i4 i5 i6 i7 i8 i42 i49 i51 i53 i54 i59 i61 i64 i66 (nI t67) i76 i78, (ma 0, .inl (y 0, 1600, .inl g0))]) rfl ?_
          refine j_lv (lv' := [(4, .int vz), (3, .int (nI u3)), (0, .ref mo), (1, .int v1), (2, .int v2)]) rfl ?_
          refine j_aload_n (pc := 49) C d_Model_number_49 rfl 2 rfl ?_
          refine j_get (pc := 50) C gf_Model_207 0 rfl rfl d_Model_number_50 ?_
          refine j_aload_n (pc := 53) C d_Model_number_53 rfl 2 rfl ?_
          refine j_get (pc := 54) C gf_Model_210 0 rfl rfl d_Model_number_54 ?_
          by_cases c48 : t3 ≤ az
          · refine j_icmp_geT (pc := 57) C (tgt := 129) d_Model_number_57 (by decide) (show nI t3 ≤ nI az from nI_le (by omega) (by omega)) ?_
            have hpr : u3 < az := by omega
            refine j_aload_n (pc := 129) C d_Model_number_129 rfl 2 rfl ?_
            refine j_aload_n (pc := 130) C d_Model_number_130 rfl 2 rfl ?_
            refine j_get (pc := 131) C gf_Model_207 0 rfl rfl d_Model_number_131 ?_
            refine j_put (pc := 134) C pf_Model_221 0 (ws' := [MB mo ma (nI t1) (nI az) (nI t3) (nI az) i5 i6 i7 i8 i42 i49 i51 i53 i54 i59 i61 i64 i66 (nI t67) i76 i78, (ma 0, .inl (y 0, 1600, .inl g0))]) rfl rfl rfl (nl rfl) rfl d_Model_number_134 ?_
            refine j_iload (pc := 137) C d_Model_number_137 0 rfl ?_
            refine j_i2l (pc := 139) C (v := vz.toInt64) d_Model_number_139 rfl ?_
            refine j_iload_n (pc := 140) C d_Model_number_140 rfl 3 rfl ?_
            refine j_i2l (pc := 141) C (v := v1.toInt64) d_Model_number_141 rfl ?_
            refine j_iload_n (pc := 142) C d_Model_number_142 rfl 4 rfl ?_
            refine j_i2l (pc := 143) C (v := v2.toInt64) d_Model_number_143 rfl ?_
            refine j_callSi (pc := 144) C (c_isIn_any l D y vz.toInt64 v1.toInt64 v2.toInt64) kw_Model_240 ks_Model_isIn ⟨by decide, by decide⟩ ⟨by decide, by decide⟩ (wr := [MB mo ma (nI t1) (nI az) (nI t3) (nI az) i5 i6 i7 i8 i42 i49 i51 i53 i54 i59 i61 i64 i66 (nI t67) i76 i78, (ma 0, .inl (y 0, 1600, .inl g0))]) [] [0, 1] rfl rfl (by decide) (by decide) (by decide) (As := [.long vz.toInt64, .long v1.toInt64, .long v2.toInt64]) (rest := []) rfl (nb rfl) rfl d_Model_number_144 (fun r49 _ hr49 => ?_)
            have xh50 := hr49
            refine j_ws (ws' := [MB mo ma (nI t1) (nI az) (nI t3) (nI az) i5 i6 i7 i8 i42 i49 i51 i53 i54 i59 i61 i64 i66 (nI t67) i76 i78, (ma 0, .inl (y 0, 1600, .inl g0))]) rfl ?_
            refine j_if_ne (pc := 147) C (tgt := 156) d_Model_number_147 (by decide) (fun c51 => ?_) (fun c51 => ?_)
            · refine j_iload (pc := 156) C d_Model_number_156 0 rfl ?_
              exact j_iret (pc := 158) C hr rfl (az, nI az, i5, i6) ⟨(show t2 ≤ az by omega), (show az ≤ t3 by omega), (fun e => by exact ⟨e, by omega⟩)⟩ [0, 1] rfl (by decide) (by decide) (by decide) d_Model_number_158
            · refine j_aload_n (pc := 150) C d_Model_number_150 rfl 2 rfl ?_
              refine j_iconst (pc := 151) C (v := 2) d_Model_number_151 (by decide) ?_
              refine j_iload_n (pc := 152) C d_Model_number_152 rfl 1 rfl ?_
              refine j_callVv (pc := 153) C (c_M_fail l D y mo ma t1 az t3 (nI az) i5 i6 i7 i8 i42 i49 i51 i53 i54 i59 i61 i64 i66 t67 i76 i78 2 (nI u3) (by decide)) kw_Model_230 kv_Model_fail 0 10 rfl rfl ⟨by decide, by decide⟩ ⟨by decide, by decide⟩ (wr := [(ma 0, .inl (y 0, 1600, .inl g0))]) [0] [1] rfl rfl (by decide) (by decide) (by decide) (As := [.int 2, .int (nI u3)]) (rest := []) rfl (nb rfl) rfl d_Model_number_153 (fun u52 hu53 => ?_)
              have xh54 := hu53
              refine j_ws (ws' := [(ma 0, .inl (y 0, 1600, .inl g0)), MB mo ma (nI t1) (nI az) (nI t3) (nI az) u52.1 u52.2 i7 i8 i42 i49 i51 i53 i54 i59 i61 i64 i66 (nI t67) i76 i78]) rfl ?_
              refine j_iload (pc := 156) C d_Model_number_156 0 rfl ?_
              exact j_iret (pc := 158) C hr rfl (az, nI az, u52.1, u52.2) ⟨(show t2 ≤ az by omega), (show az ≤ t3 by omega), (fun e => absurd e xh54)⟩ [1, 0] rfl (by decide) (by decide) (by decide) d_Model_number_158
          · refine j_icmp_geF (pc := 57) C (tgt := 129) d_Model_number_57 (by decide) (show ¬ nI t3 ≤ nI az from nI_ge (by omega) (by omega)) ?_
            refine j_aload_n (pc := 60) C d_Model_number_60 rfl 2 rfl ?_
            refine j_get (pc := 61) C gf_Model_7 0 rfl rfl d_Model_number_61 ?_
            refine j_aload_n (pc := 64) C d_Model_number_64 rfl 2 rfl ?_
            refine j_get (pc := 65) C gf_Model_207 0 rfl rfl d_Model_number_65 ?_
            refine j_iald (pc := 68) C 1 rfl (v := g0 az) (vp_in_nI (by omega) (by decide)) (by rw [nI_clamp (by omega)]) d_Model_number_68 ?_
            refine j_callSi (pc := 69) C (c_M_isDigit2 l D y (g0 az)) kw_Model_237 ks_Model_isDigit ⟨by decide, by decide⟩ ⟨by decide, by decide⟩ (wr := [MB mo ma (nI t1) (nI az) (nI t3) i4 i5 i6 i7 i8 i42 i49 i51 i53 i54 i59 i61 i64 i66 (nI t67) i76 i78, (ma 0, .inl (y 0, 1600, .inl g0))]) [] [0, 1] rfl rfl (by decide) (by decide) (by decide) (As := [.int (g0 az)]) (rest := []) rfl (nb rfl) rfl d_Model_number_69 (fun r55 _ hr55 => ?_)
            refine j_ws (ws' := [MB mo ma (nI t1) (nI az) (nI t3) i4 i5 i6 i7 i8 i42 i49 i51 i53 i54 i59 i61 i64 i66 (nI t67) i76 i78, (ma 0, .inl (y 0, 1600, .inl g0))]) rfl ?_
            rcases hr55 with ⟨rfl, xh57⟩ | ⟨rfl, xh58⟩
            · refine j_if_eqT (pc := 72) C (tgt := 129) d_Model_number_72 (by decide) (by decide) ?_
              have hpr : u3 < az := dg_at hd0 xh57 (by omega) trivial
              refine j_aload_n (pc := 129) C d_Model_number_129 rfl 2 rfl ?_
              refine j_aload_n (pc := 130) C d_Model_number_130 rfl 2 rfl ?_
              refine j_get (pc := 131) C gf_Model_207 0 rfl rfl d_Model_number_131 ?_
              refine j_put (pc := 134) C pf_Model_221 0 (ws' := [MB mo ma (nI t1) (nI az) (nI t3) (nI az) i5 i6 i7 i8 i42 i49 i51 i53 i54 i59 i61 i64 i66 (nI t67) i76 i78, (ma 0, .inl (y 0, 1600, .inl g0))]) rfl rfl rfl (nl rfl) rfl d_Model_number_134 ?_
              refine j_iload (pc := 137) C d_Model_number_137 0 rfl ?_
              refine j_i2l (pc := 139) C (v := vz.toInt64) d_Model_number_139 rfl ?_
              refine j_iload_n (pc := 140) C d_Model_number_140 rfl 3 rfl ?_
              refine j_i2l (pc := 141) C (v := v1.toInt64) d_Model_number_141 rfl ?_
              refine j_iload_n (pc := 142) C d_Model_number_142 rfl 4 rfl ?_
              refine j_i2l (pc := 143) C (v := v2.toInt64) d_Model_number_143 rfl ?_
              refine j_callSi (pc := 144) C (c_isIn_any l D y vz.toInt64 v1.toInt64 v2.toInt64) kw_Model_240 ks_Model_isIn ⟨by decide, by decide⟩ ⟨by decide, by decide⟩ (wr := [MB mo ma (nI t1) (nI az) (nI t3) (nI az) i5 i6 i7 i8 i42 i49 i51 i53 i54 i59 i61 i64 i66 (nI t67) i76 i78, (ma 0, .inl (y 0, 1600, .inl g0))]) [] [0, 1] rfl rfl (by decide) (by decide) (by decide) (As := [.long vz.toInt64, .long v1.toInt64, .long v2.toInt64]) (rest := []) rfl (nb rfl) rfl d_Model_number_144 (fun r59 _ hr59 => ?_)
              have xh60 := hr59
              refine j_ws (ws' := [MB mo ma (nI t1) (nI az) (nI t3) (nI az) i5 i6 i7 i8 i42 i49 i51 i53 i54 i59 i61 i64 i66 (nI t67) i76 i78, (ma 0, .inl (y 0, 1600, .inl g0))]) rfl ?_
              refine j_if_ne (pc := 147) C (tgt := 156) d_Model_number_147 (by decide) (fun c61 => ?_) (fun c61 => ?_)
              · refine j_iload (pc := 156) C d_Model_number_156 0 rfl ?_
                exact j_iret (pc := 158) C hr rfl (az, nI az, i5, i6) ⟨(show t2 ≤ az by omega), (show az ≤ t3 by omega), (fun e => by exact ⟨e, by omega⟩)⟩ [0, 1] rfl (by decide) (by decide) (by decide) d_Model_number_158
              · refine j_aload_n (pc := 150) C d_Model_number_150 rfl 2 rfl ?_
                refine j_iconst (pc := 151) C (v := 2) d_Model_number_151 (by decide) ?_
                refine j_iload_n (pc := 152) C d_Model_number_152 rfl 1 rfl ?_
                refine j_callVv (pc := 153) C (c_M_fail l D y mo ma t1 az t3 (nI az) i5 i6 i7 i8 i42 i49 i51 i53 i54 i59 i61 i64 i66 t67 i76 i78 2 (nI u3) (by decide)) kw_Model_230 kv_Model_fail 0 10 rfl rfl ⟨by decide, by decide⟩ ⟨by decide, by decide⟩ (wr := [(ma 0, .inl (y 0, 1600, .inl g0))]) [0] [1] rfl rfl (by decide) (by decide) (by decide) (As := [.int 2, .int (nI u3)]) (rest := []) rfl (nb rfl) rfl d_Model_number_153 (fun u62 hu63 => ?_)
                have xh64 := hu63
                refine j_ws (ws' := [(ma 0, .inl (y 0, 1600, .inl g0)), MB mo ma (nI t1) (nI az) (nI t3) (nI az) u62.1 u62.2 i7 i8 i42 i49 i51 i53 i54 i59 i61 i64 i66 (nI t67) i76 i78]) rfl ?_
                refine j_iload (pc := 156) C d_Model_number_156 0 rfl ?_
                exact j_iret (pc := 158) C hr rfl (az, nI az, u62.1, u62.2) ⟨(show t2 ≤ az by omega), (show az ≤ t3 by omega), (fun e => absurd e xh64)⟩ [1, 0] rfl (by decide) (by decide) (by decide) d_Model_number_158
            · refine j_if_eqF (pc := 72) C (tgt := 129) d_Model_number_72 (by decide) (by decide) ?_
              refine j_aload_n (pc := 75) C d_Model_number_75 rfl 2 rfl ?_
              refine j_get (pc := 76) C gf_Model_207 0 rfl rfl d_Model_number_76 ?_
              refine j_iload_n (pc := 79) C d_Model_number_79 rfl 1 rfl ?_
              refine j_isub (pc := 80) C (v := (nI az - nI u3)) d_Model_number_80 rfl ?_
              refine j_iconst (pc := 81) C (v := 4) d_Model_number_81 (by decide) ?_
              refine j_icmp_ne (pc := 82) C (tgt := 96) d_Model_number_82 (by decide) (fun c65 => ?_) (fun c65 => ?_)
              · refine j_bipush (pc := 96) C (v := 10) d_Model_number_96 (by decide) ?_
                refine j_iload (pc := 98) C d_Model_number_98 0 rfl ?_
                refine j_imul (pc := 100) C (v := 10 * vz) d_Model_number_100 rfl ?_
                refine j_aload_n (pc := 101) C d_Model_number_101 rfl 2 rfl ?_
                refine j_get (pc := 102) C gf_Model_7 0 rfl rfl d_Model_number_102 ?_
                refine j_aload_n (pc := 105) C d_Model_number_105 rfl 2 rfl ?_
                refine j_get (pc := 106) C gf_Model_207 0 rfl rfl d_Model_number_106 ?_
                refine j_iald (pc := 109) C 1 rfl (v := g0 az) (vp_in_nI (by omega) (by decide)) (by rw [nI_clamp (by omega)]) d_Model_number_109 ?_
                refine j_iadd (pc := 110) C (v := (10 * vz) + (g0 az)) d_Model_number_110 rfl ?_
                refine j_bipush (pc := 111) C (v := 48) d_Model_number_111 (by decide) ?_
                refine j_isub (pc := 113) C (v := ((10 * vz) + (g0 az)) - 48) d_Model_number_113 rfl ?_
                refine j_anyI (fun v66 => ?_)
                refine j_istore (pc := 114) C (lv' := [(4, .int v66), (3, .int (nI u3)), (0, .ref mo), (1, .int v1), (2, .int v2)]) d_Model_number_114 (by decide) rfl ?_
                refine j_aload_n (pc := 116) C d_Model_number_116 rfl 2 rfl ?_
                refine j_dup (pc := 117) C d_Model_number_117 rfl ?_
                refine j_get (pc := 118) C gf_Model_207 0 rfl rfl d_Model_number_118 ?_
                refine j_iconst (pc := 121) C (v := 1) d_Model_number_121 (by decide) ?_
                refine j_iadd (pc := 122) C (v := nI (az + 1)) d_Model_number_122 (nI_add _ _) ?_
                refine j_put (pc := 123) C pf_Model_207 0 (ws' := [MB mo ma (nI t1) (nI (az + 1)) (nI t3) i4 i5 i6 i7 i8 i42 i49 i51 i53 i54 i59 i61 i64 i66 (nI t67) i76 i78, (ma 0, .inl (y 0, 1600, .inl g0))]) rfl rfl rfl (nl rfl) rfl d_Model_number_123 ?_
                refine j_goto (pc := 126) C (tgt := 49) d_Model_number_126 (by decide) ?_
                exact ih47 ((az + 1), v66) ⟨(show (az + 1) ≤ t3 by omega), (show u3 ≤ (az + 1) by omega)⟩ (show t3 - (az + 1) < t3 - az by omega)
              · refine j_aload_n (pc := 85) C d_Model_number_85 rfl 2 rfl ?_
                refine j_iconst (pc := 86) C (v := 1) d_Model_number_86 (by decide) ?_
                refine j_aload_n (pc := 87) C d_Model_number_87 rfl 2 rfl ?_
                refine j_get (pc := 88) C gf_Model_207 0 rfl rfl d_Model_number_88 ?_
                refine j_callVv (pc := 91) C (c_M_fail l D y mo ma t1 az t3 i4 i5 i6 i7 i8 i42 i49 i51 i53 i54 i59 i61 i64 i66 t67 i76 i78 1 (nI az) (by decide)) kw_Model_230 kv_Model_fail 0 10 rfl rfl ⟨by decide, by decide⟩ ⟨by decide, by decide⟩ (wr := [(ma 0, .inl (y 0, 1600, .inl g0))]) [0] [1] rfl rfl (by decide) (by decide) (by decide) (As := [.int 1, .int (nI az)]) (rest := []) rfl (nb rfl) rfl d_Model_number_91 (fun u67 hu68 => ?_)
                have xh69 := hu68
                refine j_ws (ws' := [(ma 0, .inl (y 0, 1600, .inl g0)), MB mo ma (nI t1) (nI az) (nI t3) i4 u67.1 u67.2 i7 i8 i42 i49 i51 i53 i54 i59 i61 i64 i66 (nI t67) i76 i78]) rfl ?_
                refine j_iconst (pc := 94) C (v := 0) d_Model_number_94 (by decide) ?_
                exact j_iret (pc := 95) C hr rfl (az, i4, u67.1, u67.2) ⟨(show t2 ≤ az by omega), (show az ≤ t3 by omega), (fun e => absurd e xh69)⟩ [1, 0] rfl (by decide) (by decide) (by decide) d_Model_number_95
        · refine j_aload_n (pc := 30) C d_Model_number_30 rfl 0 rfl ?_
          refine j_iconst (pc := 31) C (v := 1) d_Model_number_31 (by decide) ?_
          refine j_aload_n (pc := 32) C d_Model_number_32 rfl 0 rfl ?_
          refine j_get (pc := 33) C gf_Model_207 0 rfl rfl d_Model_number_33 ?_
          refine j_callVv (pc := 36) C (c_M_fail l D y mo ma t1 u3 t3 i4 i5 i6 i7 i8 i42 i49 i51 i53 i54 i59 i61 i64 i66 t67 i76 i78 1 (nI u3) (by decide)) kw_Model_230 kv_Model_fail 0 10 rfl rfl ⟨by decide, by decide⟩ ⟨by decide, by decide⟩ (wr := [(ma 0, .inl (y 0, 1600, .inl g0))]) [0] [1] rfl rfl (by decide) (by decide) (by decide) (As := [.int 1, .int (nI u3)]) (rest := []) rfl (nb rfl) rfl d_Model_number_36 (fun u70 hu71 => ?_)
          have xh72 := hu71
          refine j_ws (ws' := [(ma 0, .inl (y 0, 1600, .inl g0)), MB mo ma (nI t1) (nI u3) (nI t3) i4 u70.1 u70.2 i7 i8 i42 i49 i51 i53 i54 i59 i61 i64 i66 (nI t67) i76 i78]) rfl ?_
          refine j_iconst (pc := 39) C (v := 0) d_Model_number_39 (by decide) ?_
          exact j_iret (pc := 40) C hr rfl (u3, i4, u70.1, u70.2) ⟨(show t2 ≤ u3 by omega), (show u3 ≤ t3 by omega), (fun e => absurd e xh72)⟩ [1, 0] rfl (by decide) (by decide) (by decide) d_Model_number_40
  · refine j_iconst (pc := 7) C (v := 0) d_Model_number_7 (by decide) ?_
    exact j_iret (pc := 8) C hr rfl (t2, i4, i5, i6) ⟨(show t2 ≤ t2 by omega), (show t2 ≤ t3 by omega), (fun e => absurd e c1)⟩ [0, 1] rfl (by decide) (by decide) (by decide) d_Model_number_8
set_option maxHeartbeats 4000000 in
set_option maxRecDepth 100000 in
theorem c_M_number_1 (l : Launch) (D : va_G) (y : Nat → ClassId) (mo : Nat) (ma : Nat → Nat) (t1 : Nat) (t2 : Nat) (t3 : Nat) (i4 : Int32) (i5 : Int32) (i6 : Int32) (i7 : Int32) (i8 : Int32) (i42 : Int32) (i49 : Int32) (i51 : Int32) (i53 : Int32) (i54 : Int32) (i59 : Int32) (i61 : Int32) (i64 : Int32) (i66 : Int32) (t67 : Nat) (i76 : Int64) (i78 : Int32) (g0 : Nat → Int32) (v2 : Int32) (ha : t2 ≤ t3) (he : t3 ≤ 1600) : CT l D y ⟨"NineBoardsModel", "number", "(II)I"⟩ prog_13_method_14_code 5 (some .int) ({ frames := 1, cells := 0, slots := 0, locals := 25 } : Room) [.ref mo, .int 1, .int v2] [MB mo ma (nI t1) (nI t2) (nI t3) i4 i5 i6 i7 i8 i42 i49 i51 i53 i54 i59 i61 i64 i66 (nI t67) i76 i78, (ma 0, .inl (y 0, 1600, .inl g0))] (QI D [MB mo ma (nI t1) (nI t2) (nI t3) i4 i5 i6 i7 i8 i42 i49 i51 i53 i54 i59 i61 i64 i66 (nI t67) i76 i78, (ma 0, .inl (y 0, 1600, .inl g0))] (fun (r : Int32) (u : Nat × Int32 × Int32 × Int32) => t2 ≤ u.1 ∧ u.1 ≤ t3 ∧ (u.2.2.1 = 0 → i5 = 0 ∧ t2 < u.1 ∧ ¬ r = 0)) (fun u => [MB mo ma (nI t1) (nI u.1) (nI t3) u.2.1 u.2.2.1 u.2.2.2 i7 i8 i42 i49 i51 i53 i54 i59 i61 i64 i66 (nI t67) i76 i78, (ma 0, .inl (y 0, 1600, .inl g0))])) := by
  refine CT.of (by decide) (nb rfl) ?_
  intro p e s m args below meth c C hr
  refine j_lv (lv' := [(0, .ref mo), (1, .int 1), (2, .int v2)]) rfl ?_
  refine j_aload_n (pc := 0) C d_Model_number_0 rfl 0 rfl ?_
  refine j_get (pc := 1) C gf_Model_201 0 rfl rfl d_Model_number_1 ?_
  refine j_if_eq (pc := 4) C (tgt := 9) d_Model_number_4 (by decide) (fun c1 => ?_) (fun c1 => ?_)
  · refine j_aload_n (pc := 9) C d_Model_number_9 rfl 0 rfl ?_
    refine j_callVi (pc := 10) C (c_M_look l D y mo ma t1 t2 t3 i4 i5 i6 i7 i8 i42 i49 i51 i53 i54 i59 i61 i64 i66 t67 i76 i78 g0 ha he) kw_Model_213 kv_Model_look 0 10 rfl rfl ⟨by decide, by decide⟩ ⟨by decide, by decide⟩ (wr := []) [0, 1] [] rfl rfl (by decide) (by decide) (by decide) (As := []) (rest := []) rfl (nb rfl) rfl d_Model_number_10 (fun r2 u3 hr2 => ?_)
    refine j_ws (ws' := [MB mo ma (nI t1) (nI u3) (nI t3) i4 i5 i6 i7 i8 i42 i49 i51 i53 i54 i59 i61 i64 i66 (nI t67) i76 i78, (ma 0, .inl (y 0, 1600, .inl g0))]) rfl ?_
    obtain ⟨xh4, xh5, xh6⟩ := hr2
    rcases xh6 with rfl | ⟨xh7, e8⟩
    · refine j_callSi (pc := 13) C (c_M_isDigit2 l D y (-1)) kw_Model_237 ks_Model_isDigit ⟨by decide, by decide⟩ ⟨by decide, by decide⟩ (wr := [MB mo ma (nI t1) (nI u3) (nI t3) i4 i5 i6 i7 i8 i42 i49 i51 i53 i54 i59 i61 i64 i66 (nI t67) i76 i78, (ma 0, .inl (y 0, 1600, .inl g0))]) [] [0, 1] rfl rfl (by decide) (by decide) (by decide) (As := [.int (-1)]) (rest := []) rfl (nb rfl) rfl d_Model_number_13 (fun r9 _ hr9 => ?_)
      refine j_ws (ws' := [MB mo ma (nI t1) (nI u3) (nI t3) i4 i5 i6 i7 i8 i42 i49 i51 i53 i54 i59 i61 i64 i66 (nI t67) i76 i78, (ma 0, .inl (y 0, 1600, .inl g0))]) rfl ?_
      rcases hr9 with ⟨rfl, xh11⟩ | ⟨rfl, xh12⟩
      · refine j_if_eqT (pc := 16) C (tgt := 30) d_Model_number_16 (by decide) (by decide) ?_
        refine j_aload_n (pc := 30) C d_Model_number_30 rfl 0 rfl ?_
        refine j_iconst (pc := 31) C (v := 1) d_Model_number_31 (by decide) ?_
        refine j_aload_n (pc := 32) C d_Model_number_32 rfl 0 rfl ?_
        refine j_get (pc := 33) C gf_Model_207 0 rfl rfl d_Model_number_33 ?_
        refine j_callVv (pc := 36) C (c_M_fail l D y mo ma t1 u3 t3 i4 i5 i6 i7 i8 i42 i49 i51 i53 i54 i59 i61 i64 i66 t67 i76 i78 1 (nI u3) (by decide)) kw_Model_230 kv_Model_fail 0 10 rfl rfl ⟨by decide, by decide⟩ ⟨by decide, by decide⟩ (wr := [(ma 0, .inl (y 0, 1600, .inl g0))]) [0] [1] rfl rfl (by decide) (by decide) (by decide) (As := [.int 1, .int (nI u3)]) (rest := []) rfl (nb rfl) rfl d_Model_number_36 (fun u13 hu14 => ?_)
        have xh15 := hu14
        refine j_ws (ws' := [(ma 0, .inl (y 0, 1600, .inl g0)), MB mo ma (nI t1) (nI u3) (nI t3) i4 u13.1 u13.2 i7 i8 i42 i49 i51 i53 i54 i59 i61 i64 i66 (nI t67) i76 i78]) rfl ?_
        refine j_iconst (pc := 39) C (v := 0) d_Model_number_39 (by decide) ?_
        exact j_iret (pc := 40) C hr rfl (u3, i4, u13.1, u13.2) ⟨(show t2 ≤ u3 by omega), (show u3 ≤ t3 by omega), (fun e => absurd e xh15)⟩ [1, 0] rfl (by decide) (by decide) (by decide) d_Model_number_40
      · exact absurd xh12 (by decide)
    · refine j_callSi (pc := 13) C (c_M_isDigit2 l D y r2) kw_Model_237 ks_Model_isDigit ⟨by decide, by decide⟩ ⟨by decide, by decide⟩ (wr := [MB mo ma (nI t1) (nI u3) (nI t3) i4 i5 i6 i7 i8 i42 i49 i51 i53 i54 i59 i61 i64 i66 (nI t67) i76 i78, (ma 0, .inl (y 0, 1600, .inl g0))]) [] [0, 1] rfl rfl (by decide) (by decide) (by decide) (As := [.int r2]) (rest := []) rfl (nb rfl) rfl d_Model_number_13 (fun r16 _ hr16 => ?_)
      refine j_ws (ws' := [MB mo ma (nI t1) (nI u3) (nI t3) i4 i5 i6 i7 i8 i42 i49 i51 i53 i54 i59 i61 i64 i66 (nI t67) i76 i78, (ma 0, .inl (y 0, 1600, .inl g0))]) rfl ?_
      rcases hr16 with ⟨rfl, xh18⟩ | ⟨rfl, xh19⟩
      · refine j_if_eqT (pc := 16) C (tgt := 30) d_Model_number_16 (by decide) (by decide) ?_
        refine j_aload_n (pc := 30) C d_Model_number_30 rfl 0 rfl ?_
        refine j_iconst (pc := 31) C (v := 1) d_Model_number_31 (by decide) ?_
        refine j_aload_n (pc := 32) C d_Model_number_32 rfl 0 rfl ?_
        refine j_get (pc := 33) C gf_Model_207 0 rfl rfl d_Model_number_33 ?_
        refine j_callVv (pc := 36) C (c_M_fail l D y mo ma t1 u3 t3 i4 i5 i6 i7 i8 i42 i49 i51 i53 i54 i59 i61 i64 i66 t67 i76 i78 1 (nI u3) (by decide)) kw_Model_230 kv_Model_fail 0 10 rfl rfl ⟨by decide, by decide⟩ ⟨by decide, by decide⟩ (wr := [(ma 0, .inl (y 0, 1600, .inl g0))]) [0] [1] rfl rfl (by decide) (by decide) (by decide) (As := [.int 1, .int (nI u3)]) (rest := []) rfl (nb rfl) rfl d_Model_number_36 (fun u20 hu21 => ?_)
        have xh22 := hu21
        refine j_ws (ws' := [(ma 0, .inl (y 0, 1600, .inl g0)), MB mo ma (nI t1) (nI u3) (nI t3) i4 u20.1 u20.2 i7 i8 i42 i49 i51 i53 i54 i59 i61 i64 i66 (nI t67) i76 i78]) rfl ?_
        refine j_iconst (pc := 39) C (v := 0) d_Model_number_39 (by decide) ?_
        exact j_iret (pc := 40) C hr rfl (u3, i4, u20.1, u20.2) ⟨(show t2 ≤ u3 by omega), (show u3 ≤ t3 by omega), (fun e => absurd e xh22)⟩ [1, 0] rfl (by decide) (by decide) (by decide) d_Model_number_40
      · refine j_if_eqF (pc := 16) C (tgt := 30) d_Model_number_16 (by decide) (by decide) ?_
        refine j_aload_n (pc := 19) C d_Model_number_19 rfl 0 rfl ?_
        refine j_get (pc := 20) C gf_Model_207 0 rfl rfl d_Model_number_20 ?_
        refine j_aload_n (pc := 23) C d_Model_number_23 rfl 0 rfl ?_
        refine j_get (pc := 24) C gf_Model_221 0 rfl rfl d_Model_number_24 ?_
        refine j_icmp_ne (pc := 27) C (tgt := 41) d_Model_number_27 (by decide) (fun c23 => ?_) (fun c23 => ?_)
        · have hd0 : DG (g0 u3) := by rw [← e8]; exact xh19
          refine j_aload_n (pc := 41) C d_Model_number_41 rfl 0 rfl ?_
          refine j_get (pc := 42) C gf_Model_207 0 rfl rfl d_Model_number_42 ?_
          refine j_istore_n (pc := 45) C (lv' := [(3, .int (nI u3)), (0, .ref mo), (1, .int 1), (2, .int v2)]) d_Model_number_45 rfl (by decide) rfl ?_
          refine j_iconst (pc := 46) C (v := 0) d_Model_number_46 (by decide) ?_
          refine j_istore (pc := 47) C (lv' := [(4, .int 0), (3, .int (nI u3)), (0, .ref mo), (1, .int 1), (2, .int v2)]) d_Model_number_47 (by decide) rfl ?_
          refine j_loop (α := Nat × Int32) (fun a => t3 - a.1) (fun a => (a.1 ≤ t3) ∧ (u3 ≤ a.1)) (fun a => [MB mo ma (nI t1) (nI a.1) (nI t3) i4 i5 i6 i7 i8 i42 i49 i51 i53 i54 i59 i61 i64 i66 (nI t67) i76 i78, (ma 0, .inl (y 0, 1600, .inl g0))]) (fun a => [(4, .int a.2), (3, .int (nI u3)), (0, .ref mo), (1, .int 1), (2, .int v2)]) (u3, 0) rfl rfl ⟨xh5, (show u3 ≤ u3 by omega)⟩ ?_
          rintro ⟨az, vz⟩ hP46 ih47
          obtain ⟨hz__, hy__⟩ := hP46
          have hz_ : az ≤ t3 := hz__
          have hy_ : u3 ≤ az := hy__
          refine j_ws (ws' := [MB mo ma (nI t1) (nI az) (nI t3) i4 i5 i6 i7 i8 i42 i49 i51 i53 i54 i59 i61 i64 i66 (nI t67) i76 i78, (ma 0, .inl (y 0, 1600, .inl g0))]) rfl ?_
          refine j_lv (lv' := [(4, .int vz), (3, .int (nI u3)), (0, .ref mo), (1, .int 1), (2, .int v2)]) rfl ?_
          refine j_aload_n (pc := 49) C d_Model_number_49 rfl 2 rfl ?_
          refine j_get (pc := 50) C gf_Model_207 0 rfl rfl d_Model_number_50 ?_
          refine j_aload_n (pc := 53) C d_Model_number_53 rfl 2 rfl ?_
          refine j_get (pc := 54) C gf_Model_210 0 rfl rfl d_Model_number_54 ?_
          by_cases c48 : t3 ≤ az
          · refine j_icmp_geT (pc := 57) C (tgt := 129) d_Model_number_57 (by decide) (show nI t3 ≤ nI az from nI_le (by omega) (by omega)) ?_
            have hpr : u3 < az := by omega
            refine j_aload_n (pc := 129) C d_Model_number_129 rfl 2 rfl ?_
            refine j_aload_n (pc := 130) C d_Model_number_130 rfl 2 rfl ?_
            refine j_get (pc := 131) C gf_Model_207 0 rfl rfl d_Model_number_131 ?_
            refine j_put (pc := 134) C pf_Model_221 0 (ws' := [MB mo ma (nI t1) (nI az) (nI t3) (nI az) i5 i6 i7 i8 i42 i49 i51 i53 i54 i59 i61 i64 i66 (nI t67) i76 i78, (ma 0, .inl (y 0, 1600, .inl g0))]) rfl rfl rfl (nl rfl) rfl d_Model_number_134 ?_
            refine j_iload (pc := 137) C d_Model_number_137 0 rfl ?_
            refine j_i2l (pc := 139) C (v := vz.toInt64) d_Model_number_139 rfl ?_
            refine j_iload_n (pc := 140) C d_Model_number_140 rfl 3 rfl ?_
            refine j_i2l (pc := 141) C (v := 1) d_Model_number_141 (by decide) ?_
            refine j_iload_n (pc := 142) C d_Model_number_142 rfl 4 rfl ?_
            refine j_i2l (pc := 143) C (v := v2.toInt64) d_Model_number_143 rfl ?_
            refine j_callSi (pc := 144) C (c_isIn_1x l D y vz v2.toInt64) kw_Model_240 ks_Model_isIn ⟨by decide, by decide⟩ ⟨by decide, by decide⟩ (wr := [MB mo ma (nI t1) (nI az) (nI t3) (nI az) i5 i6 i7 i8 i42 i49 i51 i53 i54 i59 i61 i64 i66 (nI t67) i76 i78, (ma 0, .inl (y 0, 1600, .inl g0))]) [] [0, 1] rfl rfl (by decide) (by decide) (by decide) (As := [.long vz.toInt64, .long 1, .long v2.toInt64]) (rest := []) rfl (nb rfl) rfl d_Model_number_144 (fun r49 _ hr49 => ?_)
            refine j_ws (ws' := [MB mo ma (nI t1) (nI az) (nI t3) (nI az) i5 i6 i7 i8 i42 i49 i51 i53 i54 i59 i61 i64 i66 (nI t67) i76 i78, (ma 0, .inl (y 0, 1600, .inl g0))]) rfl ?_
            rcases hr49 with rfl | ⟨rfl, xh51⟩
            · refine j_if_neF (pc := 147) C (tgt := 156) d_Model_number_147 (by decide) (by decide) ?_
              refine j_aload_n (pc := 150) C d_Model_number_150 rfl 2 rfl ?_
              refine j_iconst (pc := 151) C (v := 2) d_Model_number_151 (by decide) ?_
              refine j_iload_n (pc := 152) C d_Model_number_152 rfl 1 rfl ?_
              refine j_callVv (pc := 153) C (c_M_fail l D y mo ma t1 az t3 (nI az) i5 i6 i7 i8 i42 i49 i51 i53 i54 i59 i61 i64 i66 t67 i76 i78 2 (nI u3) (by decide)) kw_Model_230 kv_Model_fail 0 10 rfl rfl ⟨by decide, by decide⟩ ⟨by decide, by decide⟩ (wr := [(ma 0, .inl (y 0, 1600, .inl g0))]) [0] [1] rfl rfl (by decide) (by decide) (by decide) (As := [.int 2, .int (nI u3)]) (rest := []) rfl (nb rfl) rfl d_Model_number_153 (fun u52 hu53 => ?_)
              have xh54 := hu53
              refine j_ws (ws' := [(ma 0, .inl (y 0, 1600, .inl g0)), MB mo ma (nI t1) (nI az) (nI t3) (nI az) u52.1 u52.2 i7 i8 i42 i49 i51 i53 i54 i59 i61 i64 i66 (nI t67) i76 i78]) rfl ?_
              refine j_iload (pc := 156) C d_Model_number_156 0 rfl ?_
              exact j_iret (pc := 158) C hr rfl (az, nI az, u52.1, u52.2) ⟨(show t2 ≤ az by omega), (show az ≤ t3 by omega), (fun e => absurd e xh54)⟩ [1, 0] rfl (by decide) (by decide) (by decide) d_Model_number_158
            · refine j_if_neT (pc := 147) C (tgt := 156) d_Model_number_147 (by decide) (by decide) ?_
              refine j_iload (pc := 156) C d_Model_number_156 0 rfl ?_
              exact j_iret (pc := 158) C hr rfl (az, nI az, i5, i6) ⟨(show t2 ≤ az by omega), (show az ≤ t3 by omega), (fun e => by exact ⟨e, by omega, xh51⟩)⟩ [0, 1] rfl (by decide) (by decide) (by decide) d_Model_number_158
          · refine j_icmp_geF (pc := 57) C (tgt := 129) d_Model_number_57 (by decide) (show ¬ nI t3 ≤ nI az from nI_ge (by omega) (by omega)) ?_
            refine j_aload_n (pc := 60) C d_Model_number_60 rfl 2 rfl ?_
            refine j_get (pc := 61) C gf_Model_7 0 rfl rfl d_Model_number_61 ?_
            refine j_aload_n (pc := 64) C d_Model_number_64 rfl 2 rfl ?_
            refine j_get (pc := 65) C gf_Model_207 0 rfl rfl d_Model_number_65 ?_
            refine j_iald (pc := 68) C 1 rfl (v := g0 az) (vp_in_nI (by omega) (by decide)) (by rw [nI_clamp (by omega)]) d_Model_number_68 ?_
            refine j_callSi (pc := 69) C (c_M_isDigit2 l D y (g0 az)) kw_Model_237 ks_Model_isDigit ⟨by decide, by decide⟩ ⟨by decide, by decide⟩ (wr := [MB mo ma (nI t1) (nI az) (nI t3) i4 i5 i6 i7 i8 i42 i49 i51 i53 i54 i59 i61 i64 i66 (nI t67) i76 i78, (ma 0, .inl (y 0, 1600, .inl g0))]) [] [0, 1] rfl rfl (by decide) (by decide) (by decide) (As := [.int (g0 az)]) (rest := []) rfl (nb rfl) rfl d_Model_number_69 (fun r55 _ hr55 => ?_)
            refine j_ws (ws' := [MB mo ma (nI t1) (nI az) (nI t3) i4 i5 i6 i7 i8 i42 i49 i51 i53 i54 i59 i61 i64 i66 (nI t67) i76 i78, (ma 0, .inl (y 0, 1600, .inl g0))]) rfl ?_
            rcases hr55 with ⟨rfl, xh57⟩ | ⟨rfl, xh58⟩
            · refine j_if_eqT (pc := 72) C (tgt := 129) d_Model_number_72 (by decide) (by decide) ?_
              have hpr : u3 < az := dg_at hd0 xh57 (by omega) trivial
              refine j_aload_n (pc := 129) C d_Model_number_129 rfl 2 rfl ?_
              refine j_aload_n (pc := 130) C d_Model_number_130 rfl 2 rfl ?_
              refine j_get (pc := 131) C gf_Model_207 0 rfl rfl d_Model_number_131 ?_
              refine j_put (pc := 134) C pf_Model_221 0 (ws' := [MB mo ma (nI t1) (nI az) (nI t3) (nI az) i5 i6 i7 i8 i42 i49 i51 i53 i54 i59 i61 i64 i66 (nI t67) i76 i78, (ma 0, .inl (y 0, 1600, .inl g0))]) rfl rfl rfl (nl rfl) rfl d_Model_number_134 ?_
              refine j_iload (pc := 137) C d_Model_number_137 0 rfl ?_
              refine j_i2l (pc := 139) C (v := vz.toInt64) d_Model_number_139 rfl ?_
              refine j_iload_n (pc := 140) C d_Model_number_140 rfl 3 rfl ?_
              refine j_i2l (pc := 141) C (v := 1) d_Model_number_141 (by decide) ?_
              refine j_iload_n (pc := 142) C d_Model_number_142 rfl 4 rfl ?_
              refine j_i2l (pc := 143) C (v := v2.toInt64) d_Model_number_143 rfl ?_
              refine j_callSi (pc := 144) C (c_isIn_1x l D y vz v2.toInt64) kw_Model_240 ks_Model_isIn ⟨by decide, by decide⟩ ⟨by decide, by decide⟩ (wr := [MB mo ma (nI t1) (nI az) (nI t3) (nI az) i5 i6 i7 i8 i42 i49 i51 i53 i54 i59 i61 i64 i66 (nI t67) i76 i78, (ma 0, .inl (y 0, 1600, .inl g0))]) [] [0, 1] rfl rfl (by decide) (by decide) (by decide) (As := [.long vz.toInt64, .long 1, .long v2.toInt64]) (rest := []) rfl (nb rfl) rfl d_Model_number_144 (fun r59 _ hr59 => ?_)
              refine j_ws (ws' := [MB mo ma (nI t1) (nI az) (nI t3) (nI az) i5 i6 i7 i8 i42 i49 i51 i53 i54 i59 i61 i64 i66 (nI t67) i76 i78, (ma 0, .inl (y 0, 1600, .inl g0))]) rfl ?_
              rcases hr59 with rfl | ⟨rfl, xh61⟩
              · refine j_if_neF (pc := 147) C (tgt := 156) d_Model_number_147 (by decide) (by decide) ?_
                refine j_aload_n (pc := 150) C d_Model_number_150 rfl 2 rfl ?_
                refine j_iconst (pc := 151) C (v := 2) d_Model_number_151 (by decide) ?_
                refine j_iload_n (pc := 152) C d_Model_number_152 rfl 1 rfl ?_
                refine j_callVv (pc := 153) C (c_M_fail l D y mo ma t1 az t3 (nI az) i5 i6 i7 i8 i42 i49 i51 i53 i54 i59 i61 i64 i66 t67 i76 i78 2 (nI u3) (by decide)) kw_Model_230 kv_Model_fail 0 10 rfl rfl ⟨by decide, by decide⟩ ⟨by decide, by decide⟩ (wr := [(ma 0, .inl (y 0, 1600, .inl g0))]) [0] [1] rfl rfl (by decide) (by decide) (by decide) (As := [.int 2, .int (nI u3)]) (rest := []) rfl (nb rfl) rfl d_Model_number_153 (fun u62 hu63 => ?_)
                have xh64 := hu63
                refine j_ws (ws' := [(ma 0, .inl (y 0, 1600, .inl g0)), MB mo ma (nI t1) (nI az) (nI t3) (nI az) u62.1 u62.2 i7 i8 i42 i49 i51 i53 i54 i59 i61 i64 i66 (nI t67) i76 i78]) rfl ?_
                refine j_iload (pc := 156) C d_Model_number_156 0 rfl ?_
                exact j_iret (pc := 158) C hr rfl (az, nI az, u62.1, u62.2) ⟨(show t2 ≤ az by omega), (show az ≤ t3 by omega), (fun e => absurd e xh64)⟩ [1, 0] rfl (by decide) (by decide) (by decide) d_Model_number_158
              · refine j_if_neT (pc := 147) C (tgt := 156) d_Model_number_147 (by decide) (by decide) ?_
                refine j_iload (pc := 156) C d_Model_number_156 0 rfl ?_
                exact j_iret (pc := 158) C hr rfl (az, nI az, i5, i6) ⟨(show t2 ≤ az by omega), (show az ≤ t3 by omega), (fun e => by exact ⟨e, by omega, xh61⟩)⟩ [0, 1] rfl (by decide) (by decide) (by decide) d_Model_number_158
            · refine j_if_eqF (pc := 72) C (tgt := 129) d_Model_number_72 (by decide) (by decide) ?_
              refine j_aload_n (pc := 75) C d_Model_number_75 rfl 2 rfl ?_
              refine j_get (pc := 76) C gf_Model_207 0 rfl rfl d_Model_number_76 ?_
              refine j_iload_n (pc := 79) C d_Model_number_79 rfl 1 rfl ?_
              refine j_isub (pc := 80) C (v := (nI az - nI u3)) d_Model_number_80 rfl ?_
              refine j_iconst (pc := 81) C (v := 4) d_Model_number_81 (by decide) ?_
              refine j_icmp_ne (pc := 82) C (tgt := 96) d_Model_number_82 (by decide) (fun c65 => ?_) (fun c65 => ?_)
              · refine j_bipush (pc := 96) C (v := 10) d_Model_number_96 (by decide) ?_
                refine j_iload (pc := 98) C d_Model_number_98 0 rfl ?_
                refine j_imul (pc := 100) C (v := 10 * vz) d_Model_number_100 rfl ?_
                refine j_aload_n (pc := 101) C d_Model_number_101 rfl 2 rfl ?_
                refine j_get (pc := 102) C gf_Model_7 0 rfl rfl d_Model_number_102 ?_
                refine j_aload_n (pc := 105) C d_Model_number_105 rfl 2 rfl ?_
                refine j_get (pc := 106) C gf_Model_207 0 rfl rfl d_Model_number_106 ?_
                refine j_iald (pc := 109) C 1 rfl (v := g0 az) (vp_in_nI (by omega) (by decide)) (by rw [nI_clamp (by omega)]) d_Model_number_109 ?_
                refine j_iadd (pc := 110) C (v := (10 * vz) + (g0 az)) d_Model_number_110 rfl ?_
                refine j_bipush (pc := 111) C (v := 48) d_Model_number_111 (by decide) ?_
                refine j_isub (pc := 113) C (v := ((10 * vz) + (g0 az)) - 48) d_Model_number_113 rfl ?_
                refine j_anyI (fun v66 => ?_)
                refine j_istore (pc := 114) C (lv' := [(4, .int v66), (3, .int (nI u3)), (0, .ref mo), (1, .int 1), (2, .int v2)]) d_Model_number_114 (by decide) rfl ?_
                refine j_aload_n (pc := 116) C d_Model_number_116 rfl 2 rfl ?_
                refine j_dup (pc := 117) C d_Model_number_117 rfl ?_
                refine j_get (pc := 118) C gf_Model_207 0 rfl rfl d_Model_number_118 ?_
                refine j_iconst (pc := 121) C (v := 1) d_Model_number_121 (by decide) ?_
                refine j_iadd (pc := 122) C (v := nI (az + 1)) d_Model_number_122 (nI_add _ _) ?_
                refine j_put (pc := 123) C pf_Model_207 0 (ws' := [MB mo ma (nI t1) (nI (az + 1)) (nI t3) i4 i5 i6 i7 i8 i42 i49 i51 i53 i54 i59 i61 i64 i66 (nI t67) i76 i78, (ma 0, .inl (y 0, 1600, .inl g0))]) rfl rfl rfl (nl rfl) rfl d_Model_number_123 ?_
                refine j_goto (pc := 126) C (tgt := 49) d_Model_number_126 (by decide) ?_
                exact ih47 ((az + 1), v66) ⟨(show (az + 1) ≤ t3 by omega), (show u3 ≤ (az + 1) by omega)⟩ (show t3 - (az + 1) < t3 - az by omega)
              · refine j_aload_n (pc := 85) C d_Model_number_85 rfl 2 rfl ?_
                refine j_iconst (pc := 86) C (v := 1) d_Model_number_86 (by decide) ?_
                refine j_aload_n (pc := 87) C d_Model_number_87 rfl 2 rfl ?_
                refine j_get (pc := 88) C gf_Model_207 0 rfl rfl d_Model_number_88 ?_
                refine j_callVv (pc := 91) C (c_M_fail l D y mo ma t1 az t3 i4 i5 i6 i7 i8 i42 i49 i51 i53 i54 i59 i61 i64 i66 t67 i76 i78 1 (nI az) (by decide)) kw_Model_230 kv_Model_fail 0 10 rfl rfl ⟨by decide, by decide⟩ ⟨by decide, by decide⟩ (wr := [(ma 0, .inl (y 0, 1600, .inl g0))]) [0] [1] rfl rfl (by decide) (by decide) (by decide) (As := [.int 1, .int (nI az)]) (rest := []) rfl (nb rfl) rfl d_Model_number_91 (fun u67 hu68 => ?_)
                have xh69 := hu68
                refine j_ws (ws' := [(ma 0, .inl (y 0, 1600, .inl g0)), MB mo ma (nI t1) (nI az) (nI t3) i4 u67.1 u67.2 i7 i8 i42 i49 i51 i53 i54 i59 i61 i64 i66 (nI t67) i76 i78]) rfl ?_
                refine j_iconst (pc := 94) C (v := 0) d_Model_number_94 (by decide) ?_
                exact j_iret (pc := 95) C hr rfl (az, i4, u67.1, u67.2) ⟨(show t2 ≤ az by omega), (show az ≤ t3 by omega), (fun e => absurd e xh69)⟩ [1, 0] rfl (by decide) (by decide) (by decide) d_Model_number_95
        · refine j_aload_n (pc := 30) C d_Model_number_30 rfl 0 rfl ?_
          refine j_iconst (pc := 31) C (v := 1) d_Model_number_31 (by decide) ?_
          refine j_aload_n (pc := 32) C d_Model_number_32 rfl 0 rfl ?_
          refine j_get (pc := 33) C gf_Model_207 0 rfl rfl d_Model_number_33 ?_
          refine j_callVv (pc := 36) C (c_M_fail l D y mo ma t1 u3 t3 i4 i5 i6 i7 i8 i42 i49 i51 i53 i54 i59 i61 i64 i66 t67 i76 i78 1 (nI u3) (by decide)) kw_Model_230 kv_Model_fail 0 10 rfl rfl ⟨by decide, by decide⟩ ⟨by decide, by decide⟩ (wr := [(ma 0, .inl (y 0, 1600, .inl g0))]) [0] [1] rfl rfl (by decide) (by decide) (by decide) (As := [.int 1, .int (nI u3)]) (rest := []) rfl (nb rfl) rfl d_Model_number_36 (fun u70 hu71 => ?_)
          have xh72 := hu71
          refine j_ws (ws' := [(ma 0, .inl (y 0, 1600, .inl g0)), MB mo ma (nI t1) (nI u3) (nI t3) i4 u70.1 u70.2 i7 i8 i42 i49 i51 i53 i54 i59 i61 i64 i66 (nI t67) i76 i78]) rfl ?_
          refine j_iconst (pc := 39) C (v := 0) d_Model_number_39 (by decide) ?_
          exact j_iret (pc := 40) C hr rfl (u3, i4, u70.1, u70.2) ⟨(show t2 ≤ u3 by omega), (show u3 ≤ t3 by omega), (fun e => absurd e xh72)⟩ [1, 0] rfl (by decide) (by decide) (by decide) d_Model_number_40
  · refine j_iconst (pc := 7) C (v := 0) d_Model_number_7 (by decide) ?_
    exact j_iret (pc := 8) C hr rfl (t2, i4, i5, i6) ⟨(show t2 ≤ t2 by omega), (show t2 ≤ t3 by omega), (fun e => absurd e c1)⟩ [0, 1] rfl (by decide) (by decide) (by decide) d_Model_number_8
set_option maxHeartbeats 4000000 in
set_option maxRecDepth 100000 in
theorem c_M_number_09 (l : Launch) (D : va_G) (y : Nat → ClassId) (mo : Nat) (ma : Nat → Nat) (t1 : Nat) (t2 : Nat) (t3 : Nat) (i4 : Int32) (i5 : Int32) (i6 : Int32) (i7 : Int32) (i8 : Int32) (i42 : Int32) (i49 : Int32) (i51 : Int32) (i53 : Int32) (i54 : Int32) (i59 : Int32) (i61 : Int32) (i64 : Int32) (i66 : Int32) (t67 : Nat) (i76 : Int64) (i78 : Int32) (g0 : Nat → Int32) (ha : t2 ≤ t3) (he : t3 ≤ 1600) : CT l D y ⟨"NineBoardsModel", "number", "(II)I"⟩ prog_13_method_14_code 5 (some .int) ({ frames := 1, cells := 0, slots := 0, locals := 25 } : Room) [.ref mo, .int 0, .int 9999] [MB mo ma (nI t1) (nI t2) (nI t3) i4 i5 i6 i7 i8 i42 i49 i51 i53 i54 i59 i61 i64 i66 (nI t67) i76 i78, (ma 0, .inl (y 0, 1600, .inl g0))] (QI D [MB mo ma (nI t1) (nI t2) (nI t3) i4 i5 i6 i7 i8 i42 i49 i51 i53 i54 i59 i61 i64 i66 (nI t67) i76 i78, (ma 0, .inl (y 0, 1600, .inl g0))] (fun (r : Int32) (u : Nat × Int32 × Int32 × Int32) => t2 ≤ u.1 ∧ u.1 ≤ t3 ∧ (u.2.2.1 = 0 → i5 = 0 ∧ t2 < u.1 ∧ ∃ q, q ≤ 9999 ∧ r = nI q)) (fun u => [MB mo ma (nI t1) (nI u.1) (nI t3) u.2.1 u.2.2.1 u.2.2.2 i7 i8 i42 i49 i51 i53 i54 i59 i61 i64 i66 (nI t67) i76 i78, (ma 0, .inl (y 0, 1600, .inl g0))])) := by
  refine CT.of (by decide) (nb rfl) ?_
  intro p e s m args below meth c C hr
  refine j_lv (lv' := [(0, .ref mo), (1, .int 0), (2, .int 9999)]) rfl ?_
  refine j_aload_n (pc := 0) C d_Model_number_0 rfl 0 rfl ?_
  refine j_get (pc := 1) C gf_Model_201 0 rfl rfl d_Model_number_1 ?_
  refine j_if_eq (pc := 4) C (tgt := 9) d_Model_number_4 (by decide) (fun c1 => ?_) (fun c1 => ?_)
  · refine j_aload_n (pc := 9) C d_Model_number_9 rfl 0 rfl ?_
    refine j_callVi (pc := 10) C (c_M_look l D y mo ma t1 t2 t3 i4 i5 i6 i7 i8 i42 i49 i51 i53 i54 i59 i61 i64 i66 t67 i76 i78 g0 ha he) kw_Model_213 kv_Model_look 0 10 rfl rfl ⟨by decide, by decide⟩ ⟨by decide, by decide⟩ (wr := []) [0, 1] [] rfl rfl (by decide) (by decide) (by decide) (As := []) (rest := []) rfl (nb rfl) rfl d_Model_number_10 (fun r2 u3 hr2 => ?_)
    refine j_ws (ws' := [MB mo ma (nI t1) (nI u3) (nI t3) i4 i5 i6 i7 i8 i42 i49 i51 i53 i54 i59 i61 i64 i66 (nI t67) i76 i78, (ma 0, .inl (y 0, 1600, .inl g0))]) rfl ?_
    obtain ⟨xh4, xh5, xh6⟩ := hr2
    rcases xh6 with rfl | ⟨xh7, e8⟩
    · refine j_callSi (pc := 13) C (c_M_isDigit2 l D y (-1)) kw_Model_237 ks_Model_isDigit ⟨by decide, by decide⟩ ⟨by decide, by decide⟩ (wr := [MB mo ma (nI t1) (nI u3) (nI t3) i4 i5 i6 i7 i8 i42 i49 i51 i53 i54 i59 i61 i64 i66 (nI t67) i76 i78, (ma 0, .inl (y 0, 1600, .inl g0))]) [] [0, 1] rfl rfl (by decide) (by decide) (by decide) (As := [.int (-1)]) (rest := []) rfl (nb rfl) rfl d_Model_number_13 (fun r9 _ hr9 => ?_)
      refine j_ws (ws' := [MB mo ma (nI t1) (nI u3) (nI t3) i4 i5 i6 i7 i8 i42 i49 i51 i53 i54 i59 i61 i64 i66 (nI t67) i76 i78, (ma 0, .inl (y 0, 1600, .inl g0))]) rfl ?_
      rcases hr9 with ⟨rfl, xh11⟩ | ⟨rfl, xh12⟩
      · refine j_if_eqT (pc := 16) C (tgt := 30) d_Model_number_16 (by decide) (by decide) ?_
        refine j_aload_n (pc := 30) C d_Model_number_30 rfl 0 rfl ?_
        refine j_iconst (pc := 31) C (v := 1) d_Model_number_31 (by decide) ?_
        refine j_aload_n (pc := 32) C d_Model_number_32 rfl 0 rfl ?_
        refine j_get (pc := 33) C gf_Model_207 0 rfl rfl d_Model_number_33 ?_
        refine j_callVv (pc := 36) C (c_M_fail l D y mo ma t1 u3 t3 i4 i5 i6 i7 i8 i42 i49 i51 i53 i54 i59 i61 i64 i66 t67 i76 i78 1 (nI u3) (by decide)) kw_Model_230 kv_Model_fail 0 10 rfl rfl ⟨by decide, by decide⟩ ⟨by decide, by decide⟩ (wr := [(ma 0, .inl (y 0, 1600, .inl g0))]) [0] [1] rfl rfl (by decide) (by decide) (by decide) (As := [.int 1, .int (nI u3)]) (rest := []) rfl (nb rfl) rfl d_Model_number_36 (fun u13 hu14 => ?_)
        have xh15 := hu14
        refine j_ws (ws' := [(ma 0, .inl (y 0, 1600, .inl g0)), MB mo ma (nI t1) (nI u3) (nI t3) i4 u13.1 u13.2 i7 i8 i42 i49 i51 i53 i54 i59 i61 i64 i66 (nI t67) i76 i78]) rfl ?_
        refine j_iconst (pc := 39) C (v := 0) d_Model_number_39 (by decide) ?_
        exact j_iret (pc := 40) C hr rfl (u3, i4, u13.1, u13.2) ⟨(show t2 ≤ u3 by omega), (show u3 ≤ t3 by omega), (fun e => absurd e xh15)⟩ [1, 0] rfl (by decide) (by decide) (by decide) d_Model_number_40
      · exact absurd xh12 (by decide)
    · refine j_callSi (pc := 13) C (c_M_isDigit2 l D y r2) kw_Model_237 ks_Model_isDigit ⟨by decide, by decide⟩ ⟨by decide, by decide⟩ (wr := [MB mo ma (nI t1) (nI u3) (nI t3) i4 i5 i6 i7 i8 i42 i49 i51 i53 i54 i59 i61 i64 i66 (nI t67) i76 i78, (ma 0, .inl (y 0, 1600, .inl g0))]) [] [0, 1] rfl rfl (by decide) (by decide) (by decide) (As := [.int r2]) (rest := []) rfl (nb rfl) rfl d_Model_number_13 (fun r16 _ hr16 => ?_)
      refine j_ws (ws' := [MB mo ma (nI t1) (nI u3) (nI t3) i4 i5 i6 i7 i8 i42 i49 i51 i53 i54 i59 i61 i64 i66 (nI t67) i76 i78, (ma 0, .inl (y 0, 1600, .inl g0))]) rfl ?_
      rcases hr16 with ⟨rfl, xh18⟩ | ⟨rfl, xh19⟩
      · refine j_if_eqT (pc := 16) C (tgt := 30) d_Model_number_16 (by decide) (by decide) ?_
        refine j_aload_n (pc := 30) C d_Model_number_30 rfl 0 rfl ?_
        refine j_iconst (pc := 31) C (v := 1) d_Model_number_31 (by decide) ?_
        refine j_aload_n (pc := 32) C d_Model_number_32 rfl 0 rfl ?_
        refine j_get (pc := 33) C gf_Model_207 0 rfl rfl d_Model_number_33 ?_
        refine j_callVv (pc := 36) C (c_M_fail l D y mo ma t1 u3 t3 i4 i5 i6 i7 i8 i42 i49 i51 i53 i54 i59 i61 i64 i66 t67 i76 i78 1 (nI u3) (by decide)) kw_Model_230 kv_Model_fail 0 10 rfl rfl ⟨by decide, by decide⟩ ⟨by decide, by decide⟩ (wr := [(ma 0, .inl (y 0, 1600, .inl g0))]) [0] [1] rfl rfl (by decide) (by decide) (by decide) (As := [.int 1, .int (nI u3)]) (rest := []) rfl (nb rfl) rfl d_Model_number_36 (fun u20 hu21 => ?_)
        have xh22 := hu21
        refine j_ws (ws' := [(ma 0, .inl (y 0, 1600, .inl g0)), MB mo ma (nI t1) (nI u3) (nI t3) i4 u20.1 u20.2 i7 i8 i42 i49 i51 i53 i54 i59 i61 i64 i66 (nI t67) i76 i78]) rfl ?_
        refine j_iconst (pc := 39) C (v := 0) d_Model_number_39 (by decide) ?_
        exact j_iret (pc := 40) C hr rfl (u3, i4, u20.1, u20.2) ⟨(show t2 ≤ u3 by omega), (show u3 ≤ t3 by omega), (fun e => absurd e xh22)⟩ [1, 0] rfl (by decide) (by decide) (by decide) d_Model_number_40
      · refine j_if_eqF (pc := 16) C (tgt := 30) d_Model_number_16 (by decide) (by decide) ?_
        refine j_aload_n (pc := 19) C d_Model_number_19 rfl 0 rfl ?_
        refine j_get (pc := 20) C gf_Model_207 0 rfl rfl d_Model_number_20 ?_
        refine j_aload_n (pc := 23) C d_Model_number_23 rfl 0 rfl ?_
        refine j_get (pc := 24) C gf_Model_221 0 rfl rfl d_Model_number_24 ?_
        refine j_icmp_ne (pc := 27) C (tgt := 41) d_Model_number_27 (by decide) (fun c23 => ?_) (fun c23 => ?_)
        · have hd0 : DG (g0 u3) := by rw [← e8]; exact xh19
          refine j_aload_n (pc := 41) C d_Model_number_41 rfl 0 rfl ?_
          refine j_get (pc := 42) C gf_Model_207 0 rfl rfl d_Model_number_42 ?_
          refine j_istore_n (pc := 45) C (lv' := [(3, .int (nI u3)), (0, .ref mo), (1, .int 0), (2, .int 9999)]) d_Model_number_45 rfl (by decide) rfl ?_
          refine j_iconst (pc := 46) C (v := 0) d_Model_number_46 (by decide) ?_
          refine j_istore (pc := 47) C (lv' := [(4, .int 0), (3, .int (nI u3)), (0, .ref mo), (1, .int 0), (2, .int 9999)]) d_Model_number_47 (by decide) rfl ?_
          refine j_loop (α := Nat × Int32) (fun a => t3 - a.1) (fun a => (a.1 ≤ t3) ∧ (u3 ≤ a.1)) (fun a => [MB mo ma (nI t1) (nI a.1) (nI t3) i4 i5 i6 i7 i8 i42 i49 i51 i53 i54 i59 i61 i64 i66 (nI t67) i76 i78, (ma 0, .inl (y 0, 1600, .inl g0))]) (fun a => [(4, .int a.2), (3, .int (nI u3)), (0, .ref mo), (1, .int 0), (2, .int 9999)]) (u3, 0) rfl rfl ⟨xh5, (show u3 ≤ u3 by omega)⟩ ?_
          rintro ⟨az, vz⟩ hP46 ih47
          obtain ⟨hz__, hy__⟩ := hP46
          have hz_ : az ≤ t3 := hz__
          have hy_ : u3 ≤ az := hy__
          refine j_ws (ws' := [MB mo ma (nI t1) (nI az) (nI t3) i4 i5 i6 i7 i8 i42 i49 i51 i53 i54 i59 i61 i64 i66 (nI t67) i76 i78, (ma 0, .inl (y 0, 1600, .inl g0))]) rfl ?_
          refine j_lv (lv' := [(4, .int vz), (3, .int (nI u3)), (0, .ref mo), (1, .int 0), (2, .int 9999)]) rfl ?_
          refine j_aload_n (pc := 49) C d_Model_number_49 rfl 2 rfl ?_
          refine j_get (pc := 50) C gf_Model_207 0 rfl rfl d_Model_number_50 ?_
          refine j_aload_n (pc := 53) C d_Model_number_53 rfl 2 rfl ?_
          refine j_get (pc := 54) C gf_Model_210 0 rfl rfl d_Model_number_54 ?_
          by_cases c48 : t3 ≤ az
          · refine j_icmp_geT (pc := 57) C (tgt := 129) d_Model_number_57 (by decide) (show nI t3 ≤ nI az from nI_le (by omega) (by omega)) ?_
            have hpr : u3 < az := by omega
            refine j_aload_n (pc := 129) C d_Model_number_129 rfl 2 rfl ?_
            refine j_aload_n (pc := 130) C d_Model_number_130 rfl 2 rfl ?_
            refine j_get (pc := 131) C gf_Model_207 0 rfl rfl d_Model_number_131 ?_
            refine j_put (pc := 134) C pf_Model_221 0 (ws' := [MB mo ma (nI t1) (nI az) (nI t3) (nI az) i5 i6 i7 i8 i42 i49 i51 i53 i54 i59 i61 i64 i66 (nI t67) i76 i78, (ma 0, .inl (y 0, 1600, .inl g0))]) rfl rfl rfl (nl rfl) rfl d_Model_number_134 ?_
            refine j_iload (pc := 137) C d_Model_number_137 0 rfl ?_
            refine j_i2l (pc := 139) C (v := vz.toInt64) d_Model_number_139 rfl ?_
            refine j_iload_n (pc := 140) C d_Model_number_140 rfl 3 rfl ?_
            refine j_i2l (pc := 141) C (v := 0) d_Model_number_141 (by decide) ?_
            refine j_iload_n (pc := 142) C d_Model_number_142 rfl 4 rfl ?_
            refine j_i2l (pc := 143) C (v := 9999) d_Model_number_143 (by decide) ?_
            refine j_callSi (pc := 144) C (c_isIn_0_9999 l D y vz) kw_Model_240 ks_Model_isIn ⟨by decide, by decide⟩ ⟨by decide, by decide⟩ (wr := [MB mo ma (nI t1) (nI az) (nI t3) (nI az) i5 i6 i7 i8 i42 i49 i51 i53 i54 i59 i61 i64 i66 (nI t67) i76 i78, (ma 0, .inl (y 0, 1600, .inl g0))]) [] [0, 1] rfl rfl (by decide) (by decide) (by decide) (As := [.long vz.toInt64, .long 0, .long 9999]) (rest := []) rfl (nb rfl) rfl d_Model_number_144 (fun r49 _ hr49 => ?_)
            refine j_ws (ws' := [MB mo ma (nI t1) (nI az) (nI t3) (nI az) i5 i6 i7 i8 i42 i49 i51 i53 i54 i59 i61 i64 i66 (nI t67) i76 i78, (ma 0, .inl (y 0, 1600, .inl g0))]) rfl ?_
            rcases hr49 with rfl | ⟨rfl, j50, xh51, rfl⟩
            · refine j_if_neF (pc := 147) C (tgt := 156) d_Model_number_147 (by decide) (by decide) ?_
              refine j_aload_n (pc := 150) C d_Model_number_150 rfl 2 rfl ?_
              refine j_iconst (pc := 151) C (v := 2) d_Model_number_151 (by decide) ?_
              refine j_iload_n (pc := 152) C d_Model_number_152 rfl 1 rfl ?_
              refine j_callVv (pc := 153) C (c_M_fail l D y mo ma t1 az t3 (nI az) i5 i6 i7 i8 i42 i49 i51 i53 i54 i59 i61 i64 i66 t67 i76 i78 2 (nI u3) (by decide)) kw_Model_230 kv_Model_fail 0 10 rfl rfl ⟨by decide, by decide⟩ ⟨by decide, by decide⟩ (wr := [(ma 0, .inl (y 0, 1600, .inl g0))]) [0] [1] rfl rfl (by decide) (by decide) (by decide) (As := [.int 2, .int (nI u3)]) (rest := []) rfl (nb rfl) rfl d_Model_number_153 (fun u52 hu53 => ?_)
              have xh54 := hu53
              refine j_ws (ws' := [(ma 0, .inl (y 0, 1600, .inl g0)), MB mo ma (nI t1) (nI az) (nI t3) (nI az) u52.1 u52.2 i7 i8 i42 i49 i51 i53 i54 i59 i61 i64 i66 (nI t67) i76 i78]) rfl ?_
              refine j_iload (pc := 156) C d_Model_number_156 0 rfl ?_
              exact j_iret (pc := 158) C hr rfl (az, nI az, u52.1, u52.2) ⟨(show t2 ≤ az by omega), (show az ≤ t3 by omega), (fun e => absurd e xh54)⟩ [1, 0] rfl (by decide) (by decide) (by decide) d_Model_number_158
            · refine j_if_neT (pc := 147) C (tgt := 156) d_Model_number_147 (by decide) (by decide) ?_
              refine j_iload (pc := 156) C d_Model_number_156 0 rfl ?_
              exact j_iret (pc := 158) C hr rfl (az, nI az, i5, i6) ⟨(show t2 ≤ az by omega), (show az ≤ t3 by omega), (fun e => by exact ⟨e, by omega, j50, by omega, rfl⟩)⟩ [0, 1] rfl (by decide) (by decide) (by decide) d_Model_number_158
          · refine j_icmp_geF (pc := 57) C (tgt := 129) d_Model_number_57 (by decide) (show ¬ nI t3 ≤ nI az from nI_ge (by omega) (by omega)) ?_
            refine j_aload_n (pc := 60) C d_Model_number_60 rfl 2 rfl ?_
            refine j_get (pc := 61) C gf_Model_7 0 rfl rfl d_Model_number_61 ?_
            refine j_aload_n (pc := 64) C d_Model_number_64 rfl 2 rfl ?_
            refine j_get (pc := 65) C gf_Model_207 0 rfl rfl d_Model_number_65 ?_
            refine j_iald (pc := 68) C 1 rfl (v := g0 az) (vp_in_nI (by omega) (by decide)) (by rw [nI_clamp (by omega)]) d_Model_number_68 ?_
            refine j_callSi (pc := 69) C (c_M_isDigit2 l D y (g0 az)) kw_Model_237 ks_Model_isDigit ⟨by decide, by decide⟩ ⟨by decide, by decide⟩ (wr := [MB mo ma (nI t1) (nI az) (nI t3) i4 i5 i6 i7 i8 i42 i49 i51 i53 i54 i59 i61 i64 i66 (nI t67) i76 i78, (ma 0, .inl (y 0, 1600, .inl g0))]) [] [0, 1] rfl rfl (by decide) (by decide) (by decide) (As := [.int (g0 az)]) (rest := []) rfl (nb rfl) rfl d_Model_number_69 (fun r55 _ hr55 => ?_)
            refine j_ws (ws' := [MB mo ma (nI t1) (nI az) (nI t3) i4 i5 i6 i7 i8 i42 i49 i51 i53 i54 i59 i61 i64 i66 (nI t67) i76 i78, (ma 0, .inl (y 0, 1600, .inl g0))]) rfl ?_
            rcases hr55 with ⟨rfl, xh57⟩ | ⟨rfl, xh58⟩
            · refine j_if_eqT (pc := 72) C (tgt := 129) d_Model_number_72 (by decide) (by decide) ?_
              have hpr : u3 < az := dg_at hd0 xh57 (by omega) trivial
              refine j_aload_n (pc := 129) C d_Model_number_129 rfl 2 rfl ?_
              refine j_aload_n (pc := 130) C d_Model_number_130 rfl 2 rfl ?_
              refine j_get (pc := 131) C gf_Model_207 0 rfl rfl d_Model_number_131 ?_
              refine j_put (pc := 134) C pf_Model_221 0 (ws' := [MB mo ma (nI t1) (nI az) (nI t3) (nI az) i5 i6 i7 i8 i42 i49 i51 i53 i54 i59 i61 i64 i66 (nI t67) i76 i78, (ma 0, .inl (y 0, 1600, .inl g0))]) rfl rfl rfl (nl rfl) rfl d_Model_number_134 ?_
              refine j_iload (pc := 137) C d_Model_number_137 0 rfl ?_
              refine j_i2l (pc := 139) C (v := vz.toInt64) d_Model_number_139 rfl ?_
              refine j_iload_n (pc := 140) C d_Model_number_140 rfl 3 rfl ?_
              refine j_i2l (pc := 141) C (v := 0) d_Model_number_141 (by decide) ?_
              refine j_iload_n (pc := 142) C d_Model_number_142 rfl 4 rfl ?_
              refine j_i2l (pc := 143) C (v := 9999) d_Model_number_143 (by decide) ?_
              refine j_callSi (pc := 144) C (c_isIn_0_9999 l D y vz) kw_Model_240 ks_Model_isIn ⟨by decide, by decide⟩ ⟨by decide, by decide⟩ (wr := [MB mo ma (nI t1) (nI az) (nI t3) (nI az) i5 i6 i7 i8 i42 i49 i51 i53 i54 i59 i61 i64 i66 (nI t67) i76 i78, (ma 0, .inl (y 0, 1600, .inl g0))]) [] [0, 1] rfl rfl (by decide) (by decide) (by decide) (As := [.long vz.toInt64, .long 0, .long 9999]) (rest := []) rfl (nb rfl) rfl d_Model_number_144 (fun r59 _ hr59 => ?_)
              refine j_ws (ws' := [MB mo ma (nI t1) (nI az) (nI t3) (nI az) i5 i6 i7 i8 i42 i49 i51 i53 i54 i59 i61 i64 i66 (nI t67) i76 i78, (ma 0, .inl (y 0, 1600, .inl g0))]) rfl ?_
              rcases hr59 with rfl | ⟨rfl, j60, xh61, rfl⟩
              · refine j_if_neF (pc := 147) C (tgt := 156) d_Model_number_147 (by decide) (by decide) ?_
                refine j_aload_n (pc := 150) C d_Model_number_150 rfl 2 rfl ?_
                refine j_iconst (pc := 151) C (v := 2) d_Model_number_151 (by decide) ?_
                refine j_iload_n (pc := 152) C d_Model_number_152 rfl 1 rfl ?_
                refine j_callVv (pc := 153) C (c_M_fail l D y mo ma t1 az t3 (nI az) i5 i6 i7 i8 i42 i49 i51 i53 i54 i59 i61 i64 i66 t67 i76 i78 2 (nI u3) (by decide)) kw_Model_230 kv_Model_fail 0 10 rfl rfl ⟨by decide, by decide⟩ ⟨by decide, by decide⟩ (wr := [(ma 0, .inl (y 0, 1600, .inl g0))]) [0] [1] rfl rfl (by decide) (by decide) (by decide) (As := [.int 2, .int (nI u3)]) (rest := []) rfl (nb rfl) rfl d_Model_number_153 (fun u62 hu63 => ?_)
                have xh64 := hu63
                refine j_ws (ws' := [(ma 0, .inl (y 0, 1600, .inl g0)), MB mo ma (nI t1) (nI az) (nI t3) (nI az) u62.1 u62.2 i7 i8 i42 i49 i51 i53 i54 i59 i61 i64 i66 (nI t67) i76 i78]) rfl ?_
                refine j_iload (pc := 156) C d_Model_number_156 0 rfl ?_
                exact j_iret (pc := 158) C hr rfl (az, nI az, u62.1, u62.2) ⟨(show t2 ≤ az by omega), (show az ≤ t3 by omega), (fun e => absurd e xh64)⟩ [1, 0] rfl (by decide) (by decide) (by decide) d_Model_number_158
              · refine j_if_neT (pc := 147) C (tgt := 156) d_Model_number_147 (by decide) (by decide) ?_
                refine j_iload (pc := 156) C d_Model_number_156 0 rfl ?_
                exact j_iret (pc := 158) C hr rfl (az, nI az, i5, i6) ⟨(show t2 ≤ az by omega), (show az ≤ t3 by omega), (fun e => by exact ⟨e, by omega, j60, by omega, rfl⟩)⟩ [0, 1] rfl (by decide) (by decide) (by decide) d_Model_number_158
            · refine j_if_eqF (pc := 72) C (tgt := 129) d_Model_number_72 (by decide) (by decide) ?_
              refine j_aload_n (pc := 75) C d_Model_number_75 rfl 2 rfl ?_
              refine j_get (pc := 76) C gf_Model_207 0 rfl rfl d_Model_number_76 ?_
              refine j_iload_n (pc := 79) C d_Model_number_79 rfl 1 rfl ?_
              refine j_isub (pc := 80) C (v := (nI az - nI u3)) d_Model_number_80 rfl ?_
              refine j_iconst (pc := 81) C (v := 4) d_Model_number_81 (by decide) ?_
              refine j_icmp_ne (pc := 82) C (tgt := 96) d_Model_number_82 (by decide) (fun c65 => ?_) (fun c65 => ?_)
              · refine j_bipush (pc := 96) C (v := 10) d_Model_number_96 (by decide) ?_
                refine j_iload (pc := 98) C d_Model_number_98 0 rfl ?_
                refine j_imul (pc := 100) C (v := 10 * vz) d_Model_number_100 rfl ?_
                refine j_aload_n (pc := 101) C d_Model_number_101 rfl 2 rfl ?_
                refine j_get (pc := 102) C gf_Model_7 0 rfl rfl d_Model_number_102 ?_
                refine j_aload_n (pc := 105) C d_Model_number_105 rfl 2 rfl ?_
                refine j_get (pc := 106) C gf_Model_207 0 rfl rfl d_Model_number_106 ?_
                refine j_iald (pc := 109) C 1 rfl (v := g0 az) (vp_in_nI (by omega) (by decide)) (by rw [nI_clamp (by omega)]) d_Model_number_109 ?_
                refine j_iadd (pc := 110) C (v := (10 * vz) + (g0 az)) d_Model_number_110 rfl ?_
                refine j_bipush (pc := 111) C (v := 48) d_Model_number_111 (by decide) ?_
                refine j_isub (pc := 113) C (v := ((10 * vz) + (g0 az)) - 48) d_Model_number_113 rfl ?_
                refine j_anyI (fun v66 => ?_)
                refine j_istore (pc := 114) C (lv' := [(4, .int v66), (3, .int (nI u3)), (0, .ref mo), (1, .int 0), (2, .int 9999)]) d_Model_number_114 (by decide) rfl ?_
                refine j_aload_n (pc := 116) C d_Model_number_116 rfl 2 rfl ?_
                refine j_dup (pc := 117) C d_Model_number_117 rfl ?_
                refine j_get (pc := 118) C gf_Model_207 0 rfl rfl d_Model_number_118 ?_
                refine j_iconst (pc := 121) C (v := 1) d_Model_number_121 (by decide) ?_
                refine j_iadd (pc := 122) C (v := nI (az + 1)) d_Model_number_122 (nI_add _ _) ?_
                refine j_put (pc := 123) C pf_Model_207 0 (ws' := [MB mo ma (nI t1) (nI (az + 1)) (nI t3) i4 i5 i6 i7 i8 i42 i49 i51 i53 i54 i59 i61 i64 i66 (nI t67) i76 i78, (ma 0, .inl (y 0, 1600, .inl g0))]) rfl rfl rfl (nl rfl) rfl d_Model_number_123 ?_
                refine j_goto (pc := 126) C (tgt := 49) d_Model_number_126 (by decide) ?_
                exact ih47 ((az + 1), v66) ⟨(show (az + 1) ≤ t3 by omega), (show u3 ≤ (az + 1) by omega)⟩ (show t3 - (az + 1) < t3 - az by omega)
              · refine j_aload_n (pc := 85) C d_Model_number_85 rfl 2 rfl ?_
                refine j_iconst (pc := 86) C (v := 1) d_Model_number_86 (by decide) ?_
                refine j_aload_n (pc := 87) C d_Model_number_87 rfl 2 rfl ?_
                refine j_get (pc := 88) C gf_Model_207 0 rfl rfl d_Model_number_88 ?_
                refine j_callVv (pc := 91) C (c_M_fail l D y mo ma t1 az t3 i4 i5 i6 i7 i8 i42 i49 i51 i53 i54 i59 i61 i64 i66 t67 i76 i78 1 (nI az) (by decide)) kw_Model_230 kv_Model_fail 0 10 rfl rfl ⟨by decide, by decide⟩ ⟨by decide, by decide⟩ (wr := [(ma 0, .inl (y 0, 1600, .inl g0))]) [0] [1] rfl rfl (by decide) (by decide) (by decide) (As := [.int 1, .int (nI az)]) (rest := []) rfl (nb rfl) rfl d_Model_number_91 (fun u67 hu68 => ?_)
                have xh69 := hu68
                refine j_ws (ws' := [(ma 0, .inl (y 0, 1600, .inl g0)), MB mo ma (nI t1) (nI az) (nI t3) i4 u67.1 u67.2 i7 i8 i42 i49 i51 i53 i54 i59 i61 i64 i66 (nI t67) i76 i78]) rfl ?_
                refine j_iconst (pc := 94) C (v := 0) d_Model_number_94 (by decide) ?_
                exact j_iret (pc := 95) C hr rfl (az, i4, u67.1, u67.2) ⟨(show t2 ≤ az by omega), (show az ≤ t3 by omega), (fun e => absurd e xh69)⟩ [1, 0] rfl (by decide) (by decide) (by decide) d_Model_number_95
        · refine j_aload_n (pc := 30) C d_Model_number_30 rfl 0 rfl ?_
          refine j_iconst (pc := 31) C (v := 1) d_Model_number_31 (by decide) ?_
          refine j_aload_n (pc := 32) C d_Model_number_32 rfl 0 rfl ?_
          refine j_get (pc := 33) C gf_Model_207 0 rfl rfl d_Model_number_33 ?_
          refine j_callVv (pc := 36) C (c_M_fail l D y mo ma t1 u3 t3 i4 i5 i6 i7 i8 i42 i49 i51 i53 i54 i59 i61 i64 i66 t67 i76 i78 1 (nI u3) (by decide)) kw_Model_230 kv_Model_fail 0 10 rfl rfl ⟨by decide, by decide⟩ ⟨by decide, by decide⟩ (wr := [(ma 0, .inl (y 0, 1600, .inl g0))]) [0] [1] rfl rfl (by decide) (by decide) (by decide) (As := [.int 1, .int (nI u3)]) (rest := []) rfl (nb rfl) rfl d_Model_number_36 (fun u70 hu71 => ?_)
          have xh72 := hu71
          refine j_ws (ws' := [(ma 0, .inl (y 0, 1600, .inl g0)), MB mo ma (nI t1) (nI u3) (nI t3) i4 u70.1 u70.2 i7 i8 i42 i49 i51 i53 i54 i59 i61 i64 i66 (nI t67) i76 i78]) rfl ?_
          refine j_iconst (pc := 39) C (v := 0) d_Model_number_39 (by decide) ?_
          exact j_iret (pc := 40) C hr rfl (u3, i4, u70.1, u70.2) ⟨(show t2 ≤ u3 by omega), (show u3 ≤ t3 by omega), (fun e => absurd e xh72)⟩ [1, 0] rfl (by decide) (by decide) (by decide) d_Model_number_40
  · refine j_iconst (pc := 7) C (v := 0) d_Model_number_7 (by decide) ?_
    exact j_iret (pc := 8) C hr rfl (t2, i4, i5, i6) ⟨(show t2 ≤ t2 by omega), (show t2 ≤ t3 by omega), (fun e => absurd e c1)⟩ [0, 1] rfl (by decide) (by decide) (by decide) d_Model_number_8
