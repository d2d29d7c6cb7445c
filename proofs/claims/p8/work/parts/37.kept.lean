theorem cp_up {f g : Nat → Int32} {i : Nat} {d : Int32} (h : 0 < i → f 0 = d) (hg : g 0 = d) : 0 < i + 1 → upd f i (g i) 0 = d := by
  intro _
  rcases Nat.eq_zero_or_pos i with q | q
  · subst q
    rw [pk_us]
    exact hg
  · rw [pk_un (by omega)]
    exact h q
theorem d_Model_keepsDay_0 : decode prog_13_method_69_code 0 = .ok (.aload_n 0, 1) := by decide +kernel
theorem d_Model_keepsDay_1 : decode prog_13_method_69_code 1 = .ok (.aload_n 0, 1) := by decide +kernel
theorem d_Model_keepsDay_2 : decode prog_13_method_69_code 2 = .ok (.getfield 460, 3) := by decide +kernel
theorem gf_Model_460 : GF "NineBoardsModel" 460 10 67 := ⟨_, _, _, rfl, ci_Model, by decide, (mt_5 (List.mem_of_getElem? (i := 155) rfl) rfl)⟩
theorem d_Model_keepsDay_5 : decode prog_13_method_69_code 5 = .ok (.iconst 1, 1) := by decide +kernel
theorem d_Model_keepsDay_6 : decode prog_13_method_69_code 6 = .ok (.iadd, 1) := by decide +kernel
theorem d_Model_keepsDay_7 : decode prog_13_method_69_code 7 = .ok (.bipush 30, 2) := by decide +kernel
theorem d_Model_keepsDay_9 : decode prog_13_method_69_code 9 = .ok (.irem, 1) := by decide +kernel
theorem d_Model_keepsDay_10 : decode prog_13_method_69_code 10 = .ok (.putfield 460, 3) := by decide +kernel
theorem pf_Model_460 : PF "NineBoardsModel" 460 10 67 (.int) false := ⟨_, _, _, ct_Model, rfl, ci_Model, by decide, (mt_5 (List.mem_of_getElem? (i := 155) rfl) rfl), cp_Model, cn_Model, rfl, by decide +kernel, (fun h => by cases h)⟩
theorem d_Model_keepsDay_13 : decode prog_13_method_69_code 13 = .ok (.iconst 0, 1) := by decide +kernel
theorem d_Model_keepsDay_14 : decode prog_13_method_69_code 14 = .ok (.istore_n 1, 1) := by decide +kernel
theorem d_Model_keepsDay_15 : decode prog_13_method_69_code 15 = .ok (.iload_n 1, 1) := by decide +kernel
theorem d_Model_keepsDay_16 : decode prog_13_method_69_code 16 = .ok (.bipush 63, 2) := by decide +kernel
theorem d_Model_keepsDay_18 : decode prog_13_method_69_code 18 = .ok (.if_icmp .ge 29, 3) := by decide +kernel
theorem d_Model_keepsDay_47 : decode prog_13_method_69_code 47 = .ok (.aload_n 0, 1) := by decide +kernel
theorem d_Model_keepsDay_48 : decode prog_13_method_69_code 48 = .ok (.getfield 415, 3) := by decide +kernel
theorem gf_Model_415 : GF "NineBoardsModel" 415 10 66 := ⟨_, _, _, rfl, ci_Model, by decide, (mt_5 (List.mem_of_getElem? (i := 154) rfl) rfl)⟩
theorem d_Model_keepsDay_51 : decode prog_13_method_69_code 51 = .ok (.bipush 30, 2) := by decide +kernel
theorem d_Model_keepsDay_53 : decode prog_13_method_69_code 53 = .ok (.if_icmp .ge 13, 3) := by decide +kernel
theorem d_Model_keepsDay_66 : decode prog_13_method_69_code 66 = .ok (.return_, 1) := by decide +kernel
theorem d_Model_keepsDay_56 : decode prog_13_method_69_code 56 = .ok (.aload_n 0, 1) := by decide +kernel
theorem d_Model_keepsDay_57 : decode prog_13_method_69_code 57 = .ok (.dup, 1) := by decide +kernel
theorem d_Model_keepsDay_58 : decode prog_13_method_69_code 58 = .ok (.getfield 415, 3) := by decide +kernel
theorem d_Model_keepsDay_61 : decode prog_13_method_69_code 61 = .ok (.iconst 1, 1) := by decide +kernel
theorem d_Model_keepsDay_62 : decode prog_13_method_69_code 62 = .ok (.iadd, 1) := by decide +kernel
theorem d_Model_keepsDay_63 : decode prog_13_method_69_code 63 = .ok (.putfield 415, 3) := by decide +kernel
theorem pf_Model_415 : PF "NineBoardsModel" 415 10 66 (.int) false := ⟨_, _, _, ct_Model, rfl, ci_Model, by decide, (mt_5 (List.mem_of_getElem? (i := 154) rfl) rfl), cp_Model, cn_Model, rfl, by decide +kernel, (fun h => by cases h)⟩
theorem d_Model_keepsDay_21 : decode prog_13_method_69_code 21 = .ok (.aload_n 0, 1) := by decide +kernel
theorem d_Model_keepsDay_22 : decode prog_13_method_69_code 22 = .ok (.getfield 164, 3) := by decide +kernel
theorem gf_Model_164 : GF "NineBoardsModel" 164 10 65 := ⟨_, _, _, rfl, ci_Model, by decide, (mt_5 (List.mem_of_getElem? (i := 153) rfl) rfl)⟩
theorem d_Model_keepsDay_25 : decode prog_13_method_69_code 25 = .ok (.bipush 63, 2) := by decide +kernel
theorem d_Model_keepsDay_27 : decode prog_13_method_69_code 27 = .ok (.aload_n 0, 1) := by decide +kernel
theorem d_Model_keepsDay_28 : decode prog_13_method_69_code 28 = .ok (.getfield 460, 3) := by decide +kernel
theorem d_Model_keepsDay_31 : decode prog_13_method_69_code 31 = .ok (.imul, 1) := by decide +kernel
theorem d_Model_keepsDay_32 : decode prog_13_method_69_code 32 = .ok (.iload_n 1, 1) := by decide +kernel
theorem d_Model_keepsDay_33 : decode prog_13_method_69_code 33 = .ok (.iadd, 1) := by decide +kernel
theorem d_Model_keepsDay_34 : decode prog_13_method_69_code 34 = .ok (.aload_n 0, 1) := by decide +kernel
theorem d_Model_keepsDay_35 : decode prog_13_method_69_code 35 = .ok (.getfield 158, 3) := by decide +kernel
theorem d_Model_keepsDay_38 : decode prog_13_method_69_code 38 = .ok (.iload_n 1, 1) := by decide +kernel
theorem d_Model_keepsDay_39 : decode prog_13_method_69_code 39 = .ok (.iaload, 1) := by decide +kernel
theorem d_Model_keepsDay_40 : decode prog_13_method_69_code 40 = .ok (.iastore, 1) := by decide +kernel
theorem d_Model_keepsDay_41 : decode prog_13_method_69_code 41 = .ok (.iinc 1 1, 3) := by decide +kernel
theorem d_Model_keepsDay_44 : decode prog_13_method_69_code 44 = .ok (.goto (-29), 3) := by decide +kernel
theorem d_Model_putsAside_0 : decode prog_13_method_70_code 0 = .ok (.iconst 0, 1) := by decide +kernel
theorem d_Model_putsAside_1 : decode prog_13_method_70_code 1 = .ok (.istore_n 1, 1) := by decide +kernel
theorem d_Model_putsAside_2 : decode prog_13_method_70_code 2 = .ok (.iload_n 1, 1) := by decide +kernel
theorem d_Model_putsAside_3 : decode prog_13_method_70_code 3 = .ok (.bipush 63, 2) := by decide +kernel
theorem d_Model_putsAside_5 : decode prog_13_method_70_code 5 = .ok (.if_icmp .ge 21, 3) := by decide +kernel
theorem d_Model_putsAside_26 : decode prog_13_method_70_code 26 = .ok (.return_, 1) := by decide +kernel
theorem d_Model_putsAside_8 : decode prog_13_method_70_code 8 = .ok (.aload_n 0, 1) := by decide +kernel
theorem d_Model_putsAside_9 : decode prog_13_method_70_code 9 = .ok (.getfield 167, 3) := by decide +kernel
theorem gf_Model_167 : GF "NineBoardsModel" 167 10 68 := ⟨_, _, _, rfl, ci_Model, by decide, (mt_5 (List.mem_of_getElem? (i := 156) rfl) rfl)⟩
theorem d_Model_putsAside_12 : decode prog_13_method_70_code 12 = .ok (.iload_n 1, 1) := by decide +kernel
theorem d_Model_putsAside_13 : decode prog_13_method_70_code 13 = .ok (.aload_n 0, 1) := by decide +kernel
theorem d_Model_putsAside_14 : decode prog_13_method_70_code 14 = .ok (.getfield 158, 3) := by decide +kernel
theorem d_Model_putsAside_17 : decode prog_13_method_70_code 17 = .ok (.iload_n 1, 1) := by decide +kernel
theorem d_Model_putsAside_18 : decode prog_13_method_70_code 18 = .ok (.iaload, 1) := by decide +kernel
theorem d_Model_putsAside_19 : decode prog_13_method_70_code 19 = .ok (.iastore, 1) := by decide +kernel
theorem d_Model_putsAside_20 : decode prog_13_method_70_code 20 = .ok (.iinc 1 1, 3) := by decide +kernel
theorem d_Model_putsAside_23 : decode prog_13_method_70_code 23 = .ok (.goto (-21), 3) := by decide +kernel
theorem d_Model_takesBack_0 : decode prog_13_method_71_code 0 = .ok (.iconst 0, 1) := by decide +kernel
theorem d_Model_takesBack_1 : decode prog_13_method_71_code 1 = .ok (.istore_n 1, 1) := by decide +kernel
theorem d_Model_takesBack_2 : decode prog_13_method_71_code 2 = .ok (.iload_n 1, 1) := by decide +kernel
theorem d_Model_takesBack_3 : decode prog_13_method_71_code 3 = .ok (.bipush 63, 2) := by decide +kernel
theorem d_Model_takesBack_5 : decode prog_13_method_71_code 5 = .ok (.if_icmp .ge 21, 3) := by decide +kernel
theorem d_Model_takesBack_26 : decode prog_13_method_71_code 26 = .ok (.return_, 1) := by decide +kernel
theorem d_Model_takesBack_8 : decode prog_13_method_71_code 8 = .ok (.aload_n 0, 1) := by decide +kernel
theorem d_Model_takesBack_9 : decode prog_13_method_71_code 9 = .ok (.getfield 158, 3) := by decide +kernel
theorem d_Model_takesBack_12 : decode prog_13_method_71_code 12 = .ok (.iload_n 1, 1) := by decide +kernel
theorem d_Model_takesBack_13 : decode prog_13_method_71_code 13 = .ok (.aload_n 0, 1) := by decide +kernel
theorem d_Model_takesBack_14 : decode prog_13_method_71_code 14 = .ok (.getfield 167, 3) := by decide +kernel
theorem d_Model_takesBack_17 : decode prog_13_method_71_code 17 = .ok (.iload_n 1, 1) := by decide +kernel
theorem d_Model_takesBack_18 : decode prog_13_method_71_code 18 = .ok (.iaload, 1) := by decide +kernel
theorem d_Model_takesBack_19 : decode prog_13_method_71_code 19 = .ok (.iastore, 1) := by decide +kernel
theorem d_Model_takesBack_20 : decode prog_13_method_71_code 20 = .ok (.iinc 1 1, 3) := by decide +kernel
theorem d_Model_takesBack_23 : decode prog_13_method_71_code 23 = .ok (.goto (-21), 3) := by decide +kernel
set_option maxHeartbeats 4000000 in
set_option maxRecDepth 100000 in
theorem c_M_takesBack (l : Launch) (D : va_G) (y : Nat → ClassId) (mo : Nat) (ma : Nat → Nat) (t1 : Nat) (i2 : Int32) (i3 : Int32) (i4 : Int32) (i5 : Int32) (i6 : Int32) (i7 : Int32) (i8 : Int32) (i42 : Int32) (i49 : Int32) (i51 : Int32) (i53 : Int32) (i54 : Int32) (i59 : Int32) (i61 : Int32) (i64 : Int32) (i66 : Int32) (t67 : Nat) (i76 : Int64) (i78 : Int32) (g62 : Nat → Int32) (g68 : Nat → Int32) (da : Nat) (hA : g68 0 = nI da) : CT l D y ⟨"NineBoardsModel", "takesBack", "()V"⟩ prog_13_method_71_code 2 none ({ frames := 0, cells := 0, slots := 0, locals := 0 } : Room) [.ref mo] [MB mo ma (nI t1) i2 i3 i4 i5 i6 i7 i8 i42 i49 i51 i53 i54 i59 i61 i64 i66 (nI t67) i76 i78, (ma 62, .inl (y 0, 63, .inl g62)), (ma 68, .inl (y 0, 63, .inl g68))] (QV D [MB mo ma (nI t1) i2 i3 i4 i5 i6 i7 i8 i42 i49 i51 i53 i54 i59 i61 i64 i66 (nI t67) i76 i78, (ma 62, .inl (y 0, 63, .inl g62)), (ma 68, .inl (y 0, 63, .inl g68))] (fun (u : (Nat → Int32)) => u 0 = nI da) (fun u => [MB mo ma (nI t1) i2 i3 i4 i5 i6 i7 i8 i42 i49 i51 i53 i54 i59 i61 i64 i66 (nI t67) i76 i78, (ma 62, .inl (y 0, 63, .inl u)), (ma 68, .inl (y 0, 63, .inl g68))])) := by
  refine CT.of (by decide) (nb rfl) ?_
  intro p e s m args below meth c C hr
  refine j_lv (lv' := [(0, .ref mo)]) rfl ?_
  refine j_iconst (pc := 0) C (v := 0) d_Model_takesBack_0 (by decide) ?_
  refine j_istore_n (pc := 1) C (lv' := [(1, .int 0), (0, .ref mo)]) d_Model_takesBack_1 rfl (by decide) rfl ?_
  refine j_loop (α := Nat × (Nat → Int32)) (fun a => 63 - a.1) (fun a => (a.1 ≤ 63) ∧ ((0 < a.1 → a.2 0 = nI da))) (fun a => [MB mo ma (nI t1) i2 i3 i4 i5 i6 i7 i8 i42 i49 i51 i53 i54 i59 i61 i64 i66 (nI t67) i76 i78, (ma 62, .inl (y 0, 63, .inl a.2)), (ma 68, .inl (y 0, 63, .inl g68))]) (fun a => [(1, .int (nI a.1)), (0, .ref mo)]) (0, g62) rfl rfl ⟨(show 0 ≤ 63 by omega), (fun e => absurd e (by omega))⟩ ?_
  rintro ⟨iz, az⟩ hP2 ih3
  obtain ⟨hi__, hz__⟩ := hP2
  have hi_ : iz ≤ 63 := hi__
  have hz_ : (0 < iz → az 0 = nI da) := hz__
  refine j_ws (ws' := [MB mo ma (nI t1) i2 i3 i4 i5 i6 i7 i8 i42 i49 i51 i53 i54 i59 i61 i64 i66 (nI t67) i76 i78, (ma 62, .inl (y 0, 63, .inl az)), (ma 68, .inl (y 0, 63, .inl g68))]) rfl ?_
  refine j_lv (lv' := [(1, .int (nI iz)), (0, .ref mo)]) rfl ?_
  refine j_iload_n (pc := 2) C d_Model_takesBack_2 rfl 0 rfl ?_
  refine j_bipush (pc := 3) C (v := 63) d_Model_takesBack_3 (by decide) ?_
  by_cases c4 : 63 ≤ iz
  · refine j_icmp_geT (pc := 5) C (tgt := 26) d_Model_takesBack_5 (by decide) (show nI 63 ≤ nI iz from nI_le (by omega) (by omega)) ?_
    exact j_vret (pc := 26) C hr az (hz_ (by omega)) [0, 1, 2] rfl (by decide) (by decide) (by decide) d_Model_takesBack_26
  · refine j_icmp_geF (pc := 5) C (tgt := 26) d_Model_takesBack_5 (by decide) (show ¬ nI 63 ≤ nI iz from nI_ge (by omega) (by omega)) ?_
    refine j_aload_n (pc := 8) C d_Model_takesBack_8 rfl 1 rfl ?_
    refine j_get (pc := 9) C gf_Model_158 0 rfl rfl d_Model_takesBack_9 ?_
    refine j_iload_n (pc := 12) C d_Model_takesBack_12 rfl 0 rfl ?_
    refine j_aload_n (pc := 13) C d_Model_takesBack_13 rfl 1 rfl ?_
    refine j_get (pc := 14) C gf_Model_167 0 rfl rfl d_Model_takesBack_14 ?_
    refine j_iload_n (pc := 17) C d_Model_takesBack_17 rfl 0 rfl ?_
    refine j_iald (pc := 18) C 2 rfl (v := g68 iz) (vp_in_nI (by omega) (by decide)) (by rw [nI_clamp (by omega)]) d_Model_takesBack_18 ?_
    refine j_iast (pc := 19) C 1 rfl (ws' := [MB mo ma (nI t1) i2 i3 i4 i5 i6 i7 i8 i42 i49 i51 i53 i54 i59 i61 i64 i66 (nI t67) i76 i78, (ma 62, .inl (y 0, 63, .inl (upd az iz (g68 iz)))), (ma 68, .inl (y 0, 63, .inl g68))]) (vp_in_nI (by omega) (by decide)) (by rw [nI_clamp (by omega)]; rfl) d_Model_takesBack_19 ?_
    refine j_iinc (pc := 20) C (v := nI (iz + 1)) (lv' := [(1, .int (nI (iz + 1))), (0, .ref mo)]) d_Model_takesBack_20 0 rfl (nI_add _ _) (by decide) rfl ?_
    refine j_goto (pc := 23) C (tgt := 2) d_Model_takesBack_23 (by decide) ?_
    exact ih3 ((iz + 1), (upd az iz (g68 iz))) ⟨(show (iz + 1) ≤ 63 by omega), (show (0 < (iz + 1) → (upd az iz (g68 iz)) 0 = nI da) from cp_up hz_ hA)⟩ (show 63 - (iz + 1) < 63 - iz by omega)
