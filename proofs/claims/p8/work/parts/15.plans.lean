abbrev PB : Type := SD × (Nat → Int32) × (Nat → Int32)
/-- what belongs to one day of a plan -/
abbrev QF (y : Nat → ClassId) (hh : Nat → Nat) (aa : Nat → Nat → Nat) (gg cg : Nat → Nat) (pd : Nat → PB) (j : Nat) : va_W := SC y (hh j) (aa j) (pd j).1 ++ ([(gg j, .inl (y 0, 6, .inl (pd j).2.1)), (cg j, .inl (y 0, 6, .inl (pd j).2.2))] : va_W)
theorem qf_in {y : Nat → ClassId} {hh : Nat → Nat} {aa : Nat → Nat → Nat} {gg cg : Nat → Nat} {pd : Nat → PB} {l : List Nat} {i : Nat} {X : va_W} {b : PB} (h : i ∈ l) (hn : l.Nodup) : ((X ++ (SC y (hh i) (aa i) b.1 ++ ([(gg i, .inl (y 0, 6, .inl b.2.1)), (cg i, .inl (y 0, 6, .inl b.2.2))] : va_W))) ++ FG (QF y hh aa gg cg pd) (l.erase i)).Perm (X ++ FG (QF y hh aa gg cg (va_up pd i b)) l) := by
  have e := fg_in (F := QF y hh aa gg cg pd) (G := QF y hh aa gg cg (va_up pd i b)) (X := X) h hn (fun j hj => by simp only [QF, va_up_ne _ _ hj])
  simp only [QF, va_up_self] at e
  exact e
theorem rm7 {i : Nat} (h : i < 7) : i ∈ List.range 7 := List.mem_range.mpr h
theorem rm7e {i : Nat} (h : i + 1 < 7) : i + 1 ∈ (List.range 7).erase i := (List.mem_erase_of_ne (by omega)).mpr (List.mem_range.mpr h)
theorem rn7 : (List.range 7).Nodup := List.nodup_range
theorem rn7e {i : Nat} : ((List.range 7).erase i).Nodup := List.nodup_range.erase i
theorem mk6 (n : Int32) : ∃ N : Nat, N ≤ 6 ∧ (if 0 < (if n < 6 then n else 6) then (if n < 6 then n else 6) else 0) = nI N := by
  by_cases h : n < 6
  · rw [if_pos h]
    by_cases h2 : 0 < n
    · rw [if_pos h2]
      have a := Int32.lt_iff_toInt_lt.mp h
      have b := Int32.lt_iff_toInt_lt.mp h2
      rw [(by decide : Int32.toInt 6 = 6)] at a
      rw [(by decide : Int32.toInt 0 = 0)] at b
      exact nI_ofT (n := 6) (by omega) (by omega) (by decide)
    · rw [if_neg h2]
      exact ⟨0, by decide, rfl⟩
  · rw [if_neg h]
    exact ⟨6, by decide, by decide⟩
theorem d_Plans_sum_0 : decode prog_7_method_10_code 0 = .ok (.iconst 0, 1) := by decide +kernel
theorem d_Plans_sum_1 : decode prog_7_method_10_code 1 = .ok (.istore_n 1, 1) := by decide +kernel
theorem d_Plans_sum_2 : decode prog_7_method_10_code 2 = .ok (.aload_n 0, 1) := by decide +kernel
theorem d_Plans_sum_3 : decode prog_7_method_10_code 3 = .ok (.astore_n 2, 1) := by decide +kernel
theorem d_Plans_sum_4 : decode prog_7_method_10_code 4 = .ok (.aload_n 2, 1) := by decide +kernel
theorem d_Plans_sum_5 : decode prog_7_method_10_code 5 = .ok (.arraylength, 1) := by decide +kernel
theorem d_Plans_sum_6 : decode prog_7_method_10_code 6 = .ok (.istore_n 3, 1) := by decide +kernel
theorem d_Plans_sum_7 : decode prog_7_method_10_code 7 = .ok (.iconst 0, 1) := by decide +kernel
theorem d_Plans_sum_8 : decode prog_7_method_10_code 8 = .ok (.istore 4, 2) := by decide +kernel
theorem d_Plans_sum_10 : decode prog_7_method_10_code 10 = .ok (.iload 4, 2) := by decide +kernel
theorem d_Plans_sum_12 : decode prog_7_method_10_code 12 = .ok (.iload_n 3, 1) := by decide +kernel
theorem d_Plans_sum_13 : decode prog_7_method_10_code 13 = .ok (.if_icmp .ge 20, 3) := by decide +kernel
theorem d_Plans_sum_16 : decode prog_7_method_10_code 16 = .ok (.aload_n 2, 1) := by decide +kernel
theorem d_Plans_sum_17 : decode prog_7_method_10_code 17 = .ok (.iload 4, 2) := by decide +kernel
theorem d_Plans_sum_19 : decode prog_7_method_10_code 19 = .ok (.iaload, 1) := by decide +kernel
theorem d_Plans_sum_20 : decode prog_7_method_10_code 20 = .ok (.istore 5, 2) := by decide +kernel
theorem d_Plans_sum_22 : decode prog_7_method_10_code 22 = .ok (.iload_n 1, 1) := by decide +kernel
theorem d_Plans_sum_23 : decode prog_7_method_10_code 23 = .ok (.iload 5, 2) := by decide +kernel
theorem d_Plans_sum_25 : decode prog_7_method_10_code 25 = .ok (.iadd, 1) := by decide +kernel
theorem d_Plans_sum_26 : decode prog_7_method_10_code 26 = .ok (.istore_n 1, 1) := by decide +kernel
theorem d_Plans_sum_27 : decode prog_7_method_10_code 27 = .ok (.iinc 4 1, 3) := by decide +kernel
theorem d_Plans_sum_30 : decode prog_7_method_10_code 30 = .ok (.goto (-20), 3) := by decide +kernel
theorem d_Plans_sum_33 : decode prog_7_method_10_code 33 = .ok (.iload_n 1, 1) := by decide +kernel
theorem d_Plans_sum_34 : decode prog_7_method_10_code 34 = .ok (.ireturn, 1) := by decide +kernel
set_option maxHeartbeats 4000000 in
set_option maxRecDepth 100000 in
theorem c_sum6 (l : Launch) (D : va_G) (y : Nat → ClassId) (h : Nat) (f : Nat → Int32)  : CT l D y ⟨"NineBoards$Plans", "sum", "([I)I"⟩ prog_7_method_10_code 6 (some .int) ({ frames := 0, cells := 0, slots := 0, locals := 0 } : Room) [.ref h] [(h, .inl (y 0, 6, .inl f))] (QI D [(h, .inl (y 0, 6, .inl f))] (fun (r : Int32) (u : Unit) => True) (fun _ => [(h, .inl (y 0, 6, .inl f))])) := by
  refine CT.of (by decide) (nb rfl) ?_
  intro p e s m args below meth c C hr
  refine j_lv (lv' := [(0, .ref h)]) rfl ?_
  refine j_iconst (pc := 0) C (v := 0) d_Plans_sum_0 (by decide) ?_
  refine j_istore_n (pc := 1) C (lv' := [(1, .int 0), (0, .ref h)]) d_Plans_sum_1 rfl (by decide) rfl ?_
  refine j_aload_n (pc := 2) C d_Plans_sum_2 rfl 1 rfl ?_
  refine j_astore_n (pc := 3) C (lv' := [(2, .ref h), (1, .int 0), (0, .ref h)]) d_Plans_sum_3 rfl (by decide) rfl ?_
  refine j_aload_n (pc := 4) C d_Plans_sum_4 rfl 0 rfl ?_
  refine j_alen (pc := 5) C 0 0 rfl rfl (v := 6) rfl d_Plans_sum_5 ?_
  refine j_istore_n (pc := 6) C (lv' := [(3, .int 6), (2, .ref h), (1, .int 0), (0, .ref h)]) d_Plans_sum_6 rfl (by decide) rfl ?_
  refine j_iconst (pc := 7) C (v := 0) d_Plans_sum_7 (by decide) ?_
  refine j_istore (pc := 8) C (lv' := [(4, .int 0), (3, .int 6), (2, .ref h), (1, .int 0), (0, .ref h)]) d_Plans_sum_8 (by decide) rfl ?_
  refine j_iload (pc := 10) C d_Plans_sum_10 0 rfl ?_
  refine j_iload_n (pc := 12) C d_Plans_sum_12 rfl 1 rfl ?_
  refine j_icmp_geF (pc := 13) C (tgt := 33) d_Plans_sum_13 (by decide) (by decide) ?_
  refine j_aload_n (pc := 16) C d_Plans_sum_16 rfl 2 rfl ?_
  refine j_iload (pc := 17) C d_Plans_sum_17 0 rfl ?_
  refine j_iald (pc := 19) C 0 rfl (v := f 0) (vin (by decide)) rfl d_Plans_sum_19 ?_
  refine j_istore (pc := 20) C (lv' := [(5, .int (f 0)), (4, .int 0), (3, .int 6), (2, .ref h), (1, .int 0), (0, .ref h)]) d_Plans_sum_20 (by decide) rfl ?_
  refine j_iload_n (pc := 22) C d_Plans_sum_22 rfl 4 rfl ?_
  refine j_iload (pc := 23) C d_Plans_sum_23 0 rfl ?_
  refine j_iadd (pc := 25) C (v := 0 + (f 0)) d_Plans_sum_25 rfl ?_
  refine j_istore_n (pc := 26) C (lv' := [(1, .int (0 + (f 0))), (5, .int (f 0)), (4, .int 0), (3, .int 6), (2, .ref h), (0, .ref h)]) d_Plans_sum_26 rfl (by decide) rfl ?_
  refine j_iinc (pc := 27) C (v := 1) (lv' := [(4, .int 1), (1, .int (0 + (f 0))), (5, .int (f 0)), (3, .int 6), (2, .ref h), (0, .ref h)]) d_Plans_sum_27 2 rfl (by decide) (by decide) rfl ?_
  refine j_goto (pc := 30) C (tgt := 10) d_Plans_sum_30 (by decide) ?_
  refine j_iload (pc := 10) C d_Plans_sum_10 0 rfl ?_
  refine j_iload_n (pc := 12) C d_Plans_sum_12 rfl 3 rfl ?_
  refine j_icmp_geF (pc := 13) C (tgt := 33) d_Plans_sum_13 (by decide) (by decide) ?_
  refine j_aload_n (pc := 16) C d_Plans_sum_16 rfl 4 rfl ?_
  refine j_iload (pc := 17) C d_Plans_sum_17 0 rfl ?_
  refine j_iald (pc := 19) C 0 rfl (v := f 1) (vin (by decide)) rfl d_Plans_sum_19 ?_
  refine j_istore (pc := 20) C (lv' := [(5, .int (f 1)), (4, .int 1), (1, .int (0 + (f 0))), (3, .int 6), (2, .ref h), (0, .ref h)]) d_Plans_sum_20 (by decide) rfl ?_
  refine j_iload_n (pc := 22) C d_Plans_sum_22 rfl 2 rfl ?_
  refine j_iload (pc := 23) C d_Plans_sum_23 0 rfl ?_
  refine j_iadd (pc := 25) C (v := (0 + (f 0)) + (f 1)) d_Plans_sum_25 rfl ?_
  refine j_istore_n (pc := 26) C (lv' := [(1, .int ((0 + (f 0)) + (f 1))), (5, .int (f 1)), (4, .int 1), (3, .int 6), (2, .ref h), (0, .ref h)]) d_Plans_sum_26 rfl (by decide) rfl ?_
  refine j_iinc (pc := 27) C (v := 2) (lv' := [(4, .int 2), (1, .int ((0 + (f 0)) + (f 1))), (5, .int (f 1)), (3, .int 6), (2, .ref h), (0, .ref h)]) d_Plans_sum_27 2 rfl (by decide) (by decide) rfl ?_
  refine j_goto (pc := 30) C (tgt := 10) d_Plans_sum_30 (by decide) ?_
  refine j_iload (pc := 10) C d_Plans_sum_10 0 rfl ?_
  refine j_iload_n (pc := 12) C d_Plans_sum_12 rfl 3 rfl ?_
  refine j_icmp_geF (pc := 13) C (tgt := 33) d_Plans_sum_13 (by decide) (by decide) ?_
  refine j_aload_n (pc := 16) C d_Plans_sum_16 rfl 4 rfl ?_
  refine j_iload (pc := 17) C d_Plans_sum_17 0 rfl ?_
  refine j_iald (pc := 19) C 0 rfl (v := f 2) (vin (by decide)) rfl d_Plans_sum_19 ?_
  refine j_istore (pc := 20) C (lv' := [(5, .int (f 2)), (4, .int 2), (1, .int ((0 + (f 0)) + (f 1))), (3, .int 6), (2, .ref h), (0, .ref h)]) d_Plans_sum_20 (by decide) rfl ?_
  refine j_iload_n (pc := 22) C d_Plans_sum_22 rfl 2 rfl ?_
  refine j_iload (pc := 23) C d_Plans_sum_23 0 rfl ?_
  refine j_iadd (pc := 25) C (v := ((0 + (f 0)) + (f 1)) + (f 2)) d_Plans_sum_25 rfl ?_
  refine j_istore_n (pc := 26) C (lv' := [(1, .int (((0 + (f 0)) + (f 1)) + (f 2))), (5, .int (f 2)), (4, .int 2), (3, .int 6), (2, .ref h), (0, .ref h)]) d_Plans_sum_26 rfl (by decide) rfl ?_
  refine j_iinc (pc := 27) C (v := 3) (lv' := [(4, .int 3), (1, .int (((0 + (f 0)) + (f 1)) + (f 2))), (5, .int (f 2)), (3, .int 6), (2, .ref h), (0, .ref h)]) d_Plans_sum_27 2 rfl (by decide) (by decide) rfl ?_
  refine j_goto (pc := 30) C (tgt := 10) d_Plans_sum_30 (by decide) ?_
  refine j_iload (pc := 10) C d_Plans_sum_10 0 rfl ?_
  refine j_iload_n (pc := 12) C d_Plans_sum_12 rfl 3 rfl ?_
  refine j_icmp_geF (pc := 13) C (tgt := 33) d_Plans_sum_13 (by decide) (by decide) ?_
  refine j_aload_n (pc := 16) C d_Plans_sum_16 rfl 4 rfl ?_
  refine j_iload (pc := 17) C d_Plans_sum_17 0 rfl ?_
  refine j_iald (pc := 19) C 0 rfl (v := f 3) (vin (by decide)) rfl d_Plans_sum_19 ?_
  refine j_istore (pc := 20) C (lv' := [(5, .int (f 3)), (4, .int 3), (1, .int (((0 + (f 0)) + (f 1)) + (f 2))), (3, .int 6), (2, .ref h), (0, .ref h)]) d_Plans_sum_20 (by decide) rfl ?_
  refine j_iload_n (pc := 22) C d_Plans_sum_22 rfl 2 rfl ?_
  refine j_iload (pc := 23) C d_Plans_sum_23 0 rfl ?_
  refine j_iadd (pc := 25) C (v := (((0 + (f 0)) + (f 1)) + (f 2)) + (f 3)) d_Plans_sum_25 rfl ?_
  refine j_istore_n (pc := 26) C (lv' := [(1, .int ((((0 + (f 0)) + (f 1)) + (f 2)) + (f 3))), (5, .int (f 3)), (4, .int 3), (3, .int 6), (2, .ref h), (0, .ref h)]) d_Plans_sum_26 rfl (by decide) rfl ?_
  refine j_iinc (pc := 27) C (v := 4) (lv' := [(4, .int 4), (1, .int ((((0 + (f 0)) + (f 1)) + (f 2)) + (f 3))), (5, .int (f 3)), (3, .int 6), (2, .ref h), (0, .ref h)]) d_Plans_sum_27 2 rfl (by decide) (by decide) rfl ?_
  refine j_goto (pc := 30) C (tgt := 10) d_Plans_sum_30 (by decide) ?_
  refine j_iload (pc := 10) C d_Plans_sum_10 0 rfl ?_
  refine j_iload_n (pc := 12) C d_Plans_sum_12 rfl 3 rfl ?_
  refine j_icmp_geF (pc := 13) C (tgt := 33) d_Plans_sum_13 (by decide) (by decide) ?_
  refine j_aload_n (pc := 16) C d_Plans_sum_16 rfl 4 rfl ?_
  refine j_iload (pc := 17) C d_Plans_sum_17 0 rfl ?_
  refine j_iald (pc := 19) C 0 rfl (v := f 4) (vin (by decide)) rfl d_Plans_sum_19 ?_
  refine j_istore (pc := 20) C (lv' := [(5, .int (f 4)), (4, .int 4), (1, .int ((((0 + (f 0)) + (f 1)) + (f 2)) + (f 3))), (3, .int 6), (2, .ref h), (0, .ref h)]) d_Plans_sum_20 (by decide) rfl ?_
  refine j_iload_n (pc := 22) C d_Plans_sum_22 rfl 2 rfl ?_
  refine j_iload (pc := 23) C d_Plans_sum_23 0 rfl ?_
  refine j_iadd (pc := 25) C (v := ((((0 + (f 0)) + (f 1)) + (f 2)) + (f 3)) + (f 4)) d_Plans_sum_25 rfl ?_
  refine j_istore_n (pc := 26) C (lv' := [(1, .int (((((0 + (f 0)) + (f 1)) + (f 2)) + (f 3)) + (f 4))), (5, .int (f 4)), (4, .int 4), (3, .int 6), (2, .ref h), (0, .ref h)]) d_Plans_sum_26 rfl (by decide) rfl ?_
  refine j_iinc (pc := 27) C (v := 5) (lv' := [(4, .int 5), (1, .int (((((0 + (f 0)) + (f 1)) + (f 2)) + (f 3)) + (f 4))), (5, .int (f 4)), (3, .int 6), (2, .ref h), (0, .ref h)]) d_Plans_sum_27 2 rfl (by decide) (by decide) rfl ?_
  refine j_goto (pc := 30) C (tgt := 10) d_Plans_sum_30 (by decide) ?_
  refine j_iload (pc := 10) C d_Plans_sum_10 0 rfl ?_
  refine j_iload_n (pc := 12) C d_Plans_sum_12 rfl 3 rfl ?_
  refine j_icmp_geF (pc := 13) C (tgt := 33) d_Plans_sum_13 (by decide) (by decide) ?_
  refine j_aload_n (pc := 16) C d_Plans_sum_16 rfl 4 rfl ?_
  refine j_iload (pc := 17) C d_Plans_sum_17 0 rfl ?_
  refine j_iald (pc := 19) C 0 rfl (v := f 5) (vin (by decide)) rfl d_Plans_sum_19 ?_
  refine j_istore (pc := 20) C (lv' := [(5, .int (f 5)), (4, .int 5), (1, .int (((((0 + (f 0)) + (f 1)) + (f 2)) + (f 3)) + (f 4))), (3, .int 6), (2, .ref h), (0, .ref h)]) d_Plans_sum_20 (by decide) rfl ?_
  refine j_iload_n (pc := 22) C d_Plans_sum_22 rfl 2 rfl ?_
  refine j_iload (pc := 23) C d_Plans_sum_23 0 rfl ?_
  refine j_iadd (pc := 25) C (v := (((((0 + (f 0)) + (f 1)) + (f 2)) + (f 3)) + (f 4)) + (f 5)) d_Plans_sum_25 rfl ?_
  refine j_istore_n (pc := 26) C (lv' := [(1, .int ((((((0 + (f 0)) + (f 1)) + (f 2)) + (f 3)) + (f 4)) + (f 5))), (5, .int (f 5)), (4, .int 5), (3, .int 6), (2, .ref h), (0, .ref h)]) d_Plans_sum_26 rfl (by decide) rfl ?_
  refine j_iinc (pc := 27) C (v := 6) (lv' := [(4, .int 6), (1, .int ((((((0 + (f 0)) + (f 1)) + (f 2)) + (f 3)) + (f 4)) + (f 5))), (5, .int (f 5)), (3, .int 6), (2, .ref h), (0, .ref h)]) d_Plans_sum_27 2 rfl (by decide) (by decide) rfl ?_
  refine j_goto (pc := 30) C (tgt := 10) d_Plans_sum_30 (by decide) ?_
  refine j_iload (pc := 10) C d_Plans_sum_10 0 rfl ?_
  refine j_iload_n (pc := 12) C d_Plans_sum_12 rfl 3 rfl ?_
  refine j_icmp_geT (pc := 13) C (tgt := 33) d_Plans_sum_13 (by decide) (by decide) ?_
  refine j_iload_n (pc := 33) C d_Plans_sum_33 rfl 1 rfl ?_
  exact j_iret (pc := 34) C hr rfl () trivial [0] rfl (by decide) (by decide) (by decide) d_Plans_sum_34
theorem d_Plans_worthTo_0 : decode prog_7_method_7_code 0 = .ok (.aload_n 0, 1) := by decide +kernel
theorem d_Plans_worthTo_1 : decode prog_7_method_7_code 1 = .ok (.getfield 43, 3) := by decide +kernel
theorem gf_Plans_43 : GF "NineBoards$Plans" 43 4 5 := ⟨_, _, _, rfl, ci_Plans, by decide, (mt_2 (List.mem_of_getElem? (i := 217) rfl) rfl)⟩
theorem d_Plans_worthTo_4 : decode prog_7_method_7_code 4 = .ok (.ifCond .ne 8, 3) := by decide +kernel
theorem d_Plans_worthTo_12 : decode prog_7_method_7_code 12 = .ok (.aload_n 0, 1) := by decide +kernel
theorem d_Plans_worthTo_13 : decode prog_7_method_7_code 13 = .ok (.getfield 19, 3) := by decide +kernel
theorem gf_Plans_19 : GF "NineBoards$Plans" 19 4 1 := ⟨_, _, _, rfl, ci_Plans, by decide, (mt_2 (List.mem_of_getElem? (i := 213) rfl) rfl)⟩
theorem d_Plans_worthTo_16 : decode prog_7_method_7_code 16 = .ok (.iload_n 2, 1) := by decide +kernel
theorem d_Plans_worthTo_17 : decode prog_7_method_7_code 17 = .ok (.aaload, 1) := by decide +kernel
theorem d_Plans_worthTo_18 : decode prog_7_method_7_code 18 = .ok (.invokestatic 56, 3) := by decide +kernel
theorem kw_Plans_56 : KW "NineBoards$Plans" 56 ⟨"NineBoards$Plans", "sum", "([I)I"⟩ prog_7_method_10_code 6 (some .int) 1 := ⟨(mt_4 (List.mem_of_getElem? (i := 199) rfl) rfl), (mt_1 (List.mem_of_getElem? (i := 15) rfl) rfl), (mt_4 (List.mem_of_getElem? (i := 201) rfl) rfl), by decide +kernel⟩
theorem ks_Plans_sum : Cond.static ⟨"NineBoards$Plans", "sum", "([I)I"⟩ ∈ TB := (mt_4 (List.mem_of_getElem? (i := 200) rfl) rfl)
theorem d_Plans_worthTo_21 : decode prog_7_method_7_code 21 = .ok (.goto 11, 3) := by decide +kernel
theorem d_Plans_worthTo_32 : decode prog_7_method_7_code 32 = .ok (.ireturn, 1) := by decide +kernel
theorem d_Plans_worthTo_7 : decode prog_7_method_7_code 7 = .ok (.iload_n 1, 1) := by decide +kernel
theorem d_Plans_worthTo_8 : decode prog_7_method_7_code 8 = .ok (.iconst (-1), 1) := by decide +kernel
theorem d_Plans_worthTo_9 : decode prog_7_method_7_code 9 = .ok (.if_icmp .ne 15, 3) := by decide +kernel
theorem d_Plans_worthTo_24 : decode prog_7_method_7_code 24 = .ok (.aload_n 0, 1) := by decide +kernel
theorem d_Plans_worthTo_25 : decode prog_7_method_7_code 25 = .ok (.getfield 19, 3) := by decide +kernel
theorem d_Plans_worthTo_28 : decode prog_7_method_7_code 28 = .ok (.iload_n 2, 1) := by decide +kernel
theorem d_Plans_worthTo_29 : decode prog_7_method_7_code 29 = .ok (.aaload, 1) := by decide +kernel
theorem d_Plans_worthTo_30 : decode prog_7_method_7_code 30 = .ok (.iload_n 1, 1) := by decide +kernel
theorem d_Plans_worthTo_31 : decode prog_7_method_7_code 31 = .ok (.iaload, 1) := by decide +kernel
set_option maxHeartbeats 4000000 in
set_option maxRecDepth 100000 in
theorem c_worthTo (l : Launch) (D : va_G) (y : Nat → ClassId) (pl : Nat) (st : Nat) (ga : Nat) (ac : Nat) (ad : Nat → Nat) (hh : Nat → Nat) (aa : Nat → Nat → Nat) (gg : Nat → Nat) (cg : Nat → Nat) (pd : Nat → PB) (ix : Nat) (ds : Int32) (tg : Int32) (v : Int32) (hi : ix < 7) (hv : v = -1 ∨ ∃ j, j < 6 ∧ v = nI j) : CT l D y ⟨"NineBoards$Plans", "worthTo", "(II)I"⟩ prog_7_method_7_code 3 (some .int) ({ frames := 1, cells := 0, slots := 0, locals := 25 } : Room) [.ref pl, .int v, .int (nI ix)] (([(pl, .inr (4, [.ref st, .ref ga, .ref ac, .ref (ad 0), .int ds, .int tg])), (st, .inl (y 4, 7, .inr (.inr (.inr (.inr (fun j => some (hh j))))))), (ga, .inl (y 5, 7, .inr (.inr (.inr (.inr (fun j => some (gg j))))))), (ac, .inl (y 5, 7, .inr (.inr (.inr (.inr (fun j => some (cg j)))))))] : va_W) ++ FG (QF y hh aa gg cg pd) (List.range 7)) (QI D (([(pl, .inr (4, [.ref st, .ref ga, .ref ac, .ref (ad 0), .int ds, .int tg])), (st, .inl (y 4, 7, .inr (.inr (.inr (.inr (fun j => some (hh j))))))), (ga, .inl (y 5, 7, .inr (.inr (.inr (.inr (fun j => some (gg j))))))), (ac, .inl (y 5, 7, .inr (.inr (.inr (.inr (fun j => some (cg j)))))))] : va_W) ++ FG (QF y hh aa gg cg pd) (List.range 7)) (fun (r : Int32) (u : Nat → PB) => True) (fun u => (([(pl, .inr (4, [.ref st, .ref ga, .ref ac, .ref (ad 0), .int ds, .int tg])), (st, .inl (y 4, 7, .inr (.inr (.inr (.inr (fun j => some (hh j))))))), (ga, .inl (y 5, 7, .inr (.inr (.inr (.inr (fun j => some (gg j))))))), (ac, .inl (y 5, 7, .inr (.inr (.inr (.inr (fun j => some (cg j)))))))] : va_W) ++ FG (QF y hh aa gg cg u) (List.range 7)))) := by
  refine CT.of (by decide) (nb rfl) ?_
  intro p e s m args below meth c C hr
  refine j_lv (lv' := [(0, .ref pl), (1, .int v), (2, .int (nI ix))]) rfl ?_
  refine j_perm (ws' := (([(pl, .inr (4, [.ref st, .ref ga, .ref ac, .ref (ad 0), .int ds, .int tg])), (st, .inl (y 4, 7, .inr (.inr (.inr (.inr (fun j => some (hh j))))))), (ga, .inl (y 5, 7, .inr (.inr (.inr (.inr (fun j => some (gg j))))))), (ac, .inl (y 5, 7, .inr (.inr (.inr (.inr (fun j => some (cg j))))))), (hh ix, .inr (7, [.int ((pd ix).1.1 0), .int ((pd ix).1.1 1), .int ((pd ix).1.1 2), .ref (aa ix 0), .ref (aa ix 1), .ref (aa ix 2), .ref (aa ix 3), .ref (aa ix 4), .ref (aa ix 5), .ref (aa ix 6)])), (aa ix 0, .inl (y 0, 9, .inl ((pd ix).1.2.1 0))), (aa ix 1, .inl (y 0, 9, .inl ((pd ix).1.2.1 1))), (aa ix 2, .inl (y 1, 9, .inr (.inl ((pd ix).1.2.2 0)))), (aa ix 3, .inl (y 0, 6, .inl ((pd ix).1.2.1 2))), (aa ix 4, .inl (y 0, 6, .inl ((pd ix).1.2.1 3))), (aa ix 5, .inl (y 0, 16, .inl ((pd ix).1.2.1 4))), (aa ix 6, .inl (y 1, 5, .inr (.inl ((pd ix).1.2.2 1)))), (gg ix, .inl (y 0, 6, .inl ((pd ix).2.1))), (cg ix, .inl (y 0, 6, .inl ((pd ix).2.2)))] : va_W) ++ FG (QF y hh aa gg cg pd) ((List.range 7).erase ix))) (fg_out (F := QF y hh aa gg cg pd) (X := [(pl, .inr (4, [.ref st, .ref ga, .ref ac, .ref (ad 0), .int ds, .int tg])), (st, .inl (y 4, 7, .inr (.inr (.inr (.inr (fun j => some (hh j))))))), (ga, .inl (y 5, 7, .inr (.inr (.inr (.inr (fun j => some (gg j))))))), (ac, .inl (y 5, 7, .inr (.inr (.inr (.inr (fun j => some (cg j)))))))]) (i := ix) (rm7 (by omega))) ?_
  rcases hv with rfl | ⟨j, hj, rfl⟩
  · refine j_aload_n (pc := 0) C d_Plans_worthTo_0 rfl 0 rfl ?_
    refine j_get (pc := 1) C gf_Plans_43 0 rfl rfl d_Plans_worthTo_1 ?_
    refine j_if_ne (pc := 4) C (tgt := 12) d_Plans_worthTo_4 (by decide) (fun c1 => ?_) (fun c1 => ?_)
    · refine j_aload_n (pc := 12) C d_Plans_worthTo_12 rfl 0 rfl ?_
      refine j_get (pc := 13) C gf_Plans_19 0 rfl rfl d_Plans_worthTo_13 ?_
      refine j_iload_n (pc := 16) C d_Plans_worthTo_16 rfl 2 rfl ?_
      refine j_aaldI (pc := 17) C 2 rfl (v := gg ix) (vp_in_nI (by omega) (by decide)) (by rw [nI_clamp (by omega)]) d_Plans_worthTo_17 ?_
      refine j_callSiT (pc := 18) C (c_sum6 l D y (gg ix) ((pd ix).2.1)) kw_Plans_56 ks_Plans_sum ⟨by decide, by decide⟩ ⟨by decide, by decide⟩ (wr := [(pl, .inr (4, [.ref st, .ref ga, .ref ac, .ref (ad 0), .int ds, .int tg])), (st, .inl (y 4, 7, .inr (.inr (.inr (.inr (fun j => some (hh j))))))), (ga, .inl (y 5, 7, .inr (.inr (.inr (.inr (fun j => some (gg j))))))), (ac, .inl (y 5, 7, .inr (.inr (.inr (.inr (fun j => some (cg j))))))), (hh ix, .inr (7, [.int ((pd ix).1.1 0), .int ((pd ix).1.1 1), .int ((pd ix).1.1 2), .ref (aa ix 0), .ref (aa ix 1), .ref (aa ix 2), .ref (aa ix 3), .ref (aa ix 4), .ref (aa ix 5), .ref (aa ix 6)])), (aa ix 0, .inl (y 0, 9, .inl ((pd ix).1.2.1 0))), (aa ix 1, .inl (y 0, 9, .inl ((pd ix).1.2.1 1))), (aa ix 2, .inl (y 1, 9, .inr (.inl ((pd ix).1.2.2 0)))), (aa ix 3, .inl (y 0, 6, .inl ((pd ix).1.2.1 2))), (aa ix 4, .inl (y 0, 6, .inl ((pd ix).1.2.1 3))), (aa ix 5, .inl (y 0, 16, .inl ((pd ix).1.2.1 4))), (aa ix 6, .inl (y 1, 5, .inr (.inl ((pd ix).1.2.2 1)))), (cg ix, .inl (y 0, 6, .inl ((pd ix).2.2)))]) [12] [0, 1, 2, 3, 4, 5, 6, 7, 8, 9, 10, 11, 13] rfl rfl (by decide +kernel) (by decide +kernel) (by decide +kernel) (As := [.ref (gg ix)]) (rest := []) rfl (nb rfl) rfl d_Plans_worthTo_18 (fun r2 _ hr2 => ?_)
      refine j_ws (ws' := (([(pl, .inr (4, [.ref st, .ref ga, .ref ac, .ref (ad 0), .int ds, .int tg])), (st, .inl (y 4, 7, .inr (.inr (.inr (.inr (fun j => some (hh j))))))), (ga, .inl (y 5, 7, .inr (.inr (.inr (.inr (fun j => some (gg j))))))), (ac, .inl (y 5, 7, .inr (.inr (.inr (.inr (fun j => some (cg j))))))), (hh ix, .inr (7, [.int ((pd ix).1.1 0), .int ((pd ix).1.1 1), .int ((pd ix).1.1 2), .ref (aa ix 0), .ref (aa ix 1), .ref (aa ix 2), .ref (aa ix 3), .ref (aa ix 4), .ref (aa ix 5), .ref (aa ix 6)])), (aa ix 0, .inl (y 0, 9, .inl ((pd ix).1.2.1 0))), (aa ix 1, .inl (y 0, 9, .inl ((pd ix).1.2.1 1))), (aa ix 2, .inl (y 1, 9, .inr (.inl ((pd ix).1.2.2 0)))), (aa ix 3, .inl (y 0, 6, .inl ((pd ix).1.2.1 2))), (aa ix 4, .inl (y 0, 6, .inl ((pd ix).1.2.1 3))), (aa ix 5, .inl (y 0, 16, .inl ((pd ix).1.2.1 4))), (aa ix 6, .inl (y 1, 5, .inr (.inl ((pd ix).1.2.2 1)))), (cg ix, .inl (y 0, 6, .inl ((pd ix).2.2))), (gg ix, .inl (y 0, 6, .inl ((pd ix).2.1)))] : va_W) ++ FG (QF y hh aa gg cg pd) ((List.range 7).erase ix))) rfl ?_
      refine j_goto (pc := 21) C (tgt := 32) d_Plans_worthTo_21 (by decide) ?_
      refine j_subT (X' := [(pl, .inr (4, [.ref st, .ref ga, .ref ac, .ref (ad 0), .int ds, .int tg])), (st, .inl (y 4, 7, .inr (.inr (.inr (.inr (fun j => some (hh j))))))), (ga, .inl (y 5, 7, .inr (.inr (.inr (.inr (fun j => some (gg j))))))), (ac, .inl (y 5, 7, .inr (.inr (.inr (.inr (fun j => some (cg j))))))), (hh ix, .inr (7, [.int ((pd ix).1.1 0), .int ((pd ix).1.1 1), .int ((pd ix).1.1 2), .ref (aa ix 0), .ref (aa ix 1), .ref (aa ix 2), .ref (aa ix 3), .ref (aa ix 4), .ref (aa ix 5), .ref (aa ix 6)])), (aa ix 0, .inl (y 0, 9, .inl ((pd ix).1.2.1 0))), (aa ix 1, .inl (y 0, 9, .inl ((pd ix).1.2.1 1))), (aa ix 2, .inl (y 1, 9, .inr (.inl ((pd ix).1.2.2 0)))), (aa ix 3, .inl (y 0, 6, .inl ((pd ix).1.2.1 2))), (aa ix 4, .inl (y 0, 6, .inl ((pd ix).1.2.1 3))), (aa ix 5, .inl (y 0, 16, .inl ((pd ix).1.2.1 4))), (aa ix 6, .inl (y 1, 5, .inr (.inl ((pd ix).1.2.2 1)))), (gg ix, .inl (y 0, 6, .inl ((pd ix).2.1))), (cg ix, .inl (y 0, 6, .inl ((pd ix).2.2)))]) [0, 1, 2, 3, 4, 5, 6, 7, 8, 9, 10, 11, 13, 12] rfl (by decide +kernel) ?_
      refine j_perm (ws' := (([(pl, .inr (4, [.ref st, .ref ga, .ref ac, .ref (ad 0), .int ds, .int tg])), (st, .inl (y 4, 7, .inr (.inr (.inr (.inr (fun j => some (hh j))))))), (ga, .inl (y 5, 7, .inr (.inr (.inr (.inr (fun j => some (gg j))))))), (ac, .inl (y 5, 7, .inr (.inr (.inr (.inr (fun j => some (cg j)))))))] : va_W) ++ FG (QF y hh aa gg cg (va_up pd ix ((fun k => [(pd ix).1.1 0, (pd ix).1.1 1, (pd ix).1.1 2].getD k 0, fun k => [((pd ix).1.2.1 0), ((pd ix).1.2.1 1), ((pd ix).1.2.1 2), ((pd ix).1.2.1 3), ((pd ix).1.2.1 4)].getD k (fun _ => 0), fun k => [((pd ix).1.2.2 0), ((pd ix).1.2.2 1)].getD k (fun _ => 0)), ((pd ix).2.1), ((pd ix).2.2)))) (List.range 7))) (qf_in (X := [(pl, .inr (4, [.ref st, .ref ga, .ref ac, .ref (ad 0), .int ds, .int tg])), (st, .inl (y 4, 7, .inr (.inr (.inr (.inr (fun j => some (hh j))))))), (ga, .inl (y 5, 7, .inr (.inr (.inr (.inr (fun j => some (gg j))))))), (ac, .inl (y 5, 7, .inr (.inr (.inr (.inr (fun j => some (cg j)))))))]) (i := ix) (b := ((fun k => [(pd ix).1.1 0, (pd ix).1.1 1, (pd ix).1.1 2].getD k 0, fun k => [((pd ix).1.2.1 0), ((pd ix).1.2.1 1), ((pd ix).1.2.1 2), ((pd ix).1.2.1 3), ((pd ix).1.2.1 4)].getD k (fun _ => 0), fun k => [((pd ix).1.2.2 0), ((pd ix).1.2.2 1)].getD k (fun _ => 0)), ((pd ix).2.1), ((pd ix).2.2))) (rm7 (by omega)) rn7) ?_
      generalize (va_up pd ix ((fun k => [(pd ix).1.1 0, (pd ix).1.1 1, (pd ix).1.1 2].getD k 0, fun k => [((pd ix).1.2.1 0), ((pd ix).1.2.1 1), ((pd ix).1.2.1 2), ((pd ix).1.2.1 3), ((pd ix).1.2.1 4)].getD k (fun _ => 0), fun k => [((pd ix).1.2.2 0), ((pd ix).1.2.2 1)].getD k (fun _ => 0)), ((pd ix).2.1), ((pd ix).2.2))) = pd3
      exact j_iretW (pc := 32) C hr rfl pd3 trivial rfl (by decide) (by decide) d_Plans_worthTo_32
    · refine j_iload_n (pc := 7) C d_Plans_worthTo_7 rfl 1 rfl ?_
      refine j_iconst (pc := 8) C (v := (-1)) d_Plans_worthTo_8 (by decide) ?_
      refine j_icmp_neF (pc := 9) C (tgt := 24) d_Plans_worthTo_9 (by decide) (by decide) ?_
      refine j_aload_n (pc := 12) C d_Plans_worthTo_12 rfl 0 rfl ?_
      refine j_get (pc := 13) C gf_Plans_19 0 rfl rfl d_Plans_worthTo_13 ?_
      refine j_iload_n (pc := 16) C d_Plans_worthTo_16 rfl 2 rfl ?_
      refine j_aaldI (pc := 17) C 2 rfl (v := gg ix) (vp_in_nI (by omega) (by decide)) (by rw [nI_clamp (by omega)]) d_Plans_worthTo_17 ?_
      refine j_callSiT (pc := 18) C (c_sum6 l D y (gg ix) ((pd ix).2.1)) kw_Plans_56 ks_Plans_sum ⟨by decide, by decide⟩ ⟨by decide, by decide⟩ (wr := [(pl, .inr (4, [.ref st, .ref ga, .ref ac, .ref (ad 0), .int ds, .int tg])), (st, .inl (y 4, 7, .inr (.inr (.inr (.inr (fun j => some (hh j))))))), (ga, .inl (y 5, 7, .inr (.inr (.inr (.inr (fun j => some (gg j))))))), (ac, .inl (y 5, 7, .inr (.inr (.inr (.inr (fun j => some (cg j))))))), (hh ix, .inr (7, [.int ((pd ix).1.1 0), .int ((pd ix).1.1 1), .int ((pd ix).1.1 2), .ref (aa ix 0), .ref (aa ix 1), .ref (aa ix 2), .ref (aa ix 3), .ref (aa ix 4), .ref (aa ix 5), .ref (aa ix 6)])), (aa ix 0, .inl (y 0, 9, .inl ((pd ix).1.2.1 0))), (aa ix 1, .inl (y 0, 9, .inl ((pd ix).1.2.1 1))), (aa ix 2, .inl (y 1, 9, .inr (.inl ((pd ix).1.2.2 0)))), (aa ix 3, .inl (y 0, 6, .inl ((pd ix).1.2.1 2))), (aa ix 4, .inl (y 0, 6, .inl ((pd ix).1.2.1 3))), (aa ix 5, .inl (y 0, 16, .inl ((pd ix).1.2.1 4))), (aa ix 6, .inl (y 1, 5, .inr (.inl ((pd ix).1.2.2 1)))), (cg ix, .inl (y 0, 6, .inl ((pd ix).2.2)))]) [12] [0, 1, 2, 3, 4, 5, 6, 7, 8, 9, 10, 11, 13] rfl rfl (by decide +kernel) (by decide +kernel) (by decide +kernel) (As := [.ref (gg ix)]) (rest := []) rfl (nb rfl) rfl d_Plans_worthTo_18 (fun r4 _ hr4 => ?_)
      refine j_ws (ws' := (([(pl, .inr (4, [.ref st, .ref ga, .ref ac, .ref (ad 0), .int ds, .int tg])), (st, .inl (y 4, 7, .inr (.inr (.inr (.inr (fun j => some (hh j))))))), (ga, .inl (y 5, 7, .inr (.inr (.inr (.inr (fun j => some (gg j))))))), (ac, .inl (y 5, 7, .inr (.inr (.inr (.inr (fun j => some (cg j))))))), (hh ix, .inr (7, [.int ((pd ix).1.1 0), .int ((pd ix).1.1 1), .int ((pd ix).1.1 2), .ref (aa ix 0), .ref (aa ix 1), .ref (aa ix 2), .ref (aa ix 3), .ref (aa ix 4), .ref (aa ix 5), .ref (aa ix 6)])), (aa ix 0, .inl (y 0, 9, .inl ((pd ix).1.2.1 0))), (aa ix 1, .inl (y 0, 9, .inl ((pd ix).1.2.1 1))), (aa ix 2, .inl (y 1, 9, .inr (.inl ((pd ix).1.2.2 0)))), (aa ix 3, .inl (y 0, 6, .inl ((pd ix).1.2.1 2))), (aa ix 4, .inl (y 0, 6, .inl ((pd ix).1.2.1 3))), (aa ix 5, .inl (y 0, 16, .inl ((pd ix).1.2.1 4))), (aa ix 6, .inl (y 1, 5, .inr (.inl ((pd ix).1.2.2 1)))), (cg ix, .inl (y 0, 6, .inl ((pd ix).2.2))), (gg ix, .inl (y 0, 6, .inl ((pd ix).2.1)))] : va_W) ++ FG (QF y hh aa gg cg pd) ((List.range 7).erase ix))) rfl ?_
      refine j_goto (pc := 21) C (tgt := 32) d_Plans_worthTo_21 (by decide) ?_
      refine j_subT (X' := [(pl, .inr (4, [.ref st, .ref ga, .ref ac, .ref (ad 0), .int ds, .int tg])), (st, .inl (y 4, 7, .inr (.inr (.inr (.inr (fun j => some (hh j))))))), (ga, .inl (y 5, 7, .inr (.inr (.inr (.inr (fun j => some (gg j))))))), (ac, .inl (y 5, 7, .inr (.inr (.inr (.inr (fun j => some (cg j))))))), (hh ix, .inr (7, [.int ((pd ix).1.1 0), .int ((pd ix).1.1 1), .int ((pd ix).1.1 2), .ref (aa ix 0), .ref (aa ix 1), .ref (aa ix 2), .ref (aa ix 3), .ref (aa ix 4), .ref (aa ix 5), .ref (aa ix 6)])), (aa ix 0, .inl (y 0, 9, .inl ((pd ix).1.2.1 0))), (aa ix 1, .inl (y 0, 9, .inl ((pd ix).1.2.1 1))), (aa ix 2, .inl (y 1, 9, .inr (.inl ((pd ix).1.2.2 0)))), (aa ix 3, .inl (y 0, 6, .inl ((pd ix).1.2.1 2))), (aa ix 4, .inl (y 0, 6, .inl ((pd ix).1.2.1 3))), (aa ix 5, .inl (y 0, 16, .inl ((pd ix).1.2.1 4))), (aa ix 6, .inl (y 1, 5, .inr (.inl ((pd ix).1.2.2 1)))), (gg ix, .inl (y 0, 6, .inl ((pd ix).2.1))), (cg ix, .inl (y 0, 6, .inl ((pd ix).2.2)))]) [0, 1, 2, 3, 4, 5, 6, 7, 8, 9, 10, 11, 13, 12] rfl (by decide +kernel) ?_
      refine j_perm (ws' := (([(pl, .inr (4, [.ref st, .ref ga, .ref ac, .ref (ad 0), .int ds, .int tg])), (st, .inl (y 4, 7, .inr (.inr (.inr (.inr (fun j => some (hh j))))))), (ga, .inl (y 5, 7, .inr (.inr (.inr (.inr (fun j => some (gg j))))))), (ac, .inl (y 5, 7, .inr (.inr (.inr (.inr (fun j => some (cg j)))))))] : va_W) ++ FG (QF y hh aa gg cg (va_up pd ix ((fun k => [(pd ix).1.1 0, (pd ix).1.1 1, (pd ix).1.1 2].getD k 0, fun k => [((pd ix).1.2.1 0), ((pd ix).1.2.1 1), ((pd ix).1.2.1 2), ((pd ix).1.2.1 3), ((pd ix).1.2.1 4)].getD k (fun _ => 0), fun k => [((pd ix).1.2.2 0), ((pd ix).1.2.2 1)].getD k (fun _ => 0)), ((pd ix).2.1), ((pd ix).2.2)))) (List.range 7))) (qf_in (X := [(pl, .inr (4, [.ref st, .ref ga, .ref ac, .ref (ad 0), .int ds, .int tg])), (st, .inl (y 4, 7, .inr (.inr (.inr (.inr (fun j => some (hh j))))))), (ga, .inl (y 5, 7, .inr (.inr (.inr (.inr (fun j => some (gg j))))))), (ac, .inl (y 5, 7, .inr (.inr (.inr (.inr (fun j => some (cg j)))))))]) (i := ix) (b := ((fun k => [(pd ix).1.1 0, (pd ix).1.1 1, (pd ix).1.1 2].getD k 0, fun k => [((pd ix).1.2.1 0), ((pd ix).1.2.1 1), ((pd ix).1.2.1 2), ((pd ix).1.2.1 3), ((pd ix).1.2.1 4)].getD k (fun _ => 0), fun k => [((pd ix).1.2.2 0), ((pd ix).1.2.2 1)].getD k (fun _ => 0)), ((pd ix).2.1), ((pd ix).2.2))) (rm7 (by omega)) rn7) ?_
      generalize (va_up pd ix ((fun k => [(pd ix).1.1 0, (pd ix).1.1 1, (pd ix).1.1 2].getD k 0, fun k => [((pd ix).1.2.1 0), ((pd ix).1.2.1 1), ((pd ix).1.2.1 2), ((pd ix).1.2.1 3), ((pd ix).1.2.1 4)].getD k (fun _ => 0), fun k => [((pd ix).1.2.2 0), ((pd ix).1.2.2 1)].getD k (fun _ => 0)), ((pd ix).2.1), ((pd ix).2.2))) = pd5
      exact j_iretW (pc := 32) C hr rfl pd5 trivial rfl (by decide) (by decide) d_Plans_worthTo_32
  · refine j_aload_n (pc := 0) C d_Plans_worthTo_0 rfl 0 rfl ?_
    refine j_get (pc := 1) C gf_Plans_43 0 rfl rfl d_Plans_worthTo_1 ?_
    refine j_if_ne (pc := 4) C (tgt := 12) d_Plans_worthTo_4 (by decide) (fun c6 => ?_) (fun c6 => ?_)
    · refine j_aload_n (pc := 12) C d_Plans_worthTo_12 rfl 0 rfl ?_
      refine j_get (pc := 13) C gf_Plans_19 0 rfl rfl d_Plans_worthTo_13 ?_
      refine j_iload_n (pc := 16) C d_Plans_worthTo_16 rfl 2 rfl ?_
      refine j_aaldI (pc := 17) C 2 rfl (v := gg ix) (vp_in_nI (by omega) (by decide)) (by rw [nI_clamp (by omega)]) d_Plans_worthTo_17 ?_
      refine j_callSiT (pc := 18) C (c_sum6 l D y (gg ix) ((pd ix).2.1)) kw_Plans_56 ks_Plans_sum ⟨by decide, by decide⟩ ⟨by decide, by decide⟩ (wr := [(pl, .inr (4, [.ref st, .ref ga, .ref ac, .ref (ad 0), .int ds, .int tg])), (st, .inl (y 4, 7, .inr (.inr (.inr (.inr (fun j => some (hh j))))))), (ga, .inl (y 5, 7, .inr (.inr (.inr (.inr (fun j => some (gg j))))))), (ac, .inl (y 5, 7, .inr (.inr (.inr (.inr (fun j => some (cg j))))))), (hh ix, .inr (7, [.int ((pd ix).1.1 0), .int ((pd ix).1.1 1), .int ((pd ix).1.1 2), .ref (aa ix 0), .ref (aa ix 1), .ref (aa ix 2), .ref (aa ix 3), .ref (aa ix 4), .ref (aa ix 5), .ref (aa ix 6)])), (aa ix 0, .inl (y 0, 9, .inl ((pd ix).1.2.1 0))), (aa ix 1, .inl (y 0, 9, .inl ((pd ix).1.2.1 1))), (aa ix 2, .inl (y 1, 9, .inr (.inl ((pd ix).1.2.2 0)))), (aa ix 3, .inl (y 0, 6, .inl ((pd ix).1.2.1 2))), (aa ix 4, .inl (y 0, 6, .inl ((pd ix).1.2.1 3))), (aa ix 5, .inl (y 0, 16, .inl ((pd ix).1.2.1 4))), (aa ix 6, .inl (y 1, 5, .inr (.inl ((pd ix).1.2.2 1)))), (cg ix, .inl (y 0, 6, .inl ((pd ix).2.2)))]) [12] [0, 1, 2, 3, 4, 5, 6, 7, 8, 9, 10, 11, 13] rfl rfl (by decide +kernel) (by decide +kernel) (by decide +kernel) (As := [.ref (gg ix)]) (rest := []) rfl (nb rfl) rfl d_Plans_worthTo_18 (fun r7 _ hr7 => ?_)
      refine j_ws (ws' := (([(pl, .inr (4, [.ref st, .ref ga, .ref ac, .ref (ad 0), .int ds, .int tg])), (st, .inl (y 4, 7, .inr (.inr (.inr (.inr (fun j => some (hh j))))))), (ga, .inl (y 5, 7, .inr (.inr (.inr (.inr (fun j => some (gg j))))))), (ac, .inl (y 5, 7, .inr (.inr (.inr (.inr (fun j => some (cg j))))))), (hh ix, .inr (7, [.int ((pd ix).1.1 0), .int ((pd ix).1.1 1), .int ((pd ix).1.1 2), .ref (aa ix 0), .ref (aa ix 1), .ref (aa ix 2), .ref (aa ix 3), .ref (aa ix 4), .ref (aa ix 5), .ref (aa ix 6)])), (aa ix 0, .inl (y 0, 9, .inl ((pd ix).1.2.1 0))), (aa ix 1, .inl (y 0, 9, .inl ((pd ix).1.2.1 1))), (aa ix 2, .inl (y 1, 9, .inr (.inl ((pd ix).1.2.2 0)))), (aa ix 3, .inl (y 0, 6, .inl ((pd ix).1.2.1 2))), (aa ix 4, .inl (y 0, 6, .inl ((pd ix).1.2.1 3))), (aa ix 5, .inl (y 0, 16, .inl ((pd ix).1.2.1 4))), (aa ix 6, .inl (y 1, 5, .inr (.inl ((pd ix).1.2.2 1)))), (cg ix, .inl (y 0, 6, .inl ((pd ix).2.2))), (gg ix, .inl (y 0, 6, .inl ((pd ix).2.1)))] : va_W) ++ FG (QF y hh aa gg cg pd) ((List.range 7).erase ix))) rfl ?_
      refine j_goto (pc := 21) C (tgt := 32) d_Plans_worthTo_21 (by decide) ?_
      refine j_subT (X' := [(pl, .inr (4, [.ref st, .ref ga, .ref ac, .ref (ad 0), .int ds, .int tg])), (st, .inl (y 4, 7, .inr (.inr (.inr (.inr (fun j => some (hh j))))))), (ga, .inl (y 5, 7, .inr (.inr (.inr (.inr (fun j => some (gg j))))))), (ac, .inl (y 5, 7, .inr (.inr (.inr (.inr (fun j => some (cg j))))))), (hh ix, .inr (7, [.int ((pd ix).1.1 0), .int ((pd ix).1.1 1), .int ((pd ix).1.1 2), .ref (aa ix 0), .ref (aa ix 1), .ref (aa ix 2), .ref (aa ix 3), .ref (aa ix 4), .ref (aa ix 5), .ref (aa ix 6)])), (aa ix 0, .inl (y 0, 9, .inl ((pd ix).1.2.1 0))), (aa ix 1, .inl (y 0, 9, .inl ((pd ix).1.2.1 1))), (aa ix 2, .inl (y 1, 9, .inr (.inl ((pd ix).1.2.2 0)))), (aa ix 3, .inl (y 0, 6, .inl ((pd ix).1.2.1 2))), (aa ix 4, .inl (y 0, 6, .inl ((pd ix).1.2.1 3))), (aa ix 5, .inl (y 0, 16, .inl ((pd ix).1.2.1 4))), (aa ix 6, .inl (y 1, 5, .inr (.inl ((pd ix).1.2.2 1)))), (gg ix, .inl (y 0, 6, .inl ((pd ix).2.1))), (cg ix, .inl (y 0, 6, .inl ((pd ix).2.2)))]) [0, 1, 2, 3, 4, 5, 6, 7, 8, 9, 10, 11, 13, 12] rfl (by decide +kernel) ?_
      refine j_perm (ws' := (([(pl, .inr (4, [.ref st, .ref ga, .ref ac, .ref (ad 0), .int ds, .int tg])), (st, .inl (y 4, 7, .inr (.inr (.inr (.inr (fun j => some (hh j))))))), (ga, .inl (y 5, 7, .inr (.inr (.inr (.inr (fun j => some (gg j))))))), (ac, .inl (y 5, 7, .inr (.inr (.inr (.inr (fun j => some (cg j)))))))] : va_W) ++ FG (QF y hh aa gg cg (va_up pd ix ((fun k => [(pd ix).1.1 0, (pd ix).1.1 1, (pd ix).1.1 2].getD k 0, fun k => [((pd ix).1.2.1 0), ((pd ix).1.2.1 1), ((pd ix).1.2.1 2), ((pd ix).1.2.1 3), ((pd ix).1.2.1 4)].getD k (fun _ => 0), fun k => [((pd ix).1.2.2 0), ((pd ix).1.2.2 1)].getD k (fun _ => 0)), ((pd ix).2.1), ((pd ix).2.2)))) (List.range 7))) (qf_in (X := [(pl, .inr (4, [.ref st, .ref ga, .ref ac, .ref (ad 0), .int ds, .int tg])), (st, .inl (y 4, 7, .inr (.inr (.inr (.inr (fun j => some (hh j))))))), (ga, .inl (y 5, 7, .inr (.inr (.inr (.inr (fun j => some (gg j))))))), (ac, .inl (y 5, 7, .inr (.inr (.inr (.inr (fun j => some (cg j)))))))]) (i := ix) (b := ((fun k => [(pd ix).1.1 0, (pd ix).1.1 1, (pd ix).1.1 2].getD k 0, fun k => [((pd ix).1.2.1 0), ((pd ix).1.2.1 1), ((pd ix).1.2.1 2), ((pd ix).1.2.1 3), ((pd ix).1.2.1 4)].getD k (fun _ => 0), fun k => [((pd ix).1.2.2 0), ((pd ix).1.2.2 1)].getD k (fun _ => 0)), ((pd ix).2.1), ((pd ix).2.2))) (rm7 (by omega)) rn7) ?_
      generalize (va_up pd ix ((fun k => [(pd ix).1.1 0, (pd ix).1.1 1, (pd ix).1.1 2].getD k 0, fun k => [((pd ix).1.2.1 0), ((pd ix).1.2.1 1), ((pd ix).1.2.1 2), ((pd ix).1.2.1 3), ((pd ix).1.2.1 4)].getD k (fun _ => 0), fun k => [((pd ix).1.2.2 0), ((pd ix).1.2.2 1)].getD k (fun _ => 0)), ((pd ix).2.1), ((pd ix).2.2))) = pd8
      exact j_iretW (pc := 32) C hr rfl pd8 trivial rfl (by decide) (by decide) d_Plans_worthTo_32
    · refine j_iload_n (pc := 7) C d_Plans_worthTo_7 rfl 1 rfl ?_
      refine j_iconst (pc := 8) C (v := (-1)) d_Plans_worthTo_8 (by decide) ?_
      refine j_icmp_neT (pc := 9) C (tgt := 24) d_Plans_worthTo_9 (by decide) (nI_nm1 (by omega)) ?_
      refine j_aload_n (pc := 24) C d_Plans_worthTo_24 rfl 0 rfl ?_
      refine j_get (pc := 25) C gf_Plans_19 0 rfl rfl d_Plans_worthTo_25 ?_
      refine j_iload_n (pc := 28) C d_Plans_worthTo_28 rfl 2 rfl ?_
      refine j_aaldI (pc := 29) C 2 rfl (v := gg ix) (vp_in_nI (by omega) (by decide)) (by rw [nI_clamp (by omega)]) d_Plans_worthTo_29 ?_
      refine j_iload_n (pc := 30) C d_Plans_worthTo_30 rfl 1 rfl ?_
      refine j_iald (pc := 31) C 12 rfl (v := ((pd ix).2.1) (nI j).toNatClampNeg) (vp_in_nI (by omega) (by decide)) rfl d_Plans_worthTo_31 ?_
      refine j_perm (ws' := (([(pl, .inr (4, [.ref st, .ref ga, .ref ac, .ref (ad 0), .int ds, .int tg])), (st, .inl (y 4, 7, .inr (.inr (.inr (.inr (fun j => some (hh j))))))), (ga, .inl (y 5, 7, .inr (.inr (.inr (.inr (fun j => some (gg j))))))), (ac, .inl (y 5, 7, .inr (.inr (.inr (.inr (fun j => some (cg j)))))))] : va_W) ++ FG (QF y hh aa gg cg (va_up pd ix ((fun k => [(pd ix).1.1 0, (pd ix).1.1 1, (pd ix).1.1 2].getD k 0, fun k => [((pd ix).1.2.1 0), ((pd ix).1.2.1 1), ((pd ix).1.2.1 2), ((pd ix).1.2.1 3), ((pd ix).1.2.1 4)].getD k (fun _ => 0), fun k => [((pd ix).1.2.2 0), ((pd ix).1.2.2 1)].getD k (fun _ => 0)), ((pd ix).2.1), ((pd ix).2.2)))) (List.range 7))) (qf_in (X := [(pl, .inr (4, [.ref st, .ref ga, .ref ac, .ref (ad 0), .int ds, .int tg])), (st, .inl (y 4, 7, .inr (.inr (.inr (.inr (fun j => some (hh j))))))), (ga, .inl (y 5, 7, .inr (.inr (.inr (.inr (fun j => some (gg j))))))), (ac, .inl (y 5, 7, .inr (.inr (.inr (.inr (fun j => some (cg j)))))))]) (i := ix) (b := ((fun k => [(pd ix).1.1 0, (pd ix).1.1 1, (pd ix).1.1 2].getD k 0, fun k => [((pd ix).1.2.1 0), ((pd ix).1.2.1 1), ((pd ix).1.2.1 2), ((pd ix).1.2.1 3), ((pd ix).1.2.1 4)].getD k (fun _ => 0), fun k => [((pd ix).1.2.2 0), ((pd ix).1.2.2 1)].getD k (fun _ => 0)), ((pd ix).2.1), ((pd ix).2.2))) (rm7 (by omega)) rn7) ?_
      generalize (va_up pd ix ((fun k => [(pd ix).1.1 0, (pd ix).1.1 1, (pd ix).1.1 2].getD k 0, fun k => [((pd ix).1.2.1 0), ((pd ix).1.2.1 1), ((pd ix).1.2.1 2), ((pd ix).1.2.1 3), ((pd ix).1.2.1 4)].getD k (fun _ => 0), fun k => [((pd ix).1.2.2 0), ((pd ix).1.2.2 1)].getD k (fun _ => 0)), ((pd ix).2.1), ((pd ix).2.2))) = pd9
      exact j_iretW (pc := 32) C hr rfl pd9 trivial rfl (by decide) (by decide) d_Plans_worthTo_32
theorem d_Plans_addDay_2 : decode prog_7_method_8_code 2 = .ok (.iload_n 2, 1) := by decide +kernel
theorem d_Plans_addDay_3 : decode prog_7_method_8_code 3 = .ok (.aload_n 0, 1) := by decide +kernel
theorem d_Plans_addDay_4 : decode prog_7_method_8_code 4 = .ok (.getfield 25, 3) := by decide +kernel
theorem gf_Plans_25 : GF "NineBoards$Plans" 25 4 3 := ⟨_, _, _, rfl, ci_Plans, by decide, (mt_2 (List.mem_of_getElem? (i := 215) rfl) rfl)⟩
theorem d_Plans_addDay_7 : decode prog_7_method_8_code 7 = .ok (.getfield 89, 3) := by decide +kernel
theorem gf_Plans_89 : GF "NineBoards$Plans" 89 2 5 := ⟨_, _, _, rfl, ci_Lake, by decide, (mt_2 (List.mem_of_getElem? (i := 48) rfl) rfl)⟩
theorem d_Plans_addDay_10 : decode prog_7_method_8_code 10 = .ok (.if_icmp .ge 31, 3) := by decide +kernel
theorem d_Plans_addDay_13 : decode prog_7_method_8_code 13 = .ok (.aload_n 0, 1) := by decide +kernel
theorem d_Plans_addDay_14 : decode prog_7_method_8_code 14 = .ok (.getfield 19, 3) := by decide +kernel
theorem d_Plans_addDay_17 : decode prog_7_method_8_code 17 = .ok (.iload_n 1, 1) := by decide +kernel
theorem d_Plans_addDay_18 : decode prog_7_method_8_code 18 = .ok (.aaload, 1) := by decide +kernel
theorem d_Plans_addDay_19 : decode prog_7_method_8_code 19 = .ok (.iload_n 2, 1) := by decide +kernel
theorem d_Plans_addDay_20 : decode prog_7_method_8_code 20 = .ok (.dup2, 1) := by decide +kernel
theorem d_Plans_addDay_21 : decode prog_7_method_8_code 21 = .ok (.iaload, 1) := by decide +kernel
theorem d_Plans_addDay_22 : decode prog_7_method_8_code 22 = .ok (.aload_n 0, 1) := by decide +kernel
theorem d_Plans_addDay_23 : decode prog_7_method_8_code 23 = .ok (.getfield 11, 3) := by decide +kernel
theorem gf_Plans_11 : GF "NineBoards$Plans" 11 4 0 := ⟨_, _, _, rfl, ci_Plans, by decide, (mt_2 (List.mem_of_getElem? (i := 212) rfl) rfl)⟩
theorem d_Plans_addDay_26 : decode prog_7_method_8_code 26 = .ok (.iload_n 1, 1) := by decide +kernel
theorem d_Plans_addDay_27 : decode prog_7_method_8_code 27 = .ok (.aaload, 1) := by decide +kernel
theorem d_Plans_addDay_28 : decode prog_7_method_8_code 28 = .ok (.getfield 92, 3) := by decide +kernel
theorem gf_Plans_92 : GF "NineBoards$Plans" 92 7 7 := ⟨_, _, _, rfl, ci_State, by decide, (mt_1 (List.mem_of_getElem? (i := 76) rfl) rfl)⟩
theorem d_Plans_addDay_31 : decode prog_7_method_8_code 31 = .ok (.iload_n 2, 1) := by decide +kernel
theorem d_Plans_addDay_32 : decode prog_7_method_8_code 32 = .ok (.iaload, 1) := by decide +kernel
theorem d_Plans_addDay_33 : decode prog_7_method_8_code 33 = .ok (.iadd, 1) := by decide +kernel
theorem d_Plans_addDay_34 : decode prog_7_method_8_code 34 = .ok (.iastore, 1) := by decide +kernel
theorem d_Plans_addDay_35 : decode prog_7_method_8_code 35 = .ok (.iinc 2 1, 3) := by decide +kernel
theorem d_Plans_addDay_38 : decode prog_7_method_8_code 38 = .ok (.goto (-36), 3) := by decide +kernel
theorem d_Plans_addDay_0 : decode prog_7_method_8_code 0 = .ok (.iconst 0, 1) := by decide +kernel
theorem d_Plans_addDay_1 : decode prog_7_method_8_code 1 = .ok (.istore_n 2, 1) := by decide +kernel
theorem d_Plans_addDay_41 : decode prog_7_method_8_code 41 = .ok (.return_, 1) := by decide +kernel
set_option maxHeartbeats 4000000 in
set_option maxRecDepth 100000 in
theorem lp_addDay {p : Program} {l : Launch} {e : Env} {s : State} {m : MethodId} {args : Array Value} {below : List Frame} {meth : Method} {c : Code} {Q : State → Prop} {D : va_G} {y : Nat → ClassId} {A : Nat → Prop} (C : Cx p s m args meth c D y A prog_7_method_8_code 3 "NineBoards$Plans" "addDay") (pl : Nat) (st : Nat) (ga : Nat) (ac : Nat) (ad : Nat → Nat) (d : LD) (n4 : Nat) (hh : Nat → Nat) (aa : Nat → Nat → Nat) (gg : Nat → Nat) (cg : Nat → Nat) (pd : Nat → PB) (ix : Nat) (ds : Int32) (tg : Int32) (h4 : d.1 4 = nI n4) (b4 : n4 ≤ 6) (hx : ix < 7) (kx : ∀ f : Nat → Int32, J p l e ({ frames := 0, cells := 0, slots := 0, locals := 0 } : Room) s m args below meth c Q D A 3 (([(pl, .inr (4, [.ref st, .ref ga, .ref ac, .ref (ad 0), .int ds, .int tg])), (st, .inl (y 4, 7, .inr (.inr (.inr (.inr (fun j => some (hh j))))))), (ga, .inl (y 5, 7, .inr (.inr (.inr (.inr (fun j => some (gg j))))))), (ac, .inl (y 5, 7, .inr (.inr (.inr (.inr (fun j => some (cg j))))))), (ad 0, .inr (2, [.int (d.1 0), .int (d.1 1), .int (d.1 2), .int (d.1 3), .ref (ad 1), .int (d.1 4), .ref (ad 11), .ref (ad 12), .ref (ad 2), .ref (ad 3), .int (d.1 5), .int (d.1 6), .int (d.1 7), .int (d.1 8)])), (hh ix, .inr (7, [.int ((pd ix).1.1 0), .int ((pd ix).1.1 1), .int ((pd ix).1.1 2), .ref (aa ix 0), .ref (aa ix 1), .ref (aa ix 2), .ref (aa ix 3), .ref (aa ix 4), .ref (aa ix 5), .ref (aa ix 6)])), (aa ix 0, .inl (y 0, 9, .inl ((pd ix).1.2.1 0))), (aa ix 1, .inl (y 0, 9, .inl ((pd ix).1.2.1 1))), (aa ix 2, .inl (y 1, 9, .inr (.inl ((pd ix).1.2.2 0)))), (aa ix 3, .inl (y 0, 6, .inl ((pd ix).1.2.1 2))), (aa ix 4, .inl (y 0, 6, .inl ((pd ix).1.2.1 3))), (aa ix 5, .inl (y 0, 16, .inl ((pd ix).1.2.1 4))), (aa ix 6, .inl (y 1, 5, .inr (.inl ((pd ix).1.2.2 1)))), (gg ix, .inl (y 0, 6, .inl f)), (cg ix, .inl (y 0, 6, .inl ((pd ix).2.2)))] : va_W) ++ FG (QF y hh aa gg cg pd) ((List.range 7).erase ix)) [(0, .ref pl), (1, .int (nI ix)), (2, .int (nI n4))] 0 0 41 []) : ∀ (n : Nat) (i : Nat) (f : Nat → Int32), (i + n = n4) → J p l e ({ frames := 0, cells := 0, slots := 0, locals := 0 } : Room) s m args below meth c Q D A 3 (([(pl, .inr (4, [.ref st, .ref ga, .ref ac, .ref (ad 0), .int ds, .int tg])), (st, .inl (y 4, 7, .inr (.inr (.inr (.inr (fun j => some (hh j))))))), (ga, .inl (y 5, 7, .inr (.inr (.inr (.inr (fun j => some (gg j))))))), (ac, .inl (y 5, 7, .inr (.inr (.inr (.inr (fun j => some (cg j))))))), (ad 0, .inr (2, [.int (d.1 0), .int (d.1 1), .int (d.1 2), .int (d.1 3), .ref (ad 1), .int (d.1 4), .ref (ad 11), .ref (ad 12), .ref (ad 2), .ref (ad 3), .int (d.1 5), .int (d.1 6), .int (d.1 7), .int (d.1 8)])), (hh ix, .inr (7, [.int ((pd ix).1.1 0), .int ((pd ix).1.1 1), .int ((pd ix).1.1 2), .ref (aa ix 0), .ref (aa ix 1), .ref (aa ix 2), .ref (aa ix 3), .ref (aa ix 4), .ref (aa ix 5), .ref (aa ix 6)])), (aa ix 0, .inl (y 0, 9, .inl ((pd ix).1.2.1 0))), (aa ix 1, .inl (y 0, 9, .inl ((pd ix).1.2.1 1))), (aa ix 2, .inl (y 1, 9, .inr (.inl ((pd ix).1.2.2 0)))), (aa ix 3, .inl (y 0, 6, .inl ((pd ix).1.2.1 2))), (aa ix 4, .inl (y 0, 6, .inl ((pd ix).1.2.1 3))), (aa ix 5, .inl (y 0, 16, .inl ((pd ix).1.2.1 4))), (aa ix 6, .inl (y 1, 5, .inr (.inl ((pd ix).1.2.2 1)))), (gg ix, .inl (y 0, 6, .inl f)), (cg ix, .inl (y 0, 6, .inl ((pd ix).2.2)))] : va_W) ++ FG (QF y hh aa gg cg pd) ((List.range 7).erase ix)) [(0, .ref pl), (1, .int (nI ix)), (2, .int (nI i))] 0 0 2 [] := by
  intro n
  induction n with
  | zero =>
    intro i f hi
    obtain rfl : i = n4 := by omega
    refine j_iload_n (pc := 2) C d_Plans_addDay_2 rfl 2 rfl ?_
    refine j_aload_n (pc := 3) C d_Plans_addDay_3 rfl 0 rfl ?_
    refine j_get (pc := 4) C gf_Plans_25 0 rfl rfl d_Plans_addDay_4 ?_
    refine j_get (pc := 7) C gf_Plans_89 4 rfl rfl d_Plans_addDay_7 ?_
    refine j_icmp_geT (pc := 10) C (tgt := 41) d_Plans_addDay_10 (by decide) (by rw [h4]; exact Int32.le_refl _) ?_
    exact kx _
  | succ n ih =>
    intro i f hi
    refine j_iload_n (pc := 2) C d_Plans_addDay_2 rfl 2 rfl ?_
    refine j_aload_n (pc := 3) C d_Plans_addDay_3 rfl 0 rfl ?_
    refine j_get (pc := 4) C gf_Plans_25 0 rfl rfl d_Plans_addDay_4 ?_
    refine j_get (pc := 7) C gf_Plans_89 4 rfl rfl d_Plans_addDay_7 ?_
    refine j_icmp_geF (pc := 10) C (tgt := 41) d_Plans_addDay_10 (by decide) (by rw [h4]; exact nI_ge (by omega) (by omega)) ?_
    refine j_aload_n (pc := 13) C d_Plans_addDay_13 rfl 0 rfl ?_
    refine j_get (pc := 14) C gf_Plans_19 0 rfl rfl d_Plans_addDay_14 ?_
    refine j_iload_n (pc := 17) C d_Plans_addDay_17 rfl 1 rfl ?_
    refine j_aaldI (pc := 18) C 2 rfl (v := gg ix) (vp_in_nI (by omega) (by decide)) (by rw [nI_clamp (by omega)]) d_Plans_addDay_18 ?_
    refine j_iload_n (pc := 19) C d_Plans_addDay_19 rfl 2 rfl ?_
    refine j_dup2 (pc := 20) C d_Plans_addDay_20 rfl rfl ?_
    refine j_iald (pc := 21) C 13 rfl (v := f (nI i).toNatClampNeg) (vp_in_nI (by omega) (by decide)) rfl d_Plans_addDay_21 ?_
    refine j_aload_n (pc := 22) C d_Plans_addDay_22 rfl 0 rfl ?_
    refine j_get (pc := 23) C gf_Plans_11 0 rfl rfl d_Plans_addDay_23 ?_
    refine j_iload_n (pc := 26) C d_Plans_addDay_26 rfl 1 rfl ?_
    refine j_aald (pc := 27) C 1 rfl (v := hh ix) (vp_in_nI (by omega) (by decide)) (by rw [nI_clamp (by omega)]) d_Plans_addDay_27 ?_
    refine j_get (pc := 28) C gf_Plans_92 5 rfl rfl d_Plans_addDay_28 ?_
    refine j_iload_n (pc := 31) C d_Plans_addDay_31 rfl 2 rfl ?_
    refine j_iald (pc := 32) C 10 rfl (v := ((pd ix).1.2.1 3) (nI i).toNatClampNeg) (vp_in_nI (by omega) (by decide)) rfl d_Plans_addDay_32 ?_
    refine j_iadd (pc := 33) C (v := (f (nI i).toNatClampNeg) + (((pd ix).1.2.1 3) (nI i).toNatClampNeg)) d_Plans_addDay_33 rfl ?_
    refine j_iast (pc := 34) C 13 rfl (ws' := (([(pl, .inr (4, [.ref st, .ref ga, .ref ac, .ref (ad 0), .int ds, .int tg])), (st, .inl (y 4, 7, .inr (.inr (.inr (.inr (fun j => some (hh j))))))), (ga, .inl (y 5, 7, .inr (.inr (.inr (.inr (fun j => some (gg j))))))), (ac, .inl (y 5, 7, .inr (.inr (.inr (.inr (fun j => some (cg j))))))), (ad 0, .inr (2, [.int (d.1 0), .int (d.1 1), .int (d.1 2), .int (d.1 3), .ref (ad 1), .int (d.1 4), .ref (ad 11), .ref (ad 12), .ref (ad 2), .ref (ad 3), .int (d.1 5), .int (d.1 6), .int (d.1 7), .int (d.1 8)])), (hh ix, .inr (7, [.int ((pd ix).1.1 0), .int ((pd ix).1.1 1), .int ((pd ix).1.1 2), .ref (aa ix 0), .ref (aa ix 1), .ref (aa ix 2), .ref (aa ix 3), .ref (aa ix 4), .ref (aa ix 5), .ref (aa ix 6)])), (aa ix 0, .inl (y 0, 9, .inl ((pd ix).1.2.1 0))), (aa ix 1, .inl (y 0, 9, .inl ((pd ix).1.2.1 1))), (aa ix 2, .inl (y 1, 9, .inr (.inl ((pd ix).1.2.2 0)))), (aa ix 3, .inl (y 0, 6, .inl ((pd ix).1.2.1 2))), (aa ix 4, .inl (y 0, 6, .inl ((pd ix).1.2.1 3))), (aa ix 5, .inl (y 0, 16, .inl ((pd ix).1.2.1 4))), (aa ix 6, .inl (y 1, 5, .inr (.inl ((pd ix).1.2.2 1)))), (gg ix, .inl (y 0, 6, .inl (upd f (nI i).toNatClampNeg ((f (nI i).toNatClampNeg) + (((pd ix).1.2.1 3) (nI i).toNatClampNeg))))), (cg ix, .inl (y 0, 6, .inl ((pd ix).2.2)))] : va_W) ++ FG (QF y hh aa gg cg pd) ((List.range 7).erase ix))) (vp_in_nI (by omega) (by decide)) rfl d_Plans_addDay_34 ?_
    refine j_iinc (pc := 35) C (v := nI (i + 1)) (lv' := [(2, .int (nI (i + 1))), (0, .ref pl), (1, .int (nI ix))]) d_Plans_addDay_35 2 rfl (nI_1 _) (by decide) rfl ?_
    refine j_goto (pc := 38) C (tgt := 2) d_Plans_addDay_38 (by decide) ?_
    refine j_locs (lv' := [(0, .ref pl), (1, .int (nI ix)), (2, .int (nI (i + 1)))]) [1, 2, 0] rfl ?_
    exact ih (i + 1) _ (by omega)
set_option maxHeartbeats 4000000 in
set_option maxRecDepth 100000 in
theorem c_addDay (l : Launch) (D : va_G) (y : Nat → ClassId) (pl : Nat) (st : Nat) (ga : Nat) (ac : Nat) (ad : Nat → Nat) (d : LD) (n4 : Nat) (hh : Nat → Nat) (aa : Nat → Nat → Nat) (gg : Nat → Nat) (cg : Nat → Nat) (pd : Nat → PB) (ix : Nat) (ds : Int32) (tg : Int32) (h4 : d.1 4 = nI n4) (b4 : n4 ≤ 6) (hx : ix < 7) : CT l D y ⟨"NineBoards$Plans", "addDay", "(I)V"⟩ prog_7_method_8_code 3 none ({ frames := 0, cells := 0, slots := 0, locals := 0 } : Room) [.ref pl, .int (nI ix)] (([(pl, .inr (4, [.ref st, .ref ga, .ref ac, .ref (ad 0), .int ds, .int tg])), (st, .inl (y 4, 7, .inr (.inr (.inr (.inr (fun j => some (hh j))))))), (ga, .inl (y 5, 7, .inr (.inr (.inr (.inr (fun j => some (gg j))))))), (ac, .inl (y 5, 7, .inr (.inr (.inr (.inr (fun j => some (cg j))))))), (ad 0, .inr (2, [.int (d.1 0), .int (d.1 1), .int (d.1 2), .int (d.1 3), .ref (ad 1), .int (d.1 4), .ref (ad 11), .ref (ad 12), .ref (ad 2), .ref (ad 3), .int (d.1 5), .int (d.1 6), .int (d.1 7), .int (d.1 8)]))] : va_W) ++ FG (QF y hh aa gg cg pd) (List.range 7)) (QV D (([(pl, .inr (4, [.ref st, .ref ga, .ref ac, .ref (ad 0), .int ds, .int tg])), (st, .inl (y 4, 7, .inr (.inr (.inr (.inr (fun j => some (hh j))))))), (ga, .inl (y 5, 7, .inr (.inr (.inr (.inr (fun j => some (gg j))))))), (ac, .inl (y 5, 7, .inr (.inr (.inr (.inr (fun j => some (cg j))))))), (ad 0, .inr (2, [.int (d.1 0), .int (d.1 1), .int (d.1 2), .int (d.1 3), .ref (ad 1), .int (d.1 4), .ref (ad 11), .ref (ad 12), .ref (ad 2), .ref (ad 3), .int (d.1 5), .int (d.1 6), .int (d.1 7), .int (d.1 8)]))] : va_W) ++ FG (QF y hh aa gg cg pd) (List.range 7)) (fun (_ : Nat → PB) => True) (fun u => (([(pl, .inr (4, [.ref st, .ref ga, .ref ac, .ref (ad 0), .int ds, .int tg])), (st, .inl (y 4, 7, .inr (.inr (.inr (.inr (fun j => some (hh j))))))), (ga, .inl (y 5, 7, .inr (.inr (.inr (.inr (fun j => some (gg j))))))), (ac, .inl (y 5, 7, .inr (.inr (.inr (.inr (fun j => some (cg j))))))), (ad 0, .inr (2, [.int (d.1 0), .int (d.1 1), .int (d.1 2), .int (d.1 3), .ref (ad 1), .int (d.1 4), .ref (ad 11), .ref (ad 12), .ref (ad 2), .ref (ad 3), .int (d.1 5), .int (d.1 6), .int (d.1 7), .int (d.1 8)]))] : va_W) ++ FG (QF y hh aa gg cg u) (List.range 7)))) := by
  refine CT.of (by decide) (nb rfl) ?_
  intro p e s m args below meth c C hr
  refine j_lv (lv' := [(0, .ref pl), (1, .int (nI ix))]) rfl ?_
  refine j_iconst (pc := 0) C (v := 0) d_Plans_addDay_0 (by decide) ?_
  refine j_istore_n (pc := 1) C (lv' := [(2, .int 0), (0, .ref pl), (1, .int (nI ix))]) d_Plans_addDay_1 rfl (by decide) rfl ?_
  refine j_perm (ws' := (([(pl, .inr (4, [.ref st, .ref ga, .ref ac, .ref (ad 0), .int ds, .int tg])), (st, .inl (y 4, 7, .inr (.inr (.inr (.inr (fun j => some (hh j))))))), (ga, .inl (y 5, 7, .inr (.inr (.inr (.inr (fun j => some (gg j))))))), (ac, .inl (y 5, 7, .inr (.inr (.inr (.inr (fun j => some (cg j))))))), (ad 0, .inr (2, [.int (d.1 0), .int (d.1 1), .int (d.1 2), .int (d.1 3), .ref (ad 1), .int (d.1 4), .ref (ad 11), .ref (ad 12), .ref (ad 2), .ref (ad 3), .int (d.1 5), .int (d.1 6), .int (d.1 7), .int (d.1 8)])), (hh ix, .inr (7, [.int ((pd ix).1.1 0), .int ((pd ix).1.1 1), .int ((pd ix).1.1 2), .ref (aa ix 0), .ref (aa ix 1), .ref (aa ix 2), .ref (aa ix 3), .ref (aa ix 4), .ref (aa ix 5), .ref (aa ix 6)])), (aa ix 0, .inl (y 0, 9, .inl ((pd ix).1.2.1 0))), (aa ix 1, .inl (y 0, 9, .inl ((pd ix).1.2.1 1))), (aa ix 2, .inl (y 1, 9, .inr (.inl ((pd ix).1.2.2 0)))), (aa ix 3, .inl (y 0, 6, .inl ((pd ix).1.2.1 2))), (aa ix 4, .inl (y 0, 6, .inl ((pd ix).1.2.1 3))), (aa ix 5, .inl (y 0, 16, .inl ((pd ix).1.2.1 4))), (aa ix 6, .inl (y 1, 5, .inr (.inl ((pd ix).1.2.2 1)))), (gg ix, .inl (y 0, 6, .inl ((pd ix).2.1))), (cg ix, .inl (y 0, 6, .inl ((pd ix).2.2)))] : va_W) ++ FG (QF y hh aa gg cg pd) ((List.range 7).erase ix))) (fg_out (F := QF y hh aa gg cg pd) (X := [(pl, .inr (4, [.ref st, .ref ga, .ref ac, .ref (ad 0), .int ds, .int tg])), (st, .inl (y 4, 7, .inr (.inr (.inr (.inr (fun j => some (hh j))))))), (ga, .inl (y 5, 7, .inr (.inr (.inr (.inr (fun j => some (gg j))))))), (ac, .inl (y 5, 7, .inr (.inr (.inr (.inr (fun j => some (cg j))))))), (ad 0, .inr (2, [.int (d.1 0), .int (d.1 1), .int (d.1 2), .int (d.1 3), .ref (ad 1), .int (d.1 4), .ref (ad 11), .ref (ad 12), .ref (ad 2), .ref (ad 3), .int (d.1 5), .int (d.1 6), .int (d.1 7), .int (d.1 8)]))]) (i := ix) (rm7 (by omega))) ?_
  refine j_locs (lv' := [(0, .ref pl), (1, .int (nI ix)), (2, .int 0)]) [1, 2, 0] rfl ?_
  refine j_lv (lv' := [(0, .ref pl), (1, .int (nI ix)), (2, .int (nI 0))]) rfl ?_
  refine lp_addDay C pl st ga ac ad d n4 hh aa gg cg pd ix ds tg h4 b4 hx (fun f => ?_) n4 0 _ (by omega)
  refine j_perm (ws' := (([(pl, .inr (4, [.ref st, .ref ga, .ref ac, .ref (ad 0), .int ds, .int tg])), (st, .inl (y 4, 7, .inr (.inr (.inr (.inr (fun j => some (hh j))))))), (ga, .inl (y 5, 7, .inr (.inr (.inr (.inr (fun j => some (gg j))))))), (ac, .inl (y 5, 7, .inr (.inr (.inr (.inr (fun j => some (cg j))))))), (ad 0, .inr (2, [.int (d.1 0), .int (d.1 1), .int (d.1 2), .int (d.1 3), .ref (ad 1), .int (d.1 4), .ref (ad 11), .ref (ad 12), .ref (ad 2), .ref (ad 3), .int (d.1 5), .int (d.1 6), .int (d.1 7), .int (d.1 8)]))] : va_W) ++ FG (QF y hh aa gg cg (va_up pd ix ((fun k => [(pd ix).1.1 0, (pd ix).1.1 1, (pd ix).1.1 2].getD k 0, fun k => [((pd ix).1.2.1 0), ((pd ix).1.2.1 1), ((pd ix).1.2.1 2), ((pd ix).1.2.1 3), ((pd ix).1.2.1 4)].getD k (fun _ => 0), fun k => [((pd ix).1.2.2 0), ((pd ix).1.2.2 1)].getD k (fun _ => 0)), f, ((pd ix).2.2)))) (List.range 7))) (qf_in (X := [(pl, .inr (4, [.ref st, .ref ga, .ref ac, .ref (ad 0), .int ds, .int tg])), (st, .inl (y 4, 7, .inr (.inr (.inr (.inr (fun j => some (hh j))))))), (ga, .inl (y 5, 7, .inr (.inr (.inr (.inr (fun j => some (gg j))))))), (ac, .inl (y 5, 7, .inr (.inr (.inr (.inr (fun j => some (cg j))))))), (ad 0, .inr (2, [.int (d.1 0), .int (d.1 1), .int (d.1 2), .int (d.1 3), .ref (ad 1), .int (d.1 4), .ref (ad 11), .ref (ad 12), .ref (ad 2), .ref (ad 3), .int (d.1 5), .int (d.1 6), .int (d.1 7), .int (d.1 8)]))]) (i := ix) (b := ((fun k => [(pd ix).1.1 0, (pd ix).1.1 1, (pd ix).1.1 2].getD k 0, fun k => [((pd ix).1.2.1 0), ((pd ix).1.2.1 1), ((pd ix).1.2.1 2), ((pd ix).1.2.1 3), ((pd ix).1.2.1 4)].getD k (fun _ => 0), fun k => [((pd ix).1.2.2 0), ((pd ix).1.2.2 1)].getD k (fun _ => 0)), f, ((pd ix).2.2))) (rm7 (by omega)) rn7) ?_
  generalize (va_up pd ix ((fun k => [(pd ix).1.1 0, (pd ix).1.1 1, (pd ix).1.1 2].getD k 0, fun k => [((pd ix).1.2.1 0), ((pd ix).1.2.1 1), ((pd ix).1.2.1 2), ((pd ix).1.2.1 3), ((pd ix).1.2.1 4)].getD k (fun _ => 0), fun k => [((pd ix).1.2.2 0), ((pd ix).1.2.2 1)].getD k (fun _ => 0)), f, ((pd ix).2.2))) = pd1
  exact j_vretW (pc := 41) C hr pd1 trivial rfl (by decide) (by decide) d_Plans_addDay_41
theorem d_Plans_choose_36 : decode prog_7_method_9_code 36 = .ok (.iload_n 3, 1) := by decide +kernel
theorem d_Plans_choose_37 : decode prog_7_method_9_code 37 = .ok (.aload_n 0, 1) := by decide +kernel
theorem d_Plans_choose_38 : decode prog_7_method_9_code 38 = .ok (.getfield 39, 3) := by decide +kernel
theorem gf_Plans_39 : GF "NineBoards$Plans" 39 4 4 := ⟨_, _, _, rfl, ci_Plans, by decide, (mt_2 (List.mem_of_getElem? (i := 216) rfl) rfl)⟩
theorem d_Plans_choose_41 : decode prog_7_method_9_code 41 = .ok (.if_icmp .ge 27, 3) := by decide +kernel
theorem d_Plans_choose_44 : decode prog_7_method_9_code 44 = .ok (.aload_n 0, 1) := by decide +kernel
theorem d_Plans_choose_45 : decode prog_7_method_9_code 45 = .ok (.getfield 22, 3) := by decide +kernel
theorem gf_Plans_22 : GF "NineBoards$Plans" 22 4 2 := ⟨_, _, _, rfl, ci_Plans, by decide, (mt_2 (List.mem_of_getElem? (i := 214) rfl) rfl)⟩
theorem d_Plans_choose_48 : decode prog_7_method_9_code 48 = .ok (.iload_n 1, 1) := by decide +kernel
theorem d_Plans_choose_49 : decode prog_7_method_9_code 49 = .ok (.aaload, 1) := by decide +kernel
theorem d_Plans_choose_50 : decode prog_7_method_9_code 50 = .ok (.iload_n 3, 1) := by decide +kernel
theorem d_Plans_choose_51 : decode prog_7_method_9_code 51 = .ok (.aload_n 0, 1) := by decide +kernel
theorem d_Plans_choose_52 : decode prog_7_method_9_code 52 = .ok (.getfield 22, 3) := by decide +kernel
theorem d_Plans_choose_55 : decode prog_7_method_9_code 55 = .ok (.iload_n 1, 1) := by decide +kernel
theorem d_Plans_choose_56 : decode prog_7_method_9_code 56 = .ok (.iconst 1, 1) := by decide +kernel
theorem d_Plans_choose_57 : decode prog_7_method_9_code 57 = .ok (.iadd, 1) := by decide +kernel
theorem d_Plans_choose_58 : decode prog_7_method_9_code 58 = .ok (.aaload, 1) := by decide +kernel
theorem d_Plans_choose_59 : decode prog_7_method_9_code 59 = .ok (.iload_n 3, 1) := by decide +kernel
theorem d_Plans_choose_60 : decode prog_7_method_9_code 60 = .ok (.iaload, 1) := by decide +kernel
theorem d_Plans_choose_61 : decode prog_7_method_9_code 61 = .ok (.iastore, 1) := by decide +kernel
theorem d_Plans_choose_62 : decode prog_7_method_9_code 62 = .ok (.iinc 3 1, 3) := by decide +kernel
theorem d_Plans_choose_65 : decode prog_7_method_9_code 65 = .ok (.goto (-29), 3) := by decide +kernel
theorem d_Plans_choose_0 : decode prog_7_method_9_code 0 = .ok (.iconst 0, 1) := by decide +kernel
theorem d_Plans_choose_1 : decode prog_7_method_9_code 1 = .ok (.istore_n 3, 1) := by decide +kernel
theorem d_Plans_choose_2 : decode prog_7_method_9_code 2 = .ok (.iload_n 3, 1) := by decide +kernel
theorem d_Plans_choose_3 : decode prog_7_method_9_code 3 = .ok (.bipush 6, 2) := by decide +kernel
theorem d_Plans_choose_5 : decode prog_7_method_9_code 5 = .ok (.if_icmp .ge 27, 3) := by decide +kernel
theorem d_Plans_choose_8 : decode prog_7_method_9_code 8 = .ok (.aload_n 0, 1) := by decide +kernel
theorem d_Plans_choose_9 : decode prog_7_method_9_code 9 = .ok (.getfield 19, 3) := by decide +kernel
theorem d_Plans_choose_12 : decode prog_7_method_9_code 12 = .ok (.iload_n 1, 1) := by decide +kernel
theorem d_Plans_choose_13 : decode prog_7_method_9_code 13 = .ok (.aaload, 1) := by decide +kernel
theorem d_Plans_choose_14 : decode prog_7_method_9_code 14 = .ok (.iload_n 3, 1) := by decide +kernel
theorem d_Plans_choose_15 : decode prog_7_method_9_code 15 = .ok (.aload_n 0, 1) := by decide +kernel
theorem d_Plans_choose_16 : decode prog_7_method_9_code 16 = .ok (.getfield 19, 3) := by decide +kernel
theorem d_Plans_choose_19 : decode prog_7_method_9_code 19 = .ok (.iload_n 1, 1) := by decide +kernel
theorem d_Plans_choose_20 : decode prog_7_method_9_code 20 = .ok (.iconst 1, 1) := by decide +kernel
theorem d_Plans_choose_21 : decode prog_7_method_9_code 21 = .ok (.iadd, 1) := by decide +kernel
theorem d_Plans_choose_22 : decode prog_7_method_9_code 22 = .ok (.aaload, 1) := by decide +kernel
theorem d_Plans_choose_23 : decode prog_7_method_9_code 23 = .ok (.iload_n 3, 1) := by decide +kernel
theorem d_Plans_choose_24 : decode prog_7_method_9_code 24 = .ok (.iaload, 1) := by decide +kernel
theorem d_Plans_choose_25 : decode prog_7_method_9_code 25 = .ok (.iastore, 1) := by decide +kernel
theorem d_Plans_choose_26 : decode prog_7_method_9_code 26 = .ok (.iinc 3 1, 3) := by decide +kernel
theorem d_Plans_choose_29 : decode prog_7_method_9_code 29 = .ok (.goto (-27), 3) := by decide +kernel
theorem d_Plans_choose_32 : decode prog_7_method_9_code 32 = .ok (.iload_n 1, 1) := by decide +kernel
theorem d_Plans_choose_33 : decode prog_7_method_9_code 33 = .ok (.iconst 1, 1) := by decide +kernel
theorem d_Plans_choose_34 : decode prog_7_method_9_code 34 = .ok (.iadd, 1) := by decide +kernel
theorem d_Plans_choose_35 : decode prog_7_method_9_code 35 = .ok (.istore_n 3, 1) := by decide +kernel
theorem d_Plans_choose_68 : decode prog_7_method_9_code 68 = .ok (.aload_n 0, 1) := by decide +kernel
theorem d_Plans_choose_69 : decode prog_7_method_9_code 69 = .ok (.getfield 22, 3) := by decide +kernel
theorem d_Plans_choose_72 : decode prog_7_method_9_code 72 = .ok (.iload_n 1, 1) := by decide +kernel
theorem d_Plans_choose_73 : decode prog_7_method_9_code 73 = .ok (.aaload, 1) := by decide +kernel
theorem d_Plans_choose_74 : decode prog_7_method_9_code 74 = .ok (.iload_n 1, 1) := by decide +kernel
theorem d_Plans_choose_75 : decode prog_7_method_9_code 75 = .ok (.iload_n 2, 1) := by decide +kernel
theorem d_Plans_choose_76 : decode prog_7_method_9_code 76 = .ok (.iastore, 1) := by decide +kernel
theorem d_Plans_choose_77 : decode prog_7_method_9_code 77 = .ok (.return_, 1) := by decide +kernel
set_option maxHeartbeats 4000000 in
set_option maxRecDepth 100000 in
theorem lp_choose {p : Program} {l : Launch} {e : Env} {s : State} {m : MethodId} {args : Array Value} {below : List Frame} {meth : Method} {c : Code} {Q : State → Prop} {D : va_G} {y : Nat → ClassId} {A : Nat → Prop} (C : Cx p s m args meth c D y A prog_7_method_9_code 4 "NineBoards$Plans" "choose") (pl : Nat) (st : Nat) (ga : Nat) (ac : Nat) (ad : Nat → Nat) (hh : Nat → Nat) (aa : Nat → Nat → Nat) (gg : Nat → Nat) (cg : Nat → Nat) (pd : Nat → PB) (ix : Nat) (N : Nat) (tg : Int32) (va : Int32) (g : Nat → Int32) (hx : ix < N) (hN : N ≤ 6) (kx : ∀ f : Nat → Int32, J p l e ({ frames := 0, cells := 0, slots := 0, locals := 0 } : Room) s m args below meth c Q D A 4 (([(pl, .inr (4, [.ref st, .ref ga, .ref ac, .ref (ad 0), .int (nI N), .int tg])), (st, .inl (y 4, 7, .inr (.inr (.inr (.inr (fun j => some (hh j))))))), (ga, .inl (y 5, 7, .inr (.inr (.inr (.inr (fun j => some (gg j))))))), (ac, .inl (y 5, 7, .inr (.inr (.inr (.inr (fun j => some (cg j))))))), (hh ix, .inr (7, [.int ((pd ix).1.1 0), .int ((pd ix).1.1 1), .int ((pd ix).1.1 2), .ref (aa ix 0), .ref (aa ix 1), .ref (aa ix 2), .ref (aa ix 3), .ref (aa ix 4), .ref (aa ix 5), .ref (aa ix 6)])), (aa ix 0, .inl (y 0, 9, .inl ((pd ix).1.2.1 0))), (aa ix 1, .inl (y 0, 9, .inl ((pd ix).1.2.1 1))), (aa ix 2, .inl (y 1, 9, .inr (.inl ((pd ix).1.2.2 0)))), (aa ix 3, .inl (y 0, 6, .inl ((pd ix).1.2.1 2))), (aa ix 4, .inl (y 0, 6, .inl ((pd ix).1.2.1 3))), (aa ix 5, .inl (y 0, 16, .inl ((pd ix).1.2.1 4))), (aa ix 6, .inl (y 1, 5, .inr (.inl ((pd ix).1.2.2 1)))), (gg ix, .inl (y 0, 6, .inl g)), (cg ix, .inl (y 0, 6, .inl f)), (hh (ix + 1), .inr (7, [.int ((pd (ix + 1)).1.1 0), .int ((pd (ix + 1)).1.1 1), .int ((pd (ix + 1)).1.1 2), .ref (aa (ix + 1) 0), .ref (aa (ix + 1) 1), .ref (aa (ix + 1) 2), .ref (aa (ix + 1) 3), .ref (aa (ix + 1) 4), .ref (aa (ix + 1) 5), .ref (aa (ix + 1) 6)])), (aa (ix + 1) 0, .inl (y 0, 9, .inl ((pd (ix + 1)).1.2.1 0))), (aa (ix + 1) 1, .inl (y 0, 9, .inl ((pd (ix + 1)).1.2.1 1))), (aa (ix + 1) 2, .inl (y 1, 9, .inr (.inl ((pd (ix + 1)).1.2.2 0)))), (aa (ix + 1) 3, .inl (y 0, 6, .inl ((pd (ix + 1)).1.2.1 2))), (aa (ix + 1) 4, .inl (y 0, 6, .inl ((pd (ix + 1)).1.2.1 3))), (aa (ix + 1) 5, .inl (y 0, 16, .inl ((pd (ix + 1)).1.2.1 4))), (aa (ix + 1) 6, .inl (y 1, 5, .inr (.inl ((pd (ix + 1)).1.2.2 1)))), (gg (ix + 1), .inl (y 0, 6, .inl ((pd (ix + 1)).2.1))), (cg (ix + 1), .inl (y 0, 6, .inl ((pd (ix + 1)).2.2)))] : va_W) ++ FG (QF y hh aa gg cg pd) (((List.range 7).erase ix).erase (ix + 1))) [(0, .ref pl), (1, .int (nI ix)), (2, .int va), (3, .int (nI N))] 0 0 68 []) : ∀ (n : Nat) (q : Nat) (f : Nat → Int32), (q + n = N) → J p l e ({ frames := 0, cells := 0, slots := 0, locals := 0 } : Room) s m args below meth c Q D A 4 (([(pl, .inr (4, [.ref st, .ref ga, .ref ac, .ref (ad 0), .int (nI N), .int tg])), (st, .inl (y 4, 7, .inr (.inr (.inr (.inr (fun j => some (hh j))))))), (ga, .inl (y 5, 7, .inr (.inr (.inr (.inr (fun j => some (gg j))))))), (ac, .inl (y 5, 7, .inr (.inr (.inr (.inr (fun j => some (cg j))))))), (hh ix, .inr (7, [.int ((pd ix).1.1 0), .int ((pd ix).1.1 1), .int ((pd ix).1.1 2), .ref (aa ix 0), .ref (aa ix 1), .ref (aa ix 2), .ref (aa ix 3), .ref (aa ix 4), .ref (aa ix 5), .ref (aa ix 6)])), (aa ix 0, .inl (y 0, 9, .inl ((pd ix).1.2.1 0))), (aa ix 1, .inl (y 0, 9, .inl ((pd ix).1.2.1 1))), (aa ix 2, .inl (y 1, 9, .inr (.inl ((pd ix).1.2.2 0)))), (aa ix 3, .inl (y 0, 6, .inl ((pd ix).1.2.1 2))), (aa ix 4, .inl (y 0, 6, .inl ((pd ix).1.2.1 3))), (aa ix 5, .inl (y 0, 16, .inl ((pd ix).1.2.1 4))), (aa ix 6, .inl (y 1, 5, .inr (.inl ((pd ix).1.2.2 1)))), (gg ix, .inl (y 0, 6, .inl g)), (cg ix, .inl (y 0, 6, .inl f)), (hh (ix + 1), .inr (7, [.int ((pd (ix + 1)).1.1 0), .int ((pd (ix + 1)).1.1 1), .int ((pd (ix + 1)).1.1 2), .ref (aa (ix + 1) 0), .ref (aa (ix + 1) 1), .ref (aa (ix + 1) 2), .ref (aa (ix + 1) 3), .ref (aa (ix + 1) 4), .ref (aa (ix + 1) 5), .ref (aa (ix + 1) 6)])), (aa (ix + 1) 0, .inl (y 0, 9, .inl ((pd (ix + 1)).1.2.1 0))), (aa (ix + 1) 1, .inl (y 0, 9, .inl ((pd (ix + 1)).1.2.1 1))), (aa (ix + 1) 2, .inl (y 1, 9, .inr (.inl ((pd (ix + 1)).1.2.2 0)))), (aa (ix + 1) 3, .inl (y 0, 6, .inl ((pd (ix + 1)).1.2.1 2))), (aa (ix + 1) 4, .inl (y 0, 6, .inl ((pd (ix + 1)).1.2.1 3))), (aa (ix + 1) 5, .inl (y 0, 16, .inl ((pd (ix + 1)).1.2.1 4))), (aa (ix + 1) 6, .inl (y 1, 5, .inr (.inl ((pd (ix + 1)).1.2.2 1)))), (gg (ix + 1), .inl (y 0, 6, .inl ((pd (ix + 1)).2.1))), (cg (ix + 1), .inl (y 0, 6, .inl ((pd (ix + 1)).2.2)))] : va_W) ++ FG (QF y hh aa gg cg pd) (((List.range 7).erase ix).erase (ix + 1))) [(0, .ref pl), (1, .int (nI ix)), (2, .int va), (3, .int (nI q))] 0 0 36 [] := by
  intro n
  induction n with
  | zero =>
    intro q f hq
    obtain rfl : q = N := by omega
    refine j_iload_n (pc := 36) C d_Plans_choose_36 rfl 3 rfl ?_
    refine j_aload_n (pc := 37) C d_Plans_choose_37 rfl 0 rfl ?_
    refine j_get (pc := 38) C gf_Plans_39 0 rfl rfl d_Plans_choose_38 ?_
    refine j_icmp_geT (pc := 41) C (tgt := 68) d_Plans_choose_41 (by decide) (Int32.le_refl _) ?_
    exact kx _
  | succ n ih =>
    intro q f hq
    refine j_iload_n (pc := 36) C d_Plans_choose_36 rfl 3 rfl ?_
    refine j_aload_n (pc := 37) C d_Plans_choose_37 rfl 0 rfl ?_
    refine j_get (pc := 38) C gf_Plans_39 0 rfl rfl d_Plans_choose_38 ?_
    refine j_icmp_geF (pc := 41) C (tgt := 68) d_Plans_choose_41 (by decide) (nI_ge (by omega) (by omega)) ?_
    refine j_aload_n (pc := 44) C d_Plans_choose_44 rfl 0 rfl ?_
    refine j_get (pc := 45) C gf_Plans_22 0 rfl rfl d_Plans_choose_45 ?_
    refine j_iload_n (pc := 48) C d_Plans_choose_48 rfl 1 rfl ?_
    refine j_aaldI (pc := 49) C 3 rfl (v := cg ix) (vp_in_nI (by omega) (by decide)) (by rw [nI_clamp (by omega)]) d_Plans_choose_49 ?_
    refine j_iload_n (pc := 50) C d_Plans_choose_50 rfl 3 rfl ?_
    refine j_aload_n (pc := 51) C d_Plans_choose_51 rfl 0 rfl ?_
    refine j_get (pc := 52) C gf_Plans_22 0 rfl rfl d_Plans_choose_52 ?_
    refine j_iload_n (pc := 55) C d_Plans_choose_55 rfl 1 rfl ?_
    refine j_iconst (pc := 56) C (v := 1) d_Plans_choose_56 (by decide) ?_
    refine j_iadd (pc := 57) C (v := nI (ix + 1)) d_Plans_choose_57 (nI_1 _) ?_
    refine j_aaldI (pc := 58) C 3 rfl (v := cg (ix + 1)) (vp_in_nI (by omega) (by decide)) (by rw [nI_clamp (by omega)]) d_Plans_choose_58 ?_
    refine j_iload_n (pc := 59) C d_Plans_choose_59 rfl 3 rfl ?_
    refine j_iald (pc := 60) C 23 rfl (v := ((pd (ix + 1)).2.2) (nI q).toNatClampNeg) (vp_in_nI (by omega) (by decide)) rfl d_Plans_choose_60 ?_
    refine j_iast (pc := 61) C 13 rfl (ws' := (([(pl, .inr (4, [.ref st, .ref ga, .ref ac, .ref (ad 0), .int (nI N), .int tg])), (st, .inl (y 4, 7, .inr (.inr (.inr (.inr (fun j => some (hh j))))))), (ga, .inl (y 5, 7, .inr (.inr (.inr (.inr (fun j => some (gg j))))))), (ac, .inl (y 5, 7, .inr (.inr (.inr (.inr (fun j => some (cg j))))))), (hh ix, .inr (7, [.int ((pd ix).1.1 0), .int ((pd ix).1.1 1), .int ((pd ix).1.1 2), .ref (aa ix 0), .ref (aa ix 1), .ref (aa ix 2), .ref (aa ix 3), .ref (aa ix 4), .ref (aa ix 5), .ref (aa ix 6)])), (aa ix 0, .inl (y 0, 9, .inl ((pd ix).1.2.1 0))), (aa ix 1, .inl (y 0, 9, .inl ((pd ix).1.2.1 1))), (aa ix 2, .inl (y 1, 9, .inr (.inl ((pd ix).1.2.2 0)))), (aa ix 3, .inl (y 0, 6, .inl ((pd ix).1.2.1 2))), (aa ix 4, .inl (y 0, 6, .inl ((pd ix).1.2.1 3))), (aa ix 5, .inl (y 0, 16, .inl ((pd ix).1.2.1 4))), (aa ix 6, .inl (y 1, 5, .inr (.inl ((pd ix).1.2.2 1)))), (gg ix, .inl (y 0, 6, .inl g)), (cg ix, .inl (y 0, 6, .inl (upd f (nI q).toNatClampNeg (((pd (ix + 1)).2.2) (nI q).toNatClampNeg)))), (hh (ix + 1), .inr (7, [.int ((pd (ix + 1)).1.1 0), .int ((pd (ix + 1)).1.1 1), .int ((pd (ix + 1)).1.1 2), .ref (aa (ix + 1) 0), .ref (aa (ix + 1) 1), .ref (aa (ix + 1) 2), .ref (aa (ix + 1) 3), .ref (aa (ix + 1) 4), .ref (aa (ix + 1) 5), .ref (aa (ix + 1) 6)])), (aa (ix + 1) 0, .inl (y 0, 9, .inl ((pd (ix + 1)).1.2.1 0))), (aa (ix + 1) 1, .inl (y 0, 9, .inl ((pd (ix + 1)).1.2.1 1))), (aa (ix + 1) 2, .inl (y 1, 9, .inr (.inl ((pd (ix + 1)).1.2.2 0)))), (aa (ix + 1) 3, .inl (y 0, 6, .inl ((pd (ix + 1)).1.2.1 2))), (aa (ix + 1) 4, .inl (y 0, 6, .inl ((pd (ix + 1)).1.2.1 3))), (aa (ix + 1) 5, .inl (y 0, 16, .inl ((pd (ix + 1)).1.2.1 4))), (aa (ix + 1) 6, .inl (y 1, 5, .inr (.inl ((pd (ix + 1)).1.2.2 1)))), (gg (ix + 1), .inl (y 0, 6, .inl ((pd (ix + 1)).2.1))), (cg (ix + 1), .inl (y 0, 6, .inl ((pd (ix + 1)).2.2)))] : va_W) ++ FG (QF y hh aa gg cg pd) (((List.range 7).erase ix).erase (ix + 1)))) (vp_in_nI (by omega) (by decide)) rfl d_Plans_choose_61 ?_
    refine j_iinc (pc := 62) C (v := nI (q + 1)) (lv' := [(3, .int (nI (q + 1))), (0, .ref pl), (1, .int (nI ix)), (2, .int va)]) d_Plans_choose_62 3 rfl (nI_1 _) (by decide) rfl ?_
    refine j_goto (pc := 65) C (tgt := 36) d_Plans_choose_65 (by decide) ?_
    refine j_locs (lv' := [(0, .ref pl), (1, .int (nI ix)), (2, .int va), (3, .int (nI (q + 1)))]) [1, 2, 3, 0] rfl ?_
    exact ih (q + 1) _ (by omega)
set_option maxHeartbeats 4000000 in
set_option maxRecDepth 100000 in
theorem c_choose (l : Launch) (D : va_G) (y : Nat → ClassId) (pl : Nat) (st : Nat) (ga : Nat) (ac : Nat) (ad : Nat → Nat) (hh : Nat → Nat) (aa : Nat → Nat → Nat) (gg : Nat → Nat) (cg : Nat → Nat) (pd : Nat → PB) (ix : Nat) (N : Nat) (tg : Int32) (va : Int32) (hx : ix < N) (hN : N ≤ 6) : CT l D y ⟨"NineBoards$Plans", "choose", "(II)V"⟩ prog_7_method_9_code 4 none ({ frames := 0, cells := 0, slots := 0, locals := 0 } : Room) [.ref pl, .int (nI ix), .int va] (([(pl, .inr (4, [.ref st, .ref ga, .ref ac, .ref (ad 0), .int (nI N), .int tg])), (st, .inl (y 4, 7, .inr (.inr (.inr (.inr (fun j => some (hh j))))))), (ga, .inl (y 5, 7, .inr (.inr (.inr (.inr (fun j => some (gg j))))))), (ac, .inl (y 5, 7, .inr (.inr (.inr (.inr (fun j => some (cg j)))))))] : va_W) ++ FG (QF y hh aa gg cg pd) (List.range 7)) (QV D (([(pl, .inr (4, [.ref st, .ref ga, .ref ac, .ref (ad 0), .int (nI N), .int tg])), (st, .inl (y 4, 7, .inr (.inr (.inr (.inr (fun j => some (hh j))))))), (ga, .inl (y 5, 7, .inr (.inr (.inr (.inr (fun j => some (gg j))))))), (ac, .inl (y 5, 7, .inr (.inr (.inr (.inr (fun j => some (cg j)))))))] : va_W) ++ FG (QF y hh aa gg cg pd) (List.range 7)) (fun (_ : Nat → PB) => True) (fun u => (([(pl, .inr (4, [.ref st, .ref ga, .ref ac, .ref (ad 0), .int (nI N), .int tg])), (st, .inl (y 4, 7, .inr (.inr (.inr (.inr (fun j => some (hh j))))))), (ga, .inl (y 5, 7, .inr (.inr (.inr (.inr (fun j => some (gg j))))))), (ac, .inl (y 5, 7, .inr (.inr (.inr (.inr (fun j => some (cg j)))))))] : va_W) ++ FG (QF y hh aa gg cg u) (List.range 7)))) := by
  refine CT.of (by decide) (nb rfl) ?_
  intro p e s m args below meth c C hr
  refine j_lv (lv' := [(0, .ref pl), (1, .int (nI ix)), (2, .int va)]) rfl ?_
  refine j_perm (ws' := (([(pl, .inr (4, [.ref st, .ref ga, .ref ac, .ref (ad 0), .int (nI N), .int tg])), (st, .inl (y 4, 7, .inr (.inr (.inr (.inr (fun j => some (hh j))))))), (ga, .inl (y 5, 7, .inr (.inr (.inr (.inr (fun j => some (gg j))))))), (ac, .inl (y 5, 7, .inr (.inr (.inr (.inr (fun j => some (cg j))))))), (hh ix, .inr (7, [.int ((pd ix).1.1 0), .int ((pd ix).1.1 1), .int ((pd ix).1.1 2), .ref (aa ix 0), .ref (aa ix 1), .ref (aa ix 2), .ref (aa ix 3), .ref (aa ix 4), .ref (aa ix 5), .ref (aa ix 6)])), (aa ix 0, .inl (y 0, 9, .inl ((pd ix).1.2.1 0))), (aa ix 1, .inl (y 0, 9, .inl ((pd ix).1.2.1 1))), (aa ix 2, .inl (y 1, 9, .inr (.inl ((pd ix).1.2.2 0)))), (aa ix 3, .inl (y 0, 6, .inl ((pd ix).1.2.1 2))), (aa ix 4, .inl (y 0, 6, .inl ((pd ix).1.2.1 3))), (aa ix 5, .inl (y 0, 16, .inl ((pd ix).1.2.1 4))), (aa ix 6, .inl (y 1, 5, .inr (.inl ((pd ix).1.2.2 1)))), (gg ix, .inl (y 0, 6, .inl ((pd ix).2.1))), (cg ix, .inl (y 0, 6, .inl ((pd ix).2.2)))] : va_W) ++ FG (QF y hh aa gg cg pd) ((List.range 7).erase ix))) (fg_out (F := QF y hh aa gg cg pd) (X := [(pl, .inr (4, [.ref st, .ref ga, .ref ac, .ref (ad 0), .int (nI N), .int tg])), (st, .inl (y 4, 7, .inr (.inr (.inr (.inr (fun j => some (hh j))))))), (ga, .inl (y 5, 7, .inr (.inr (.inr (.inr (fun j => some (gg j))))))), (ac, .inl (y 5, 7, .inr (.inr (.inr (.inr (fun j => some (cg j)))))))]) (i := ix) (rm7 (by omega))) ?_
  refine j_perm (ws' := (([(pl, .inr (4, [.ref st, .ref ga, .ref ac, .ref (ad 0), .int (nI N), .int tg])), (st, .inl (y 4, 7, .inr (.inr (.inr (.inr (fun j => some (hh j))))))), (ga, .inl (y 5, 7, .inr (.inr (.inr (.inr (fun j => some (gg j))))))), (ac, .inl (y 5, 7, .inr (.inr (.inr (.inr (fun j => some (cg j))))))), (hh ix, .inr (7, [.int ((pd ix).1.1 0), .int ((pd ix).1.1 1), .int ((pd ix).1.1 2), .ref (aa ix 0), .ref (aa ix 1), .ref (aa ix 2), .ref (aa ix 3), .ref (aa ix 4), .ref (aa ix 5), .ref (aa ix 6)])), (aa ix 0, .inl (y 0, 9, .inl ((pd ix).1.2.1 0))), (aa ix 1, .inl (y 0, 9, .inl ((pd ix).1.2.1 1))), (aa ix 2, .inl (y 1, 9, .inr (.inl ((pd ix).1.2.2 0)))), (aa ix 3, .inl (y 0, 6, .inl ((pd ix).1.2.1 2))), (aa ix 4, .inl (y 0, 6, .inl ((pd ix).1.2.1 3))), (aa ix 5, .inl (y 0, 16, .inl ((pd ix).1.2.1 4))), (aa ix 6, .inl (y 1, 5, .inr (.inl ((pd ix).1.2.2 1)))), (gg ix, .inl (y 0, 6, .inl ((pd ix).2.1))), (cg ix, .inl (y 0, 6, .inl ((pd ix).2.2))), (hh (ix + 1), .inr (7, [.int ((pd (ix + 1)).1.1 0), .int ((pd (ix + 1)).1.1 1), .int ((pd (ix + 1)).1.1 2), .ref (aa (ix + 1) 0), .ref (aa (ix + 1) 1), .ref (aa (ix + 1) 2), .ref (aa (ix + 1) 3), .ref (aa (ix + 1) 4), .ref (aa (ix + 1) 5), .ref (aa (ix + 1) 6)])), (aa (ix + 1) 0, .inl (y 0, 9, .inl ((pd (ix + 1)).1.2.1 0))), (aa (ix + 1) 1, .inl (y 0, 9, .inl ((pd (ix + 1)).1.2.1 1))), (aa (ix + 1) 2, .inl (y 1, 9, .inr (.inl ((pd (ix + 1)).1.2.2 0)))), (aa (ix + 1) 3, .inl (y 0, 6, .inl ((pd (ix + 1)).1.2.1 2))), (aa (ix + 1) 4, .inl (y 0, 6, .inl ((pd (ix + 1)).1.2.1 3))), (aa (ix + 1) 5, .inl (y 0, 16, .inl ((pd (ix + 1)).1.2.1 4))), (aa (ix + 1) 6, .inl (y 1, 5, .inr (.inl ((pd (ix + 1)).1.2.2 1)))), (gg (ix + 1), .inl (y 0, 6, .inl ((pd (ix + 1)).2.1))), (cg (ix + 1), .inl (y 0, 6, .inl ((pd (ix + 1)).2.2)))] : va_W) ++ FG (QF y hh aa gg cg pd) (((List.range 7).erase ix).erase (ix + 1)))) (fg_out (F := QF y hh aa gg cg pd) (X := [(pl, .inr (4, [.ref st, .ref ga, .ref ac, .ref (ad 0), .int (nI N), .int tg])), (st, .inl (y 4, 7, .inr (.inr (.inr (.inr (fun j => some (hh j))))))), (ga, .inl (y 5, 7, .inr (.inr (.inr (.inr (fun j => some (gg j))))))), (ac, .inl (y 5, 7, .inr (.inr (.inr (.inr (fun j => some (cg j))))))), (hh ix, .inr (7, [.int ((pd ix).1.1 0), .int ((pd ix).1.1 1), .int ((pd ix).1.1 2), .ref (aa ix 0), .ref (aa ix 1), .ref (aa ix 2), .ref (aa ix 3), .ref (aa ix 4), .ref (aa ix 5), .ref (aa ix 6)])), (aa ix 0, .inl (y 0, 9, .inl ((pd ix).1.2.1 0))), (aa ix 1, .inl (y 0, 9, .inl ((pd ix).1.2.1 1))), (aa ix 2, .inl (y 1, 9, .inr (.inl ((pd ix).1.2.2 0)))), (aa ix 3, .inl (y 0, 6, .inl ((pd ix).1.2.1 2))), (aa ix 4, .inl (y 0, 6, .inl ((pd ix).1.2.1 3))), (aa ix 5, .inl (y 0, 16, .inl ((pd ix).1.2.1 4))), (aa ix 6, .inl (y 1, 5, .inr (.inl ((pd ix).1.2.2 1)))), (gg ix, .inl (y 0, 6, .inl ((pd ix).2.1))), (cg ix, .inl (y 0, 6, .inl ((pd ix).2.2)))]) (i := ix + 1) (rm7e (by omega))) ?_
  refine j_iconst (pc := 0) C (v := 0) d_Plans_choose_0 (by decide) ?_
  refine j_istore_n (pc := 1) C (lv' := [(3, .int 0), (0, .ref pl), (1, .int (nI ix)), (2, .int va)]) d_Plans_choose_1 rfl (by decide) rfl ?_
  refine j_iload_n (pc := 2) C d_Plans_choose_2 rfl 0 rfl ?_
  refine j_bipush (pc := 3) C (v := 6) d_Plans_choose_3 (by decide) ?_
  refine j_icmp_geF (pc := 5) C (tgt := 32) d_Plans_choose_5 (by decide) (by decide) ?_
  refine j_aload_n (pc := 8) C d_Plans_choose_8 rfl 1 rfl ?_
  refine j_get (pc := 9) C gf_Plans_19 0 rfl rfl d_Plans_choose_9 ?_
  refine j_iload_n (pc := 12) C d_Plans_choose_12 rfl 2 rfl ?_
  refine j_aaldI (pc := 13) C 2 rfl (v := gg ix) (vp_in_nI (by omega) (by decide)) (by rw [nI_clamp (by omega)]) d_Plans_choose_13 ?_
  refine j_iload_n (pc := 14) C d_Plans_choose_14 rfl 0 rfl ?_
  refine j_aload_n (pc := 15) C d_Plans_choose_15 rfl 1 rfl ?_
  refine j_get (pc := 16) C gf_Plans_19 0 rfl rfl d_Plans_choose_16 ?_
  refine j_iload_n (pc := 19) C d_Plans_choose_19 rfl 2 rfl ?_
  refine j_iconst (pc := 20) C (v := 1) d_Plans_choose_20 (by decide) ?_
  refine j_iadd (pc := 21) C (v := nI (ix + 1)) d_Plans_choose_21 (nI_1 _) ?_
  refine j_aaldI (pc := 22) C 2 rfl (v := gg (ix + 1)) (vp_in_nI (by omega) (by decide)) (by rw [nI_clamp (by omega)]) d_Plans_choose_22 ?_
  refine j_iload_n (pc := 23) C d_Plans_choose_23 rfl 0 rfl ?_
  refine j_iald (pc := 24) C 22 rfl (v := ((pd (ix + 1)).2.1) 0) (vin (by decide)) rfl d_Plans_choose_24 ?_
  refine j_iast (pc := 25) C 12 rfl (ws' := (([(pl, .inr (4, [.ref st, .ref ga, .ref ac, .ref (ad 0), .int (nI N), .int tg])), (st, .inl (y 4, 7, .inr (.inr (.inr (.inr (fun j => some (hh j))))))), (ga, .inl (y 5, 7, .inr (.inr (.inr (.inr (fun j => some (gg j))))))), (ac, .inl (y 5, 7, .inr (.inr (.inr (.inr (fun j => some (cg j))))))), (hh ix, .inr (7, [.int ((pd ix).1.1 0), .int ((pd ix).1.1 1), .int ((pd ix).1.1 2), .ref (aa ix 0), .ref (aa ix 1), .ref (aa ix 2), .ref (aa ix 3), .ref (aa ix 4), .ref (aa ix 5), .ref (aa ix 6)])), (aa ix 0, .inl (y 0, 9, .inl ((pd ix).1.2.1 0))), (aa ix 1, .inl (y 0, 9, .inl ((pd ix).1.2.1 1))), (aa ix 2, .inl (y 1, 9, .inr (.inl ((pd ix).1.2.2 0)))), (aa ix 3, .inl (y 0, 6, .inl ((pd ix).1.2.1 2))), (aa ix 4, .inl (y 0, 6, .inl ((pd ix).1.2.1 3))), (aa ix 5, .inl (y 0, 16, .inl ((pd ix).1.2.1 4))), (aa ix 6, .inl (y 1, 5, .inr (.inl ((pd ix).1.2.2 1)))), (gg ix, .inl (y 0, 6, .inl (upd ((pd ix).2.1) 0 (((pd (ix + 1)).2.1) 0)))), (cg ix, .inl (y 0, 6, .inl ((pd ix).2.2))), (hh (ix + 1), .inr (7, [.int ((pd (ix + 1)).1.1 0), .int ((pd (ix + 1)).1.1 1), .int ((pd (ix + 1)).1.1 2), .ref (aa (ix + 1) 0), .ref (aa (ix + 1) 1), .ref (aa (ix + 1) 2), .ref (aa (ix + 1) 3), .ref (aa (ix + 1) 4), .ref (aa (ix + 1) 5), .ref (aa (ix + 1) 6)])), (aa (ix + 1) 0, .inl (y 0, 9, .inl ((pd (ix + 1)).1.2.1 0))), (aa (ix + 1) 1, .inl (y 0, 9, .inl ((pd (ix + 1)).1.2.1 1))), (aa (ix + 1) 2, .inl (y 1, 9, .inr (.inl ((pd (ix + 1)).1.2.2 0)))), (aa (ix + 1) 3, .inl (y 0, 6, .inl ((pd (ix + 1)).1.2.1 2))), (aa (ix + 1) 4, .inl (y 0, 6, .inl ((pd (ix + 1)).1.2.1 3))), (aa (ix + 1) 5, .inl (y 0, 16, .inl ((pd (ix + 1)).1.2.1 4))), (aa (ix + 1) 6, .inl (y 1, 5, .inr (.inl ((pd (ix + 1)).1.2.2 1)))), (gg (ix + 1), .inl (y 0, 6, .inl ((pd (ix + 1)).2.1))), (cg (ix + 1), .inl (y 0, 6, .inl ((pd (ix + 1)).2.2)))] : va_W) ++ FG (QF y hh aa gg cg pd) (((List.range 7).erase ix).erase (ix + 1)))) (vin (by decide)) rfl d_Plans_choose_25 ?_
  refine j_iinc (pc := 26) C (v := 1) (lv' := [(3, .int 1), (0, .ref pl), (1, .int (nI ix)), (2, .int va)]) d_Plans_choose_26 0 rfl (by decide) (by decide) rfl ?_
  refine j_goto (pc := 29) C (tgt := 2) d_Plans_choose_29 (by decide) ?_
  refine j_iload_n (pc := 2) C d_Plans_choose_2 rfl 0 rfl ?_
  refine j_bipush (pc := 3) C (v := 6) d_Plans_choose_3 (by decide) ?_
  refine j_icmp_geF (pc := 5) C (tgt := 32) d_Plans_choose_5 (by decide) (by decide) ?_
  refine j_aload_n (pc := 8) C d_Plans_choose_8 rfl 1 rfl ?_
  refine j_get (pc := 9) C gf_Plans_19 0 rfl rfl d_Plans_choose_9 ?_
  refine j_iload_n (pc := 12) C d_Plans_choose_12 rfl 2 rfl ?_
  refine j_aaldI (pc := 13) C 2 rfl (v := gg ix) (vp_in_nI (by omega) (by decide)) (by rw [nI_clamp (by omega)]) d_Plans_choose_13 ?_
  refine j_iload_n (pc := 14) C d_Plans_choose_14 rfl 0 rfl ?_
  refine j_aload_n (pc := 15) C d_Plans_choose_15 rfl 1 rfl ?_
  refine j_get (pc := 16) C gf_Plans_19 0 rfl rfl d_Plans_choose_16 ?_
  refine j_iload_n (pc := 19) C d_Plans_choose_19 rfl 2 rfl ?_
  refine j_iconst (pc := 20) C (v := 1) d_Plans_choose_20 (by decide) ?_
  refine j_iadd (pc := 21) C (v := nI (ix + 1)) d_Plans_choose_21 (nI_1 _) ?_
  refine j_aaldI (pc := 22) C 2 rfl (v := gg (ix + 1)) (vp_in_nI (by omega) (by decide)) (by rw [nI_clamp (by omega)]) d_Plans_choose_22 ?_
  refine j_iload_n (pc := 23) C d_Plans_choose_23 rfl 0 rfl ?_
  refine j_iald (pc := 24) C 22 rfl (v := ((pd (ix + 1)).2.1) 1) (vin (by decide)) rfl d_Plans_choose_24 ?_
  refine j_iast (pc := 25) C 12 rfl (ws' := (([(pl, .inr (4, [.ref st, .ref ga, .ref ac, .ref (ad 0), .int (nI N), .int tg])), (st, .inl (y 4, 7, .inr (.inr (.inr (.inr (fun j => some (hh j))))))), (ga, .inl (y 5, 7, .inr (.inr (.inr (.inr (fun j => some (gg j))))))), (ac, .inl (y 5, 7, .inr (.inr (.inr (.inr (fun j => some (cg j))))))), (hh ix, .inr (7, [.int ((pd ix).1.1 0), .int ((pd ix).1.1 1), .int ((pd ix).1.1 2), .ref (aa ix 0), .ref (aa ix 1), .ref (aa ix 2), .ref (aa ix 3), .ref (aa ix 4), .ref (aa ix 5), .ref (aa ix 6)])), (aa ix 0, .inl (y 0, 9, .inl ((pd ix).1.2.1 0))), (aa ix 1, .inl (y 0, 9, .inl ((pd ix).1.2.1 1))), (aa ix 2, .inl (y 1, 9, .inr (.inl ((pd ix).1.2.2 0)))), (aa ix 3, .inl (y 0, 6, .inl ((pd ix).1.2.1 2))), (aa ix 4, .inl (y 0, 6, .inl ((pd ix).1.2.1 3))), (aa ix 5, .inl (y 0, 16, .inl ((pd ix).1.2.1 4))), (aa ix 6, .inl (y 1, 5, .inr (.inl ((pd ix).1.2.2 1)))), (gg ix, .inl (y 0, 6, .inl (upd (upd ((pd ix).2.1) 0 (((pd (ix + 1)).2.1) 0)) 1 (((pd (ix + 1)).2.1) 1)))), (cg ix, .inl (y 0, 6, .inl ((pd ix).2.2))), (hh (ix + 1), .inr (7, [.int ((pd (ix + 1)).1.1 0), .int ((pd (ix + 1)).1.1 1), .int ((pd (ix + 1)).1.1 2), .ref (aa (ix + 1) 0), .ref (aa (ix + 1) 1), .ref (aa (ix + 1) 2), .ref (aa (ix + 1) 3), .ref (aa (ix + 1) 4), .ref (aa (ix + 1) 5), .ref (aa (ix + 1) 6)])), (aa (ix + 1) 0, .inl (y 0, 9, .inl ((pd (ix + 1)).1.2.1 0))), (aa (ix + 1) 1, .inl (y 0, 9, .inl ((pd (ix + 1)).1.2.1 1))), (aa (ix + 1) 2, .inl (y 1, 9, .inr (.inl ((pd (ix + 1)).1.2.2 0)))), (aa (ix + 1) 3, .inl (y 0, 6, .inl ((pd (ix + 1)).1.2.1 2))), (aa (ix + 1) 4, .inl (y 0, 6, .inl ((pd (ix + 1)).1.2.1 3))), (aa (ix + 1) 5, .inl (y 0, 16, .inl ((pd (ix + 1)).1.2.1 4))), (aa (ix + 1) 6, .inl (y 1, 5, .inr (.inl ((pd (ix + 1)).1.2.2 1)))), (gg (ix + 1), .inl (y 0, 6, .inl ((pd (ix + 1)).2.1))), (cg (ix + 1), .inl (y 0, 6, .inl ((pd (ix + 1)).2.2)))] : va_W) ++ FG (QF y hh aa gg cg pd) (((List.range 7).erase ix).erase (ix + 1)))) (vin (by decide)) rfl d_Plans_choose_25 ?_
  refine j_iinc (pc := 26) C (v := 2) (lv' := [(3, .int 2), (0, .ref pl), (1, .int (nI ix)), (2, .int va)]) d_Plans_choose_26 0 rfl (by decide) (by decide) rfl ?_
  refine j_goto (pc := 29) C (tgt := 2) d_Plans_choose_29 (by decide) ?_
  refine j_iload_n (pc := 2) C d_Plans_choose_2 rfl 0 rfl ?_
  refine j_bipush (pc := 3) C (v := 6) d_Plans_choose_3 (by decide) ?_
  refine j_icmp_geF (pc := 5) C (tgt := 32) d_Plans_choose_5 (by decide) (by decide) ?_
  refine j_aload_n (pc := 8) C d_Plans_choose_8 rfl 1 rfl ?_
  refine j_get (pc := 9) C gf_Plans_19 0 rfl rfl d_Plans_choose_9 ?_
  refine j_iload_n (pc := 12) C d_Plans_choose_12 rfl 2 rfl ?_
  refine j_aaldI (pc := 13) C 2 rfl (v := gg ix) (vp_in_nI (by omega) (by decide)) (by rw [nI_clamp (by omega)]) d_Plans_choose_13 ?_
  refine j_iload_n (pc := 14) C d_Plans_choose_14 rfl 0 rfl ?_
  refine j_aload_n (pc := 15) C d_Plans_choose_15 rfl 1 rfl ?_
  refine j_get (pc := 16) C gf_Plans_19 0 rfl rfl d_Plans_choose_16 ?_
  refine j_iload_n (pc := 19) C d_Plans_choose_19 rfl 2 rfl ?_
  refine j_iconst (pc := 20) C (v := 1) d_Plans_choose_20 (by decide) ?_
  refine j_iadd (pc := 21) C (v := nI (ix + 1)) d_Plans_choose_21 (nI_1 _) ?_
  refine j_aaldI (pc := 22) C 2 rfl (v := gg (ix + 1)) (vp_in_nI (by omega) (by decide)) (by rw [nI_clamp (by omega)]) d_Plans_choose_22 ?_
  refine j_iload_n (pc := 23) C d_Plans_choose_23 rfl 0 rfl ?_
  refine j_iald (pc := 24) C 22 rfl (v := ((pd (ix + 1)).2.1) 2) (vin (by decide)) rfl d_Plans_choose_24 ?_
  refine j_iast (pc := 25) C 12 rfl (ws' := (([(pl, .inr (4, [.ref st, .ref ga, .ref ac, .ref (ad 0), .int (nI N), .int tg])), (st, .inl (y 4, 7, .inr (.inr (.inr (.inr (fun j => some (hh j))))))), (ga, .inl (y 5, 7, .inr (.inr (.inr (.inr (fun j => some (gg j))))))), (ac, .inl (y 5, 7, .inr (.inr (.inr (.inr (fun j => some (cg j))))))), (hh ix, .inr (7, [.int ((pd ix).1.1 0), .int ((pd ix).1.1 1), .int ((pd ix).1.1 2), .ref (aa ix 0), .ref (aa ix 1), .ref (aa ix 2), .ref (aa ix 3), .ref (aa ix 4), .ref (aa ix 5), .ref (aa ix 6)])), (aa ix 0, .inl (y 0, 9, .inl ((pd ix).1.2.1 0))), (aa ix 1, .inl (y 0, 9, .inl ((pd ix).1.2.1 1))), (aa ix 2, .inl (y 1, 9, .inr (.inl ((pd ix).1.2.2 0)))), (aa ix 3, .inl (y 0, 6, .inl ((pd ix).1.2.1 2))), (aa ix 4, .inl (y 0, 6, .inl ((pd ix).1.2.1 3))), (aa ix 5, .inl (y 0, 16, .inl ((pd ix).1.2.1 4))), (aa ix 6, .inl (y 1, 5, .inr (.inl ((pd ix).1.2.2 1)))), (gg ix, .inl (y 0, 6, .inl (upd (upd (upd ((pd ix).2.1) 0 (((pd (ix + 1)).2.1) 0)) 1 (((pd (ix + 1)).2.1) 1)) 2 (((pd (ix + 1)).2.1) 2)))), (cg ix, .inl (y 0, 6, .inl ((pd ix).2.2))), (hh (ix + 1), .inr (7, [.int ((pd (ix + 1)).1.1 0), .int ((pd (ix + 1)).1.1 1), .int ((pd (ix + 1)).1.1 2), .ref (aa (ix + 1) 0), .ref (aa (ix + 1) 1), .ref (aa (ix + 1) 2), .ref (aa (ix + 1) 3), .ref (aa (ix + 1) 4), .ref (aa (ix + 1) 5), .ref (aa (ix + 1) 6)])), (aa (ix + 1) 0, .inl (y 0, 9, .inl ((pd (ix + 1)).1.2.1 0))), (aa (ix + 1) 1, .inl (y 0, 9, .inl ((pd (ix + 1)).1.2.1 1))), (aa (ix + 1) 2, .inl (y 1, 9, .inr (.inl ((pd (ix + 1)).1.2.2 0)))), (aa (ix + 1) 3, .inl (y 0, 6, .inl ((pd (ix + 1)).1.2.1 2))), (aa (ix + 1) 4, .inl (y 0, 6, .inl ((pd (ix + 1)).1.2.1 3))), (aa (ix + 1) 5, .inl (y 0, 16, .inl ((pd (ix + 1)).1.2.1 4))), (aa (ix + 1) 6, .inl (y 1, 5, .inr (.inl ((pd (ix + 1)).1.2.2 1)))), (gg (ix + 1), .inl (y 0, 6, .inl ((pd (ix + 1)).2.1))), (cg (ix + 1), .inl (y 0, 6, .inl ((pd (ix + 1)).2.2)))] : va_W) ++ FG (QF y hh aa gg cg pd) (((List.range 7).erase ix).erase (ix + 1)))) (vin (by decide)) rfl d_Plans_choose_25 ?_
  refine j_iinc (pc := 26) C (v := 3) (lv' := [(3, .int 3), (0, .ref pl), (1, .int (nI ix)), (2, .int va)]) d_Plans_choose_26 0 rfl (by decide) (by decide) rfl ?_
  refine j_goto (pc := 29) C (tgt := 2) d_Plans_choose_29 (by decide) ?_
  refine j_iload_n (pc := 2) C d_Plans_choose_2 rfl 0 rfl ?_
  refine j_bipush (pc := 3) C (v := 6) d_Plans_choose_3 (by decide) ?_
  refine j_icmp_geF (pc := 5) C (tgt := 32) d_Plans_choose_5 (by decide) (by decide) ?_
  refine j_aload_n (pc := 8) C d_Plans_choose_8 rfl 1 rfl ?_
  refine j_get (pc := 9) C gf_Plans_19 0 rfl rfl d_Plans_choose_9 ?_
  refine j_iload_n (pc := 12) C d_Plans_choose_12 rfl 2 rfl ?_
  refine j_aaldI (pc := 13) C 2 rfl (v := gg ix) (vp_in_nI (by omega) (by decide)) (by rw [nI_clamp (by omega)]) d_Plans_choose_13 ?_
  refine j_iload_n (pc := 14) C d_Plans_choose_14 rfl 0 rfl ?_
  refine j_aload_n (pc := 15) C d_Plans_choose_15 rfl 1 rfl ?_
  refine j_get (pc := 16) C gf_Plans_19 0 rfl rfl d_Plans_choose_16 ?_
  refine j_iload_n (pc := 19) C d_Plans_choose_19 rfl 2 rfl ?_
  refine j_iconst (pc := 20) C (v := 1) d_Plans_choose_20 (by decide) ?_
  refine j_iadd (pc := 21) C (v := nI (ix + 1)) d_Plans_choose_21 (nI_1 _) ?_
  refine j_aaldI (pc := 22) C 2 rfl (v := gg (ix + 1)) (vp_in_nI (by omega) (by decide)) (by rw [nI_clamp (by omega)]) d_Plans_choose_22 ?_
  refine j_iload_n (pc := 23) C d_Plans_choose_23 rfl 0 rfl ?_
  refine j_iald (pc := 24) C 22 rfl (v := ((pd (ix + 1)).2.1) 3) (vin (by decide)) rfl d_Plans_choose_24 ?_
  refine j_iast (pc := 25) C 12 rfl (ws' := (([(pl, .inr (4, [.ref st, .ref ga, .ref ac, .ref (ad 0), .int (nI N), .int tg])), (st, .inl (y 4, 7, .inr (.inr (.inr (.inr (fun j => some (hh j))))))), (ga, .inl (y 5, 7, .inr (.inr (.inr (.inr (fun j => some (gg j))))))), (ac, .inl (y 5, 7, .inr (.inr (.inr (.inr (fun j => some (cg j))))))), (hh ix, .inr (7, [.int ((pd ix).1.1 0), .int ((pd ix).1.1 1), .int ((pd ix).1.1 2), .ref (aa ix 0), .ref (aa ix 1), .ref (aa ix 2), .ref (aa ix 3), .ref (aa ix 4), .ref (aa ix 5), .ref (aa ix 6)])), (aa ix 0, .inl (y 0, 9, .inl ((pd ix).1.2.1 0))), (aa ix 1, .inl (y 0, 9, .inl ((pd ix).1.2.1 1))), (aa ix 2, .inl (y 1, 9, .inr (.inl ((pd ix).1.2.2 0)))), (aa ix 3, .inl (y 0, 6, .inl ((pd ix).1.2.1 2))), (aa ix 4, .inl (y 0, 6, .inl ((pd ix).1.2.1 3))), (aa ix 5, .inl (y 0, 16, .inl ((pd ix).1.2.1 4))), (aa ix 6, .inl (y 1, 5, .inr (.inl ((pd ix).1.2.2 1)))), (gg ix, .inl (y 0, 6, .inl (upd (upd (upd (upd ((pd ix).2.1) 0 (((pd (ix + 1)).2.1) 0)) 1 (((pd (ix + 1)).2.1) 1)) 2 (((pd (ix + 1)).2.1) 2)) 3 (((pd (ix + 1)).2.1) 3)))), (cg ix, .inl (y 0, 6, .inl ((pd ix).2.2))), (hh (ix + 1), .inr (7, [.int ((pd (ix + 1)).1.1 0), .int ((pd (ix + 1)).1.1 1), .int ((pd (ix + 1)).1.1 2), .ref (aa (ix + 1) 0), .ref (aa (ix + 1) 1), .ref (aa (ix + 1) 2), .ref (aa (ix + 1) 3), .ref (aa (ix + 1) 4), .ref (aa (ix + 1) 5), .ref (aa (ix + 1) 6)])), (aa (ix + 1) 0, .inl (y 0, 9, .inl ((pd (ix + 1)).1.2.1 0))), (aa (ix + 1) 1, .inl (y 0, 9, .inl ((pd (ix + 1)).1.2.1 1))), (aa (ix + 1) 2, .inl (y 1, 9, .inr (.inl ((pd (ix + 1)).1.2.2 0)))), (aa (ix + 1) 3, .inl (y 0, 6, .inl ((pd (ix + 1)).1.2.1 2))), (aa (ix + 1) 4, .inl (y 0, 6, .inl ((pd (ix + 1)).1.2.1 3))), (aa (ix + 1) 5, .inl (y 0, 16, .inl ((pd (ix + 1)).1.2.1 4))), (aa (ix + 1) 6, .inl (y 1, 5, .inr (.inl ((pd (ix + 1)).1.2.2 1)))), (gg (ix + 1), .inl (y 0, 6, .inl ((pd (ix + 1)).2.1))), (cg (ix + 1), .inl (y 0, 6, .inl ((pd (ix + 1)).2.2)))] : va_W) ++ FG (QF y hh aa gg cg pd) (((List.range 7).erase ix).erase (ix + 1)))) (vin (by decide)) rfl d_Plans_choose_25 ?_
  refine j_iinc (pc := 26) C (v := 4) (lv' := [(3, .int 4), (0, .ref pl), (1, .int (nI ix)), (2, .int va)]) d_Plans_choose_26 0 rfl (by decide) (by decide) rfl ?_
  refine j_goto (pc := 29) C (tgt := 2) d_Plans_choose_29 (by decide) ?_
  refine j_iload_n (pc := 2) C d_Plans_choose_2 rfl 0 rfl ?_
  refine j_bipush (pc := 3) C (v := 6) d_Plans_choose_3 (by decide) ?_
  refine j_icmp_geF (pc := 5) C (tgt := 32) d_Plans_choose_5 (by decide) (by decide) ?_
  refine j_aload_n (pc := 8) C d_Plans_choose_8 rfl 1 rfl ?_
  refine j_get (pc := 9) C gf_Plans_19 0 rfl rfl d_Plans_choose_9 ?_
  refine j_iload_n (pc := 12) C d_Plans_choose_12 rfl 2 rfl ?_
  refine j_aaldI (pc := 13) C 2 rfl (v := gg ix) (vp_in_nI (by omega) (by decide)) (by rw [nI_clamp (by omega)]) d_Plans_choose_13 ?_
  refine j_iload_n (pc := 14) C d_Plans_choose_14 rfl 0 rfl ?_
  refine j_aload_n (pc := 15) C d_Plans_choose_15 rfl 1 rfl ?_
  refine j_get (pc := 16) C gf_Plans_19 0 rfl rfl d_Plans_choose_16 ?_
  refine j_iload_n (pc := 19) C d_Plans_choose_19 rfl 2 rfl ?_
  refine j_iconst (pc := 20) C (v := 1) d_Plans_choose_20 (by decide) ?_
  refine j_iadd (pc := 21) C (v := nI (ix + 1)) d_Plans_choose_21 (nI_1 _) ?_
  refine j_aaldI (pc := 22) C 2 rfl (v := gg (ix + 1)) (vp_in_nI (by omega) (by decide)) (by rw [nI_clamp (by omega)]) d_Plans_choose_22 ?_
  refine j_iload_n (pc := 23) C d_Plans_choose_23 rfl 0 rfl ?_
  refine j_iald (pc := 24) C 22 rfl (v := ((pd (ix + 1)).2.1) 4) (vin (by decide)) rfl d_Plans_choose_24 ?_
  refine j_iast (pc := 25) C 12 rfl (ws' := (([(pl, .inr (4, [.ref st, .ref ga, .ref ac, .ref (ad 0), .int (nI N), .int tg])), (st, .inl (y 4, 7, .inr (.inr (.inr (.inr (fun j => some (hh j))))))), (ga, .inl (y 5, 7, .inr (.inr (.inr (.inr (fun j => some (gg j))))))), (ac, .inl (y 5, 7, .inr (.inr (.inr (.inr (fun j => some (cg j))))))), (hh ix, .inr (7, [.int ((pd ix).1.1 0), .int ((pd ix).1.1 1), .int ((pd ix).1.1 2), .ref (aa ix 0), .ref (aa ix 1), .ref (aa ix 2), .ref (aa ix 3), .ref (aa ix 4), .ref (aa ix 5), .ref (aa ix 6)])), (aa ix 0, .inl (y 0, 9, .inl ((pd ix).1.2.1 0))), (aa ix 1, .inl (y 0, 9, .inl ((pd ix).1.2.1 1))), (aa ix 2, .inl (y 1, 9, .inr (.inl ((pd ix).1.2.2 0)))), (aa ix 3, .inl (y 0, 6, .inl ((pd ix).1.2.1 2))), (aa ix 4, .inl (y 0, 6, .inl ((pd ix).1.2.1 3))), (aa ix 5, .inl (y 0, 16, .inl ((pd ix).1.2.1 4))), (aa ix 6, .inl (y 1, 5, .inr (.inl ((pd ix).1.2.2 1)))), (gg ix, .inl (y 0, 6, .inl (upd (upd (upd (upd (upd ((pd ix).2.1) 0 (((pd (ix + 1)).2.1) 0)) 1 (((pd (ix + 1)).2.1) 1)) 2 (((pd (ix + 1)).2.1) 2)) 3 (((pd (ix + 1)).2.1) 3)) 4 (((pd (ix + 1)).2.1) 4)))), (cg ix, .inl (y 0, 6, .inl ((pd ix).2.2))), (hh (ix + 1), .inr (7, [.int ((pd (ix + 1)).1.1 0), .int ((pd (ix + 1)).1.1 1), .int ((pd (ix + 1)).1.1 2), .ref (aa (ix + 1) 0), .ref (aa (ix + 1) 1), .ref (aa (ix + 1) 2), .ref (aa (ix + 1) 3), .ref (aa (ix + 1) 4), .ref (aa (ix + 1) 5), .ref (aa (ix + 1) 6)])), (aa (ix + 1) 0, .inl (y 0, 9, .inl ((pd (ix + 1)).1.2.1 0))), (aa (ix + 1) 1, .inl (y 0, 9, .inl ((pd (ix + 1)).1.2.1 1))), (aa (ix + 1) 2, .inl (y 1, 9, .inr (.inl ((pd (ix + 1)).1.2.2 0)))), (aa (ix + 1) 3, .inl (y 0, 6, .inl ((pd (ix + 1)).1.2.1 2))), (aa (ix + 1) 4, .inl (y 0, 6, .inl ((pd (ix + 1)).1.2.1 3))), (aa (ix + 1) 5, .inl (y 0, 16, .inl ((pd (ix + 1)).1.2.1 4))), (aa (ix + 1) 6, .inl (y 1, 5, .inr (.inl ((pd (ix + 1)).1.2.2 1)))), (gg (ix + 1), .inl (y 0, 6, .inl ((pd (ix + 1)).2.1))), (cg (ix + 1), .inl (y 0, 6, .inl ((pd (ix + 1)).2.2)))] : va_W) ++ FG (QF y hh aa gg cg pd) (((List.range 7).erase ix).erase (ix + 1)))) (vin (by decide)) rfl d_Plans_choose_25 ?_
  refine j_iinc (pc := 26) C (v := 5) (lv' := [(3, .int 5), (0, .ref pl), (1, .int (nI ix)), (2, .int va)]) d_Plans_choose_26 0 rfl (by decide) (by decide) rfl ?_
  refine j_goto (pc := 29) C (tgt := 2) d_Plans_choose_29 (by decide) ?_
  refine j_iload_n (pc := 2) C d_Plans_choose_2 rfl 0 rfl ?_
  refine j_bipush (pc := 3) C (v := 6) d_Plans_choose_3 (by decide) ?_
  refine j_icmp_geF (pc := 5) C (tgt := 32) d_Plans_choose_5 (by decide) (by decide) ?_
  refine j_aload_n (pc := 8) C d_Plans_choose_8 rfl 1 rfl ?_
  refine j_get (pc := 9) C gf_Plans_19 0 rfl rfl d_Plans_choose_9 ?_
  refine j_iload_n (pc := 12) C d_Plans_choose_12 rfl 2 rfl ?_
  refine j_aaldI (pc := 13) C 2 rfl (v := gg ix) (vp_in_nI (by omega) (by decide)) (by rw [nI_clamp (by omega)]) d_Plans_choose_13 ?_
  refine j_iload_n (pc := 14) C d_Plans_choose_14 rfl 0 rfl ?_
  refine j_aload_n (pc := 15) C d_Plans_choose_15 rfl 1 rfl ?_
  refine j_get (pc := 16) C gf_Plans_19 0 rfl rfl d_Plans_choose_16 ?_
  refine j_iload_n (pc := 19) C d_Plans_choose_19 rfl 2 rfl ?_
  refine j_iconst (pc := 20) C (v := 1) d_Plans_choose_20 (by decide) ?_
  refine j_iadd (pc := 21) C (v := nI (ix + 1)) d_Plans_choose_21 (nI_1 _) ?_
  refine j_aaldI (pc := 22) C 2 rfl (v := gg (ix + 1)) (vp_in_nI (by omega) (by decide)) (by rw [nI_clamp (by omega)]) d_Plans_choose_22 ?_
  refine j_iload_n (pc := 23) C d_Plans_choose_23 rfl 0 rfl ?_
  refine j_iald (pc := 24) C 22 rfl (v := ((pd (ix + 1)).2.1) 5) (vin (by decide)) rfl d_Plans_choose_24 ?_
  refine j_iast (pc := 25) C 12 rfl (ws' := (([(pl, .inr (4, [.ref st, .ref ga, .ref ac, .ref (ad 0), .int (nI N), .int tg])), (st, .inl (y 4, 7, .inr (.inr (.inr (.inr (fun j => some (hh j))))))), (ga, .inl (y 5, 7, .inr (.inr (.inr (.inr (fun j => some (gg j))))))), (ac, .inl (y 5, 7, .inr (.inr (.inr (.inr (fun j => some (cg j))))))), (hh ix, .inr (7, [.int ((pd ix).1.1 0), .int ((pd ix).1.1 1), .int ((pd ix).1.1 2), .ref (aa ix 0), .ref (aa ix 1), .ref (aa ix 2), .ref (aa ix 3), .ref (aa ix 4), .ref (aa ix 5), .ref (aa ix 6)])), (aa ix 0, .inl (y 0, 9, .inl ((pd ix).1.2.1 0))), (aa ix 1, .inl (y 0, 9, .inl ((pd ix).1.2.1 1))), (aa ix 2, .inl (y 1, 9, .inr (.inl ((pd ix).1.2.2 0)))), (aa ix 3, .inl (y 0, 6, .inl ((pd ix).1.2.1 2))), (aa ix 4, .inl (y 0, 6, .inl ((pd ix).1.2.1 3))), (aa ix 5, .inl (y 0, 16, .inl ((pd ix).1.2.1 4))), (aa ix 6, .inl (y 1, 5, .inr (.inl ((pd ix).1.2.2 1)))), (gg ix, .inl (y 0, 6, .inl (upd (upd (upd (upd (upd (upd ((pd ix).2.1) 0 (((pd (ix + 1)).2.1) 0)) 1 (((pd (ix + 1)).2.1) 1)) 2 (((pd (ix + 1)).2.1) 2)) 3 (((pd (ix + 1)).2.1) 3)) 4 (((pd (ix + 1)).2.1) 4)) 5 (((pd (ix + 1)).2.1) 5)))), (cg ix, .inl (y 0, 6, .inl ((pd ix).2.2))), (hh (ix + 1), .inr (7, [.int ((pd (ix + 1)).1.1 0), .int ((pd (ix + 1)).1.1 1), .int ((pd (ix + 1)).1.1 2), .ref (aa (ix + 1) 0), .ref (aa (ix + 1) 1), .ref (aa (ix + 1) 2), .ref (aa (ix + 1) 3), .ref (aa (ix + 1) 4), .ref (aa (ix + 1) 5), .ref (aa (ix + 1) 6)])), (aa (ix + 1) 0, .inl (y 0, 9, .inl ((pd (ix + 1)).1.2.1 0))), (aa (ix + 1) 1, .inl (y 0, 9, .inl ((pd (ix + 1)).1.2.1 1))), (aa (ix + 1) 2, .inl (y 1, 9, .inr (.inl ((pd (ix + 1)).1.2.2 0)))), (aa (ix + 1) 3, .inl (y 0, 6, .inl ((pd (ix + 1)).1.2.1 2))), (aa (ix + 1) 4, .inl (y 0, 6, .inl ((pd (ix + 1)).1.2.1 3))), (aa (ix + 1) 5, .inl (y 0, 16, .inl ((pd (ix + 1)).1.2.1 4))), (aa (ix + 1) 6, .inl (y 1, 5, .inr (.inl ((pd (ix + 1)).1.2.2 1)))), (gg (ix + 1), .inl (y 0, 6, .inl ((pd (ix + 1)).2.1))), (cg (ix + 1), .inl (y 0, 6, .inl ((pd (ix + 1)).2.2)))] : va_W) ++ FG (QF y hh aa gg cg pd) (((List.range 7).erase ix).erase (ix + 1)))) (vin (by decide)) rfl d_Plans_choose_25 ?_
  refine j_iinc (pc := 26) C (v := 6) (lv' := [(3, .int 6), (0, .ref pl), (1, .int (nI ix)), (2, .int va)]) d_Plans_choose_26 0 rfl (by decide) (by decide) rfl ?_
  refine j_goto (pc := 29) C (tgt := 2) d_Plans_choose_29 (by decide) ?_
  refine j_iload_n (pc := 2) C d_Plans_choose_2 rfl 0 rfl ?_
  refine j_bipush (pc := 3) C (v := 6) d_Plans_choose_3 (by decide) ?_
  refine j_icmp_geT (pc := 5) C (tgt := 32) d_Plans_choose_5 (by decide) (by decide) ?_
  refine j_iload_n (pc := 32) C d_Plans_choose_32 rfl 2 rfl ?_
  refine j_iconst (pc := 33) C (v := 1) d_Plans_choose_33 (by decide) ?_
  refine j_iadd (pc := 34) C (v := nI (ix + 1)) d_Plans_choose_34 (nI_1 _) ?_
  refine j_istore_n (pc := 35) C (lv' := [(3, .int (nI (ix + 1))), (0, .ref pl), (1, .int (nI ix)), (2, .int va)]) d_Plans_choose_35 rfl (by decide) rfl ?_
  refine j_locs (lv' := [(0, .ref pl), (1, .int (nI ix)), (2, .int va), (3, .int (nI (ix + 1)))]) [1, 2, 3, 0] rfl ?_
  refine lp_choose C pl st ga ac ad hh aa gg cg pd ix N tg va (upd (upd (upd (upd (upd (upd ((pd ix).2.1) 0 (((pd (ix + 1)).2.1) 0)) 1 (((pd (ix + 1)).2.1) 1)) 2 (((pd (ix + 1)).2.1) 2)) 3 (((pd (ix + 1)).2.1) 3)) 4 (((pd (ix + 1)).2.1) 4)) 5 (((pd (ix + 1)).2.1) 5)) hx hN (fun f => ?_) (N - (ix + 1)) (ix + 1) _ (by omega)
  refine j_aload_n (pc := 68) C d_Plans_choose_68 rfl 0 rfl ?_
  refine j_get (pc := 69) C gf_Plans_22 0 rfl rfl d_Plans_choose_69 ?_
  refine j_iload_n (pc := 72) C d_Plans_choose_72 rfl 1 rfl ?_
  refine j_aaldI (pc := 73) C 3 rfl (v := cg ix) (vp_in_nI (by omega) (by decide)) (by rw [nI_clamp (by omega)]) d_Plans_choose_73 ?_
  refine j_iload_n (pc := 74) C d_Plans_choose_74 rfl 1 rfl ?_
  refine j_iload_n (pc := 75) C d_Plans_choose_75 rfl 2 rfl ?_
  refine j_iast (pc := 76) C 13 rfl (ws' := (([(pl, .inr (4, [.ref st, .ref ga, .ref ac, .ref (ad 0), .int (nI N), .int tg])), (st, .inl (y 4, 7, .inr (.inr (.inr (.inr (fun j => some (hh j))))))), (ga, .inl (y 5, 7, .inr (.inr (.inr (.inr (fun j => some (gg j))))))), (ac, .inl (y 5, 7, .inr (.inr (.inr (.inr (fun j => some (cg j))))))), (hh ix, .inr (7, [.int ((pd ix).1.1 0), .int ((pd ix).1.1 1), .int ((pd ix).1.1 2), .ref (aa ix 0), .ref (aa ix 1), .ref (aa ix 2), .ref (aa ix 3), .ref (aa ix 4), .ref (aa ix 5), .ref (aa ix 6)])), (aa ix 0, .inl (y 0, 9, .inl ((pd ix).1.2.1 0))), (aa ix 1, .inl (y 0, 9, .inl ((pd ix).1.2.1 1))), (aa ix 2, .inl (y 1, 9, .inr (.inl ((pd ix).1.2.2 0)))), (aa ix 3, .inl (y 0, 6, .inl ((pd ix).1.2.1 2))), (aa ix 4, .inl (y 0, 6, .inl ((pd ix).1.2.1 3))), (aa ix 5, .inl (y 0, 16, .inl ((pd ix).1.2.1 4))), (aa ix 6, .inl (y 1, 5, .inr (.inl ((pd ix).1.2.2 1)))), (gg ix, .inl (y 0, 6, .inl (upd (upd (upd (upd (upd (upd ((pd ix).2.1) 0 (((pd (ix + 1)).2.1) 0)) 1 (((pd (ix + 1)).2.1) 1)) 2 (((pd (ix + 1)).2.1) 2)) 3 (((pd (ix + 1)).2.1) 3)) 4 (((pd (ix + 1)).2.1) 4)) 5 (((pd (ix + 1)).2.1) 5)))), (cg ix, .inl (y 0, 6, .inl (upd f (nI ix).toNatClampNeg va))), (hh (ix + 1), .inr (7, [.int ((pd (ix + 1)).1.1 0), .int ((pd (ix + 1)).1.1 1), .int ((pd (ix + 1)).1.1 2), .ref (aa (ix + 1) 0), .ref (aa (ix + 1) 1), .ref (aa (ix + 1) 2), .ref (aa (ix + 1) 3), .ref (aa (ix + 1) 4), .ref (aa (ix + 1) 5), .ref (aa (ix + 1) 6)])), (aa (ix + 1) 0, .inl (y 0, 9, .inl ((pd (ix + 1)).1.2.1 0))), (aa (ix + 1) 1, .inl (y 0, 9, .inl ((pd (ix + 1)).1.2.1 1))), (aa (ix + 1) 2, .inl (y 1, 9, .inr (.inl ((pd (ix + 1)).1.2.2 0)))), (aa (ix + 1) 3, .inl (y 0, 6, .inl ((pd (ix + 1)).1.2.1 2))), (aa (ix + 1) 4, .inl (y 0, 6, .inl ((pd (ix + 1)).1.2.1 3))), (aa (ix + 1) 5, .inl (y 0, 16, .inl ((pd (ix + 1)).1.2.1 4))), (aa (ix + 1) 6, .inl (y 1, 5, .inr (.inl ((pd (ix + 1)).1.2.2 1)))), (gg (ix + 1), .inl (y 0, 6, .inl ((pd (ix + 1)).2.1))), (cg (ix + 1), .inl (y 0, 6, .inl ((pd (ix + 1)).2.2)))] : va_W) ++ FG (QF y hh aa gg cg pd) (((List.range 7).erase ix).erase (ix + 1)))) (vp_in_nI (by omega) (by decide)) rfl d_Plans_choose_76 ?_
  refine j_perm (ws' := (([(pl, .inr (4, [.ref st, .ref ga, .ref ac, .ref (ad 0), .int (nI N), .int tg])), (st, .inl (y 4, 7, .inr (.inr (.inr (.inr (fun j => some (hh j))))))), (ga, .inl (y 5, 7, .inr (.inr (.inr (.inr (fun j => some (gg j))))))), (ac, .inl (y 5, 7, .inr (.inr (.inr (.inr (fun j => some (cg j))))))), (hh ix, .inr (7, [.int ((pd ix).1.1 0), .int ((pd ix).1.1 1), .int ((pd ix).1.1 2), .ref (aa ix 0), .ref (aa ix 1), .ref (aa ix 2), .ref (aa ix 3), .ref (aa ix 4), .ref (aa ix 5), .ref (aa ix 6)])), (aa ix 0, .inl (y 0, 9, .inl ((pd ix).1.2.1 0))), (aa ix 1, .inl (y 0, 9, .inl ((pd ix).1.2.1 1))), (aa ix 2, .inl (y 1, 9, .inr (.inl ((pd ix).1.2.2 0)))), (aa ix 3, .inl (y 0, 6, .inl ((pd ix).1.2.1 2))), (aa ix 4, .inl (y 0, 6, .inl ((pd ix).1.2.1 3))), (aa ix 5, .inl (y 0, 16, .inl ((pd ix).1.2.1 4))), (aa ix 6, .inl (y 1, 5, .inr (.inl ((pd ix).1.2.2 1)))), (gg ix, .inl (y 0, 6, .inl (upd (upd (upd (upd (upd (upd ((pd ix).2.1) 0 (((pd (ix + 1)).2.1) 0)) 1 (((pd (ix + 1)).2.1) 1)) 2 (((pd (ix + 1)).2.1) 2)) 3 (((pd (ix + 1)).2.1) 3)) 4 (((pd (ix + 1)).2.1) 4)) 5 (((pd (ix + 1)).2.1) 5)))), (cg ix, .inl (y 0, 6, .inl (upd f (nI ix).toNatClampNeg va)))] : va_W) ++ FG (QF y hh aa gg cg (va_up pd (ix + 1) ((fun k => [(pd (ix + 1)).1.1 0, (pd (ix + 1)).1.1 1, (pd (ix + 1)).1.1 2].getD k 0, fun k => [((pd (ix + 1)).1.2.1 0), ((pd (ix + 1)).1.2.1 1), ((pd (ix + 1)).1.2.1 2), ((pd (ix + 1)).1.2.1 3), ((pd (ix + 1)).1.2.1 4)].getD k (fun _ => 0), fun k => [((pd (ix + 1)).1.2.2 0), ((pd (ix + 1)).1.2.2 1)].getD k (fun _ => 0)), ((pd (ix + 1)).2.1), ((pd (ix + 1)).2.2)))) ((List.range 7).erase ix))) (qf_in (X := [(pl, .inr (4, [.ref st, .ref ga, .ref ac, .ref (ad 0), .int (nI N), .int tg])), (st, .inl (y 4, 7, .inr (.inr (.inr (.inr (fun j => some (hh j))))))), (ga, .inl (y 5, 7, .inr (.inr (.inr (.inr (fun j => some (gg j))))))), (ac, .inl (y 5, 7, .inr (.inr (.inr (.inr (fun j => some (cg j))))))), (hh ix, .inr (7, [.int ((pd ix).1.1 0), .int ((pd ix).1.1 1), .int ((pd ix).1.1 2), .ref (aa ix 0), .ref (aa ix 1), .ref (aa ix 2), .ref (aa ix 3), .ref (aa ix 4), .ref (aa ix 5), .ref (aa ix 6)])), (aa ix 0, .inl (y 0, 9, .inl ((pd ix).1.2.1 0))), (aa ix 1, .inl (y 0, 9, .inl ((pd ix).1.2.1 1))), (aa ix 2, .inl (y 1, 9, .inr (.inl ((pd ix).1.2.2 0)))), (aa ix 3, .inl (y 0, 6, .inl ((pd ix).1.2.1 2))), (aa ix 4, .inl (y 0, 6, .inl ((pd ix).1.2.1 3))), (aa ix 5, .inl (y 0, 16, .inl ((pd ix).1.2.1 4))), (aa ix 6, .inl (y 1, 5, .inr (.inl ((pd ix).1.2.2 1)))), (gg ix, .inl (y 0, 6, .inl (upd (upd (upd (upd (upd (upd ((pd ix).2.1) 0 (((pd (ix + 1)).2.1) 0)) 1 (((pd (ix + 1)).2.1) 1)) 2 (((pd (ix + 1)).2.1) 2)) 3 (((pd (ix + 1)).2.1) 3)) 4 (((pd (ix + 1)).2.1) 4)) 5 (((pd (ix + 1)).2.1) 5)))), (cg ix, .inl (y 0, 6, .inl (upd f (nI ix).toNatClampNeg va)))]) (i := ix + 1) (b := ((fun k => [(pd (ix + 1)).1.1 0, (pd (ix + 1)).1.1 1, (pd (ix + 1)).1.1 2].getD k 0, fun k => [((pd (ix + 1)).1.2.1 0), ((pd (ix + 1)).1.2.1 1), ((pd (ix + 1)).1.2.1 2), ((pd (ix + 1)).1.2.1 3), ((pd (ix + 1)).1.2.1 4)].getD k (fun _ => 0), fun k => [((pd (ix + 1)).1.2.2 0), ((pd (ix + 1)).1.2.2 1)].getD k (fun _ => 0)), ((pd (ix + 1)).2.1), ((pd (ix + 1)).2.2))) (rm7e (by omega)) rn7e) ?_
  generalize (va_up pd (ix + 1) ((fun k => [(pd (ix + 1)).1.1 0, (pd (ix + 1)).1.1 1, (pd (ix + 1)).1.1 2].getD k 0, fun k => [((pd (ix + 1)).1.2.1 0), ((pd (ix + 1)).1.2.1 1), ((pd (ix + 1)).1.2.1 2), ((pd (ix + 1)).1.2.1 3), ((pd (ix + 1)).1.2.1 4)].getD k (fun _ => 0), fun k => [((pd (ix + 1)).1.2.2 0), ((pd (ix + 1)).1.2.2 1)].getD k (fun _ => 0)), ((pd (ix + 1)).2.1), ((pd (ix + 1)).2.2))) = pd1
  refine j_perm (ws' := (([(pl, .inr (4, [.ref st, .ref ga, .ref ac, .ref (ad 0), .int (nI N), .int tg])), (st, .inl (y 4, 7, .inr (.inr (.inr (.inr (fun j => some (hh j))))))), (ga, .inl (y 5, 7, .inr (.inr (.inr (.inr (fun j => some (gg j))))))), (ac, .inl (y 5, 7, .inr (.inr (.inr (.inr (fun j => some (cg j)))))))] : va_W) ++ FG (QF y hh aa gg cg (va_up pd1 ix ((fun k => [(pd ix).1.1 0, (pd ix).1.1 1, (pd ix).1.1 2].getD k 0, fun k => [((pd ix).1.2.1 0), ((pd ix).1.2.1 1), ((pd ix).1.2.1 2), ((pd ix).1.2.1 3), ((pd ix).1.2.1 4)].getD k (fun _ => 0), fun k => [((pd ix).1.2.2 0), ((pd ix).1.2.2 1)].getD k (fun _ => 0)), (upd (upd (upd (upd (upd (upd ((pd ix).2.1) 0 (((pd (ix + 1)).2.1) 0)) 1 (((pd (ix + 1)).2.1) 1)) 2 (((pd (ix + 1)).2.1) 2)) 3 (((pd (ix + 1)).2.1) 3)) 4 (((pd (ix + 1)).2.1) 4)) 5 (((pd (ix + 1)).2.1) 5)), (upd f (nI ix).toNatClampNeg va)))) (List.range 7))) (qf_in (X := [(pl, .inr (4, [.ref st, .ref ga, .ref ac, .ref (ad 0), .int (nI N), .int tg])), (st, .inl (y 4, 7, .inr (.inr (.inr (.inr (fun j => some (hh j))))))), (ga, .inl (y 5, 7, .inr (.inr (.inr (.inr (fun j => some (gg j))))))), (ac, .inl (y 5, 7, .inr (.inr (.inr (.inr (fun j => some (cg j)))))))]) (i := ix) (b := ((fun k => [(pd ix).1.1 0, (pd ix).1.1 1, (pd ix).1.1 2].getD k 0, fun k => [((pd ix).1.2.1 0), ((pd ix).1.2.1 1), ((pd ix).1.2.1 2), ((pd ix).1.2.1 3), ((pd ix).1.2.1 4)].getD k (fun _ => 0), fun k => [((pd ix).1.2.2 0), ((pd ix).1.2.2 1)].getD k (fun _ => 0)), (upd (upd (upd (upd (upd (upd ((pd ix).2.1) 0 (((pd (ix + 1)).2.1) 0)) 1 (((pd (ix + 1)).2.1) 1)) 2 (((pd (ix + 1)).2.1) 2)) 3 (((pd (ix + 1)).2.1) 3)) 4 (((pd (ix + 1)).2.1) 4)) 5 (((pd (ix + 1)).2.1) 5)), (upd f (nI ix).toNatClampNeg va))) (rm7 (by omega)) rn7) ?_
  generalize (va_up pd1 ix ((fun k => [(pd ix).1.1 0, (pd ix).1.1 1, (pd ix).1.1 2].getD k 0, fun k => [((pd ix).1.2.1 0), ((pd ix).1.2.1 1), ((pd ix).1.2.1 2), ((pd ix).1.2.1 3), ((pd ix).1.2.1 4)].getD k (fun _ => 0), fun k => [((pd ix).1.2.2 0), ((pd ix).1.2.2 1)].getD k (fun _ => 0)), (upd (upd (upd (upd (upd (upd ((pd ix).2.1) 0 (((pd (ix + 1)).2.1) 0)) 1 (((pd (ix + 1)).2.1) 1)) 2 (((pd (ix + 1)).2.1) 2)) 3 (((pd (ix + 1)).2.1) 3)) 4 (((pd (ix + 1)).2.1) 4)) 5 (((pd (ix + 1)).2.1) 5)), (upd f (nI ix).toNatClampNeg va))) = pd2
  exact j_vretW (pc := 77) C hr pd2 trivial rfl (by decide) (by decide) d_Plans_choose_77
