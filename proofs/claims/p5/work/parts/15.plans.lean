abbrev PB : Type := SD × (Nat → Int32) × (Nat → Int32)
/-- what belongs to one day of a plan -/
abbrev QF (y : Nat → ClassId) (hh : Nat → Nat) (aa : Nat → Nat → Nat) (gg cg : Nat → Nat) (pd : Nat → PB) (j : Nat) : va_W := SC y (hh j) (aa j) (pd j).1 ++ ([(gg j, .inl (y 0, 6, .inl (pd j).2.1)), (cg j, .inl (y 0, 6, .inl (pd j).2.2))] : va_W)
theorem qf_in {y : Nat → ClassId} {hh : Nat → Nat} {aa : Nat → Nat → Nat} {gg cg : Nat → Nat} {pd : Nat → PB} {l : List Nat} {i : Nat} {X : va_W} {b : PB} (h : i ∈ l) (hn : l.Nodup) : ((X ++ (SC y (hh i) (aa i) b.1 ++ ([(gg i, .inl (y 0, 6, .inl b.2.1)), (cg i, .inl (y 0, 6, .inl b.2.2))] : va_W))) ++ FG (QF y hh aa gg cg pd) (l.erase i)).Perm (X ++ FG (QF y hh aa gg cg (va_up pd i b)) l) := by
  have e := fg_in (F := QF y hh aa gg cg pd) (G := QF y hh aa gg cg (va_up pd i b)) (X := X) h hn (fun j hj => by simp only [QF, va_up_ne _ _ hj])
  simp only [QF, va_up_self] at e
  exact e
theorem rm7 {i : Nat} (h : i < 7) : i ∈ List.range 7 := List.mem_range.mpr h
theorem rm7e {i : Nat} (h : i + 1 < 7) : i + 1 ∈ (List.range 7).erase i := (List.mem_erase_of_ne (by omega)).mpr (List.mem_range.mpr h)
theorem rn7 : (List.range 7).Nodup := List.nodup_range
theorem rn7e {i : Nat} : ((List.range 7).erase i).Nodup := List.nodup_range.erase i
theorem mk6 (n : Int32) : ∃ N : Nat, N ≤ 6 ∧ (if 0 < (if n < 6 then n else 6) then (if n < 6 then n else 6) else 0) = nI N := by
  by_cases h : n < 6
  · rw [if_pos h]
    by_cases h2 : 0 < n
    · rw [if_pos h2]
      have a := Int32.lt_iff_toInt_lt.mp h
      have b := Int32.lt_iff_toInt_lt.mp h2
      rw [(by decide : Int32.toInt 6 = 6)] at a
      rw [(by decide : Int32.toInt 0 = 0)] at b
      exact nI_ofT (n := 6) (by omega) (by omega) (by decide)
    · rw [if_neg h2]
      exact ⟨0, by decide, rfl⟩
  · rw [if_neg h]
    exact ⟨6, by decide, by decide⟩
theorem d_Plans_sum_0 : decode prog_7_method_10_code 0 = .ok (.iconst 0, 1) := by decide +kernel
theorem d_Plans_sum_1 : decode prog_7_method_10_code 1 = .ok (.istore_n 1, 1) := by decide +kernel
theorem d_Plans_sum_2 : decode prog_7_method_10_code 2 = .ok (.aload_n 0, 1) := by decide +kernel
theorem d_Plans_sum_3 : decode prog_7_method_10_code 3 = .ok (.astore_n 2, 1) := by decide +kernel
theorem d_Plans_sum_4 : decode prog_7_method_10_code 4 = .ok (.aload_n 2, 1) := by decide +kernel
theorem d_Plans_sum_5 : decode prog_7_method_10_code 5 = .ok (.arraylength, 1) := by decide +kernel
theorem d_Plans_sum_6 : decode prog_7_method_10_code 6 = .ok (.istore_n 3, 1) := by decide +kernel
theorem d_Plans_sum_7 : decode prog_7_method_10_code 7 = .ok (.iconst 0, 1) := by decide +kernel
theorem d_Plans_sum_8 : decode prog_7_method_10_code 8 = .ok (.istore 4, 2) := by decide +kernel
theorem d_Plans_sum_10 : decode prog_7_method_10_code 10 = .ok (.iload 4, 2) := by decide +kernel
theorem d_Plans_sum_12 : decode prog_7_method_10_code 12 = .ok (.iload_n 3, 1) := by decide +kernel
theorem d_Plans_sum_13 : decode prog_7_method_10_code 13 = .ok (.if_icmp .ge 20, 3) := by decide +kernel
theorem d_Plans_sum_16 : decode prog_7_method_10_code 16 = .ok (.aload_n 2, 1) := by decide +kernel
theorem d_Plans_sum_17 : decode prog_7_method_10_code 17 = .ok (.iload 4, 2) := by decide +kernel
theorem d_Plans_sum_19 : decode prog_7_method_10_code 19 = .ok (.iaload, 1) := by decide +kernel
theorem d_Plans_sum_20 : decode prog_7_method_10_code 20 = .ok (.istore 5, 2) := by decide +kernel
theorem d_Plans_sum_22 : decode prog_7_method_10_code 22 = .ok (.iload_n 1, 1) := by decide +kernel
theorem d_Plans_sum_23 : decode prog_7_method_10_code 23 = .ok (.iload 5, 2) := by decide +kernel
theorem d_Plans_sum_25 : decode prog_7_method_10_code 25 = .ok (.iadd, 1) := by decide +kernel
theorem d_Plans_sum_26 : decode prog_7_method_10_code 26 = .ok (.istore_n 1, 1) := by decide +kernel
theorem d_Plans_sum_27 : decode prog_7_method_10_code 27 = .ok (.iinc 4 1, 3) := by decide +kernel
theorem d_Plans_sum_30 : decode prog_7_method_10_code 30 = .ok (.goto (-20), 3) := by decide +kernel
theorem d_Plans_sum_33 : decode prog_7_method_10_code 33 = .ok (.iload_n 1, 1) := by decide +kernel
theorem d_Plans_sum_34 : decode prog_7_method_10_code 34 = .ok (.ireturn, 1) := by decide +kernel
theorem d_Plans_worthTo_0 : decode prog_7_method_7_code 0 = .ok (.aload_n 0, 1) := by decide +kernel
theorem d_Plans_worthTo_1 : decode prog_7_method_7_code 1 = .ok (.getfield 43, 3) := by decide +kernel
theorem gf_Plans_43 : GF "NineBoards$Plans" 43 4 5 := ⟨_, _, _, rfl, ci_Plans, by decide, (mt_2 (List.mem_of_getElem? (i := 217) rfl) rfl)⟩
theorem d_Plans_worthTo_4 : decode prog_7_method_7_code 4 = .ok (.ifCond .ne 8, 3) := by decide +kernel
theorem d_Plans_worthTo_12 : decode prog_7_method_7_code 12 = .ok (.aload_n 0, 1) := by decide +kernel
theorem d_Plans_worthTo_13 : decode prog_7_method_7_code 13 = .ok (.getfield 19, 3) := by decide +kernel
theorem gf_Plans_19 : GF "NineBoards$Plans" 19 4 1 := ⟨_, _, _, rfl, ci_Plans, by decide, (mt_2 (List.mem_of_getElem? (i := 213) rfl) rfl)⟩
theorem d_Plans_worthTo_16 : decode prog_7_method_7_code 16 = .ok (.iload_n 2, 1) := by decide +kernel
theorem d_Plans_worthTo_17 : decode prog_7_method_7_code 17 = .ok (.aaload, 1) := by decide +kernel
theorem d_Plans_worthTo_18 : decode prog_7_method_7_code 18 = .ok (.invokestatic 56, 3) := by decide +kernel
theorem kw_Plans_56 : KW "NineBoards$Plans" 56 ⟨"NineBoards$Plans", "sum", "([I)I"⟩ prog_7_method_10_code 6 (some .int) 1 := ⟨(mt_4 (List.mem_of_getElem? (i := 199) rfl) rfl), (mt_1 (List.mem_of_getElem? (i := 15) rfl) rfl), (mt_4 (List.mem_of_getElem? (i := 201) rfl) rfl), by decide +kernel⟩
theorem ks_Plans_sum : Cond.static ⟨"NineBoards$Plans", "sum", "([I)I"⟩ ∈ TB := (mt_4 (List.mem_of_getElem? (i := 200) rfl) rfl)
theorem d_Plans_worthTo_21 : decode prog_7_method_7_code 21 = .ok (.goto 11, 3) := by decide +kernel
theorem d_Plans_worthTo_32 : decode prog_7_method_7_code 32 = .ok (.ireturn, 1) := by decide +kernel
theorem d_Plans_worthTo_7 : decode prog_7_method_7_code 7 = .ok (.iload_n 1, 1) := by decide +kernel
theorem d_Plans_worthTo_8 : decode prog_7_method_7_code 8 = .ok (.iconst (-1), 1) := by decide +kernel
theorem d_Plans_worthTo_9 : decode prog_7_method_7_code 9 = .ok (.if_icmp .ne 15, 3) := by decide +kernel
theorem d_Plans_worthTo_24 : decode prog_7_method_7_code 24 = .ok (.aload_n 0, 1) := by decide +kernel
theorem d_Plans_worthTo_25 : decode prog_7_method_7_code 25 = .ok (.getfield 19, 3) := by decide +kernel
theorem d_Plans_worthTo_28 : decode prog_7_method_7_code 28 = .ok (.iload_n 2, 1) := by decide +kernel
theorem d_Plans_worthTo_29 : decode prog_7_method_7_code 29 = .ok (.aaload, 1) := by decide +kernel
theorem d_Plans_worthTo_30 : decode prog_7_method_7_code 30 = .ok (.iload_n 1, 1) := by decide +kernel
theorem d_Plans_worthTo_31 : decode prog_7_method_7_code 31 = .ok (.iaload, 1) := by decide +kernel
theorem d_Plans_addDay_2 : decode prog_7_method_8_code 2 = .ok (.iload_n 2, 1) := by decide +kernel
theorem d_Plans_addDay_3 : decode prog_7_method_8_code 3 = .ok (.aload_n 0, 1) := by decide +kernel
theorem d_Plans_addDay_4 : decode prog_7_method_8_code 4 = .ok (.getfield 25, 3) := by decide +kernel
theorem gf_Plans_25 : GF "NineBoards$Plans" 25 4 3 := ⟨_, _, _, rfl, ci_Plans, by decide, (mt_2 (List.mem_of_getElem? (i := 215) rfl) rfl)⟩
theorem d_Plans_addDay_7 : decode prog_7_method_8_code 7 = .ok (.getfield 89, 3) := by decide +kernel
theorem gf_Plans_89 : GF "NineBoards$Plans" 89 2 5 := ⟨_, _, _, rfl, ci_Lake, by decide, (mt_2 (List.mem_of_getElem? (i := 48) rfl) rfl)⟩
theorem d_Plans_addDay_10 : decode prog_7_method_8_code 10 = .ok (.if_icmp .ge 31, 3) := by decide +kernel
theorem d_Plans_addDay_13 : decode prog_7_method_8_code 13 = .ok (.aload_n 0, 1) := by decide +kernel
theorem d_Plans_addDay_14 : decode prog_7_method_8_code 14 = .ok (.getfield 19, 3) := by decide +kernel
theorem d_Plans_addDay_17 : decode prog_7_method_8_code 17 = .ok (.iload_n 1, 1) := by decide +kernel
theorem d_Plans_addDay_18 : decode prog_7_method_8_code 18 = .ok (.aaload, 1) := by decide +kernel
theorem d_Plans_addDay_19 : decode prog_7_method_8_code 19 = .ok (.iload_n 2, 1) := by decide +kernel
theorem d_Plans_addDay_20 : decode prog_7_method_8_code 20 = .ok (.dup2, 1) := by decide +kernel
theorem d_Plans_addDay_21 : decode prog_7_method_8_code 21 = .ok (.iaload, 1) := by decide +kernel
theorem d_Plans_addDay_22 : decode prog_7_method_8_code 22 = .ok (.aload_n 0, 1) := by decide +kernel
theorem d_Plans_addDay_23 : decode prog_7_method_8_code 23 = .ok (.getfield 11, 3) := by decide +kernel
theorem gf_Plans_11 : GF "NineBoards$Plans" 11 4 0 := ⟨_, _, _, rfl, ci_Plans, by decide, (mt_2 (List.mem_of_getElem? (i := 212) rfl) rfl)⟩
theorem d_Plans_addDay_26 : decode prog_7_method_8_code 26 = .ok (.iload_n 1, 1) := by decide +kernel
theorem d_Plans_addDay_27 : decode prog_7_method_8_code 27 = .ok (.aaload, 1) := by decide +kernel
theorem d_Plans_addDay_28 : decode prog_7_method_8_code 28 = .ok (.getfield 92, 3) := by decide +kernel
theorem gf_Plans_92 : GF "NineBoards$Plans" 92 7 7 := ⟨_, _, _, rfl, ci_State, by decide, (mt_1 (List.mem_of_getElem? (i := 76) rfl) rfl)⟩
theorem d_Plans_addDay_31 : decode prog_7_method_8_code 31 = .ok (.iload_n 2, 1) := by decide +kernel
theorem d_Plans_addDay_32 : decode prog_7_method_8_code 32 = .ok (.iaload, 1) := by decide +kernel
theorem d_Plans_addDay_33 : decode prog_7_method_8_code 33 = .ok (.iadd, 1) := by decide +kernel
theorem d_Plans_addDay_34 : decode prog_7_method_8_code 34 = .ok (.iastore, 1) := by decide +kernel
theorem d_Plans_addDay_35 : decode prog_7_method_8_code 35 = .ok (.iinc 2 1, 3) := by decide +kernel
theorem d_Plans_addDay_38 : decode prog_7_method_8_code 38 = .ok (.goto (-36), 3) := by decide +kernel
theorem d_Plans_addDay_0 : decode prog_7_method_8_code 0 = .ok (.iconst 0, 1) := by decide +kernel
theorem d_Plans_addDay_1 : decode prog_7_method_8_code 1 = .ok (.istore_n 2, 1) := by decide +kernel
theorem d_Plans_addDay_41 : decode prog_7_method_8_code 41 = .ok (.return_, 1) := by decide +kernel
theorem d_Plans_choose_36 : decode prog_7_method_9_code 36 = .ok (.iload_n 3, 1) := by decide +kernel
theorem d_Plans_choose_37 : decode prog_7_method_9_code 37 = .ok (.aload_n 0, 1) := by decide +kernel
theorem d_Plans_choose_38 : decode prog_7_method_9_code 38 = .ok (.getfield 39, 3) := by decide +kernel
theorem gf_Plans_39 : GF "NineBoards$Plans" 39 4 4 := ⟨_, _, _, rfl, ci_Plans, by decide, (mt_2 (List.mem_of_getElem? (i := 216) rfl) rfl)⟩
theorem d_Plans_choose_41 : decode prog_7_method_9_code 41 = .ok (.if_icmp .ge 27, 3) := by decide +kernel
theorem d_Plans_choose_44 : decode prog_7_method_9_code 44 = .ok (.aload_n 0, 1) := by decide +kernel
theorem d_Plans_choose_45 : decode prog_7_method_9_code 45 = .ok (.getfield 22, 3) := by decide +kernel
theorem gf_Plans_22 : GF "NineBoards$Plans" 22 4 2 := ⟨_, _, _, rfl, ci_Plans, by decide, (mt_2 (List.mem_of_getElem? (i := 214) rfl) rfl)⟩
theorem d_Plans_choose_48 : decode prog_7_method_9_code 48 = .ok (.iload_n 1, 1) := by decide +kernel
theorem d_Plans_choose_49 : decode prog_7_method_9_code 49 = .ok (.aaload, 1) := by decide +kernel
theorem d_Plans_choose_50 : decode prog_7_method_9_code 50 = .ok (.iload_n 3, 1) := by decide +kernel
theorem d_Plans_choose_51 : decode prog_7_method_9_code 51 = .ok (.aload_n 0, 1) := by decide +kernel
theorem d_Plans_choose_52 : decode prog_7_method_9_code 52 = .ok (.getfield 22, 3) := by decide +kernel
theorem d_Plans_choose_55 : decode prog_7_method_9_code 55 = .ok (.iload_n 1, 1) := by decide +kernel
theorem d_Plans_choose_56 : decode prog_7_method_9_code 56 = .ok (.iconst 1, 1) := by decide +kernel
theorem d_Plans_choose_57 : decode prog_7_method_9_code 57 = .ok (.iadd, 1) := by decide +kernel
theorem d_Plans_choose_58 : decode prog_7_method_9_code 58 = .ok (.aaload, 1) := by decide +kernel
theorem d_Plans_choose_59 : decode prog_7_method_9_code 59 = .ok (.iload_n 3, 1) := by decide +kernel
theorem d_Plans_choose_60 : decode prog_7_method_9_code 60 = .ok (.iaload, 1) := by decide +kernel
theorem d_Plans_choose_61 : decode prog_7_method_9_code 61 = .ok (.iastore, 1) := by decide +kernel
theorem d_Plans_choose_62 : decode prog_7_method_9_code 62 = .ok (.iinc 3 1, 3) := by decide +kernel
theorem d_Plans_choose_65 : decode prog_7_method_9_code 65 = .ok (.goto (-29), 3) := by decide +kernel
theorem d_Plans_choose_0 : decode prog_7_method_9_code 0 = .ok (.iconst 0, 1) := by decide +kernel
theorem d_Plans_choose_1 : decode prog_7_method_9_code 1 = .ok (.istore_n 3, 1) := by decide +kernel
theorem d_Plans_choose_2 : decode prog_7_method_9_code 2 = .ok (.iload_n 3, 1) := by decide +kernel
theorem d_Plans_choose_3 : decode prog_7_method_9_code 3 = .ok (.bipush 6, 2) := by decide +kernel
theorem d_Plans_choose_5 : decode prog_7_method_9_code 5 = .ok (.if_icmp .ge 27, 3) := by decide +kernel
theorem d_Plans_choose_8 : decode prog_7_method_9_code 8 = .ok (.aload_n 0, 1) := by decide +kernel
theorem d_Plans_choose_9 : decode prog_7_method_9_code 9 = .ok (.getfield 19, 3) := by decide +kernel
theorem d_Plans_choose_12 : decode prog_7_method_9_code 12 = .ok (.iload_n 1, 1) := by decide +kernel
theorem d_Plans_choose_13 : decode prog_7_method_9_code 13 = .ok (.aaload, 1) := by decide +kernel
theorem d_Plans_choose_14 : decode prog_7_method_9_code 14 = .ok (.iload_n 3, 1) := by decide +kernel
theorem d_Plans_choose_15 : decode prog_7_method_9_code 15 = .ok (.aload_n 0, 1) := by decide +kernel
theorem d_Plans_choose_16 : decode prog_7_method_9_code 16 = .ok (.getfield 19, 3) := by decide +kernel
theorem d_Plans_choose_19 : decode prog_7_method_9_code 19 = .ok (.iload_n 1, 1) := by decide +kernel
theorem d_Plans_choose_20 : decode prog_7_method_9_code 20 = .ok (.iconst 1, 1) := by decide +kernel
theorem d_Plans_choose_21 : decode prog_7_method_9_code 21 = .ok (.iadd, 1) := by decide +kernel
theorem d_Plans_choose_22 : decode prog_7_method_9_code 22 = .ok (.aaload, 1) := by decide +kernel
theorem d_Plans_choose_23 : decode prog_7_method_9_code 23 = .ok (.iload_n 3, 1) := by decide +kernel
theorem d_Plans_choose_24 : decode prog_7_method_9_code 24 = .ok (.iaload, 1) := by decide +kernel
theorem d_Plans_choose_25 : decode prog_7_method_9_code 25 = .ok (.iastore, 1) := by decide +kernel
theorem d_Plans_choose_26 : decode prog_7_method_9_code 26 = .ok (.iinc 3 1, 3) := by decide +kernel
theorem d_Plans_choose_29 : decode prog_7_method_9_code 29 = .ok (.goto (-27), 3) := by decide +kernel
theorem d_Plans_choose_32 : decode prog_7_method_9_code 32 = .ok (.iload_n 1, 1) := by decide +kernel
theorem d_Plans_choose_33 : decode prog_7_method_9_code 33 = .ok (.iconst 1, 1) := by decide +kernel
theorem d_Plans_choose_34 : decode prog_7_method_9_code 34 = .ok (.iadd, 1) := by decide +kernel
theorem d_Plans_choose_35 : decode prog_7_method_9_code 35 = .ok (.istore_n 3, 1) := by decide +kernel
theorem d_Plans_choose_68 : decode prog_7_method_9_code 68 = .ok (.aload_n 0, 1) := by decide +kernel
theorem d_Plans_choose_69 : decode prog_7_method_9_code 69 = .ok (.getfield 22, 3) := by decide +kernel
theorem d_Plans_choose_72 : decode prog_7_method_9_code 72 = .ok (.iload_n 1, 1) := by decide +kernel
theorem d_Plans_choose_73 : decode prog_7_method_9_code 73 = .ok (.aaload, 1) := by decide +kernel
theorem d_Plans_choose_74 : decode prog_7_method_9_code 74 = .ok (.iload_n 1, 1) := by decide +kernel
theorem d_Plans_choose_75 : decode prog_7_method_9_code 75 = .ok (.iload_n 2, 1) := by decide +kernel
theorem d_Plans_choose_76 : decode prog_7_method_9_code 76 = .ok (.iastore, 1) := by decide +kernel
theorem d_Plans_choose_77 : decode prog_7_method_9_code 77 = .ok (.return_, 1) := by decide +kernel
