section JCU
variable {p : Program} {l : Launch} {e : Env} {R : Room} {s : State} {m : MethodId} {args : Array Value} {below : List Frame} {meth : Method} {c : Code} {Q : State → Prop} {D : va_G} {A : Nat → Prop} {nL : Nat} {ws : va_W} {lv : List (Nat × Value)} {kc ks pc : Nat} {st : List Value}
end JCU
theorem min_k {k : Nat} (h : k ≤ 1600) : (if (1600 : Int32) < nI k then 1600 else nI k) = nI k := if_neg (show ¬ nI 1600 < nI k from nI_nlt h (by decide))
theorem d_Reader_sortOf_0 : decode prog_8_method_33_code 0 = .ok (.iload_n 0, 1) := by decide +kernel
theorem d_Reader_sortOf_1 : decode prog_8_method_33_code 1 = .ok (.bipush 97, 2) := by decide +kernel
theorem d_Reader_sortOf_3 : decode prog_8_method_33_code 3 = .ok (.if_icmp .lt 13, 3) := by decide +kernel
theorem d_Reader_sortOf_16 : decode prog_8_method_33_code 16 = .ok (.iload_n 0, 1) := by decide +kernel
theorem d_Reader_sortOf_17 : decode prog_8_method_33_code 17 = .ok (.bipush 48, 2) := by decide +kernel
theorem d_Reader_sortOf_19 : decode prog_8_method_33_code 19 = .ok (.if_icmp .lt 13, 3) := by decide +kernel
theorem d_Reader_sortOf_32 : decode prog_8_method_33_code 32 = .ok (.iconst 3, 1) := by decide +kernel
theorem d_Reader_sortOf_33 : decode prog_8_method_33_code 33 = .ok (.ireturn, 1) := by decide +kernel
theorem d_Reader_sortOf_22 : decode prog_8_method_33_code 22 = .ok (.iload_n 0, 1) := by decide +kernel
theorem d_Reader_sortOf_23 : decode prog_8_method_33_code 23 = .ok (.bipush 57, 2) := by decide +kernel
theorem d_Reader_sortOf_25 : decode prog_8_method_33_code 25 = .ok (.if_icmp .gt 7, 3) := by decide +kernel
theorem d_Reader_sortOf_28 : decode prog_8_method_33_code 28 = .ok (.iconst 2, 1) := by decide +kernel
theorem d_Reader_sortOf_29 : decode prog_8_method_33_code 29 = .ok (.goto 4, 3) := by decide +kernel
theorem d_Reader_sortOf_6 : decode prog_8_method_33_code 6 = .ok (.iload_n 0, 1) := by decide +kernel
theorem d_Reader_sortOf_7 : decode prog_8_method_33_code 7 = .ok (.bipush 122, 2) := by decide +kernel
theorem d_Reader_sortOf_9 : decode prog_8_method_33_code 9 = .ok (.if_icmp .gt 7, 3) := by decide +kernel
theorem d_Reader_sortOf_12 : decode prog_8_method_33_code 12 = .ok (.iconst 1, 1) := by decide +kernel
theorem d_Reader_sortOf_13 : decode prog_8_method_33_code 13 = .ok (.goto 20, 3) := by decide +kernel
theorem d_Reader_isWord_0 : decode prog_8_method_23_code 0 = .ok (.aload_n 0, 1) := by decide +kernel
theorem d_Reader_isWord_1 : decode prog_8_method_23_code 1 = .ok (.getfield 50, 3) := by decide +kernel
theorem gf_Reader_50 : GF "NineBoards$Reader" 50 5 6 := ⟨_, _, _, rfl, ci_Reader, by decide, (mt_2 (List.mem_of_getElem? (i := 170) rfl) rfl)⟩
theorem d_Reader_isWord_4 : decode prog_8_method_23_code 4 = .ok (.iconst 1, 1) := by decide +kernel
theorem d_Reader_isWord_5 : decode prog_8_method_23_code 5 = .ok (.if_icmp .ne 15, 3) := by decide +kernel
theorem d_Reader_isWord_20 : decode prog_8_method_23_code 20 = .ok (.iconst 0, 1) := by decide +kernel
theorem d_Reader_isWord_21 : decode prog_8_method_23_code 21 = .ok (.ireturn, 1) := by decide +kernel
theorem d_Reader_isWord_8 : decode prog_8_method_23_code 8 = .ok (.aload_n 0, 1) := by decide +kernel
theorem d_Reader_isWord_9 : decode prog_8_method_23_code 9 = .ok (.getfield 80, 3) := by decide +kernel
theorem gf_Reader_80 : GF "NineBoards$Reader" 80 5 9 := ⟨_, _, _, rfl, ci_Reader, by decide, (mt_2 (List.mem_of_getElem? (i := 173) rfl) rfl)⟩
theorem d_Reader_isWord_12 : decode prog_8_method_23_code 12 = .ok (.iload_n 1, 1) := by decide +kernel
theorem d_Reader_isWord_13 : decode prog_8_method_23_code 13 = .ok (.if_icmp .ne 7, 3) := by decide +kernel
theorem d_Reader_isWord_16 : decode prog_8_method_23_code 16 = .ok (.iconst 1, 1) := by decide +kernel
theorem d_Reader_isWord_17 : decode prog_8_method_23_code 17 = .ok (.goto 4, 3) := by decide +kernel
theorem d_Reader_isSign_0 : decode prog_8_method_24_code 0 = .ok (.aload_n 0, 1) := by decide +kernel
theorem d_Reader_isSign_1 : decode prog_8_method_24_code 1 = .ok (.getfield 50, 3) := by decide +kernel
theorem d_Reader_isSign_4 : decode prog_8_method_24_code 4 = .ok (.iconst 3, 1) := by decide +kernel
theorem d_Reader_isSign_5 : decode prog_8_method_24_code 5 = .ok (.if_icmp .ne 15, 3) := by decide +kernel
theorem d_Reader_isSign_20 : decode prog_8_method_24_code 20 = .ok (.iconst 0, 1) := by decide +kernel
theorem d_Reader_isSign_21 : decode prog_8_method_24_code 21 = .ok (.ireturn, 1) := by decide +kernel
theorem d_Reader_isSign_8 : decode prog_8_method_24_code 8 = .ok (.aload_n 0, 1) := by decide +kernel
theorem d_Reader_isSign_9 : decode prog_8_method_24_code 9 = .ok (.getfield 272, 3) := by decide +kernel
theorem gf_Reader_272 : GF "NineBoards$Reader" 272 5 11 := ⟨_, _, _, rfl, ci_Reader, by decide, (mt_2 (List.mem_of_getElem? (i := 175) rfl) rfl)⟩
theorem d_Reader_isSign_12 : decode prog_8_method_24_code 12 = .ok (.iload_n 1, 1) := by decide +kernel
theorem d_Reader_isSign_13 : decode prog_8_method_24_code 13 = .ok (.if_icmp .ne 7, 3) := by decide +kernel
theorem d_Reader_isSign_16 : decode prog_8_method_24_code 16 = .ok (.iconst 1, 1) := by decide +kernel
theorem d_Reader_isSign_17 : decode prog_8_method_24_code 17 = .ok (.goto 4, 3) := by decide +kernel
theorem d_Reader_fail_0 : decode prog_8_method_31_code 0 = .ok (.aload_n 0, 1) := by decide +kernel
theorem d_Reader_fail_1 : decode prog_8_method_31_code 1 = .ok (.getfield 44, 3) := by decide +kernel
theorem gf_Reader_44 : GF "NineBoards$Reader" 44 5 0 := ⟨_, _, _, rfl, ci_Reader, by decide, (mt_2 (List.mem_of_getElem? (i := 162) rfl) rfl)⟩
theorem d_Reader_fail_4 : decode prog_8_method_31_code 4 = .ok (.ifCond .ne 13, 3) := by decide +kernel
theorem d_Reader_fail_17 : decode prog_8_method_31_code 17 = .ok (.aload_n 0, 1) := by decide +kernel
theorem d_Reader_fail_18 : decode prog_8_method_31_code 18 = .ok (.aload_n 0, 1) := by decide +kernel
theorem d_Reader_fail_19 : decode prog_8_method_31_code 19 = .ok (.getfield 19, 3) := by decide +kernel
theorem gf_Reader_19 : GF "NineBoards$Reader" 19 5 3 := ⟨_, _, _, rfl, ci_Reader, by decide, (mt_2 (List.mem_of_getElem? (i := 167) rfl) rfl)⟩
theorem d_Reader_fail_22 : decode prog_8_method_31_code 22 = .ok (.getfield 285, 3) := by decide +kernel
theorem gf_Reader_285 : GF "NineBoards$Reader" 285 0 1 := ⟨_, _, _, rfl, ci_Bytes, by decide, (mt_1 (List.mem_of_getElem? (i := 40) rfl) rfl)⟩
theorem d_Reader_fail_25 : decode prog_8_method_31_code 25 = .ok (.putfield 47, 3) := by decide +kernel
theorem pf_Reader_47 : PF "NineBoards$Reader" 47 5 5 (.int) false := ⟨_, _, _, ct_Reader, rfl, ci_Reader, by decide, (mt_2 (List.mem_of_getElem? (i := 169) rfl) rfl), cp_Reader, cn_Reader, rfl, by decide +kernel, (fun h => by cases h)⟩
theorem d_Reader_fail_28 : decode prog_8_method_31_code 28 = .ok (.aload_n 0, 1) := by decide +kernel
theorem d_Reader_fail_29 : decode prog_8_method_31_code 29 = .ok (.aload_n 0, 1) := by decide +kernel
theorem d_Reader_fail_30 : decode prog_8_method_31_code 30 = .ok (.getfield 47, 3) := by decide +kernel
theorem gf_Reader_47 : GF "NineBoards$Reader" 47 5 5 := ⟨_, _, _, rfl, ci_Reader, by decide, (mt_2 (List.mem_of_getElem? (i := 169) rfl) rfl)⟩
theorem d_Reader_fail_33 : decode prog_8_method_31_code 33 = .ok (.putfield 62, 3) := by decide +kernel
theorem pf_Reader_62 : PF "NineBoards$Reader" 62 5 7 (.int) false := ⟨_, _, _, ct_Reader, rfl, ci_Reader, by decide, (mt_2 (List.mem_of_getElem? (i := 171) rfl) rfl), cp_Reader, cn_Reader, rfl, by decide +kernel, (fun h => by cases h)⟩
theorem d_Reader_fail_36 : decode prog_8_method_31_code 36 = .ok (.aload_n 0, 1) := by decide +kernel
theorem d_Reader_fail_37 : decode prog_8_method_31_code 37 = .ok (.iconst 0, 1) := by decide +kernel
theorem d_Reader_fail_38 : decode prog_8_method_31_code 38 = .ok (.putfield 50, 3) := by decide +kernel
theorem pf_Reader_50 : PF "NineBoards$Reader" 50 5 6 (.int) false := ⟨_, _, _, ct_Reader, rfl, ci_Reader, by decide, (mt_2 (List.mem_of_getElem? (i := 170) rfl) rfl), cp_Reader, cn_Reader, rfl, by decide +kernel, (fun h => by cases h)⟩
theorem d_Reader_fail_41 : decode prog_8_method_31_code 41 = .ok (.return_, 1) := by decide +kernel
theorem d_Reader_fail_7 : decode prog_8_method_31_code 7 = .ok (.aload_n 0, 1) := by decide +kernel
theorem d_Reader_fail_8 : decode prog_8_method_31_code 8 = .ok (.iload_n 1, 1) := by decide +kernel
theorem d_Reader_fail_9 : decode prog_8_method_31_code 9 = .ok (.putfield 44, 3) := by decide +kernel
theorem pf_Reader_44 : PF "NineBoards$Reader" 44 5 0 (.int) false := ⟨_, _, _, ct_Reader, rfl, ci_Reader, by decide, (mt_2 (List.mem_of_getElem? (i := 162) rfl) rfl), cp_Reader, cn_Reader, rfl, by decide +kernel, (fun h => by cases h)⟩
theorem d_Reader_fail_12 : decode prog_8_method_31_code 12 = .ok (.aload_n 0, 1) := by decide +kernel
theorem d_Reader_fail_13 : decode prog_8_method_31_code 13 = .ok (.iload_n 2, 1) := by decide +kernel
theorem d_Reader_fail_14 : decode prog_8_method_31_code 14 = .ok (.putfield 9, 3) := by decide +kernel
theorem pf_Reader_9 : PF "NineBoards$Reader" 9 5 1 (.int) false := ⟨_, _, _, ct_Reader, rfl, ci_Reader, by decide, (mt_2 (List.mem_of_getElem? (i := 164) rfl) rfl), cp_Reader, cn_Reader, rfl, by decide +kernel, (fun h => by cases h)⟩
theorem d_Reader_knowWord_10 : decode prog_8_method_34_code 10 = .ok (.iload_n 1, 1) := by decide +kernel
theorem d_Reader_knowWord_11 : decode prog_8_method_34_code 11 = .ok (.aload_n 0, 1) := by decide +kernel
theorem d_Reader_knowWord_12 : decode prog_8_method_34_code 12 = .ok (.getfield 47, 3) := by decide +kernel
theorem d_Reader_knowWord_15 : decode prog_8_method_34_code 15 = .ok (.if_icmp .ge 53, 3) := by decide +kernel
theorem d_Reader_knowWord_18 : decode prog_8_method_34_code 18 = .ok (.iload_n 1, 1) := by decide +kernel
theorem d_Reader_knowWord_19 : decode prog_8_method_34_code 19 = .ok (.aload_n 0, 1) := by decide +kernel
theorem d_Reader_knowWord_20 : decode prog_8_method_34_code 20 = .ok (.getfield 62, 3) := by decide +kernel
theorem gf_Reader_62 : GF "NineBoards$Reader" 62 5 7 := ⟨_, _, _, rfl, ci_Reader, by decide, (mt_2 (List.mem_of_getElem? (i := 171) rfl) rfl)⟩
theorem d_Reader_knowWord_23 : decode prog_8_method_34_code 23 = .ok (.bipush 12, 2) := by decide +kernel
theorem d_Reader_knowWord_25 : decode prog_8_method_34_code 25 = .ok (.iadd, 1) := by decide +kernel
theorem d_Reader_knowWord_26 : decode prog_8_method_34_code 26 = .ok (.if_icmp .ge 42, 3) := by decide +kernel
theorem d_Reader_knowWord_29 : decode prog_8_method_34_code 29 = .ok (.aload_n 0, 1) := by decide +kernel
theorem d_Reader_knowWord_30 : decode prog_8_method_34_code 30 = .ok (.dup, 1) := by decide +kernel
theorem d_Reader_knowWord_31 : decode prog_8_method_34_code 31 = .ok (.getfield 278, 3) := by decide +kernel
theorem gf_Reader_278 : GF "NineBoards$Reader" 278 5 8 := ⟨_, _, _, rfl, ci_Reader, by decide, (mt_2 (List.mem_of_getElem? (i := 172) rfl) rfl)⟩
theorem d_Reader_knowWord_34 : decode prog_8_method_34_code 34 = .ok (.aload_n 0, 1) := by decide +kernel
theorem d_Reader_knowWord_35 : decode prog_8_method_34_code 35 = .ok (.getfield 19, 3) := by decide +kernel
theorem d_Reader_knowWord_38 : decode prog_8_method_34_code 38 = .ok (.getfield 288, 3) := by decide +kernel
theorem gf_Reader_288 : GF "NineBoards$Reader" 288 0 0 := ⟨_, _, _, rfl, ci_Bytes, by decide, (mt_1 (List.mem_of_getElem? (i := 37) rfl) rfl)⟩
theorem d_Reader_knowWord_41 : decode prog_8_method_34_code 41 = .ok (.iload_n 1, 1) := by decide +kernel
theorem d_Reader_knowWord_42 : decode prog_8_method_34_code 42 = .ok (.iaload, 1) := by decide +kernel
theorem d_Reader_knowWord_43 : decode prog_8_method_34_code 43 = .ok (.bipush 97, 2) := by decide +kernel
theorem d_Reader_knowWord_45 : decode prog_8_method_34_code 45 = .ok (.isub, 1) := by decide +kernel
theorem d_Reader_knowWord_46 : decode prog_8_method_34_code 46 = .ok (.iconst 1, 1) := by decide +kernel
theorem d_Reader_knowWord_47 : decode prog_8_method_34_code 47 = .ok (.iadd, 1) := by decide +kernel
theorem d_Reader_knowWord_48 : decode prog_8_method_34_code 48 = .ok (.i2l, 1) := by decide +kernel
theorem d_Reader_knowWord_49 : decode prog_8_method_34_code 49 = .ok (.iconst 5, 1) := by decide +kernel
theorem d_Reader_knowWord_50 : decode prog_8_method_34_code 50 = .ok (.iload_n 1, 1) := by decide +kernel
theorem d_Reader_knowWord_51 : decode prog_8_method_34_code 51 = .ok (.aload_n 0, 1) := by decide +kernel
theorem d_Reader_knowWord_52 : decode prog_8_method_34_code 52 = .ok (.getfield 62, 3) := by decide +kernel
theorem d_Reader_knowWord_55 : decode prog_8_method_34_code 55 = .ok (.isub, 1) := by decide +kernel
theorem d_Reader_knowWord_56 : decode prog_8_method_34_code 56 = .ok (.imul, 1) := by decide +kernel
theorem d_Reader_knowWord_57 : decode prog_8_method_34_code 57 = .ok (.lshl, 1) := by decide +kernel
theorem d_Reader_knowWord_58 : decode prog_8_method_34_code 58 = .ok (.lor, 1) := by decide +kernel
theorem d_Reader_knowWord_59 : decode prog_8_method_34_code 59 = .ok (.putfield 278, 3) := by decide +kernel
theorem pf_Reader_278 : PF "NineBoards$Reader" 278 5 8 (.long) false := ⟨_, _, _, ct_Reader, rfl, ci_Reader, by decide, (mt_2 (List.mem_of_getElem? (i := 172) rfl) rfl), cp_Reader, cn_Reader, rfl, by decide +kernel, (fun h => by cases h)⟩
theorem d_Reader_knowWord_62 : decode prog_8_method_34_code 62 = .ok (.iinc 1 1, 3) := by decide +kernel
theorem d_Reader_knowWord_65 : decode prog_8_method_34_code 65 = .ok (.goto (-55), 3) := by decide +kernel
theorem d_Reader_knowWord_75 : decode prog_8_method_34_code 75 = .ok (.iload_n 1, 1) := by decide +kernel
theorem d_Reader_knowWord_76 : decode prog_8_method_34_code 76 = .ok (.bipush 33, 2) := by decide +kernel
theorem d_Reader_knowWord_78 : decode prog_8_method_34_code 78 = .ok (.if_icmp .ge 28, 3) := by decide +kernel
theorem d_Reader_knowWord_81 : decode prog_8_method_34_code 81 = .ok (.aload_n 0, 1) := by decide +kernel
theorem d_Reader_knowWord_82 : decode prog_8_method_34_code 82 = .ok (.getfield 15, 3) := by decide +kernel
theorem gf_Reader_15 : GF "NineBoards$Reader" 15 5 2 := ⟨_, _, _, rfl, ci_Reader, by decide, (mt_2 (List.mem_of_getElem? (i := 166) rfl) rfl)⟩
theorem d_Reader_knowWord_85 : decode prog_8_method_34_code 85 = .ok (.iload_n 1, 1) := by decide +kernel
theorem d_Reader_knowWord_86 : decode prog_8_method_34_code 86 = .ok (.laload, 1) := by decide +kernel
theorem d_Reader_knowWord_87 : decode prog_8_method_34_code 87 = .ok (.aload_n 0, 1) := by decide +kernel
theorem d_Reader_knowWord_88 : decode prog_8_method_34_code 88 = .ok (.getfield 278, 3) := by decide +kernel
theorem d_Reader_knowWord_91 : decode prog_8_method_34_code 91 = .ok (.lcmp, 1) := by decide +kernel
theorem d_Reader_knowWord_92 : decode prog_8_method_34_code 92 = .ok (.ifCond .ne 8, 3) := by decide +kernel
theorem d_Reader_knowWord_100 : decode prog_8_method_34_code 100 = .ok (.iinc 1 1, 3) := by decide +kernel
theorem d_Reader_knowWord_103 : decode prog_8_method_34_code 103 = .ok (.goto (-28), 3) := by decide +kernel
theorem d_Reader_knowWord_95 : decode prog_8_method_34_code 95 = .ok (.aload_n 0, 1) := by decide +kernel
theorem d_Reader_knowWord_96 : decode prog_8_method_34_code 96 = .ok (.iload_n 1, 1) := by decide +kernel
theorem d_Reader_knowWord_97 : decode prog_8_method_34_code 97 = .ok (.putfield 80, 3) := by decide +kernel
theorem pf_Reader_80 : PF "NineBoards$Reader" 80 5 9 (.int) false := ⟨_, _, _, ct_Reader, rfl, ci_Reader, by decide, (mt_2 (List.mem_of_getElem? (i := 173) rfl) rfl), cp_Reader, cn_Reader, rfl, by decide +kernel, (fun h => by cases h)⟩
theorem d_Reader_knowWord_0 : decode prog_8_method_34_code 0 = .ok (.aload_n 0, 1) := by decide +kernel
theorem d_Reader_knowWord_1 : decode prog_8_method_34_code 1 = .ok (.lconst 0, 1) := by decide +kernel
theorem d_Reader_knowWord_2 : decode prog_8_method_34_code 2 = .ok (.putfield 278, 3) := by decide +kernel
theorem d_Reader_knowWord_5 : decode prog_8_method_34_code 5 = .ok (.aload_n 0, 1) := by decide +kernel
theorem d_Reader_knowWord_6 : decode prog_8_method_34_code 6 = .ok (.getfield 62, 3) := by decide +kernel
theorem d_Reader_knowWord_9 : decode prog_8_method_34_code 9 = .ok (.istore_n 1, 1) := by decide +kernel
theorem d_Reader_knowWord_68 : decode prog_8_method_34_code 68 = .ok (.aload_n 0, 1) := by decide +kernel
theorem d_Reader_knowWord_69 : decode prog_8_method_34_code 69 = .ok (.iconst (-1), 1) := by decide +kernel
theorem d_Reader_knowWord_70 : decode prog_8_method_34_code 70 = .ok (.putfield 80, 3) := by decide +kernel
theorem d_Reader_knowWord_73 : decode prog_8_method_34_code 73 = .ok (.iconst 0, 1) := by decide +kernel
theorem d_Reader_knowWord_74 : decode prog_8_method_34_code 74 = .ok (.istore_n 1, 1) := by decide +kernel
theorem d_Reader_knowWord_106 : decode prog_8_method_34_code 106 = .ok (.return_, 1) := by decide +kernel
theorem d_Reader_knowNumber_10 : decode prog_8_method_35_code 10 = .ok (.iload_n 1, 1) := by decide +kernel
theorem d_Reader_knowNumber_11 : decode prog_8_method_35_code 11 = .ok (.aload_n 0, 1) := by decide +kernel
theorem d_Reader_knowNumber_12 : decode prog_8_method_35_code 12 = .ok (.getfield 47, 3) := by decide +kernel
theorem d_Reader_knowNumber_15 : decode prog_8_method_35_code 15 = .ok (.if_icmp .ge 43, 3) := by decide +kernel
theorem d_Reader_knowNumber_18 : decode prog_8_method_35_code 18 = .ok (.iload_n 1, 1) := by decide +kernel
theorem d_Reader_knowNumber_19 : decode prog_8_method_35_code 19 = .ok (.aload_n 0, 1) := by decide +kernel
theorem d_Reader_knowNumber_20 : decode prog_8_method_35_code 20 = .ok (.getfield 62, 3) := by decide +kernel
theorem d_Reader_knowNumber_23 : decode prog_8_method_35_code 23 = .ok (.iconst 4, 1) := by decide +kernel
theorem d_Reader_knowNumber_24 : decode prog_8_method_35_code 24 = .ok (.iadd, 1) := by decide +kernel
theorem d_Reader_knowNumber_25 : decode prog_8_method_35_code 25 = .ok (.if_icmp .ge 33, 3) := by decide +kernel
theorem d_Reader_knowNumber_28 : decode prog_8_method_35_code 28 = .ok (.aload_n 0, 1) := by decide +kernel
theorem d_Reader_knowNumber_29 : decode prog_8_method_35_code 29 = .ok (.bipush 10, 2) := by decide +kernel
theorem d_Reader_knowNumber_31 : decode prog_8_method_35_code 31 = .ok (.aload_n 0, 1) := by decide +kernel
theorem d_Reader_knowNumber_32 : decode prog_8_method_35_code 32 = .ok (.getfield 275, 3) := by decide +kernel
theorem gf_Reader_275 : GF "NineBoards$Reader" 275 5 10 := ⟨_, _, _, rfl, ci_Reader, by decide, (mt_2 (List.mem_of_getElem? (i := 174) rfl) rfl)⟩
theorem d_Reader_knowNumber_35 : decode prog_8_method_35_code 35 = .ok (.imul, 1) := by decide +kernel
theorem d_Reader_knowNumber_36 : decode prog_8_method_35_code 36 = .ok (.aload_n 0, 1) := by decide +kernel
theorem d_Reader_knowNumber_37 : decode prog_8_method_35_code 37 = .ok (.getfield 19, 3) := by decide +kernel
theorem d_Reader_knowNumber_40 : decode prog_8_method_35_code 40 = .ok (.getfield 288, 3) := by decide +kernel
theorem d_Reader_knowNumber_43 : decode prog_8_method_35_code 43 = .ok (.iload_n 1, 1) := by decide +kernel
theorem d_Reader_knowNumber_44 : decode prog_8_method_35_code 44 = .ok (.iaload, 1) := by decide +kernel
theorem d_Reader_knowNumber_45 : decode prog_8_method_35_code 45 = .ok (.iadd, 1) := by decide +kernel
theorem d_Reader_knowNumber_46 : decode prog_8_method_35_code 46 = .ok (.bipush 48, 2) := by decide +kernel
theorem d_Reader_knowNumber_48 : decode prog_8_method_35_code 48 = .ok (.isub, 1) := by decide +kernel
theorem d_Reader_knowNumber_49 : decode prog_8_method_35_code 49 = .ok (.putfield 275, 3) := by decide +kernel
theorem pf_Reader_275 : PF "NineBoards$Reader" 275 5 10 (.int) false := ⟨_, _, _, ct_Reader, rfl, ci_Reader, by decide, (mt_2 (List.mem_of_getElem? (i := 174) rfl) rfl), cp_Reader, cn_Reader, rfl, by decide +kernel, (fun h => by cases h)⟩
theorem d_Reader_knowNumber_52 : decode prog_8_method_35_code 52 = .ok (.iinc 1 1, 3) := by decide +kernel
theorem d_Reader_knowNumber_55 : decode prog_8_method_35_code 55 = .ok (.goto (-45), 3) := by decide +kernel
theorem d_Reader_knowNumber_0 : decode prog_8_method_35_code 0 = .ok (.aload_n 0, 1) := by decide +kernel
theorem d_Reader_knowNumber_1 : decode prog_8_method_35_code 1 = .ok (.iconst 0, 1) := by decide +kernel
theorem d_Reader_knowNumber_2 : decode prog_8_method_35_code 2 = .ok (.putfield 275, 3) := by decide +kernel
theorem d_Reader_knowNumber_5 : decode prog_8_method_35_code 5 = .ok (.aload_n 0, 1) := by decide +kernel
theorem d_Reader_knowNumber_6 : decode prog_8_method_35_code 6 = .ok (.getfield 62, 3) := by decide +kernel
theorem d_Reader_knowNumber_9 : decode prog_8_method_35_code 9 = .ok (.istore_n 1, 1) := by decide +kernel
theorem d_Reader_knowNumber_58 : decode prog_8_method_35_code 58 = .ok (.return_, 1) := by decide +kernel
