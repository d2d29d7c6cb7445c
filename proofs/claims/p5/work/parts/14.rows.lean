theorem d_Days_countRows_0 : decode prog_3_method_14_code 0 = .ok (.iload_n 2, 1) := by decide +kernel
theorem d_Days_countRows_1 : decode prog_3_method_14_code 1 = .ok (.ifCond .gt 5, 3) := by decide +kernel
theorem d_Days_countRows_4 : decode prog_3_method_14_code 4 = .ok (.iconst 1, 1) := by decide +kernel
theorem d_Days_countRows_5 : decode prog_3_method_14_code 5 = .ok (.ireturn, 1) := by decide +kernel
theorem d_Days_countRows_17 : decode prog_3_method_14_code 17 = .ok (.iload 5, 2) := by decide +kernel
theorem d_Days_countRows_19 : decode prog_3_method_14_code 19 = .ok (.iconst 3, 1) := by decide +kernel
theorem d_Days_countRows_20 : decode prog_3_method_14_code 20 = .ok (.if_icmp .ge 93, 3) := by decide +kernel
theorem d_Days_countRows_23 : decode prog_3_method_14_code 23 = .ok (.aload_n 0, 1) := by decide +kernel
theorem d_Days_countRows_24 : decode prog_3_method_14_code 24 = .ok (.aload_n 1, 1) := by decide +kernel
theorem d_Days_countRows_25 : decode prog_3_method_14_code 25 = .ok (.aload_n 0, 1) := by decide +kernel
theorem d_Days_countRows_26 : decode prog_3_method_14_code 26 = .ok (.aload_n 1, 1) := by decide +kernel
theorem d_Days_countRows_27 : decode prog_3_method_14_code 27 = .ok (.getfield 59, 3) := by decide +kernel
theorem d_Days_countRows_30 : decode prog_3_method_14_code 30 = .ok (.invokevirtual 109, 3) := by decide +kernel
theorem d_Days_countRows_33 : decode prog_3_method_14_code 33 = .ok (.iload 5, 2) := by decide +kernel
theorem d_Days_countRows_35 : decode prog_3_method_14_code 35 = .ok (.iconst 0, 1) := by decide +kernel
theorem d_Days_countRows_36 : decode prog_3_method_14_code 36 = .ok (.invokestatic 43, 3) := by decide +kernel
theorem d_Days_countRows_39 : decode prog_3_method_14_code 39 = .ok (.ifCond .eq 68, 3) := by decide +kernel
theorem d_Days_countRows_107 : decode prog_3_method_14_code 107 = .ok (.iinc 5 1, 3) := by decide +kernel
theorem d_Days_countRows_110 : decode prog_3_method_14_code 110 = .ok (.goto (-93), 3) := by decide +kernel
theorem d_Days_countRows_42 : decode prog_3_method_14_code 42 = .ok (.aload_n 0, 1) := by decide +kernel
theorem d_Days_countRows_43 : decode prog_3_method_14_code 43 = .ok (.aload_n 1, 1) := by decide +kernel
theorem d_Days_countRows_44 : decode prog_3_method_14_code 44 = .ok (.iload 5, 2) := by decide +kernel
theorem d_Days_countRows_46 : decode prog_3_method_14_code 46 = .ok (.invokestatic 47, 3) := by decide +kernel
theorem d_Days_countRows_49 : decode prog_3_method_14_code 49 = .ok (.aload_n 1, 1) := by decide +kernel
theorem d_Days_countRows_50 : decode prog_3_method_14_code 50 = .ok (.dup, 1) := by decide +kernel
theorem d_Days_countRows_51 : decode prog_3_method_14_code 51 = .ok (.getfield 59, 3) := by decide +kernel
theorem d_Days_countRows_54 : decode prog_3_method_14_code 54 = .ok (.iconst 1, 1) := by decide +kernel
theorem d_Days_countRows_55 : decode prog_3_method_14_code 55 = .ok (.iadd, 1) := by decide +kernel
theorem d_Days_countRows_56 : decode prog_3_method_14_code 56 = .ok (.putfield 59, 3) := by decide +kernel
theorem d_Days_countRows_59 : decode prog_3_method_14_code 59 = .ok (.iload_n 3, 1) := by decide +kernel
theorem d_Days_countRows_60 : decode prog_3_method_14_code 60 = .ok (.aload_n 0, 1) := by decide +kernel
theorem d_Days_countRows_61 : decode prog_3_method_14_code 61 = .ok (.aload_n 1, 1) := by decide +kernel
theorem d_Days_countRows_62 : decode prog_3_method_14_code 62 = .ok (.iload_n 2, 1) := by decide +kernel
theorem d_Days_countRows_63 : decode prog_3_method_14_code 63 = .ok (.iconst 1, 1) := by decide +kernel
theorem d_Days_countRows_64 : decode prog_3_method_14_code 64 = .ok (.isub, 1) := by decide +kernel
theorem d_Days_countRows_65 : decode prog_3_method_14_code 65 = .ok (.invokestatic 159, 3) := by decide +kernel
theorem kw_Days_159 : KW "NineBoards$Days" 159 ⟨"NineBoards$Days", "countRows", "(LNineBoards$Lake;LNineBoards$State;I)I"⟩ prog_3_method_14_code 6 (some .int) 3 := ⟨(mt_4 (List.mem_of_getElem? (i := 160) rfl) rfl), (mt_1 (List.mem_of_getElem? (i := 18) rfl) rfl), (mt_4 (List.mem_of_getElem? (i := 159) rfl) rfl), by decide +kernel⟩
theorem ks_Days_countRows : Cond.static ⟨"NineBoards$Days", "countRows", "(LNineBoards$Lake;LNineBoards$State;I)I"⟩ ∈ TB := (mt_4 (List.mem_of_getElem? (i := 158) rfl) rfl)
theorem d_Days_countRows_68 : decode prog_3_method_14_code 68 = .ok (.iadd, 1) := by decide +kernel
theorem d_Days_countRows_69 : decode prog_3_method_14_code 69 = .ok (.istore_n 3, 1) := by decide +kernel
theorem d_Days_countRows_70 : decode prog_3_method_14_code 70 = .ok (.aload_n 1, 1) := by decide +kernel
theorem d_Days_countRows_71 : decode prog_3_method_14_code 71 = .ok (.dup, 1) := by decide +kernel
theorem d_Days_countRows_72 : decode prog_3_method_14_code 72 = .ok (.getfield 59, 3) := by decide +kernel
theorem d_Days_countRows_75 : decode prog_3_method_14_code 75 = .ok (.iconst 1, 1) := by decide +kernel
theorem d_Days_countRows_76 : decode prog_3_method_14_code 76 = .ok (.isub, 1) := by decide +kernel
theorem d_Days_countRows_77 : decode prog_3_method_14_code 77 = .ok (.putfield 59, 3) := by decide +kernel
theorem d_Days_countRows_80 : decode prog_3_method_14_code 80 = .ok (.iload 5, 2) := by decide +kernel
theorem d_Days_countRows_82 : decode prog_3_method_14_code 82 = .ok (.ifCond .eq 19, 3) := by decide +kernel
theorem d_Days_countRows_101 : decode prog_3_method_14_code 101 = .ok (.aload_n 1, 1) := by decide +kernel
theorem d_Days_countRows_102 : decode prog_3_method_14_code 102 = .ok (.iload 4, 2) := by decide +kernel
theorem d_Days_countRows_104 : decode prog_3_method_14_code 104 = .ok (.putfield 15, 3) := by decide +kernel
theorem d_Days_countRows_85 : decode prog_3_method_14_code 85 = .ok (.aload_n 0, 1) := by decide +kernel
theorem d_Days_countRows_86 : decode prog_3_method_14_code 86 = .ok (.aload_n 1, 1) := by decide +kernel
theorem d_Days_countRows_87 : decode prog_3_method_14_code 87 = .ok (.iload 5, 2) := by decide +kernel
theorem d_Days_countRows_89 : decode prog_3_method_14_code 89 = .ok (.iconst 1, 1) := by decide +kernel
theorem d_Days_countRows_90 : decode prog_3_method_14_code 90 = .ok (.if_icmp .ne 7, 3) := by decide +kernel
theorem d_Days_countRows_97 : decode prog_3_method_14_code 97 = .ok (.iconst (-1), 1) := by decide +kernel
theorem d_Days_countRows_98 : decode prog_3_method_14_code 98 = .ok (.invokestatic 106, 3) := by decide +kernel
theorem d_Days_countRows_93 : decode prog_3_method_14_code 93 = .ok (.iconst 1, 1) := by decide +kernel
theorem d_Days_countRows_94 : decode prog_3_method_14_code 94 = .ok (.goto 4, 3) := by decide +kernel
theorem d_Days_countRows_6 : decode prog_3_method_14_code 6 = .ok (.iconst 0, 1) := by decide +kernel
theorem d_Days_countRows_7 : decode prog_3_method_14_code 7 = .ok (.istore_n 3, 1) := by decide +kernel
theorem d_Days_countRows_8 : decode prog_3_method_14_code 8 = .ok (.aload_n 1, 1) := by decide +kernel
theorem d_Days_countRows_9 : decode prog_3_method_14_code 9 = .ok (.getfield 15, 3) := by decide +kernel
theorem d_Days_countRows_12 : decode prog_3_method_14_code 12 = .ok (.istore 4, 2) := by decide +kernel
theorem d_Days_countRows_14 : decode prog_3_method_14_code 14 = .ok (.iconst 0, 1) := by decide +kernel
theorem d_Days_countRows_15 : decode prog_3_method_14_code 15 = .ok (.istore 5, 2) := by decide +kernel
theorem d_Days_countRows_113 : decode prog_3_method_14_code 113 = .ok (.iload_n 3, 1) := by decide +kernel
theorem d_Days_countRows_114 : decode prog_3_method_14_code 114 = .ok (.ireturn, 1) := by decide +kernel
