theorem nI_nm1 {n : Nat} (h : n < 2 ^ 31) : ¬ nI n = -1 := fun e => absurd (e ▸ nI_pos h : ¬ (-1 : Int32) < 0) (by decide)
theorem d_Days_fits_0 : decode prog_3_method_3_code 0 = .ok (.iload_n 2, 1) := by decide +kernel
theorem d_Days_fits_1 : decode prog_3_method_3_code 1 = .ok (.iconst 2, 1) := by decide +kernel
theorem d_Days_fits_2 : decode prog_3_method_3_code 2 = .ok (.if_icmp .ne 7, 3) := by decide +kernel
theorem d_Days_fits_9 : decode prog_3_method_3_code 9 = .ok (.iconst 0, 1) := by decide +kernel
theorem d_Days_fits_10 : decode prog_3_method_3_code 10 = .ok (.istore_n 3, 1) := by decide +kernel
theorem d_Days_fits_11 : decode prog_3_method_3_code 11 = .ok (.iload_n 2, 1) := by decide +kernel
theorem d_Days_fits_12 : decode prog_3_method_3_code 12 = .ok (.iconst 2, 1) := by decide +kernel
theorem d_Days_fits_13 : decode prog_3_method_3_code 13 = .ok (.if_icmp .ne 8, 3) := by decide +kernel
theorem d_Days_fits_21 : decode prog_3_method_3_code 21 = .ok (.bipush 20, 2) := by decide +kernel
theorem d_Days_fits_23 : decode prog_3_method_3_code 23 = .ok (.istore 4, 2) := by decide +kernel
theorem d_Days_fits_25 : decode prog_3_method_3_code 25 = .ok (.iload_n 1, 1) := by decide +kernel
theorem d_Days_fits_26 : decode prog_3_method_3_code 26 = .ok (.iconst 1, 1) := by decide +kernel
theorem d_Days_fits_27 : decode prog_3_method_3_code 27 = .ok (.if_icmp .ne 18, 3) := by decide +kernel
theorem d_Days_fits_45 : decode prog_3_method_3_code 45 = .ok (.iload_n 0, 1) := by decide +kernel
theorem d_Days_fits_46 : decode prog_3_method_3_code 46 = .ok (.iconst 1, 1) := by decide +kernel
theorem d_Days_fits_47 : decode prog_3_method_3_code 47 = .ok (.iadd, 1) := by decide +kernel
theorem d_Days_fits_48 : decode prog_3_method_3_code 48 = .ok (.iload 4, 2) := by decide +kernel
theorem d_Days_fits_50 : decode prog_3_method_3_code 50 = .ok (.if_icmp .gt 7, 3) := by decide +kernel
theorem d_Days_fits_57 : decode prog_3_method_3_code 57 = .ok (.iconst 0, 1) := by decide +kernel
theorem d_Days_fits_58 : decode prog_3_method_3_code 58 = .ok (.ireturn, 1) := by decide +kernel
theorem d_Days_fits_53 : decode prog_3_method_3_code 53 = .ok (.iconst 1, 1) := by decide +kernel
theorem d_Days_fits_54 : decode prog_3_method_3_code 54 = .ok (.goto 4, 3) := by decide +kernel
theorem d_Days_fits_30 : decode prog_3_method_3_code 30 = .ok (.iload_n 0, 1) := by decide +kernel
theorem d_Days_fits_31 : decode prog_3_method_3_code 31 = .ok (.iconst 1, 1) := by decide +kernel
theorem d_Days_fits_32 : decode prog_3_method_3_code 32 = .ok (.isub, 1) := by decide +kernel
theorem d_Days_fits_33 : decode prog_3_method_3_code 33 = .ok (.iload_n 3, 1) := by decide +kernel
theorem d_Days_fits_34 : decode prog_3_method_3_code 34 = .ok (.if_icmp .lt 7, 3) := by decide +kernel
theorem d_Days_fits_41 : decode prog_3_method_3_code 41 = .ok (.iconst 0, 1) := by decide +kernel
theorem d_Days_fits_42 : decode prog_3_method_3_code 42 = .ok (.goto 16, 3) := by decide +kernel
theorem d_Days_fits_37 : decode prog_3_method_3_code 37 = .ok (.iconst 1, 1) := by decide +kernel
theorem d_Days_fits_38 : decode prog_3_method_3_code 38 = .ok (.goto 20, 3) := by decide +kernel
theorem d_Days_fits_16 : decode prog_3_method_3_code 16 = .ok (.bipush 9, 2) := by decide +kernel
theorem d_Days_fits_18 : decode prog_3_method_3_code 18 = .ok (.goto 5, 3) := by decide +kernel
theorem d_Days_fits_5 : decode prog_3_method_3_code 5 = .ok (.iconst 1, 1) := by decide +kernel
theorem d_Days_fits_6 : decode prog_3_method_3_code 6 = .ok (.goto 4, 3) := by decide +kernel
theorem d_Days_allows_0 : decode prog_3_method_2_code 0 = .ok (.iload_n 3, 1) := by decide +kernel
theorem d_Days_allows_1 : decode prog_3_method_2_code 1 = .ok (.ifCond .ne 5, 3) := by decide +kernel
theorem d_Days_allows_6 : decode prog_3_method_2_code 6 = .ok (.iload_n 3, 1) := by decide +kernel
theorem d_Days_allows_7 : decode prog_3_method_2_code 7 = .ok (.iconst 1, 1) := by decide +kernel
theorem d_Days_allows_8 : decode prog_3_method_2_code 8 = .ok (.if_icmp .eq 8, 3) := by decide +kernel
theorem d_Days_allows_16 : decode prog_3_method_2_code 16 = .ok (.aload_n 0, 1) := by decide +kernel
theorem d_Days_allows_17 : decode prog_3_method_2_code 17 = .ok (.iload_n 2, 1) := by decide +kernel
theorem d_Days_allows_18 : decode prog_3_method_2_code 18 = .ok (.invokevirtual 9, 3) := by decide +kernel
theorem kw_Days_9 : KW "NineBoards$Days" 9 ⟨"NineBoards$Lake", "hasVillage", "(I)Z"⟩ prog_5_method_4_code 2 (some .boolean) 1 := ⟨(mt_4 (List.mem_of_getElem? (i := 40) rfl) rfl), (mt_1 (List.mem_of_getElem? (i := 6) rfl) rfl), (mt_3 (List.mem_of_getElem? (i := 231) rfl) rfl), by decide +kernel⟩
theorem kv_Lake_hasVillage : Cond.instanceMethod ⟨"NineBoards$Lake", "hasVillage", "(I)Z"⟩ ∈ TB ∧ Cond.selects "NineBoards$Lake" ⟨"NineBoards$Lake", "hasVillage", "(I)Z"⟩ ⟨"NineBoards$Lake", "hasVillage", "(I)Z"⟩ ∈ TB := ⟨(mt_3 (List.mem_of_getElem? (i := 229) rfl) rfl), (mt_3 (List.mem_of_getElem? (i := 230) rfl) rfl)⟩
theorem d_Days_allows_21 : decode prog_3_method_2_code 21 = .ok (.ifCond .eq 9, 3) := by decide +kernel
theorem d_Days_allows_30 : decode prog_3_method_2_code 30 = .ok (.iconst 0, 1) := by decide +kernel
theorem d_Days_allows_31 : decode prog_3_method_2_code 31 = .ok (.ireturn, 1) := by decide +kernel
theorem d_Days_allows_24 : decode prog_3_method_2_code 24 = .ok (.iload 4, 2) := by decide +kernel
theorem d_Days_allows_26 : decode prog_3_method_2_code 26 = .ok (.iconst 3, 1) := by decide +kernel
theorem d_Days_allows_27 : decode prog_3_method_2_code 27 = .ok (.if_icmp .ne 5, 3) := by decide +kernel
theorem d_Days_allows_32 : decode prog_3_method_2_code 32 = .ok (.iload 4, 2) := by decide +kernel
theorem d_Days_allows_34 : decode prog_3_method_2_code 34 = .ok (.ifCond .ne 13, 3) := by decide +kernel
theorem d_Days_allows_47 : decode prog_3_method_2_code 47 = .ok (.aload_n 0, 1) := by decide +kernel
theorem d_Days_allows_48 : decode prog_3_method_2_code 48 = .ok (.getfield 21, 3) := by decide +kernel
theorem gf_Days_21 : GF "NineBoards$Days" 21 2 7 := ⟨_, _, _, rfl, ci_Lake, by decide, (mt_2 (List.mem_of_getElem? (i := 55) rfl) rfl)⟩
theorem d_Days_allows_51 : decode prog_3_method_2_code 51 = .ok (.iload_n 2, 1) := by decide +kernel
theorem d_Days_allows_52 : decode prog_3_method_2_code 52 = .ok (.iaload, 1) := by decide +kernel
theorem d_Days_allows_53 : decode prog_3_method_2_code 53 = .ok (.istore 5, 2) := by decide +kernel
theorem d_Days_allows_55 : decode prog_3_method_2_code 55 = .ok (.aload_n 0, 1) := by decide +kernel
theorem d_Days_allows_56 : decode prog_3_method_2_code 56 = .ok (.getfield 25, 3) := by decide +kernel
theorem gf_Days_25 : GF "NineBoards$Days" 25 2 4 := ⟨_, _, _, rfl, ci_Lake, by decide, (mt_2 (List.mem_of_getElem? (i := 43) rfl) rfl)⟩
theorem d_Days_allows_59 : decode prog_3_method_2_code 59 = .ok (.getfield 29, 3) := by decide +kernel
theorem gf_Days_29 : GF "NineBoards$Days" 29 1 7 := ⟨_, _, _, rfl, ci_Gates, by decide, (mt_1 (List.mem_of_getElem? (i := 161) rfl) rfl)⟩
theorem d_Days_allows_62 : decode prog_3_method_2_code 62 = .ok (.iload 5, 2) := by decide +kernel
theorem d_Days_allows_64 : decode prog_3_method_2_code 64 = .ok (.iaload, 1) := by decide +kernel
theorem d_Days_allows_65 : decode prog_3_method_2_code 65 = .ok (.istore 6, 2) := by decide +kernel
theorem d_Days_allows_67 : decode prog_3_method_2_code 67 = .ok (.aload_n 1, 1) := by decide +kernel
theorem d_Days_allows_68 : decode prog_3_method_2_code 68 = .ok (.getfield 34, 3) := by decide +kernel
theorem gf_Days_34 : GF "NineBoards$Days" 34 7 3 := ⟨_, _, _, rfl, ci_State, by decide, (mt_1 (List.mem_of_getElem? (i := 64) rfl) rfl)⟩
theorem d_Days_allows_71 : decode prog_3_method_2_code 71 = .ok (.iload 5, 2) := by decide +kernel
theorem d_Days_allows_73 : decode prog_3_method_2_code 73 = .ok (.iaload, 1) := by decide +kernel
theorem d_Days_allows_74 : decode prog_3_method_2_code 74 = .ok (.iload_n 3, 1) := by decide +kernel
theorem d_Days_allows_75 : decode prog_3_method_2_code 75 = .ok (.iload 4, 2) := by decide +kernel
theorem d_Days_allows_77 : decode prog_3_method_2_code 77 = .ok (.invokestatic 37, 3) := by decide +kernel
theorem kw_Days_37 : KW "NineBoards$Days" 37 ⟨"NineBoards$Days", "fits", "(III)Z"⟩ prog_3_method_3_code 5 (some .boolean) 3 := ⟨(mt_4 (List.mem_of_getElem? (i := 41) rfl) rfl), (mt_1 (List.mem_of_getElem? (i := 18) rfl) rfl), (mt_4 (List.mem_of_getElem? (i := 43) rfl) rfl), by decide +kernel⟩
theorem ks_Days_fits : Cond.static ⟨"NineBoards$Days", "fits", "(III)Z"⟩ ∈ TB := (mt_4 (List.mem_of_getElem? (i := 42) rfl) rfl)
theorem d_Days_allows_80 : decode prog_3_method_2_code 80 = .ok (.ifCond .eq 29, 3) := by decide +kernel
theorem d_Days_allows_109 : decode prog_3_method_2_code 109 = .ok (.iconst 0, 1) := by decide +kernel
theorem d_Days_allows_110 : decode prog_3_method_2_code 110 = .ok (.ireturn, 1) := by decide +kernel
theorem d_Days_allows_83 : decode prog_3_method_2_code 83 = .ok (.iload 6, 2) := by decide +kernel
theorem d_Days_allows_85 : decode prog_3_method_2_code 85 = .ok (.iconst (-1), 1) := by decide +kernel
theorem d_Days_allows_86 : decode prog_3_method_2_code 86 = .ok (.if_icmp .eq 19, 3) := by decide +kernel
theorem d_Days_allows_105 : decode prog_3_method_2_code 105 = .ok (.iconst 1, 1) := by decide +kernel
theorem d_Days_allows_106 : decode prog_3_method_2_code 106 = .ok (.goto 4, 3) := by decide +kernel
theorem d_Days_allows_89 : decode prog_3_method_2_code 89 = .ok (.aload_n 1, 1) := by decide +kernel
theorem d_Days_allows_90 : decode prog_3_method_2_code 90 = .ok (.getfield 34, 3) := by decide +kernel
theorem d_Days_allows_93 : decode prog_3_method_2_code 93 = .ok (.iload 6, 2) := by decide +kernel
theorem d_Days_allows_95 : decode prog_3_method_2_code 95 = .ok (.iaload, 1) := by decide +kernel
theorem d_Days_allows_96 : decode prog_3_method_2_code 96 = .ok (.iload_n 3, 1) := by decide +kernel
theorem d_Days_allows_97 : decode prog_3_method_2_code 97 = .ok (.iload 4, 2) := by decide +kernel
theorem d_Days_allows_99 : decode prog_3_method_2_code 99 = .ok (.invokestatic 37, 3) := by decide +kernel
theorem d_Days_allows_102 : decode prog_3_method_2_code 102 = .ok (.ifCond .eq 7, 3) := by decide +kernel
theorem d_Days_allows_37 : decode prog_3_method_2_code 37 = .ok (.iload_n 3, 1) := by decide +kernel
theorem d_Days_allows_38 : decode prog_3_method_2_code 38 = .ok (.aload_n 1, 1) := by decide +kernel
theorem d_Days_allows_39 : decode prog_3_method_2_code 39 = .ok (.getfield 15, 3) := by decide +kernel
theorem gf_Days_15 : GF "NineBoards$Days" 15 7 2 := ⟨_, _, _, rfl, ci_State, by decide, (mt_1 (List.mem_of_getElem? (i := 61) rfl) rfl)⟩
theorem d_Days_allows_42 : decode prog_3_method_2_code 42 = .ok (.if_icmp .ne 5, 3) := by decide +kernel
theorem d_Days_allows_45 : decode prog_3_method_2_code 45 = .ok (.iconst 0, 1) := by decide +kernel
theorem d_Days_allows_46 : decode prog_3_method_2_code 46 = .ok (.ireturn, 1) := by decide +kernel
theorem d_Days_allows_11 : decode prog_3_method_2_code 11 = .ok (.iload_n 3, 1) := by decide +kernel
theorem d_Days_allows_12 : decode prog_3_method_2_code 12 = .ok (.iconst 2, 1) := by decide +kernel
theorem d_Days_allows_13 : decode prog_3_method_2_code 13 = .ok (.if_icmp .ne 17, 3) := by decide +kernel
theorem d_Days_allows_4 : decode prog_3_method_2_code 4 = .ok (.iconst 1, 1) := by decide +kernel
theorem d_Days_allows_5 : decode prog_3_method_2_code 5 = .ok (.ireturn, 1) := by decide +kernel
theorem d_Days_allowedBits_0 : decode prog_3_method_4_code 0 = .ok (.iconst 0, 1) := by decide +kernel
theorem d_Days_allowedBits_1 : decode prog_3_method_4_code 1 = .ok (.istore_n 3, 1) := by decide +kernel
theorem d_Days_allowedBits_2 : decode prog_3_method_4_code 2 = .ok (.iconst 0, 1) := by decide +kernel
theorem d_Days_allowedBits_3 : decode prog_3_method_4_code 3 = .ok (.istore 4, 2) := by decide +kernel
theorem d_Days_allowedBits_5 : decode prog_3_method_4_code 5 = .ok (.iload 4, 2) := by decide +kernel
theorem d_Days_allowedBits_7 : decode prog_3_method_4_code 7 = .ok (.iconst 3, 1) := by decide +kernel
theorem d_Days_allowedBits_8 : decode prog_3_method_4_code 8 = .ok (.if_icmp .ge 32, 3) := by decide +kernel
theorem d_Days_allowedBits_11 : decode prog_3_method_4_code 11 = .ok (.iload_n 3, 1) := by decide +kernel
theorem d_Days_allowedBits_12 : decode prog_3_method_4_code 12 = .ok (.aload_n 0, 1) := by decide +kernel
theorem d_Days_allowedBits_13 : decode prog_3_method_4_code 13 = .ok (.aload_n 1, 1) := by decide +kernel
theorem d_Days_allowedBits_14 : decode prog_3_method_4_code 14 = .ok (.iload_n 2, 1) := by decide +kernel
theorem d_Days_allowedBits_15 : decode prog_3_method_4_code 15 = .ok (.iload 4, 2) := by decide +kernel
theorem d_Days_allowedBits_17 : decode prog_3_method_4_code 17 = .ok (.iconst 0, 1) := by decide +kernel
theorem d_Days_allowedBits_18 : decode prog_3_method_4_code 18 = .ok (.invokestatic 43, 3) := by decide +kernel
theorem kw_Days_43 : KW "NineBoards$Days" 43 ⟨"NineBoards$Days", "allows", "(LNineBoards$Lake;LNineBoards$State;III)Z"⟩ prog_3_method_2_code 7 (some .boolean) 5 := ⟨(mt_4 (List.mem_of_getElem? (i := 37) rfl) rfl), (mt_1 (List.mem_of_getElem? (i := 18) rfl) rfl), (mt_4 (List.mem_of_getElem? (i := 39) rfl) rfl), by decide +kernel⟩
theorem ks_Days_allows : Cond.static ⟨"NineBoards$Days", "allows", "(LNineBoards$Lake;LNineBoards$State;III)Z"⟩ ∈ TB := (mt_4 (List.mem_of_getElem? (i := 38) rfl) rfl)
theorem d_Days_allowedBits_21 : decode prog_3_method_4_code 21 = .ok (.ifCond .eq 10, 3) := by decide +kernel
theorem d_Days_allowedBits_31 : decode prog_3_method_4_code 31 = .ok (.iconst 0, 1) := by decide +kernel
theorem d_Days_allowedBits_32 : decode prog_3_method_4_code 32 = .ok (.ior, 1) := by decide +kernel
theorem d_Days_allowedBits_33 : decode prog_3_method_4_code 33 = .ok (.istore_n 3, 1) := by decide +kernel
theorem d_Days_allowedBits_34 : decode prog_3_method_4_code 34 = .ok (.iinc 4 1, 3) := by decide +kernel
theorem d_Days_allowedBits_37 : decode prog_3_method_4_code 37 = .ok (.goto (-32), 3) := by decide +kernel
theorem d_Days_allowedBits_40 : decode prog_3_method_4_code 40 = .ok (.iload_n 3, 1) := by decide +kernel
theorem d_Days_allowedBits_41 : decode prog_3_method_4_code 41 = .ok (.ireturn, 1) := by decide +kernel
theorem d_Days_allowedBits_24 : decode prog_3_method_4_code 24 = .ok (.iconst 1, 1) := by decide +kernel
theorem d_Days_allowedBits_25 : decode prog_3_method_4_code 25 = .ok (.iload 4, 2) := by decide +kernel
theorem d_Days_allowedBits_27 : decode prog_3_method_4_code 27 = .ok (.ishl, 1) := by decide +kernel
theorem d_Days_allowedBits_28 : decode prog_3_method_4_code 28 = .ok (.goto 4, 3) := by decide +kernel
theorem d_Days_moveBoards_0 : decode prog_3_method_7_code 0 = .ok (.aload_n 0, 1) := by decide +kernel
theorem d_Days_moveBoards_1 : decode prog_3_method_7_code 1 = .ok (.aload_n 1, 1) := by decide +kernel
theorem d_Days_moveBoards_2 : decode prog_3_method_7_code 2 = .ok (.getfield 59, 3) := by decide +kernel
theorem gf_Days_59 : GF "NineBoards$Days" 59 7 0 := ⟨_, _, _, rfl, ci_State, by decide, (mt_1 (List.mem_of_getElem? (i := 54) rfl) rfl)⟩
theorem d_Days_moveBoards_5 : decode prog_3_method_7_code 5 = .ok (.invokevirtual 109, 3) := by decide +kernel
theorem kw_Days_109 : KW "NineBoards$Days" 109 ⟨"NineBoards$Lake", "villageOn", "(I)I"⟩ prog_5_method_8_code 2 (some .int) 1 := ⟨(mt_4 (List.mem_of_getElem? (i := 76) rfl) rfl), (mt_1 (List.mem_of_getElem? (i := 6) rfl) rfl), (mt_4 (List.mem_of_getElem? (i := 59) rfl) rfl), by decide +kernel⟩
theorem kv_Lake_villageOn : Cond.instanceMethod ⟨"NineBoards$Lake", "villageOn", "(I)I"⟩ ∈ TB ∧ Cond.selects "NineBoards$Lake" ⟨"NineBoards$Lake", "villageOn", "(I)I"⟩ ⟨"NineBoards$Lake", "villageOn", "(I)I"⟩ ∈ TB := ⟨(mt_4 (List.mem_of_getElem? (i := 57) rfl) rfl), (mt_4 (List.mem_of_getElem? (i := 58) rfl) rfl)⟩
theorem d_Days_moveBoards_8 : decode prog_3_method_7_code 8 = .ok (.istore_n 3, 1) := by decide +kernel
theorem d_Days_moveBoards_9 : decode prog_3_method_7_code 9 = .ok (.iload_n 3, 1) := by decide +kernel
theorem d_Days_moveBoards_10 : decode prog_3_method_7_code 10 = .ok (.iconst (-1), 1) := by decide +kernel
theorem d_Days_moveBoards_11 : decode prog_3_method_7_code 11 = .ok (.if_icmp .ne 4, 3) := by decide +kernel
theorem d_Days_moveBoards_14 : decode prog_3_method_7_code 14 = .ok (.return_, 1) := by decide +kernel
theorem d_Days_moveBoards_15 : decode prog_3_method_7_code 15 = .ok (.aload_n 0, 1) := by decide +kernel
theorem d_Days_moveBoards_16 : decode prog_3_method_7_code 16 = .ok (.getfield 21, 3) := by decide +kernel
theorem d_Days_moveBoards_19 : decode prog_3_method_7_code 19 = .ok (.iload_n 3, 1) := by decide +kernel
theorem d_Days_moveBoards_20 : decode prog_3_method_7_code 20 = .ok (.iaload, 1) := by decide +kernel
theorem d_Days_moveBoards_21 : decode prog_3_method_7_code 21 = .ok (.istore 4, 2) := by decide +kernel
theorem d_Days_moveBoards_23 : decode prog_3_method_7_code 23 = .ok (.aload_n 0, 1) := by decide +kernel
theorem d_Days_moveBoards_24 : decode prog_3_method_7_code 24 = .ok (.getfield 25, 3) := by decide +kernel
theorem d_Days_moveBoards_27 : decode prog_3_method_7_code 27 = .ok (.getfield 29, 3) := by decide +kernel
theorem d_Days_moveBoards_30 : decode prog_3_method_7_code 30 = .ok (.iload 4, 2) := by decide +kernel
theorem d_Days_moveBoards_32 : decode prog_3_method_7_code 32 = .ok (.iaload, 1) := by decide +kernel
theorem d_Days_moveBoards_33 : decode prog_3_method_7_code 33 = .ok (.istore 5, 2) := by decide +kernel
theorem d_Days_moveBoards_35 : decode prog_3_method_7_code 35 = .ok (.aload_n 1, 1) := by decide +kernel
theorem d_Days_moveBoards_36 : decode prog_3_method_7_code 36 = .ok (.getfield 34, 3) := by decide +kernel
theorem d_Days_moveBoards_39 : decode prog_3_method_7_code 39 = .ok (.iload 4, 2) := by decide +kernel
theorem d_Days_moveBoards_41 : decode prog_3_method_7_code 41 = .ok (.dup2, 1) := by decide +kernel
theorem d_Days_moveBoards_42 : decode prog_3_method_7_code 42 = .ok (.iaload, 1) := by decide +kernel
theorem d_Days_moveBoards_43 : decode prog_3_method_7_code 43 = .ok (.iload_n 2, 1) := by decide +kernel
theorem d_Days_moveBoards_44 : decode prog_3_method_7_code 44 = .ok (.iadd, 1) := by decide +kernel
theorem d_Days_moveBoards_45 : decode prog_3_method_7_code 45 = .ok (.iastore, 1) := by decide +kernel
theorem d_Days_moveBoards_46 : decode prog_3_method_7_code 46 = .ok (.iload 5, 2) := by decide +kernel
theorem d_Days_moveBoards_48 : decode prog_3_method_7_code 48 = .ok (.iconst (-1), 1) := by decide +kernel
theorem d_Days_moveBoards_49 : decode prog_3_method_7_code 49 = .ok (.if_icmp .eq 14, 3) := by decide +kernel
theorem d_Days_moveBoards_63 : decode prog_3_method_7_code 63 = .ok (.return_, 1) := by decide +kernel
theorem d_Days_moveBoards_52 : decode prog_3_method_7_code 52 = .ok (.aload_n 1, 1) := by decide +kernel
theorem d_Days_moveBoards_53 : decode prog_3_method_7_code 53 = .ok (.getfield 34, 3) := by decide +kernel
theorem d_Days_moveBoards_56 : decode prog_3_method_7_code 56 = .ok (.iload 5, 2) := by decide +kernel
theorem d_Days_moveBoards_58 : decode prog_3_method_7_code 58 = .ok (.dup2, 1) := by decide +kernel
theorem d_Days_moveBoards_59 : decode prog_3_method_7_code 59 = .ok (.iaload, 1) := by decide +kernel
theorem d_Days_moveBoards_60 : decode prog_3_method_7_code 60 = .ok (.iload_n 2, 1) := by decide +kernel
theorem d_Days_moveBoards_61 : decode prog_3_method_7_code 61 = .ok (.iadd, 1) := by decide +kernel
theorem d_Days_moveBoards_62 : decode prog_3_method_7_code 62 = .ok (.iastore, 1) := by decide +kernel
theorem d_Days_doAct_0 : decode prog_3_method_6_code 0 = .ok (.iload_n 2, 1) := by decide +kernel
theorem d_Days_doAct_1 : decode prog_3_method_6_code 1 = .ok (.ifCond .eq 23, 3) := by decide +kernel
theorem d_Days_doAct_24 : decode prog_3_method_6_code 24 = .ok (.return_, 1) := by decide +kernel
theorem d_Days_doAct_4 : decode prog_3_method_6_code 4 = .ok (.aload_n 0, 1) := by decide +kernel
theorem d_Days_doAct_5 : decode prog_3_method_6_code 5 = .ok (.aload_n 1, 1) := by decide +kernel
theorem d_Days_doAct_6 : decode prog_3_method_6_code 6 = .ok (.iload_n 2, 1) := by decide +kernel
theorem d_Days_doAct_7 : decode prog_3_method_6_code 7 = .ok (.iconst 1, 1) := by decide +kernel
theorem d_Days_doAct_8 : decode prog_3_method_6_code 8 = .ok (.if_icmp .ne 7, 3) := by decide +kernel
theorem d_Days_doAct_15 : decode prog_3_method_6_code 15 = .ok (.iconst 1, 1) := by decide +kernel
theorem d_Days_doAct_16 : decode prog_3_method_6_code 16 = .ok (.invokestatic 106, 3) := by decide +kernel
theorem kw_Days_106 : KW "NineBoards$Days" 106 ⟨"NineBoards$Days", "moveBoards", "(LNineBoards$Lake;LNineBoards$State;I)V"⟩ prog_3_method_7_code 6 none 3 := ⟨(mt_4 (List.mem_of_getElem? (i := 73) rfl) rfl), (mt_1 (List.mem_of_getElem? (i := 18) rfl) rfl), (mt_4 (List.mem_of_getElem? (i := 75) rfl) rfl), by decide +kernel⟩
theorem ks_Days_moveBoards : Cond.static ⟨"NineBoards$Days", "moveBoards", "(LNineBoards$Lake;LNineBoards$State;I)V"⟩ ∈ TB := (mt_4 (List.mem_of_getElem? (i := 74) rfl) rfl)
theorem d_Days_doAct_19 : decode prog_3_method_6_code 19 = .ok (.aload_n 1, 1) := by decide +kernel
theorem d_Days_doAct_20 : decode prog_3_method_6_code 20 = .ok (.iload_n 2, 1) := by decide +kernel
theorem d_Days_doAct_21 : decode prog_3_method_6_code 21 = .ok (.putfield 15, 3) := by decide +kernel
theorem pf_Days_15 : PF "NineBoards$Days" 15 7 2 (.int) false := ⟨_, _, _, ct_State, rfl, ci_State, by decide, (mt_1 (List.mem_of_getElem? (i := 61) rfl) rfl), cp_State, cn_State, rfl, by decide +kernel, (fun h => by cases h)⟩
theorem d_Days_doAct_11 : decode prog_3_method_6_code 11 = .ok (.iconst (-1), 1) := by decide +kernel
theorem d_Days_doAct_12 : decode prog_3_method_6_code 12 = .ok (.goto 4, 3) := by decide +kernel
theorem d_Days_canLoseBoard_0 : decode prog_3_method_12_code 0 = .ok (.aload_n 0, 1) := by decide +kernel
theorem d_Days_canLoseBoard_1 : decode prog_3_method_12_code 1 = .ok (.getfield 25, 3) := by decide +kernel
theorem d_Days_canLoseBoard_4 : decode prog_3_method_12_code 4 = .ok (.getfield 29, 3) := by decide +kernel
theorem d_Days_canLoseBoard_7 : decode prog_3_method_12_code 7 = .ok (.iload_n 2, 1) := by decide +kernel
theorem d_Days_canLoseBoard_8 : decode prog_3_method_12_code 8 = .ok (.iaload, 1) := by decide +kernel
theorem d_Days_canLoseBoard_9 : decode prog_3_method_12_code 9 = .ok (.istore_n 3, 1) := by decide +kernel
theorem d_Days_canLoseBoard_10 : decode prog_3_method_12_code 10 = .ok (.aload_n 1, 1) := by decide +kernel
theorem d_Days_canLoseBoard_11 : decode prog_3_method_12_code 11 = .ok (.getfield 34, 3) := by decide +kernel
theorem d_Days_canLoseBoard_14 : decode prog_3_method_12_code 14 = .ok (.iload_n 2, 1) := by decide +kernel
theorem d_Days_canLoseBoard_15 : decode prog_3_method_12_code 15 = .ok (.iaload, 1) := by decide +kernel
theorem d_Days_canLoseBoard_16 : decode prog_3_method_12_code 16 = .ok (.ifCond .le 21, 3) := by decide +kernel
theorem d_Days_canLoseBoard_37 : decode prog_3_method_12_code 37 = .ok (.iconst 0, 1) := by decide +kernel
theorem d_Days_canLoseBoard_38 : decode prog_3_method_12_code 38 = .ok (.ireturn, 1) := by decide +kernel
theorem d_Days_canLoseBoard_19 : decode prog_3_method_12_code 19 = .ok (.iload_n 3, 1) := by decide +kernel
theorem d_Days_canLoseBoard_20 : decode prog_3_method_12_code 20 = .ok (.iconst (-1), 1) := by decide +kernel
theorem d_Days_canLoseBoard_21 : decode prog_3_method_12_code 21 = .ok (.if_icmp .eq 12, 3) := by decide +kernel
theorem d_Days_canLoseBoard_33 : decode prog_3_method_12_code 33 = .ok (.iconst 1, 1) := by decide +kernel
theorem d_Days_canLoseBoard_34 : decode prog_3_method_12_code 34 = .ok (.goto 4, 3) := by decide +kernel
theorem d_Days_canLoseBoard_24 : decode prog_3_method_12_code 24 = .ok (.aload_n 1, 1) := by decide +kernel
theorem d_Days_canLoseBoard_25 : decode prog_3_method_12_code 25 = .ok (.getfield 34, 3) := by decide +kernel
theorem d_Days_canLoseBoard_28 : decode prog_3_method_12_code 28 = .ok (.iload_n 3, 1) := by decide +kernel
theorem d_Days_canLoseBoard_29 : decode prog_3_method_12_code 29 = .ok (.iaload, 1) := by decide +kernel
theorem d_Days_canLoseBoard_30 : decode prog_3_method_12_code 30 = .ok (.ifCond .le 7, 3) := by decide +kernel
theorem d_Days_loseBoard_0 : decode prog_3_method_13_code 0 = .ok (.aload_n 0, 1) := by decide +kernel
theorem d_Days_loseBoard_1 : decode prog_3_method_13_code 1 = .ok (.getfield 25, 3) := by decide +kernel
theorem d_Days_loseBoard_4 : decode prog_3_method_13_code 4 = .ok (.getfield 29, 3) := by decide +kernel
theorem d_Days_loseBoard_7 : decode prog_3_method_13_code 7 = .ok (.iload_n 2, 1) := by decide +kernel
theorem d_Days_loseBoard_8 : decode prog_3_method_13_code 8 = .ok (.iaload, 1) := by decide +kernel
theorem d_Days_loseBoard_9 : decode prog_3_method_13_code 9 = .ok (.istore_n 3, 1) := by decide +kernel
theorem d_Days_loseBoard_10 : decode prog_3_method_13_code 10 = .ok (.aload_n 1, 1) := by decide +kernel
theorem d_Days_loseBoard_11 : decode prog_3_method_13_code 11 = .ok (.getfield 34, 3) := by decide +kernel
theorem d_Days_loseBoard_14 : decode prog_3_method_13_code 14 = .ok (.iload_n 2, 1) := by decide +kernel
theorem d_Days_loseBoard_15 : decode prog_3_method_13_code 15 = .ok (.dup2, 1) := by decide +kernel
theorem d_Days_loseBoard_16 : decode prog_3_method_13_code 16 = .ok (.iaload, 1) := by decide +kernel
theorem d_Days_loseBoard_17 : decode prog_3_method_13_code 17 = .ok (.iconst 1, 1) := by decide +kernel
theorem d_Days_loseBoard_18 : decode prog_3_method_13_code 18 = .ok (.isub, 1) := by decide +kernel
theorem d_Days_loseBoard_19 : decode prog_3_method_13_code 19 = .ok (.iastore, 1) := by decide +kernel
theorem d_Days_loseBoard_20 : decode prog_3_method_13_code 20 = .ok (.iload_n 3, 1) := by decide +kernel
theorem d_Days_loseBoard_21 : decode prog_3_method_13_code 21 = .ok (.iconst (-1), 1) := by decide +kernel
theorem d_Days_loseBoard_22 : decode prog_3_method_13_code 22 = .ok (.if_icmp .eq 13, 3) := by decide +kernel
theorem d_Days_loseBoard_35 : decode prog_3_method_13_code 35 = .ok (.return_, 1) := by decide +kernel
theorem d_Days_loseBoard_25 : decode prog_3_method_13_code 25 = .ok (.aload_n 1, 1) := by decide +kernel
theorem d_Days_loseBoard_26 : decode prog_3_method_13_code 26 = .ok (.getfield 34, 3) := by decide +kernel
theorem d_Days_loseBoard_29 : decode prog_3_method_13_code 29 = .ok (.iload_n 3, 1) := by decide +kernel
theorem d_Days_loseBoard_30 : decode prog_3_method_13_code 30 = .ok (.dup2, 1) := by decide +kernel
theorem d_Days_loseBoard_31 : decode prog_3_method_13_code 31 = .ok (.iaload, 1) := by decide +kernel
theorem d_Days_loseBoard_32 : decode prog_3_method_13_code 32 = .ok (.iconst 1, 1) := by decide +kernel
theorem d_Days_loseBoard_33 : decode prog_3_method_13_code 33 = .ok (.isub, 1) := by decide +kernel
theorem d_Days_loseBoard_34 : decode prog_3_method_13_code 34 = .ok (.iastore, 1) := by decide +kernel
