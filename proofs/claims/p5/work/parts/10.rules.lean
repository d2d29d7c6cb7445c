theorem mx0 (v : Int32) : ∃ i : Nat, i < 2 ^ 31 ∧ (if 0 < v then v else 0) = nI i := by
  by_cases h : 0 < v
  · rw [if_pos h]
    exact nI_of (fun q => absurd (Int32.lt_trans h q) Int32.lt_irrefl)
  · rw [if_neg h]
    exact ⟨0, by decide, rfl⟩
theorem nI_dn {t : Nat} (h : 1 ≤ t) : nI t + (-1) = nI (t - 1) := by
  obtain ⟨q, rfl⟩ : ∃ q, t = q + 1 := ⟨t - 1, by omega⟩
  exact pk_m1 q
theorem nI_s1 {t : Nat} (h : 1 ≤ t) : nI t - 1 = nI (t - 1) := pk_sub (b := 1) h
theorem d_Rules_within_0 : decode prog_9_method_6_code 0 = .ok (.lload_n 0, 1) := by decide +kernel
theorem d_Rules_within_1 : decode prog_9_method_6_code 1 = .ok (.ldc2_w 61, 3) := by decide +kernel
theorem d_Rules_within_4 : decode prog_9_method_6_code 4 = .ok (.lcmp, 1) := by decide +kernel
theorem d_Rules_within_5 : decode prog_9_method_6_code 5 = .ok (.ifCond .le 8, 3) := by decide +kernel
theorem d_Rules_within_13 : decode prog_9_method_6_code 13 = .ok (.lload_n 0, 1) := by decide +kernel
theorem d_Rules_within_14 : decode prog_9_method_6_code 14 = .ok (.ldc2_w 64, 3) := by decide +kernel
theorem d_Rules_within_17 : decode prog_9_method_6_code 17 = .ok (.lcmp, 1) := by decide +kernel
theorem d_Rules_within_18 : decode prog_9_method_6_code 18 = .ok (.ifCond .ge 8, 3) := by decide +kernel
theorem d_Rules_within_26 : decode prog_9_method_6_code 26 = .ok (.lload_n 0, 1) := by decide +kernel
theorem d_Rules_within_27 : decode prog_9_method_6_code 27 = .ok (.l2i, 1) := by decide +kernel
theorem d_Rules_within_28 : decode prog_9_method_6_code 28 = .ok (.ireturn, 1) := by decide +kernel
theorem d_Rules_within_21 : decode prog_9_method_6_code 21 = .ok (.ldc 66, 2) := by decide +kernel
theorem d_Rules_within_23 : decode prog_9_method_6_code 23 = .ok (.goto 5, 3) := by decide +kernel
theorem d_Rules_within_8 : decode prog_9_method_6_code 8 = .ok (.ldc 63, 2) := by decide +kernel
theorem d_Rules_within_10 : decode prog_9_method_6_code 10 = .ok (.goto 18, 3) := by decide +kernel
theorem d_Rules_joined_0 : decode prog_9_method_5_code 0 = .ok (.iload_n 0, 1) := by decide +kernel
theorem d_Rules_joined_1 : decode prog_9_method_5_code 1 = .ok (.tableswitch 145 (-14) (-5) #[141, 130, 119, 108, 102, 96, 82, 73, 64, 55], 55) := by decide +kernel
theorem d_Rules_joined_142 : decode prog_9_method_5_code 142 = .ok (.iload_n 1, 1) := by decide +kernel
theorem d_Rules_joined_143 : decode prog_9_method_5_code 143 = .ok (.iload_n 2, 1) := by decide +kernel
theorem d_Rules_joined_144 : decode prog_9_method_5_code 144 = .ok (.iand, 1) := by decide +kernel
theorem d_Rules_joined_145 : decode prog_9_method_5_code 145 = .ok (.ireturn, 1) := by decide +kernel
theorem d_Rules_joined_131 : decode prog_9_method_5_code 131 = .ok (.iload_n 1, 1) := by decide +kernel
theorem d_Rules_joined_132 : decode prog_9_method_5_code 132 = .ok (.iload_n 2, 1) := by decide +kernel
theorem d_Rules_joined_133 : decode prog_9_method_5_code 133 = .ok (.if_icmp .ne 7, 3) := by decide +kernel
theorem d_Rules_joined_140 : decode prog_9_method_5_code 140 = .ok (.iconst 0, 1) := by decide +kernel
theorem d_Rules_joined_141 : decode prog_9_method_5_code 141 = .ok (.ireturn, 1) := by decide +kernel
theorem d_Rules_joined_136 : decode prog_9_method_5_code 136 = .ok (.iconst 1, 1) := by decide +kernel
theorem d_Rules_joined_137 : decode prog_9_method_5_code 137 = .ok (.goto 4, 3) := by decide +kernel
theorem d_Rules_joined_120 : decode prog_9_method_5_code 120 = .ok (.iload_n 1, 1) := by decide +kernel
theorem d_Rules_joined_121 : decode prog_9_method_5_code 121 = .ok (.iload_n 2, 1) := by decide +kernel
theorem d_Rules_joined_122 : decode prog_9_method_5_code 122 = .ok (.if_icmp .le 7, 3) := by decide +kernel
theorem d_Rules_joined_129 : decode prog_9_method_5_code 129 = .ok (.iconst 0, 1) := by decide +kernel
theorem d_Rules_joined_130 : decode prog_9_method_5_code 130 = .ok (.ireturn, 1) := by decide +kernel
theorem d_Rules_joined_125 : decode prog_9_method_5_code 125 = .ok (.iconst 1, 1) := by decide +kernel
theorem d_Rules_joined_126 : decode prog_9_method_5_code 126 = .ok (.goto 4, 3) := by decide +kernel
theorem d_Rules_joined_109 : decode prog_9_method_5_code 109 = .ok (.iload_n 1, 1) := by decide +kernel
theorem d_Rules_joined_110 : decode prog_9_method_5_code 110 = .ok (.iload_n 2, 1) := by decide +kernel
theorem d_Rules_joined_111 : decode prog_9_method_5_code 111 = .ok (.if_icmp .ge 7, 3) := by decide +kernel
theorem d_Rules_joined_118 : decode prog_9_method_5_code 118 = .ok (.iconst 0, 1) := by decide +kernel
theorem d_Rules_joined_119 : decode prog_9_method_5_code 119 = .ok (.ireturn, 1) := by decide +kernel
theorem d_Rules_joined_114 : decode prog_9_method_5_code 114 = .ok (.iconst 1, 1) := by decide +kernel
theorem d_Rules_joined_115 : decode prog_9_method_5_code 115 = .ok (.goto 4, 3) := by decide +kernel
theorem d_Rules_joined_103 : decode prog_9_method_5_code 103 = .ok (.iload_n 1, 1) := by decide +kernel
theorem d_Rules_joined_104 : decode prog_9_method_5_code 104 = .ok (.iload_n 2, 1) := by decide +kernel
theorem d_Rules_joined_105 : decode prog_9_method_5_code 105 = .ok (.invokestatic 47, 3) := by decide +kernel
theorem d_Rules_joined_108 : decode prog_9_method_5_code 108 = .ok (.ireturn, 1) := by decide +kernel
theorem d_Rules_joined_97 : decode prog_9_method_5_code 97 = .ok (.iload_n 1, 1) := by decide +kernel
theorem d_Rules_joined_98 : decode prog_9_method_5_code 98 = .ok (.iload_n 2, 1) := by decide +kernel
theorem d_Rules_joined_99 : decode prog_9_method_5_code 99 = .ok (.invokestatic 41, 3) := by decide +kernel
theorem d_Rules_joined_102 : decode prog_9_method_5_code 102 = .ok (.ireturn, 1) := by decide +kernel
theorem d_Rules_joined_83 : decode prog_9_method_5_code 83 = .ok (.iload_n 2, 1) := by decide +kernel
theorem d_Rules_joined_84 : decode prog_9_method_5_code 84 = .ok (.ifCond .ne 7, 3) := by decide +kernel
theorem d_Rules_joined_91 : decode prog_9_method_5_code 91 = .ok (.iload_n 1, 1) := by decide +kernel
theorem d_Rules_joined_92 : decode prog_9_method_5_code 92 = .ok (.iload_n 2, 1) := by decide +kernel
theorem d_Rules_joined_93 : decode prog_9_method_5_code 93 = .ok (.invokestatic 58, 3) := by decide +kernel
theorem kw_Rules_58 : KW "NineBoards$Rules" 58 ⟨"java/lang/Math", "floorDiv", "(II)I"⟩ prog_14_method_47_code 3 (some .int) 2 := ⟨(mt_4 (List.mem_of_getElem? (i := 100) rfl) rfl), (mt_1 (List.mem_of_getElem? (i := 3) rfl) rfl), (mt_3 (List.mem_of_getElem? (i := 219) rfl) rfl), by decide +kernel⟩
theorem d_Rules_joined_96 : decode prog_9_method_5_code 96 = .ok (.ireturn, 1) := by decide +kernel
theorem d_Rules_joined_87 : decode prog_9_method_5_code 87 = .ok (.iconst 0, 1) := by decide +kernel
theorem d_Rules_joined_88 : decode prog_9_method_5_code 88 = .ok (.goto 8, 3) := by decide +kernel
theorem d_Rules_joined_74 : decode prog_9_method_5_code 74 = .ok (.iload_n 1, 1) := by decide +kernel
theorem d_Rules_joined_75 : decode prog_9_method_5_code 75 = .ok (.i2l, 1) := by decide +kernel
theorem d_Rules_joined_76 : decode prog_9_method_5_code 76 = .ok (.iload_n 2, 1) := by decide +kernel
theorem d_Rules_joined_77 : decode prog_9_method_5_code 77 = .ok (.i2l, 1) := by decide +kernel
theorem d_Rules_joined_78 : decode prog_9_method_5_code 78 = .ok (.lmul, 1) := by decide +kernel
theorem d_Rules_joined_79 : decode prog_9_method_5_code 79 = .ok (.invokestatic 54, 3) := by decide +kernel
theorem kw_Rules_54 : KW "NineBoards$Rules" 54 ⟨"NineBoards$Rules", "within", "(J)I"⟩ prog_9_method_6_code 2 (some .int) 1 := ⟨(mt_4 (List.mem_of_getElem? (i := 93) rfl) rfl), (mt_1 (List.mem_of_getElem? (i := 9) rfl) rfl), (mt_4 (List.mem_of_getElem? (i := 95) rfl) rfl), by decide +kernel⟩
theorem ks_Rules_within : Cond.static ⟨"NineBoards$Rules", "within", "(J)I"⟩ ∈ TB := (mt_4 (List.mem_of_getElem? (i := 94) rfl) rfl)
theorem d_Rules_joined_82 : decode prog_9_method_5_code 82 = .ok (.ireturn, 1) := by decide +kernel
theorem d_Rules_joined_65 : decode prog_9_method_5_code 65 = .ok (.iload_n 1, 1) := by decide +kernel
theorem d_Rules_joined_66 : decode prog_9_method_5_code 66 = .ok (.i2l, 1) := by decide +kernel
theorem d_Rules_joined_67 : decode prog_9_method_5_code 67 = .ok (.iload_n 2, 1) := by decide +kernel
theorem d_Rules_joined_68 : decode prog_9_method_5_code 68 = .ok (.i2l, 1) := by decide +kernel
theorem d_Rules_joined_69 : decode prog_9_method_5_code 69 = .ok (.lsub, 1) := by decide +kernel
theorem d_Rules_joined_70 : decode prog_9_method_5_code 70 = .ok (.invokestatic 54, 3) := by decide +kernel
theorem d_Rules_joined_73 : decode prog_9_method_5_code 73 = .ok (.ireturn, 1) := by decide +kernel
theorem d_Rules_joined_56 : decode prog_9_method_5_code 56 = .ok (.iload_n 1, 1) := by decide +kernel
theorem d_Rules_joined_57 : decode prog_9_method_5_code 57 = .ok (.i2l, 1) := by decide +kernel
theorem d_Rules_joined_58 : decode prog_9_method_5_code 58 = .ok (.iload_n 2, 1) := by decide +kernel
theorem d_Rules_joined_59 : decode prog_9_method_5_code 59 = .ok (.i2l, 1) := by decide +kernel
theorem d_Rules_joined_60 : decode prog_9_method_5_code 60 = .ok (.ladd, 1) := by decide +kernel
theorem d_Rules_joined_61 : decode prog_9_method_5_code 61 = .ok (.invokestatic 54, 3) := by decide +kernel
theorem d_Rules_joined_64 : decode prog_9_method_5_code 64 = .ok (.ireturn, 1) := by decide +kernel
theorem to_m14_m5 {x : Int32} (h0 : ¬ x = (-14)) (h1 : ¬ x = (-13)) (h2 : ¬ x = (-12)) (h3 : ¬ x = (-11)) (h4 : ¬ x = (-10)) (h5 : ¬ x = (-9)) (h6 : ¬ x = (-8)) (h7 : ¬ x = (-7)) (h8 : ¬ x = (-6)) (h9 : ¬ x = (-5)) : x.toInt < -14 ∨ -5 < x.toInt := by
  have g0 : x.toInt ≠ (-14) := fun e => h0 (Int32.toInt_inj.mp (e.trans (by decide)))
  have g1 : x.toInt ≠ (-13) := fun e => h1 (Int32.toInt_inj.mp (e.trans (by decide)))
  have g2 : x.toInt ≠ (-12) := fun e => h2 (Int32.toInt_inj.mp (e.trans (by decide)))
  have g3 : x.toInt ≠ (-11) := fun e => h3 (Int32.toInt_inj.mp (e.trans (by decide)))
  have g4 : x.toInt ≠ (-10) := fun e => h4 (Int32.toInt_inj.mp (e.trans (by decide)))
  have g5 : x.toInt ≠ (-9) := fun e => h5 (Int32.toInt_inj.mp (e.trans (by decide)))
  have g6 : x.toInt ≠ (-8) := fun e => h6 (Int32.toInt_inj.mp (e.trans (by decide)))
  have g7 : x.toInt ≠ (-7) := fun e => h7 (Int32.toInt_inj.mp (e.trans (by decide)))
  have g8 : x.toInt ≠ (-6) := fun e => h8 (Int32.toInt_inj.mp (e.trans (by decide)))
  have g9 : x.toInt ≠ (-5) := fun e => h9 (Int32.toInt_inj.mp (e.trans (by decide)))
  omega
theorem d_Rules_joined_146 : decode prog_9_method_5_code 146 = .ok (.iload_n 1, 1) := by decide +kernel
theorem d_Rules_joined_147 : decode prog_9_method_5_code 147 = .ok (.iload_n 2, 1) := by decide +kernel
theorem d_Rules_joined_148 : decode prog_9_method_5_code 148 = .ok (.ior, 1) := by decide +kernel
theorem d_Rules_joined_149 : decode prog_9_method_5_code 149 = .ok (.ireturn, 1) := by decide +kernel
theorem d_Rules_put_0 : decode prog_9_method_2_code 0 = .ok (.aload_n 0, 1) := by decide +kernel
theorem d_Rules_put_1 : decode prog_9_method_2_code 1 = .ok (.getfield 30, 3) := by decide +kernel
theorem gf_Rules_30 : GF "NineBoards$Rules" 30 6 1 := ⟨_, _, _, rfl, ci_Rules, by decide, (mt_1 (List.mem_of_getElem? (i := 236) rfl) rfl)⟩
theorem d_Rules_put_4 : decode prog_9_method_2_code 4 = .ok (.ifCond .lt 35, 3) := by decide +kernel
theorem d_Rules_put_39 : decode prog_9_method_2_code 39 = .ok (.return_, 1) := by decide +kernel
theorem d_Rules_put_7 : decode prog_9_method_2_code 7 = .ok (.aload_n 0, 1) := by decide +kernel
theorem d_Rules_put_8 : decode prog_9_method_2_code 8 = .ok (.getfield 30, 3) := by decide +kernel
theorem d_Rules_put_11 : decode prog_9_method_2_code 11 = .ok (.aload_n 0, 1) := by decide +kernel
theorem d_Rules_put_12 : decode prog_9_method_2_code 12 = .ok (.getfield 24, 3) := by decide +kernel
theorem gf_Rules_24 : GF "NineBoards$Rules" 24 6 6 := ⟨_, _, _, rfl, ci_Rules, by decide, (mt_2 (List.mem_of_getElem? (i := 7) rfl) rfl)⟩
theorem d_Rules_put_15 : decode prog_9_method_2_code 15 = .ok (.arraylength, 1) := by decide +kernel
theorem d_Rules_put_16 : decode prog_9_method_2_code 16 = .ok (.if_icmp .ge 23, 3) := by decide +kernel
theorem d_Rules_put_19 : decode prog_9_method_2_code 19 = .ok (.aload_n 0, 1) := by decide +kernel
theorem d_Rules_put_20 : decode prog_9_method_2_code 20 = .ok (.getfield 24, 3) := by decide +kernel
theorem d_Rules_put_23 : decode prog_9_method_2_code 23 = .ok (.aload_n 0, 1) := by decide +kernel
theorem d_Rules_put_24 : decode prog_9_method_2_code 24 = .ok (.getfield 30, 3) := by decide +kernel
theorem d_Rules_put_27 : decode prog_9_method_2_code 27 = .ok (.iload_n 1, 1) := by decide +kernel
theorem d_Rules_put_28 : decode prog_9_method_2_code 28 = .ok (.iastore, 1) := by decide +kernel
theorem d_Rules_put_29 : decode prog_9_method_2_code 29 = .ok (.aload_n 0, 1) := by decide +kernel
theorem d_Rules_put_30 : decode prog_9_method_2_code 30 = .ok (.dup, 1) := by decide +kernel
theorem d_Rules_put_31 : decode prog_9_method_2_code 31 = .ok (.getfield 30, 3) := by decide +kernel
theorem d_Rules_put_34 : decode prog_9_method_2_code 34 = .ok (.iconst 1, 1) := by decide +kernel
theorem d_Rules_put_35 : decode prog_9_method_2_code 35 = .ok (.iadd, 1) := by decide +kernel
theorem d_Rules_put_36 : decode prog_9_method_2_code 36 = .ok (.putfield 30, 3) := by decide +kernel
theorem pf_Rules_30 : PF "NineBoards$Rules" 30 6 1 (.int) false := ⟨_, _, _, ct_Rules, rfl, ci_Rules, by decide, (mt_1 (List.mem_of_getElem? (i := 236) rfl) rfl), cp_Rules, cn_Rules, rfl, by decide +kernel, (fun h => by cases h)⟩
theorem d_Rules_value_10 : decode prog_9_method_4_code 10 = .ok (.iload 7, 2) := by decide +kernel
theorem d_Rules_value_12 : decode prog_9_method_4_code 12 = .ok (.iload_n 2, 1) := by decide +kernel
theorem d_Rules_value_13 : decode prog_9_method_4_code 13 = .ok (.if_icmp .ge 167, 3) := by decide +kernel
theorem d_Rules_value_16 : decode prog_9_method_4_code 16 = .ok (.iload 7, 2) := by decide +kernel
theorem d_Rules_value_18 : decode prog_9_method_4_code 18 = .ok (.aload_n 0, 1) := by decide +kernel
theorem d_Rules_value_19 : decode prog_9_method_4_code 19 = .ok (.getfield 24, 3) := by decide +kernel
theorem d_Rules_value_22 : decode prog_9_method_4_code 22 = .ok (.arraylength, 1) := by decide +kernel
theorem d_Rules_value_23 : decode prog_9_method_4_code 23 = .ok (.if_icmp .ge 157, 3) := by decide +kernel
theorem d_Rules_value_26 : decode prog_9_method_4_code 26 = .ok (.aload_n 0, 1) := by decide +kernel
theorem d_Rules_value_27 : decode prog_9_method_4_code 27 = .ok (.getfield 24, 3) := by decide +kernel
theorem d_Rules_value_30 : decode prog_9_method_4_code 30 = .ok (.iload 7, 2) := by decide +kernel
theorem d_Rules_value_32 : decode prog_9_method_4_code 32 = .ok (.iaload, 1) := by decide +kernel
theorem d_Rules_value_33 : decode prog_9_method_4_code 33 = .ok (.istore 8, 2) := by decide +kernel
theorem d_Rules_value_35 : decode prog_9_method_4_code 35 = .ok (.iload 8, 2) := by decide +kernel
theorem d_Rules_value_37 : decode prog_9_method_4_code 37 = .ok (.bipush (-3), 2) := by decide +kernel
theorem d_Rules_value_39 : decode prog_9_method_4_code 39 = .ok (.if_icmp .lt 60, 3) := by decide +kernel
theorem d_Rules_value_99 : decode prog_9_method_4_code 99 = .ok (.iload 8, 2) := by decide +kernel
theorem d_Rules_value_101 : decode prog_9_method_4_code 101 = .ok (.bipush (-4), 2) := by decide +kernel
theorem d_Rules_value_103 : decode prog_9_method_4_code 103 = .ok (.if_icmp .ne 32, 3) := by decide +kernel
theorem d_Rules_value_135 : decode prog_9_method_4_code 135 = .ok (.iload 6, 2) := by decide +kernel
theorem d_Rules_value_137 : decode prog_9_method_4_code 137 = .ok (.iconst 2, 1) := by decide +kernel
theorem d_Rules_value_138 : decode prog_9_method_4_code 138 = .ok (.if_icmp .lt 36, 3) := by decide +kernel
theorem d_Rules_value_174 : decode prog_9_method_4_code 174 = .ok (.iinc 7 1, 3) := by decide +kernel
theorem d_Rules_value_177 : decode prog_9_method_4_code 177 = .ok (.goto (-167), 3) := by decide +kernel
theorem d_Rules_value_141 : decode prog_9_method_4_code 141 = .ok (.iinc 6 (-1), 3) := by decide +kernel
theorem d_Rules_value_144 : decode prog_9_method_4_code 144 = .ok (.aload_n 0, 1) := by decide +kernel
theorem d_Rules_value_145 : decode prog_9_method_4_code 145 = .ok (.getfield 27, 3) := by decide +kernel
theorem gf_Rules_27 : GF "NineBoards$Rules" 27 6 7 := ⟨_, _, _, rfl, ci_Rules, by decide, (mt_2 (List.mem_of_getElem? (i := 8) rfl) rfl)⟩
theorem d_Rules_value_148 : decode prog_9_method_4_code 148 = .ok (.iload 6, 2) := by decide +kernel
theorem d_Rules_value_150 : decode prog_9_method_4_code 150 = .ok (.iconst 1, 1) := by decide +kernel
theorem d_Rules_value_151 : decode prog_9_method_4_code 151 = .ok (.isub, 1) := by decide +kernel
theorem d_Rules_value_152 : decode prog_9_method_4_code 152 = .ok (.iload 8, 2) := by decide +kernel
theorem d_Rules_value_154 : decode prog_9_method_4_code 154 = .ok (.aload_n 0, 1) := by decide +kernel
theorem d_Rules_value_155 : decode prog_9_method_4_code 155 = .ok (.getfield 27, 3) := by decide +kernel
theorem d_Rules_value_158 : decode prog_9_method_4_code 158 = .ok (.iload 6, 2) := by decide +kernel
theorem d_Rules_value_160 : decode prog_9_method_4_code 160 = .ok (.iconst 1, 1) := by decide +kernel
theorem d_Rules_value_161 : decode prog_9_method_4_code 161 = .ok (.isub, 1) := by decide +kernel
theorem d_Rules_value_162 : decode prog_9_method_4_code 162 = .ok (.iaload, 1) := by decide +kernel
theorem d_Rules_value_163 : decode prog_9_method_4_code 163 = .ok (.aload_n 0, 1) := by decide +kernel
theorem d_Rules_value_164 : decode prog_9_method_4_code 164 = .ok (.getfield 27, 3) := by decide +kernel
theorem d_Rules_value_167 : decode prog_9_method_4_code 167 = .ok (.iload 6, 2) := by decide +kernel
theorem d_Rules_value_169 : decode prog_9_method_4_code 169 = .ok (.iaload, 1) := by decide +kernel
theorem d_Rules_value_170 : decode prog_9_method_4_code 170 = .ok (.invokestatic 50, 3) := by decide +kernel
theorem kw_Rules_50 : KW "NineBoards$Rules" 50 ⟨"NineBoards$Rules", "joined", "(III)I"⟩ prog_9_method_5_code 3 (some .int) 3 := ⟨(mt_4 (List.mem_of_getElem? (i := 90) rfl) rfl), (mt_1 (List.mem_of_getElem? (i := 9) rfl) rfl), (mt_4 (List.mem_of_getElem? (i := 92) rfl) rfl), by decide +kernel⟩
theorem ks_Rules_joined : Cond.static ⟨"NineBoards$Rules", "joined", "(III)I"⟩ ∈ TB := (mt_4 (List.mem_of_getElem? (i := 91) rfl) rfl)
theorem d_Rules_value_173 : decode prog_9_method_4_code 173 = .ok (.iastore, 1) := by decide +kernel
theorem d_Rules_value_106 : decode prog_9_method_4_code 106 = .ok (.iload 6, 2) := by decide +kernel
theorem d_Rules_value_108 : decode prog_9_method_4_code 108 = .ok (.iconst 1, 1) := by decide +kernel
theorem d_Rules_value_109 : decode prog_9_method_4_code 109 = .ok (.if_icmp .lt 65, 3) := by decide +kernel
theorem d_Rules_value_112 : decode prog_9_method_4_code 112 = .ok (.aload_n 0, 1) := by decide +kernel
theorem d_Rules_value_113 : decode prog_9_method_4_code 113 = .ok (.getfield 27, 3) := by decide +kernel
theorem d_Rules_value_116 : decode prog_9_method_4_code 116 = .ok (.iload 6, 2) := by decide +kernel
theorem d_Rules_value_118 : decode prog_9_method_4_code 118 = .ok (.iconst 1, 1) := by decide +kernel
theorem d_Rules_value_119 : decode prog_9_method_4_code 119 = .ok (.isub, 1) := by decide +kernel
theorem d_Rules_value_120 : decode prog_9_method_4_code 120 = .ok (.iconst 1, 1) := by decide +kernel
theorem d_Rules_value_121 : decode prog_9_method_4_code 121 = .ok (.aload_n 0, 1) := by decide +kernel
theorem d_Rules_value_122 : decode prog_9_method_4_code 122 = .ok (.getfield 27, 3) := by decide +kernel
theorem d_Rules_value_125 : decode prog_9_method_4_code 125 = .ok (.iload 6, 2) := by decide +kernel
theorem d_Rules_value_127 : decode prog_9_method_4_code 127 = .ok (.iconst 1, 1) := by decide +kernel
theorem d_Rules_value_128 : decode prog_9_method_4_code 128 = .ok (.isub, 1) := by decide +kernel
theorem d_Rules_value_129 : decode prog_9_method_4_code 129 = .ok (.iaload, 1) := by decide +kernel
theorem d_Rules_value_130 : decode prog_9_method_4_code 130 = .ok (.isub, 1) := by decide +kernel
theorem d_Rules_value_131 : decode prog_9_method_4_code 131 = .ok (.iastore, 1) := by decide +kernel
theorem d_Rules_value_132 : decode prog_9_method_4_code 132 = .ok (.goto 42, 3) := by decide +kernel
theorem d_Rules_value_42 : decode prog_9_method_4_code 42 = .ok (.iload 6, 2) := by decide +kernel
theorem d_Rules_value_44 : decode prog_9_method_4_code 44 = .ok (.aload_n 0, 1) := by decide +kernel
theorem d_Rules_value_45 : decode prog_9_method_4_code 45 = .ok (.getfield 27, 3) := by decide +kernel
theorem d_Rules_value_48 : decode prog_9_method_4_code 48 = .ok (.arraylength, 1) := by decide +kernel
theorem d_Rules_value_49 : decode prog_9_method_4_code 49 = .ok (.if_icmp .ge 125, 3) := by decide +kernel
theorem d_Rules_value_52 : decode prog_9_method_4_code 52 = .ok (.aload_n 0, 1) := by decide +kernel
theorem d_Rules_value_53 : decode prog_9_method_4_code 53 = .ok (.getfield 27, 3) := by decide +kernel
theorem d_Rules_value_56 : decode prog_9_method_4_code 56 = .ok (.iload 6, 2) := by decide +kernel
theorem d_Rules_value_58 : decode prog_9_method_4_code 58 = .ok (.iload 8, 2) := by decide +kernel
theorem d_Rules_value_60 : decode prog_9_method_4_code 60 = .ok (.ifCond .lt 8, 3) := by decide +kernel
theorem d_Rules_value_68 : decode prog_9_method_4_code 68 = .ok (.iload 8, 2) := by decide +kernel
theorem d_Rules_value_70 : decode prog_9_method_4_code 70 = .ok (.iconst (-1), 1) := by decide +kernel
theorem d_Rules_value_71 : decode prog_9_method_4_code 71 = .ok (.if_icmp .ne 7, 3) := by decide +kernel
theorem d_Rules_value_78 : decode prog_9_method_4_code 78 = .ok (.iload 8, 2) := by decide +kernel
theorem d_Rules_value_80 : decode prog_9_method_4_code 80 = .ok (.bipush (-2), 2) := by decide +kernel
theorem d_Rules_value_82 : decode prog_9_method_4_code 82 = .ok (.if_icmp .ne 8, 3) := by decide +kernel
theorem d_Rules_value_90 : decode prog_9_method_4_code 90 = .ok (.iload 5, 2) := by decide +kernel
theorem d_Rules_value_92 : decode prog_9_method_4_code 92 = .ok (.iastore, 1) := by decide +kernel
theorem d_Rules_value_93 : decode prog_9_method_4_code 93 = .ok (.iinc 6 1, 3) := by decide +kernel
theorem d_Rules_value_96 : decode prog_9_method_4_code 96 = .ok (.goto 78, 3) := by decide +kernel
theorem d_Rules_value_85 : decode prog_9_method_4_code 85 = .ok (.iload 4, 2) := by decide +kernel
theorem d_Rules_value_87 : decode prog_9_method_4_code 87 = .ok (.goto 5, 3) := by decide +kernel
theorem d_Rules_value_74 : decode prog_9_method_4_code 74 = .ok (.iload_n 3, 1) := by decide +kernel
theorem d_Rules_value_75 : decode prog_9_method_4_code 75 = .ok (.goto 17, 3) := by decide +kernel
theorem d_Rules_value_63 : decode prog_9_method_4_code 63 = .ok (.iload 8, 2) := by decide +kernel
theorem d_Rules_value_65 : decode prog_9_method_4_code 65 = .ok (.goto 27, 3) := by decide +kernel
theorem d_Rules_value_0 : decode prog_9_method_4_code 0 = .ok (.iconst 0, 1) := by decide +kernel
theorem d_Rules_value_1 : decode prog_9_method_4_code 1 = .ok (.istore 6, 2) := by decide +kernel
theorem d_Rules_value_3 : decode prog_9_method_4_code 3 = .ok (.iconst 0, 1) := by decide +kernel
theorem d_Rules_value_4 : decode prog_9_method_4_code 4 = .ok (.iload_n 1, 1) := by decide +kernel
theorem d_Rules_value_5 : decode prog_9_method_4_code 5 = .ok (.invokestatic 47, 3) := by decide +kernel
theorem d_Rules_value_8 : decode prog_9_method_4_code 8 = .ok (.istore 7, 2) := by decide +kernel
theorem d_Rules_value_180 : decode prog_9_method_4_code 180 = .ok (.iload 6, 2) := by decide +kernel
theorem d_Rules_value_182 : decode prog_9_method_4_code 182 = .ok (.iconst 1, 1) := by decide +kernel
theorem d_Rules_value_183 : decode prog_9_method_4_code 183 = .ok (.if_icmp .lt 15, 3) := by decide +kernel
theorem d_Rules_value_198 : decode prog_9_method_4_code 198 = .ok (.iconst 0, 1) := by decide +kernel
theorem d_Rules_value_199 : decode prog_9_method_4_code 199 = .ok (.ireturn, 1) := by decide +kernel
theorem d_Rules_value_186 : decode prog_9_method_4_code 186 = .ok (.aload_n 0, 1) := by decide +kernel
theorem d_Rules_value_187 : decode prog_9_method_4_code 187 = .ok (.getfield 27, 3) := by decide +kernel
theorem d_Rules_value_190 : decode prog_9_method_4_code 190 = .ok (.iload 6, 2) := by decide +kernel
theorem d_Rules_value_192 : decode prog_9_method_4_code 192 = .ok (.iconst 1, 1) := by decide +kernel
theorem d_Rules_value_193 : decode prog_9_method_4_code 193 = .ok (.isub, 1) := by decide +kernel
theorem d_Rules_value_194 : decode prog_9_method_4_code 194 = .ok (.iaload, 1) := by decide +kernel
theorem d_Rules_value_195 : decode prog_9_method_4_code 195 = .ok (.goto 4, 3) := by decide +kernel
theorem d_Rules_amount_3 : decode prog_9_method_3_code 3 = .ok (.iload 5, 2) := by decide +kernel
theorem d_Rules_amount_5 : decode prog_9_method_3_code 5 = .ok (.aload_n 0, 1) := by decide +kernel
theorem d_Rules_amount_6 : decode prog_9_method_3_code 6 = .ok (.getfield 34, 3) := by decide +kernel
theorem gf_Rules_34 : GF "NineBoards$Rules" 34 6 0 := ⟨_, _, _, rfl, ci_Rules, by decide, (mt_1 (List.mem_of_getElem? (i := 233) rfl) rfl)⟩
theorem d_Rules_amount_9 : decode prog_9_method_3_code 9 = .ok (.if_icmp .ge 82, 3) := by decide +kernel
theorem d_Rules_amount_12 : decode prog_9_method_3_code 12 = .ok (.aload_n 0, 1) := by decide +kernel
theorem d_Rules_amount_13 : decode prog_9_method_3_code 13 = .ok (.getfield 9, 3) := by decide +kernel
theorem gf_Rules_9 : GF "NineBoards$Rules" 9 6 2 := ⟨_, _, _, rfl, ci_Rules, by decide, (mt_1 (List.mem_of_getElem? (i := 239) rfl) rfl)⟩
theorem d_Rules_amount_16 : decode prog_9_method_3_code 16 = .ok (.iload 5, 2) := by decide +kernel
theorem d_Rules_amount_18 : decode prog_9_method_3_code 18 = .ok (.iaload, 1) := by decide +kernel
theorem d_Rules_amount_19 : decode prog_9_method_3_code 19 = .ok (.iload_n 1, 1) := by decide +kernel
theorem d_Rules_amount_20 : decode prog_9_method_3_code 20 = .ok (.if_icmp .ne 65, 3) := by decide +kernel
theorem d_Rules_amount_85 : decode prog_9_method_3_code 85 = .ok (.iinc 5 1, 3) := by decide +kernel
theorem d_Rules_amount_88 : decode prog_9_method_3_code 88 = .ok (.goto (-85), 3) := by decide +kernel
theorem d_Rules_amount_23 : decode prog_9_method_3_code 23 = .ok (.aload_n 0, 1) := by decide +kernel
theorem d_Rules_amount_24 : decode prog_9_method_3_code 24 = .ok (.aload_n 0, 1) := by decide +kernel
theorem d_Rules_amount_25 : decode prog_9_method_3_code 25 = .ok (.getfield 18, 3) := by decide +kernel
theorem gf_Rules_18 : GF "NineBoards$Rules" 18 6 4 := ⟨_, _, _, rfl, ci_Rules, by decide, (mt_2 (List.mem_of_getElem? (i := 3) rfl) rfl)⟩
theorem d_Rules_amount_28 : decode prog_9_method_3_code 28 = .ok (.iload 5, 2) := by decide +kernel
theorem d_Rules_amount_30 : decode prog_9_method_3_code 30 = .ok (.iaload, 1) := by decide +kernel
theorem d_Rules_amount_31 : decode prog_9_method_3_code 31 = .ok (.aload_n 0, 1) := by decide +kernel
theorem d_Rules_amount_32 : decode prog_9_method_3_code 32 = .ok (.getfield 21, 3) := by decide +kernel
theorem gf_Rules_21 : GF "NineBoards$Rules" 21 6 5 := ⟨_, _, _, rfl, ci_Rules, by decide, (mt_2 (List.mem_of_getElem? (i := 5) rfl) rfl)⟩
theorem d_Rules_amount_35 : decode prog_9_method_3_code 35 = .ok (.iload 5, 2) := by decide +kernel
theorem d_Rules_amount_37 : decode prog_9_method_3_code 37 = .ok (.iaload, 1) := by decide +kernel
theorem d_Rules_amount_38 : decode prog_9_method_3_code 38 = .ok (.iload_n 2, 1) := by decide +kernel
theorem d_Rules_amount_39 : decode prog_9_method_3_code 39 = .ok (.iload_n 3, 1) := by decide +kernel
theorem d_Rules_amount_40 : decode prog_9_method_3_code 40 = .ok (.iload 4, 2) := by decide +kernel
theorem d_Rules_amount_42 : decode prog_9_method_3_code 42 = .ok (.invokevirtual 37, 3) := by decide +kernel
theorem kw_Rules_37 : KW "NineBoards$Rules" 37 ⟨"NineBoards$Rules", "value", "(IIIII)I"⟩ prog_9_method_4_code 9 (some .int) 5 := ⟨(mt_4 (List.mem_of_getElem? (i := 85) rfl) rfl), (mt_1 (List.mem_of_getElem? (i := 9) rfl) rfl), (mt_4 (List.mem_of_getElem? (i := 88) rfl) rfl), by decide +kernel⟩
theorem kv_Rules_value : Cond.instanceMethod ⟨"NineBoards$Rules", "value", "(IIIII)I"⟩ ∈ TB ∧ Cond.selects "NineBoards$Rules" ⟨"NineBoards$Rules", "value", "(IIIII)I"⟩ ⟨"NineBoards$Rules", "value", "(IIIII)I"⟩ ∈ TB := ⟨(mt_4 (List.mem_of_getElem? (i := 87) rfl) rfl), (ms_0 (List.mem_map.mpr ⟨(⟨"NineBoards$Rules", "value", "(IIIII)I"⟩, 8), List.mem_of_getElem? (i := 33) (by decide +kernel), rfl⟩) rfl)⟩
theorem d_Rules_amount_45 : decode prog_9_method_3_code 45 = .ok (.ifCond .eq 40, 3) := by decide +kernel
theorem d_Rules_amount_0 : decode prog_9_method_3_code 0 = .ok (.iconst 0, 1) := by decide +kernel
theorem d_Rules_amount_1 : decode prog_9_method_3_code 1 = .ok (.istore 5, 2) := by decide +kernel
theorem d_Rules_amount_91 : decode prog_9_method_3_code 91 = .ok (.iconst 0, 1) := by decide +kernel
theorem d_Rules_amount_92 : decode prog_9_method_3_code 92 = .ok (.ireturn, 1) := by decide +kernel
theorem d_Rules_amount_48 : decode prog_9_method_3_code 48 = .ok (.aload_n 0, 1) := by decide +kernel
theorem d_Rules_amount_49 : decode prog_9_method_3_code 49 = .ok (.aload_n 0, 1) := by decide +kernel
theorem d_Rules_amount_50 : decode prog_9_method_3_code 50 = .ok (.getfield 15, 3) := by decide +kernel
theorem gf_Rules_15 : GF "NineBoards$Rules" 15 6 3 := ⟨_, _, _, rfl, ci_Rules, by decide, (mt_2 (List.mem_of_getElem? (i := 1) rfl) rfl)⟩
theorem d_Rules_amount_53 : decode prog_9_method_3_code 53 = .ok (.iload 5, 2) := by decide +kernel
theorem d_Rules_amount_55 : decode prog_9_method_3_code 55 = .ok (.iaload, 1) := by decide +kernel
theorem d_Rules_amount_56 : decode prog_9_method_3_code 56 = .ok (.aload_n 0, 1) := by decide +kernel
theorem d_Rules_amount_57 : decode prog_9_method_3_code 57 = .ok (.getfield 18, 3) := by decide +kernel
theorem d_Rules_amount_60 : decode prog_9_method_3_code 60 = .ok (.iload 5, 2) := by decide +kernel
theorem d_Rules_amount_62 : decode prog_9_method_3_code 62 = .ok (.iaload, 1) := by decide +kernel
theorem d_Rules_amount_63 : decode prog_9_method_3_code 63 = .ok (.iload_n 2, 1) := by decide +kernel
theorem d_Rules_amount_64 : decode prog_9_method_3_code 64 = .ok (.iload_n 3, 1) := by decide +kernel
theorem d_Rules_amount_65 : decode prog_9_method_3_code 65 = .ok (.iload 4, 2) := by decide +kernel
theorem d_Rules_amount_67 : decode prog_9_method_3_code 67 = .ok (.invokevirtual 37, 3) := by decide +kernel
theorem d_Rules_amount_70 : decode prog_9_method_3_code 70 = .ok (.istore 6, 2) := by decide +kernel
theorem d_Rules_amount_72 : decode prog_9_method_3_code 72 = .ok (.iconst 0, 1) := by decide +kernel
theorem d_Rules_amount_73 : decode prog_9_method_3_code 73 = .ok (.sipush 9999, 3) := by decide +kernel
theorem d_Rules_amount_76 : decode prog_9_method_3_code 76 = .ok (.iload 6, 2) := by decide +kernel
theorem d_Rules_amount_78 : decode prog_9_method_3_code 78 = .ok (.invokestatic 41, 3) := by decide +kernel
theorem d_Rules_amount_81 : decode prog_9_method_3_code 81 = .ok (.invokestatic 47, 3) := by decide +kernel
theorem d_Rules_amount_84 : decode prog_9_method_3_code 84 = .ok (.ireturn, 1) := by decide +kernel
