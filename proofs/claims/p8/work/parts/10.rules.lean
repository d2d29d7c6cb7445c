theorem mx0 (v : Int32) : ∃ i : Nat, i < 2 ^ 31 ∧ (if 0 < v then v else 0) = nI i := by
  by_cases h : 0 < v
  · rw [if_pos h]
    exact nI_of (fun q => absurd (Int32.lt_trans h q) Int32.lt_irrefl)
  · rw [if_neg h]
    exact ⟨0, by decide, rfl⟩
theorem nI_dn {t : Nat} (h : 1 ≤ t) : nI t + (-1) = nI (t - 1) := by
  obtain ⟨q, rfl⟩ : ∃ q, t = q + 1 := ⟨t - 1, by omega⟩
  exact pk_m1 q
theorem nI_s1 {t : Nat} (h : 1 ≤ t) : nI t - 1 = nI (t - 1) := pk_sub (b := 1) h
theorem d_Rules_within_0 : decode prog_9_method_6_code 0 = .ok (.lload_n 0, 1) := by decide +kernel
theorem d_Rules_within_1 : decode prog_9_method_6_code 1 = .ok (.ldc2_w 61, 3) := by decide +kernel
theorem d_Rules_within_4 : decode prog_9_method_6_code 4 = .ok (.lcmp, 1) := by decide +kernel
theorem d_Rules_within_5 : decode prog_9_method_6_code 5 = .ok (.ifCond .le 8, 3) := by decide +kernel
theorem d_Rules_within_13 : decode prog_9_method_6_code 13 = .ok (.lload_n 0, 1) := by decide +kernel
theorem d_Rules_within_14 : decode prog_9_method_6_code 14 = .ok (.ldc2_w 64, 3) := by decide +kernel
theorem d_Rules_within_17 : decode prog_9_method_6_code 17 = .ok (.lcmp, 1) := by decide +kernel
theorem d_Rules_within_18 : decode prog_9_method_6_code 18 = .ok (.ifCond .ge 8, 3) := by decide +kernel
theorem d_Rules_within_26 : decode prog_9_method_6_code 26 = .ok (.lload_n 0, 1) := by decide +kernel
theorem d_Rules_within_27 : decode prog_9_method_6_code 27 = .ok (.l2i, 1) := by decide +kernel
theorem d_Rules_within_28 : decode prog_9_method_6_code 28 = .ok (.ireturn, 1) := by decide +kernel
theorem d_Rules_within_21 : decode prog_9_method_6_code 21 = .ok (.ldc 66, 2) := by decide +kernel
theorem d_Rules_within_23 : decode prog_9_method_6_code 23 = .ok (.goto 5, 3) := by decide +kernel
theorem d_Rules_within_8 : decode prog_9_method_6_code 8 = .ok (.ldc 63, 2) := by decide +kernel
theorem d_Rules_within_10 : decode prog_9_method_6_code 10 = .ok (.goto 18, 3) := by decide +kernel
set_option maxHeartbeats 4000000 in
set_option maxRecDepth 100000 in
theorem c_within (l : Launch) (D : va_G) (y : Nat → ClassId) (x : Int64)  : CT l D y ⟨"NineBoards$Rules", "within", "(J)I"⟩ prog_9_method_6_code 2 (some .int) ({ frames := 0, cells := 0, slots := 0, locals := 0 } : Room) [.long x] [] (QI D [] (fun (r : Int32) (u : Unit) => True) (fun _ => [])) := by
  refine CT.of (by decide) (nb rfl) ?_
  intro p e s m args below meth c C hr
  refine j_lv (lv' := [(0, .long x)]) rfl ?_
  refine j_lload_n (pc := 0) C d_Rules_within_0 rfl 0 rfl ?_
  refine j_ldc2 (pc := 1) C (v := 1000000) (mt_4 (List.mem_of_getElem? (i := 96) rfl) rfl) d_Rules_within_1 ?_
  refine j_lcmp (pc := 4) C (v := lg_cmp x 1000000) d_Rules_within_4 rfl ?_
  refine j_if_le (pc := 5) C (tgt := 13) d_Rules_within_5 (by decide) (fun c1 => ?_) (fun c1 => ?_)
  · refine j_lload_n (pc := 13) C d_Rules_within_13 rfl 0 rfl ?_
    refine j_ldc2 (pc := 14) C (v := (-1000000)) (mt_4 (List.mem_of_getElem? (i := 98) rfl) rfl) d_Rules_within_14 ?_
    refine j_lcmp (pc := 17) C (v := lg_cmp x (-1000000)) d_Rules_within_17 rfl ?_
    refine j_if_ge (pc := 18) C (tgt := 26) d_Rules_within_18 (by decide) (fun c2 => ?_) (fun c2 => ?_)
    · refine j_lload_n (pc := 26) C d_Rules_within_26 rfl 0 rfl ?_
      refine j_l2i (pc := 27) C (v := x.toInt32) d_Rules_within_27 rfl ?_
      exact j_iret (pc := 28) C hr rfl () trivial [] rfl (by decide) (by decide) (by decide) d_Rules_within_28
    · refine j_ldc (pc := 21) C (v := (-1000000)) (mt_4 (List.mem_of_getElem? (i := 99) rfl) rfl) d_Rules_within_21 ?_
      refine j_goto (pc := 23) C (tgt := 28) d_Rules_within_23 (by decide) ?_
      exact j_iret (pc := 28) C hr rfl () trivial [] rfl (by decide) (by decide) (by decide) d_Rules_within_28
  · refine j_ldc (pc := 8) C (v := 1000000) (mt_4 (List.mem_of_getElem? (i := 97) rfl) rfl) d_Rules_within_8 ?_
    refine j_goto (pc := 10) C (tgt := 28) d_Rules_within_10 (by decide) ?_
    exact j_iret (pc := 28) C hr rfl () trivial [] rfl (by decide) (by decide) (by decide) d_Rules_within_28
theorem d_Rules_joined_0 : decode prog_9_method_5_code 0 = .ok (.iload_n 0, 1) := by decide +kernel
theorem d_Rules_joined_1 : decode prog_9_method_5_code 1 = .ok (.tableswitch 145 (-14) (-5) #[141, 130, 119, 108, 102, 96, 82, 73, 64, 55], 55) := by decide +kernel
theorem d_Rules_joined_142 : decode prog_9_method_5_code 142 = .ok (.iload_n 1, 1) := by decide +kernel
theorem d_Rules_joined_143 : decode prog_9_method_5_code 143 = .ok (.iload_n 2, 1) := by decide +kernel
theorem d_Rules_joined_144 : decode prog_9_method_5_code 144 = .ok (.iand, 1) := by decide +kernel
theorem d_Rules_joined_145 : decode prog_9_method_5_code 145 = .ok (.ireturn, 1) := by decide +kernel
theorem d_Rules_joined_131 : decode prog_9_method_5_code 131 = .ok (.iload_n 1, 1) := by decide +kernel
theorem d_Rules_joined_132 : decode prog_9_method_5_code 132 = .ok (.iload_n 2, 1) := by decide +kernel
theorem d_Rules_joined_133 : decode prog_9_method_5_code 133 = .ok (.if_icmp .ne 7, 3) := by decide +kernel
theorem d_Rules_joined_140 : decode prog_9_method_5_code 140 = .ok (.iconst 0, 1) := by decide +kernel
theorem d_Rules_joined_141 : decode prog_9_method_5_code 141 = .ok (.ireturn, 1) := by decide +kernel
theorem d_Rules_joined_136 : decode prog_9_method_5_code 136 = .ok (.iconst 1, 1) := by decide +kernel
theorem d_Rules_joined_137 : decode prog_9_method_5_code 137 = .ok (.goto 4, 3) := by decide +kernel
theorem d_Rules_joined_120 : decode prog_9_method_5_code 120 = .ok (.iload_n 1, 1) := by decide +kernel
theorem d_Rules_joined_121 : decode prog_9_method_5_code 121 = .ok (.iload_n 2, 1) := by decide +kernel
theorem d_Rules_joined_122 : decode prog_9_method_5_code 122 = .ok (.if_icmp .le 7, 3) := by decide +kernel
theorem d_Rules_joined_129 : decode prog_9_method_5_code 129 = .ok (.iconst 0, 1) := by decide +kernel
theorem d_Rules_joined_130 : decode prog_9_method_5_code 130 = .ok (.ireturn, 1) := by decide +kernel
theorem d_Rules_joined_125 : decode prog_9_method_5_code 125 = .ok (.iconst 1, 1) := by decide +kernel
theorem d_Rules_joined_126 : decode prog_9_method_5_code 126 = .ok (.goto 4, 3) := by decide +kernel
theorem d_Rules_joined_109 : decode prog_9_method_5_code 109 = .ok (.iload_n 1, 1) := by decide +kernel
theorem d_Rules_joined_110 : decode prog_9_method_5_code 110 = .ok (.iload_n 2, 1) := by decide +kernel
theorem d_Rules_joined_111 : decode prog_9_method_5_code 111 = .ok (.if_icmp .ge 7, 3) := by decide +kernel
theorem d_Rules_joined_118 : decode prog_9_method_5_code 118 = .ok (.iconst 0, 1) := by decide +kernel
theorem d_Rules_joined_119 : decode prog_9_method_5_code 119 = .ok (.ireturn, 1) := by decide +kernel
theorem d_Rules_joined_114 : decode prog_9_method_5_code 114 = .ok (.iconst 1, 1) := by decide +kernel
theorem d_Rules_joined_115 : decode prog_9_method_5_code 115 = .ok (.goto 4, 3) := by decide +kernel
theorem d_Rules_joined_103 : decode prog_9_method_5_code 103 = .ok (.iload_n 1, 1) := by decide +kernel
theorem d_Rules_joined_104 : decode prog_9_method_5_code 104 = .ok (.iload_n 2, 1) := by decide +kernel
theorem d_Rules_joined_105 : decode prog_9_method_5_code 105 = .ok (.invokestatic 47, 3) := by decide +kernel
theorem d_Rules_joined_108 : decode prog_9_method_5_code 108 = .ok (.ireturn, 1) := by decide +kernel
theorem d_Rules_joined_97 : decode prog_9_method_5_code 97 = .ok (.iload_n 1, 1) := by decide +kernel
theorem d_Rules_joined_98 : decode prog_9_method_5_code 98 = .ok (.iload_n 2, 1) := by decide +kernel
theorem d_Rules_joined_99 : decode prog_9_method_5_code 99 = .ok (.invokestatic 41, 3) := by decide +kernel
theorem d_Rules_joined_102 : decode prog_9_method_5_code 102 = .ok (.ireturn, 1) := by decide +kernel
theorem d_Rules_joined_83 : decode prog_9_method_5_code 83 = .ok (.iload_n 2, 1) := by decide +kernel
theorem d_Rules_joined_84 : decode prog_9_method_5_code 84 = .ok (.ifCond .ne 7, 3) := by decide +kernel
theorem d_Rules_joined_91 : decode prog_9_method_5_code 91 = .ok (.iload_n 1, 1) := by decide +kernel
theorem d_Rules_joined_92 : decode prog_9_method_5_code 92 = .ok (.iload_n 2, 1) := by decide +kernel
theorem d_Rules_joined_93 : decode prog_9_method_5_code 93 = .ok (.invokestatic 58, 3) := by decide +kernel
theorem kw_Rules_58 : KW "NineBoards$Rules" 58 ⟨"java/lang/Math", "floorDiv", "(II)I"⟩ prog_14_method_47_code 3 (some .int) 2 := ⟨(mt_4 (List.mem_of_getElem? (i := 100) rfl) rfl), (mt_1 (List.mem_of_getElem? (i := 3) rfl) rfl), (mt_3 (List.mem_of_getElem? (i := 219) rfl) rfl), by decide +kernel⟩
theorem d_Rules_joined_96 : decode prog_9_method_5_code 96 = .ok (.ireturn, 1) := by decide +kernel
theorem d_Rules_joined_87 : decode prog_9_method_5_code 87 = .ok (.iconst 0, 1) := by decide +kernel
theorem d_Rules_joined_88 : decode prog_9_method_5_code 88 = .ok (.goto 8, 3) := by decide +kernel
theorem d_Rules_joined_74 : decode prog_9_method_5_code 74 = .ok (.iload_n 1, 1) := by decide +kernel
theorem d_Rules_joined_75 : decode prog_9_method_5_code 75 = .ok (.i2l, 1) := by decide +kernel
theorem d_Rules_joined_76 : decode prog_9_method_5_code 76 = .ok (.iload_n 2, 1) := by decide +kernel
theorem d_Rules_joined_77 : decode prog_9_method_5_code 77 = .ok (.i2l, 1) := by decide +kernel
theorem d_Rules_joined_78 : decode prog_9_method_5_code 78 = .ok (.lmul, 1) := by decide +kernel
theorem d_Rules_joined_79 : decode prog_9_method_5_code 79 = .ok (.invokestatic 54, 3) := by decide +kernel
theorem kw_Rules_54 : KW "NineBoards$Rules" 54 ⟨"NineBoards$Rules", "within", "(J)I"⟩ prog_9_method_6_code 2 (some .int) 1 := ⟨(mt_4 (List.mem_of_getElem? (i := 93) rfl) rfl), (mt_1 (List.mem_of_getElem? (i := 9) rfl) rfl), (mt_4 (List.mem_of_getElem? (i := 95) rfl) rfl), by decide +kernel⟩
theorem ks_Rules_within : Cond.static ⟨"NineBoards$Rules", "within", "(J)I"⟩ ∈ TB := (mt_4 (List.mem_of_getElem? (i := 94) rfl) rfl)
theorem d_Rules_joined_82 : decode prog_9_method_5_code 82 = .ok (.ireturn, 1) := by decide +kernel
theorem d_Rules_joined_65 : decode prog_9_method_5_code 65 = .ok (.iload_n 1, 1) := by decide +kernel
theorem d_Rules_joined_66 : decode prog_9_method_5_code 66 = .ok (.i2l, 1) := by decide +kernel
theorem d_Rules_joined_67 : decode prog_9_method_5_code 67 = .ok (.iload_n 2, 1) := by decide +kernel
theorem d_Rules_joined_68 : decode prog_9_method_5_code 68 = .ok (.i2l, 1) := by decide +kernel
theorem d_Rules_joined_69 : decode prog_9_method_5_code 69 = .ok (.lsub, 1) := by decide +kernel
theorem d_Rules_joined_70 : decode prog_9_method_5_code 70 = .ok (.invokestatic 54, 3) := by decide +kernel
theorem d_Rules_joined_73 : decode prog_9_method_5_code 73 = .ok (.ireturn, 1) := by decide +kernel
theorem d_Rules_joined_56 : decode prog_9_method_5_code 56 = .ok (.iload_n 1, 1) := by decide +kernel
theorem d_Rules_joined_57 : decode prog_9_method_5_code 57 = .ok (.i2l, 1) := by decide +kernel
theorem d_Rules_joined_58 : decode prog_9_method_5_code 58 = .ok (.iload_n 2, 1) := by decide +kernel
theorem d_Rules_joined_59 : decode prog_9_method_5_code 59 = .ok (.i2l, 1) := by decide +kernel
theorem d_Rules_joined_60 : decode prog_9_method_5_code 60 = .ok (.ladd, 1) := by decide +kernel
theorem d_Rules_joined_61 : decode prog_9_method_5_code 61 = .ok (.invokestatic 54, 3) := by decide +kernel
theorem d_Rules_joined_64 : decode prog_9_method_5_code 64 = .ok (.ireturn, 1) := by decide +kernel
theorem to_m14_m5 {x : Int32} (h0 : ¬ x = (-14)) (h1 : ¬ x = (-13)) (h2 : ¬ x = (-12)) (h3 : ¬ x = (-11)) (h4 : ¬ x = (-10)) (h5 : ¬ x = (-9)) (h6 : ¬ x = (-8)) (h7 : ¬ x = (-7)) (h8 : ¬ x = (-6)) (h9 : ¬ x = (-5)) : x.toInt < -14 ∨ -5 < x.toInt := by
  have g0 : x.toInt ≠ (-14) := fun e => h0 (Int32.toInt_inj.mp (e.trans (by decide)))
  have g1 : x.toInt ≠ (-13) := fun e => h1 (Int32.toInt_inj.mp (e.trans (by decide)))
  have g2 : x.toInt ≠ (-12) := fun e => h2 (Int32.toInt_inj.mp (e.trans (by decide)))
  have g3 : x.toInt ≠ (-11) := fun e => h3 (Int32.toInt_inj.mp (e.trans (by decide)))
  have g4 : x.toInt ≠ (-10) := fun e => h4 (Int32.toInt_inj.mp (e.trans (by decide)))
  have g5 : x.toInt ≠ (-9) := fun e => h5 (Int32.toInt_inj.mp (e.trans (by decide)))
  have g6 : x.toInt ≠ (-8) := fun e => h6 (Int32.toInt_inj.mp (e.trans (by decide)))
  have g7 : x.toInt ≠ (-7) := fun e => h7 (Int32.toInt_inj.mp (e.trans (by decide)))
  have g8 : x.toInt ≠ (-6) := fun e => h8 (Int32.toInt_inj.mp (e.trans (by decide)))
  have g9 : x.toInt ≠ (-5) := fun e => h9 (Int32.toInt_inj.mp (e.trans (by decide)))
  omega
theorem d_Rules_joined_146 : decode prog_9_method_5_code 146 = .ok (.iload_n 1, 1) := by decide +kernel
theorem d_Rules_joined_147 : decode prog_9_method_5_code 147 = .ok (.iload_n 2, 1) := by decide +kernel
theorem d_Rules_joined_148 : decode prog_9_method_5_code 148 = .ok (.ior, 1) := by decide +kernel
theorem d_Rules_joined_149 : decode prog_9_method_5_code 149 = .ok (.ireturn, 1) := by decide +kernel
set_option maxHeartbeats 4000000 in
set_option maxRecDepth 100000 in
theorem c_joined (l : Launch) (D : va_G) (y : Nat → ClassId) (v : Int32) (va : Int32) (vb : Int32)  : CT l D y ⟨"NineBoards$Rules", "joined", "(III)I"⟩ prog_9_method_5_code 3 (some .int) ({ frames := 1, cells := 0, slots := 0, locals := 22 } : Room) [.int v, .int va, .int vb] [] (QI D [] (fun (r : Int32) (u : Unit) => True) (fun _ => [])) := by
  refine CT.of (by decide) (nb rfl) ?_
  intro p e s m args below meth c C hr
  refine j_lv (lv' := [(0, .int v), (1, .int va), (2, .int vb)]) rfl ?_
  refine j_iload_n (pc := 0) C d_Rules_joined_0 rfl 0 rfl ?_
  by_cases c1_0 : v = (-14)
  · refine j_tabIn (pc := 1) C (off := 141) (tgt := 142) d_Rules_joined_1 (by rw [c1_0]; decide) (by rw [c1_0]; decide) (by rw [c1_0]; decide) (by decide) ?_
    refine j_iload_n (pc := 142) C d_Rules_joined_142 rfl 1 rfl ?_
    refine j_iload_n (pc := 143) C d_Rules_joined_143 rfl 2 rfl ?_
    refine j_iand (pc := 144) C (v := va &&& vb) d_Rules_joined_144 rfl ?_
    exact j_iret (pc := 145) C hr rfl () trivial [] rfl (by decide) (by decide) (by decide) d_Rules_joined_145
  · by_cases c1_1 : v = (-13)
    · refine j_tabIn (pc := 1) C (off := 130) (tgt := 131) d_Rules_joined_1 (by rw [c1_1]; decide) (by rw [c1_1]; decide) (by rw [c1_1]; decide) (by decide) ?_
      refine j_iload_n (pc := 131) C d_Rules_joined_131 rfl 1 rfl ?_
      refine j_iload_n (pc := 132) C d_Rules_joined_132 rfl 2 rfl ?_
      refine j_icmp_ne (pc := 133) C (tgt := 140) d_Rules_joined_133 (by decide) (fun c2 => ?_) (fun c2 => ?_)
      · refine j_iconst (pc := 140) C (v := 0) d_Rules_joined_140 (by decide) ?_
        exact j_iret (pc := 141) C hr rfl () trivial [] rfl (by decide) (by decide) (by decide) d_Rules_joined_141
      · refine j_iconst (pc := 136) C (v := 1) d_Rules_joined_136 (by decide) ?_
        refine j_goto (pc := 137) C (tgt := 141) d_Rules_joined_137 (by decide) ?_
        exact j_iret (pc := 141) C hr rfl () trivial [] rfl (by decide) (by decide) (by decide) d_Rules_joined_141
    · by_cases c1_2 : v = (-12)
      · refine j_tabIn (pc := 1) C (off := 119) (tgt := 120) d_Rules_joined_1 (by rw [c1_2]; decide) (by rw [c1_2]; decide) (by rw [c1_2]; decide) (by decide) ?_
        refine j_iload_n (pc := 120) C d_Rules_joined_120 rfl 1 rfl ?_
        refine j_iload_n (pc := 121) C d_Rules_joined_121 rfl 2 rfl ?_
        refine j_icmp_le (pc := 122) C (tgt := 129) d_Rules_joined_122 (by decide) (fun c3 => ?_) (fun c3 => ?_)
        · refine j_iconst (pc := 129) C (v := 0) d_Rules_joined_129 (by decide) ?_
          exact j_iret (pc := 130) C hr rfl () trivial [] rfl (by decide) (by decide) (by decide) d_Rules_joined_130
        · refine j_iconst (pc := 125) C (v := 1) d_Rules_joined_125 (by decide) ?_
          refine j_goto (pc := 126) C (tgt := 130) d_Rules_joined_126 (by decide) ?_
          exact j_iret (pc := 130) C hr rfl () trivial [] rfl (by decide) (by decide) (by decide) d_Rules_joined_130
      · by_cases c1_3 : v = (-11)
        · refine j_tabIn (pc := 1) C (off := 108) (tgt := 109) d_Rules_joined_1 (by rw [c1_3]; decide) (by rw [c1_3]; decide) (by rw [c1_3]; decide) (by decide) ?_
          refine j_iload_n (pc := 109) C d_Rules_joined_109 rfl 1 rfl ?_
          refine j_iload_n (pc := 110) C d_Rules_joined_110 rfl 2 rfl ?_
          refine j_icmp_ge (pc := 111) C (tgt := 118) d_Rules_joined_111 (by decide) (fun c4 => ?_) (fun c4 => ?_)
          · refine j_iconst (pc := 118) C (v := 0) d_Rules_joined_118 (by decide) ?_
            exact j_iret (pc := 119) C hr rfl () trivial [] rfl (by decide) (by decide) (by decide) d_Rules_joined_119
          · refine j_iconst (pc := 114) C (v := 1) d_Rules_joined_114 (by decide) ?_
            refine j_goto (pc := 115) C (tgt := 119) d_Rules_joined_115 (by decide) ?_
            exact j_iret (pc := 119) C hr rfl () trivial [] rfl (by decide) (by decide) (by decide) d_Rules_joined_119
        · by_cases c1_4 : v = (-10)
          · refine j_tabIn (pc := 1) C (off := 102) (tgt := 103) d_Rules_joined_1 (by rw [c1_4]; decide) (by rw [c1_4]; decide) (by rw [c1_4]; decide) (by decide) ?_
            refine j_iload_n (pc := 103) C d_Rules_joined_103 rfl 1 rfl ?_
            refine j_iload_n (pc := 104) C d_Rules_joined_104 rfl 2 rfl ?_
            refine j_mmax (pc := 105) C (mt_4 (List.mem_of_getElem? (i := 89) rfl) rfl) (mt_1 (List.mem_of_getElem? (i := 34) rfl) rfl) (mt_1 (List.mem_of_getElem? (i := 3) rfl) rfl) (mt_1 (List.mem_of_getElem? (i := 35) rfl) rfl) (v := if va < vb then vb else va) rfl (by decide) (nb rfl) (by decide) (by decide) d_Rules_joined_105 ?_
            exact j_iret (pc := 108) C hr rfl () trivial [] rfl (by decide) (by decide) (by decide) d_Rules_joined_108
          · by_cases c1_5 : v = (-9)
            · refine j_tabIn (pc := 1) C (off := 96) (tgt := 97) d_Rules_joined_1 (by rw [c1_5]; decide) (by rw [c1_5]; decide) (by rw [c1_5]; decide) (by decide) ?_
              refine j_iload_n (pc := 97) C d_Rules_joined_97 rfl 1 rfl ?_
              refine j_iload_n (pc := 98) C d_Rules_joined_98 rfl 2 rfl ?_
              refine j_mmin (pc := 99) C (mt_4 (List.mem_of_getElem? (i := 101) rfl) rfl) (mt_3 (List.mem_of_getElem? (i := 56) rfl) rfl) (mt_1 (List.mem_of_getElem? (i := 3) rfl) rfl) (mt_3 (List.mem_of_getElem? (i := 57) rfl) rfl) (v := if vb < va then vb else va) rfl (by decide) (nb rfl) (by decide) (by decide) d_Rules_joined_99 ?_
              exact j_iret (pc := 102) C hr rfl () trivial [] rfl (by decide) (by decide) (by decide) d_Rules_joined_102
            · by_cases c1_6 : v = (-8)
              · refine j_tabIn (pc := 1) C (off := 82) (tgt := 83) d_Rules_joined_1 (by rw [c1_6]; decide) (by rw [c1_6]; decide) (by rw [c1_6]; decide) (by decide) ?_
                refine j_iload_n (pc := 83) C d_Rules_joined_83 rfl 2 rfl ?_
                refine j_if_ne (pc := 84) C (tgt := 91) d_Rules_joined_84 (by decide) (fun c5 => ?_) (fun c5 => ?_)
                · refine j_iload_n (pc := 91) C d_Rules_joined_91 rfl 1 rfl ?_
                  refine j_iload_n (pc := 92) C d_Rules_joined_92 rfl 2 rfl ?_
                  refine j_callSi (pc := 93) C (c_floorDiv l D y va vb c5) kw_Rules_58 ks_Math_floorDiv ⟨by decide, by decide⟩ ⟨by decide, by decide⟩ (wr := []) [] [] rfl rfl (by decide) (by decide) (by decide) (As := [.int va, .int vb]) (rest := []) rfl (nb rfl) rfl d_Rules_joined_93 (fun r6 _ hr6 => ?_)
                  refine j_ws (ws' := []) rfl ?_
                  exact j_iret (pc := 96) C hr rfl () trivial [] rfl (by decide) (by decide) (by decide) d_Rules_joined_96
                · refine j_iconst (pc := 87) C (v := 0) d_Rules_joined_87 (by decide) ?_
                  refine j_goto (pc := 88) C (tgt := 96) d_Rules_joined_88 (by decide) ?_
                  exact j_iret (pc := 96) C hr rfl () trivial [] rfl (by decide) (by decide) (by decide) d_Rules_joined_96
              · by_cases c1_7 : v = (-7)
                · refine j_tabIn (pc := 1) C (off := 73) (tgt := 74) d_Rules_joined_1 (by rw [c1_7]; decide) (by rw [c1_7]; decide) (by rw [c1_7]; decide) (by decide) ?_
                  refine j_iload_n (pc := 74) C d_Rules_joined_74 rfl 1 rfl ?_
                  refine j_i2l (pc := 75) C (v := va.toInt64) d_Rules_joined_75 rfl ?_
                  refine j_iload_n (pc := 76) C d_Rules_joined_76 rfl 2 rfl ?_
                  refine j_i2l (pc := 77) C (v := vb.toInt64) d_Rules_joined_77 rfl ?_
                  refine j_lmul (pc := 78) C (v := va.toInt64 * vb.toInt64) d_Rules_joined_78 rfl ?_
                  refine j_callSi (pc := 79) C (c_within l D y (va.toInt64 * vb.toInt64)) kw_Rules_54 ks_Rules_within ⟨by decide, by decide⟩ ⟨by decide, by decide⟩ (wr := []) [] [] rfl rfl (by decide) (by decide) (by decide) (As := [.long (va.toInt64 * vb.toInt64)]) (rest := []) rfl (nb rfl) rfl d_Rules_joined_79 (fun r7 _ hr7 => ?_)
                  refine j_ws (ws' := []) rfl ?_
                  exact j_iret (pc := 82) C hr rfl () trivial [] rfl (by decide) (by decide) (by decide) d_Rules_joined_82
                · by_cases c1_8 : v = (-6)
                  · refine j_tabIn (pc := 1) C (off := 64) (tgt := 65) d_Rules_joined_1 (by rw [c1_8]; decide) (by rw [c1_8]; decide) (by rw [c1_8]; decide) (by decide) ?_
                    refine j_iload_n (pc := 65) C d_Rules_joined_65 rfl 1 rfl ?_
                    refine j_i2l (pc := 66) C (v := va.toInt64) d_Rules_joined_66 rfl ?_
                    refine j_iload_n (pc := 67) C d_Rules_joined_67 rfl 2 rfl ?_
                    refine j_i2l (pc := 68) C (v := vb.toInt64) d_Rules_joined_68 rfl ?_
                    refine j_lsub (pc := 69) C (v := va.toInt64 - vb.toInt64) d_Rules_joined_69 rfl ?_
                    refine j_callSi (pc := 70) C (c_within l D y (va.toInt64 - vb.toInt64)) kw_Rules_54 ks_Rules_within ⟨by decide, by decide⟩ ⟨by decide, by decide⟩ (wr := []) [] [] rfl rfl (by decide) (by decide) (by decide) (As := [.long (va.toInt64 - vb.toInt64)]) (rest := []) rfl (nb rfl) rfl d_Rules_joined_70 (fun r8 _ hr8 => ?_)
                    refine j_ws (ws' := []) rfl ?_
                    exact j_iret (pc := 73) C hr rfl () trivial [] rfl (by decide) (by decide) (by decide) d_Rules_joined_73
                  · by_cases c1_9 : v = (-5)
                    · refine j_tabIn (pc := 1) C (off := 55) (tgt := 56) d_Rules_joined_1 (by rw [c1_9]; decide) (by rw [c1_9]; decide) (by rw [c1_9]; decide) (by decide) ?_
                      refine j_iload_n (pc := 56) C d_Rules_joined_56 rfl 1 rfl ?_
                      refine j_i2l (pc := 57) C (v := va.toInt64) d_Rules_joined_57 rfl ?_
                      refine j_iload_n (pc := 58) C d_Rules_joined_58 rfl 2 rfl ?_
                      refine j_i2l (pc := 59) C (v := vb.toInt64) d_Rules_joined_59 rfl ?_
                      refine j_ladd (pc := 60) C (v := va.toInt64 + vb.toInt64) d_Rules_joined_60 rfl ?_
                      refine j_callSi (pc := 61) C (c_within l D y (va.toInt64 + vb.toInt64)) kw_Rules_54 ks_Rules_within ⟨by decide, by decide⟩ ⟨by decide, by decide⟩ (wr := []) [] [] rfl rfl (by decide) (by decide) (by decide) (As := [.long (va.toInt64 + vb.toInt64)]) (rest := []) rfl (nb rfl) rfl d_Rules_joined_61 (fun r9 _ hr9 => ?_)
                      refine j_ws (ws' := []) rfl ?_
                      exact j_iret (pc := 64) C hr rfl () trivial [] rfl (by decide) (by decide) (by decide) d_Rules_joined_64
                    · refine j_tabOut (pc := 1) C (tgt := 146) d_Rules_joined_1 (by exact to_m14_m5 c1_0 c1_1 c1_2 c1_3 c1_4 c1_5 c1_6 c1_7 c1_8 c1_9) (by decide) ?_
                      refine j_iload_n (pc := 146) C d_Rules_joined_146 rfl 1 rfl ?_
                      refine j_iload_n (pc := 147) C d_Rules_joined_147 rfl 2 rfl ?_
                      refine j_ior (pc := 148) C (v := va ||| vb) d_Rules_joined_148 rfl ?_
                      exact j_iret (pc := 149) C hr rfl () trivial [] rfl (by decide) (by decide) (by decide) d_Rules_joined_149
theorem d_Rules_put_0 : decode prog_9_method_2_code 0 = .ok (.aload_n 0, 1) := by decide +kernel
theorem d_Rules_put_1 : decode prog_9_method_2_code 1 = .ok (.getfield 30, 3) := by decide +kernel
theorem gf_Rules_30 : GF "NineBoards$Rules" 30 6 1 := ⟨_, _, _, rfl, ci_Rules, by decide, (mt_1 (List.mem_of_getElem? (i := 236) rfl) rfl)⟩
theorem d_Rules_put_4 : decode prog_9_method_2_code 4 = .ok (.ifCond .lt 35, 3) := by decide +kernel
theorem d_Rules_put_39 : decode prog_9_method_2_code 39 = .ok (.return_, 1) := by decide +kernel
theorem d_Rules_put_7 : decode prog_9_method_2_code 7 = .ok (.aload_n 0, 1) := by decide +kernel
theorem d_Rules_put_8 : decode prog_9_method_2_code 8 = .ok (.getfield 30, 3) := by decide +kernel
theorem d_Rules_put_11 : decode prog_9_method_2_code 11 = .ok (.aload_n 0, 1) := by decide +kernel
theorem d_Rules_put_12 : decode prog_9_method_2_code 12 = .ok (.getfield 24, 3) := by decide +kernel
theorem gf_Rules_24 : GF "NineBoards$Rules" 24 6 6 := ⟨_, _, _, rfl, ci_Rules, by decide, (mt_2 (List.mem_of_getElem? (i := 7) rfl) rfl)⟩
theorem d_Rules_put_15 : decode prog_9_method_2_code 15 = .ok (.arraylength, 1) := by decide +kernel
theorem d_Rules_put_16 : decode prog_9_method_2_code 16 = .ok (.if_icmp .ge 23, 3) := by decide +kernel
theorem d_Rules_put_19 : decode prog_9_method_2_code 19 = .ok (.aload_n 0, 1) := by decide +kernel
theorem d_Rules_put_20 : decode prog_9_method_2_code 20 = .ok (.getfield 24, 3) := by decide +kernel
theorem d_Rules_put_23 : decode prog_9_method_2_code 23 = .ok (.aload_n 0, 1) := by decide +kernel
theorem d_Rules_put_24 : decode prog_9_method_2_code 24 = .ok (.getfield 30, 3) := by decide +kernel
theorem d_Rules_put_27 : decode prog_9_method_2_code 27 = .ok (.iload_n 1, 1) := by decide +kernel
theorem d_Rules_put_28 : decode prog_9_method_2_code 28 = .ok (.iastore, 1) := by decide +kernel
theorem d_Rules_put_29 : decode prog_9_method_2_code 29 = .ok (.aload_n 0, 1) := by decide +kernel
theorem d_Rules_put_30 : decode prog_9_method_2_code 30 = .ok (.dup, 1) := by decide +kernel
theorem d_Rules_put_31 : decode prog_9_method_2_code 31 = .ok (.getfield 30, 3) := by decide +kernel
theorem d_Rules_put_34 : decode prog_9_method_2_code 34 = .ok (.iconst 1, 1) := by decide +kernel
theorem d_Rules_put_35 : decode prog_9_method_2_code 35 = .ok (.iadd, 1) := by decide +kernel
theorem d_Rules_put_36 : decode prog_9_method_2_code 36 = .ok (.putfield 30, 3) := by decide +kernel
theorem pf_Rules_30 : PF "NineBoards$Rules" 30 6 1 (.int) false := ⟨_, _, _, ct_Rules, rfl, ci_Rules, by decide, (mt_1 (List.mem_of_getElem? (i := 236) rfl) rfl), cp_Rules, cn_Rules, rfl, by decide +kernel, (fun h => by cases h)⟩
theorem d_Rules_value_10 : decode prog_9_method_4_code 10 = .ok (.iload 7, 2) := by decide +kernel
theorem d_Rules_value_12 : decode prog_9_method_4_code 12 = .ok (.iload_n 2, 1) := by decide +kernel
theorem d_Rules_value_13 : decode prog_9_method_4_code 13 = .ok (.if_icmp .ge 167, 3) := by decide +kernel
theorem d_Rules_value_16 : decode prog_9_method_4_code 16 = .ok (.iload 7, 2) := by decide +kernel
theorem d_Rules_value_18 : decode prog_9_method_4_code 18 = .ok (.aload_n 0, 1) := by decide +kernel
theorem d_Rules_value_19 : decode prog_9_method_4_code 19 = .ok (.getfield 24, 3) := by decide +kernel
theorem d_Rules_value_22 : decode prog_9_method_4_code 22 = .ok (.arraylength, 1) := by decide +kernel
theorem d_Rules_value_23 : decode prog_9_method_4_code 23 = .ok (.if_icmp .ge 157, 3) := by decide +kernel
theorem d_Rules_value_26 : decode prog_9_method_4_code 26 = .ok (.aload_n 0, 1) := by decide +kernel
theorem d_Rules_value_27 : decode prog_9_method_4_code 27 = .ok (.getfield 24, 3) := by decide +kernel
theorem d_Rules_value_30 : decode prog_9_method_4_code 30 = .ok (.iload 7, 2) := by decide +kernel
theorem d_Rules_value_32 : decode prog_9_method_4_code 32 = .ok (.iaload, 1) := by decide +kernel
theorem d_Rules_value_33 : decode prog_9_method_4_code 33 = .ok (.istore 8, 2) := by decide +kernel
theorem d_Rules_value_35 : decode prog_9_method_4_code 35 = .ok (.iload 8, 2) := by decide +kernel
theorem d_Rules_value_37 : decode prog_9_method_4_code 37 = .ok (.bipush (-3), 2) := by decide +kernel
theorem d_Rules_value_39 : decode prog_9_method_4_code 39 = .ok (.if_icmp .lt 60, 3) := by decide +kernel
theorem d_Rules_value_99 : decode prog_9_method_4_code 99 = .ok (.iload 8, 2) := by decide +kernel
theorem d_Rules_value_101 : decode prog_9_method_4_code 101 = .ok (.bipush (-4), 2) := by decide +kernel
theorem d_Rules_value_103 : decode prog_9_method_4_code 103 = .ok (.if_icmp .ne 32, 3) := by decide +kernel
theorem d_Rules_value_135 : decode prog_9_method_4_code 135 = .ok (.iload 6, 2) := by decide +kernel
theorem d_Rules_value_137 : decode prog_9_method_4_code 137 = .ok (.iconst 2, 1) := by decide +kernel
theorem d_Rules_value_138 : decode prog_9_method_4_code 138 = .ok (.if_icmp .lt 36, 3) := by decide +kernel
theorem d_Rules_value_174 : decode prog_9_method_4_code 174 = .ok (.iinc 7 1, 3) := by decide +kernel
theorem d_Rules_value_177 : decode prog_9_method_4_code 177 = .ok (.goto (-167), 3) := by decide +kernel
theorem d_Rules_value_141 : decode prog_9_method_4_code 141 = .ok (.iinc 6 (-1), 3) := by decide +kernel
theorem d_Rules_value_144 : decode prog_9_method_4_code 144 = .ok (.aload_n 0, 1) := by decide +kernel
theorem d_Rules_value_145 : decode prog_9_method_4_code 145 = .ok (.getfield 27, 3) := by decide +kernel
theorem gf_Rules_27 : GF "NineBoards$Rules" 27 6 7 := ⟨_, _, _, rfl, ci_Rules, by decide, (mt_2 (List.mem_of_getElem? (i := 8) rfl) rfl)⟩
theorem d_Rules_value_148 : decode prog_9_method_4_code 148 = .ok (.iload 6, 2) := by decide +kernel
theorem d_Rules_value_150 : decode prog_9_method_4_code 150 = .ok (.iconst 1, 1) := by decide +kernel
theorem d_Rules_value_151 : decode prog_9_method_4_code 151 = .ok (.isub, 1) := by decide +kernel
theorem d_Rules_value_152 : decode prog_9_method_4_code 152 = .ok (.iload 8, 2) := by decide +kernel
theorem d_Rules_value_154 : decode prog_9_method_4_code 154 = .ok (.aload_n 0, 1) := by decide +kernel
theorem d_Rules_value_155 : decode prog_9_method_4_code 155 = .ok (.getfield 27, 3) := by decide +kernel
theorem d_Rules_value_158 : decode prog_9_method_4_code 158 = .ok (.iload 6, 2) := by decide +kernel
theorem d_Rules_value_160 : decode prog_9_method_4_code 160 = .ok (.iconst 1, 1) := by decide +kernel
theorem d_Rules_value_161 : decode prog_9_method_4_code 161 = .ok (.isub, 1) := by decide +kernel
theorem d_Rules_value_162 : decode prog_9_method_4_code 162 = .ok (.iaload, 1) := by decide +kernel
theorem d_Rules_value_163 : decode prog_9_method_4_code 163 = .ok (.aload_n 0, 1) := by decide +kernel
theorem d_Rules_value_164 : decode prog_9_method_4_code 164 = .ok (.getfield 27, 3) := by decide +kernel
theorem d_Rules_value_167 : decode prog_9_method_4_code 167 = .ok (.iload 6, 2) := by decide +kernel
theorem d_Rules_value_169 : decode prog_9_method_4_code 169 = .ok (.iaload, 1) := by decide +kernel
theorem d_Rules_value_170 : decode prog_9_method_4_code 170 = .ok (.invokestatic 50, 3) := by decide +kernel
theorem kw_Rules_50 : KW "NineBoards$Rules" 50 ⟨"NineBoards$Rules", "joined", "(III)I"⟩ prog_9_method_5_code 3 (some .int) 3 := ⟨(mt_4 (List.mem_of_getElem? (i := 90) rfl) rfl), (mt_1 (List.mem_of_getElem? (i := 9) rfl) rfl), (mt_4 (List.mem_of_getElem? (i := 92) rfl) rfl), by decide +kernel⟩
theorem ks_Rules_joined : Cond.static ⟨"NineBoards$Rules", "joined", "(III)I"⟩ ∈ TB := (mt_4 (List.mem_of_getElem? (i := 91) rfl) rfl)
theorem d_Rules_value_173 : decode prog_9_method_4_code 173 = .ok (.iastore, 1) := by decide +kernel
theorem d_Rules_value_106 : decode prog_9_method_4_code 106 = .ok (.iload 6, 2) := by decide +kernel
theorem d_Rules_value_108 : decode prog_9_method_4_code 108 = .ok (.iconst 1, 1) := by decide +kernel
theorem d_Rules_value_109 : decode prog_9_method_4_code 109 = .ok (.if_icmp .lt 65, 3) := by decide +kernel
theorem d_Rules_value_112 : decode prog_9_method_4_code 112 = .ok (.aload_n 0, 1) := by decide +kernel
theorem d_Rules_value_113 : decode prog_9_method_4_code 113 = .ok (.getfield 27, 3) := by decide +kernel
theorem d_Rules_value_116 : decode prog_9_method_4_code 116 = .ok (.iload 6, 2) := by decide +kernel
theorem d_Rules_value_118 : decode prog_9_method_4_code 118 = .ok (.iconst 1, 1) := by decide +kernel
theorem d_Rules_value_119 : decode prog_9_method_4_code 119 = .ok (.isub, 1) := by decide +kernel
theorem d_Rules_value_120 : decode prog_9_method_4_code 120 = .ok (.iconst 1, 1) := by decide +kernel
theorem d_Rules_value_121 : decode prog_9_method_4_code 121 = .ok (.aload_n 0, 1) := by decide +kernel
theorem d_Rules_value_122 : decode prog_9_method_4_code 122 = .ok (.getfield 27, 3) := by decide +kernel
theorem d_Rules_value_125 : decode prog_9_method_4_code 125 = .ok (.iload 6, 2) := by decide +kernel
theorem d_Rules_value_127 : decode prog_9_method_4_code 127 = .ok (.iconst 1, 1) := by decide +kernel
theorem d_Rules_value_128 : decode prog_9_method_4_code 128 = .ok (.isub, 1) := by decide +kernel
theorem d_Rules_value_129 : decode prog_9_method_4_code 129 = .ok (.iaload, 1) := by decide +kernel
theorem d_Rules_value_130 : decode prog_9_method_4_code 130 = .ok (.isub, 1) := by decide +kernel
theorem d_Rules_value_131 : decode prog_9_method_4_code 131 = .ok (.iastore, 1) := by decide +kernel
theorem d_Rules_value_132 : decode prog_9_method_4_code 132 = .ok (.goto 42, 3) := by decide +kernel
theorem d_Rules_value_42 : decode prog_9_method_4_code 42 = .ok (.iload 6, 2) := by decide +kernel
theorem d_Rules_value_44 : decode prog_9_method_4_code 44 = .ok (.aload_n 0, 1) := by decide +kernel
theorem d_Rules_value_45 : decode prog_9_method_4_code 45 = .ok (.getfield 27, 3) := by decide +kernel
theorem d_Rules_value_48 : decode prog_9_method_4_code 48 = .ok (.arraylength, 1) := by decide +kernel
theorem d_Rules_value_49 : decode prog_9_method_4_code 49 = .ok (.if_icmp .ge 125, 3) := by decide +kernel
theorem d_Rules_value_52 : decode prog_9_method_4_code 52 = .ok (.aload_n 0, 1) := by decide +kernel
theorem d_Rules_value_53 : decode prog_9_method_4_code 53 = .ok (.getfield 27, 3) := by decide +kernel
theorem d_Rules_value_56 : decode prog_9_method_4_code 56 = .ok (.iload 6, 2) := by decide +kernel
theorem d_Rules_value_58 : decode prog_9_method_4_code 58 = .ok (.iload 8, 2) := by decide +kernel
theorem d_Rules_value_60 : decode prog_9_method_4_code 60 = .ok (.ifCond .lt 8, 3) := by decide +kernel
theorem d_Rules_value_68 : decode prog_9_method_4_code 68 = .ok (.iload 8, 2) := by decide +kernel
theorem d_Rules_value_70 : decode prog_9_method_4_code 70 = .ok (.iconst (-1), 1) := by decide +kernel
theorem d_Rules_value_71 : decode prog_9_method_4_code 71 = .ok (.if_icmp .ne 7, 3) := by decide +kernel
theorem d_Rules_value_78 : decode prog_9_method_4_code 78 = .ok (.iload 8, 2) := by decide +kernel
theorem d_Rules_value_80 : decode prog_9_method_4_code 80 = .ok (.bipush (-2), 2) := by decide +kernel
theorem d_Rules_value_82 : decode prog_9_method_4_code 82 = .ok (.if_icmp .ne 8, 3) := by decide +kernel
theorem d_Rules_value_90 : decode prog_9_method_4_code 90 = .ok (.iload 5, 2) := by decide +kernel
theorem d_Rules_value_92 : decode prog_9_method_4_code 92 = .ok (.iastore, 1) := by decide +kernel
theorem d_Rules_value_93 : decode prog_9_method_4_code 93 = .ok (.iinc 6 1, 3) := by decide +kernel
theorem d_Rules_value_96 : decode prog_9_method_4_code 96 = .ok (.goto 78, 3) := by decide +kernel
theorem d_Rules_value_85 : decode prog_9_method_4_code 85 = .ok (.iload 4, 2) := by decide +kernel
theorem d_Rules_value_87 : decode prog_9_method_4_code 87 = .ok (.goto 5, 3) := by decide +kernel
theorem d_Rules_value_74 : decode prog_9_method_4_code 74 = .ok (.iload_n 3, 1) := by decide +kernel
theorem d_Rules_value_75 : decode prog_9_method_4_code 75 = .ok (.goto 17, 3) := by decide +kernel
theorem d_Rules_value_63 : decode prog_9_method_4_code 63 = .ok (.iload 8, 2) := by decide +kernel
theorem d_Rules_value_65 : decode prog_9_method_4_code 65 = .ok (.goto 27, 3) := by decide +kernel
theorem d_Rules_value_0 : decode prog_9_method_4_code 0 = .ok (.iconst 0, 1) := by decide +kernel
theorem d_Rules_value_1 : decode prog_9_method_4_code 1 = .ok (.istore 6, 2) := by decide +kernel
theorem d_Rules_value_3 : decode prog_9_method_4_code 3 = .ok (.iconst 0, 1) := by decide +kernel
theorem d_Rules_value_4 : decode prog_9_method_4_code 4 = .ok (.iload_n 1, 1) := by decide +kernel
theorem d_Rules_value_5 : decode prog_9_method_4_code 5 = .ok (.invokestatic 47, 3) := by decide +kernel
theorem d_Rules_value_8 : decode prog_9_method_4_code 8 = .ok (.istore 7, 2) := by decide +kernel
theorem d_Rules_value_180 : decode prog_9_method_4_code 180 = .ok (.iload 6, 2) := by decide +kernel
theorem d_Rules_value_182 : decode prog_9_method_4_code 182 = .ok (.iconst 1, 1) := by decide +kernel
theorem d_Rules_value_183 : decode prog_9_method_4_code 183 = .ok (.if_icmp .lt 15, 3) := by decide +kernel
theorem d_Rules_value_198 : decode prog_9_method_4_code 198 = .ok (.iconst 0, 1) := by decide +kernel
theorem d_Rules_value_199 : decode prog_9_method_4_code 199 = .ok (.ireturn, 1) := by decide +kernel
theorem d_Rules_value_186 : decode prog_9_method_4_code 186 = .ok (.aload_n 0, 1) := by decide +kernel
theorem d_Rules_value_187 : decode prog_9_method_4_code 187 = .ok (.getfield 27, 3) := by decide +kernel
theorem d_Rules_value_190 : decode prog_9_method_4_code 190 = .ok (.iload 6, 2) := by decide +kernel
theorem d_Rules_value_192 : decode prog_9_method_4_code 192 = .ok (.iconst 1, 1) := by decide +kernel
theorem d_Rules_value_193 : decode prog_9_method_4_code 193 = .ok (.isub, 1) := by decide +kernel
theorem d_Rules_value_194 : decode prog_9_method_4_code 194 = .ok (.iaload, 1) := by decide +kernel
theorem d_Rules_value_195 : decode prog_9_method_4_code 195 = .ok (.goto 4, 3) := by decide +kernel
set_option maxHeartbeats 4000000 in
set_option maxRecDepth 100000 in
theorem lp_value {p : Program} {l : Launch} {e : Env} {s : State} {m : MethodId} {args : Array Value} {below : List Frame} {meth : Method} {c : Code} {Q : State → Prop} {D : va_G} {y : Nat → ClassId} {A : Nat → Prop} (C : Cx p s m args meth c D y A prog_9_method_4_code 9 "NineBoards$Rules" "value") (ad : Nat → Nat) (d : LD) (v1 : Int32) (v2 : Int32) (v3 : Int32) (v4 : Int32) (v5 : Int32) (kx : ∀ (t i : Nat) (f : Nat → Int32), t ≤ 40 → J p l e ({ frames := 2, cells := 0, slots := 0, locals := 44 } : Room) s m args below meth c Q D A 9 [(ad 3, .inr (6, [.int (d.1 11), .int (d.1 12), .ref (ad 20), .ref (ad 21), .ref (ad 22), .ref (ad 23), .ref (ad 24), .ref (ad 25)])), (ad 24, .inl (y 0, 1600, .inl (d.2 20))), (ad 25, .inl (y 0, 40, .inl f))] [(0, .ref (ad 3)), (1, .int v1), (2, .int v2), (3, .int v3), (4, .int v4), (5, .int v5), (6, .int (nI t)), (7, .int (nI i))] 0 0 180 []) : ∀ (n : Nat) (i : Nat) (t : Nat) (f : Nat → Int32), (1600 ≤ i + n) → (i < 2 ^ 31) → (t ≤ 40) → J p l e ({ frames := 2, cells := 0, slots := 0, locals := 44 } : Room) s m args below meth c Q D A 9 [(ad 3, .inr (6, [.int (d.1 11), .int (d.1 12), .ref (ad 20), .ref (ad 21), .ref (ad 22), .ref (ad 23), .ref (ad 24), .ref (ad 25)])), (ad 24, .inl (y 0, 1600, .inl (d.2 20))), (ad 25, .inl (y 0, 40, .inl f))] [(0, .ref (ad 3)), (1, .int v1), (2, .int v2), (3, .int v3), (4, .int v4), (5, .int v5), (6, .int (nI t)), (7, .int (nI i))] 0 0 10 [] := by
  intro n
  induction n with
  | zero =>
    intro i t f hn hi ht
    have hb : ¬ i < 1600 := by omega
    refine j_iload (pc := 10) C d_Rules_value_10 7 rfl ?_
    refine j_iload_n (pc := 12) C d_Rules_value_12 rfl 2 rfl ?_
    refine j_icmp_ge (pc := 13) C (tgt := 180) d_Rules_value_13 (by decide) (fun c1 => ?_) (fun c1 => ?_)
    · exact kx _ _ _ (by omega)
    · refine j_iload (pc := 16) C d_Rules_value_16 7 rfl ?_
      refine j_aload_n (pc := 18) C d_Rules_value_18 rfl 0 rfl ?_
      refine j_get (pc := 19) C gf_Rules_24 0 rfl rfl d_Rules_value_19 ?_
      refine j_alen (pc := 22) C 1 0 rfl rfl (v := 1600) rfl d_Rules_value_22 ?_
      refine j_icmp_geT (pc := 23) C (tgt := 180) d_Rules_value_23 (by decide) (show nI 1600 ≤ nI i from nI_le (by omega) hi) ?_
      exact kx _ _ _ (by omega)
  | succ n ih =>
    intro i t f hn hi ht
    refine j_iload (pc := 10) C d_Rules_value_10 7 rfl ?_
    refine j_iload_n (pc := 12) C d_Rules_value_12 rfl 2 rfl ?_
    refine j_icmp_ge (pc := 13) C (tgt := 180) d_Rules_value_13 (by decide) (fun c1 => ?_) (fun c1 => ?_)
    · exact kx _ _ _ (by omega)
    · by_cases hb : i < 1600
      · refine j_iload (pc := 16) C d_Rules_value_16 7 rfl ?_
        refine j_aload_n (pc := 18) C d_Rules_value_18 rfl 0 rfl ?_
        refine j_get (pc := 19) C gf_Rules_24 0 rfl rfl d_Rules_value_19 ?_
        refine j_alen (pc := 22) C 1 0 rfl rfl (v := 1600) rfl d_Rules_value_22 ?_
        refine j_icmp_geF (pc := 23) C (tgt := 180) d_Rules_value_23 (by decide) (show ¬ nI 1600 ≤ nI i from nI_ge hb (by decide)) ?_
        refine j_aload_n (pc := 26) C d_Rules_value_26 rfl 0 rfl ?_
        refine j_get (pc := 27) C gf_Rules_24 0 rfl rfl d_Rules_value_27 ?_
        refine j_iload (pc := 30) C d_Rules_value_30 7 rfl ?_
        refine j_iald (pc := 32) C 1 rfl (v := (d.2 20) (nI i).toNatClampNeg) (vp_in_nI (by omega) (by decide)) rfl d_Rules_value_32 ?_
        refine j_istore (pc := 33) C (lv' := [(8, .int ((d.2 20) (nI i).toNatClampNeg)), (0, .ref (ad 3)), (1, .int v1), (2, .int v2), (3, .int v3), (4, .int v4), (5, .int v5), (6, .int (nI t)), (7, .int (nI i))]) d_Rules_value_33 (by decide) rfl ?_
        refine j_iload (pc := 35) C d_Rules_value_35 0 rfl ?_
        refine j_bipush (pc := 37) C (v := (-3)) d_Rules_value_37 (by decide) ?_
        refine j_icmp_lt (pc := 39) C (tgt := 99) d_Rules_value_39 (by decide) (fun c2 => ?_) (fun c2 => ?_)
        · refine j_iload (pc := 99) C d_Rules_value_99 0 rfl ?_
          refine j_bipush (pc := 101) C (v := (-4)) d_Rules_value_101 (by decide) ?_
          refine j_icmp_ne (pc := 103) C (tgt := 135) d_Rules_value_103 (by decide) (fun c3 => ?_) (fun c3 => ?_)
          · by_cases h2 : t < 2
            · refine j_iload (pc := 135) C d_Rules_value_135 7 rfl ?_
              refine j_iconst (pc := 137) C (v := 2) d_Rules_value_137 (by decide) ?_
              refine j_icmp_ltT (pc := 138) C (tgt := 174) d_Rules_value_138 (by decide) (show nI t < nI 2 from nI_lt h2 (by decide)) ?_
              refine j_iinc (pc := 174) C (v := nI (i + 1)) (lv' := [(7, .int (nI (i + 1))), (8, .int ((d.2 20) (nI i).toNatClampNeg)), (0, .ref (ad 3)), (1, .int v1), (2, .int v2), (3, .int v3), (4, .int v4), (5, .int v5), (6, .int (nI t))]) d_Rules_value_174 8 rfl (nI_1 _) (by decide) rfl ?_
              refine j_goto (pc := 177) C (tgt := 10) d_Rules_value_177 (by decide) ?_
              refine j_locs (lv' := [(0, .ref (ad 3)), (1, .int v1), (2, .int v2), (3, .int v3), (4, .int v4), (5, .int v5), (6, .int (nI t)), (7, .int (nI (i + 1)))]) [2, 3, 4, 5, 6, 7, 8, 0] rfl ?_
              exact ih (i + 1) t _ (by omega) (by omega) (by omega)
            · refine j_iload (pc := 135) C d_Rules_value_135 7 rfl ?_
              refine j_iconst (pc := 137) C (v := 2) d_Rules_value_137 (by decide) ?_
              refine j_icmp_ltF (pc := 138) C (tgt := 174) d_Rules_value_138 (by decide) (show ¬ nI t < nI 2 from nI_nlt (by omega) (by omega)) ?_
              refine j_iinc (pc := 141) C (v := nI (t - 1)) (lv' := [(6, .int (nI (t - 1))), (8, .int ((d.2 20) (nI i).toNatClampNeg)), (0, .ref (ad 3)), (1, .int v1), (2, .int v2), (3, .int v3), (4, .int v4), (5, .int v5), (7, .int (nI i))]) d_Rules_value_141 7 rfl (nI_dn (by omega)) (by decide) rfl ?_
              refine j_aload_n (pc := 144) C d_Rules_value_144 rfl 2 rfl ?_
              refine j_get (pc := 145) C gf_Rules_27 0 rfl rfl d_Rules_value_145 ?_
              refine j_iload (pc := 148) C d_Rules_value_148 0 rfl ?_
              refine j_iconst (pc := 150) C (v := 1) d_Rules_value_150 (by decide) ?_
              refine j_isub (pc := 151) C (v := nI (t - 1 - 1)) d_Rules_value_151 (nI_s1 (by omega)) ?_
              refine j_iload (pc := 152) C d_Rules_value_152 1 rfl ?_
              refine j_aload_n (pc := 154) C d_Rules_value_154 rfl 2 rfl ?_
              refine j_get (pc := 155) C gf_Rules_27 0 rfl rfl d_Rules_value_155 ?_
              refine j_iload (pc := 158) C d_Rules_value_158 0 rfl ?_
              refine j_iconst (pc := 160) C (v := 1) d_Rules_value_160 (by decide) ?_
              refine j_isub (pc := 161) C (v := nI (t - 1 - 1)) d_Rules_value_161 (nI_s1 (by omega)) ?_
              refine j_iald (pc := 162) C 2 rfl (v := f (nI (t - 1 - 1)).toNatClampNeg) (vp_in_nI (by omega) (by decide)) rfl d_Rules_value_162 ?_
              refine j_aload_n (pc := 163) C d_Rules_value_163 rfl 2 rfl ?_
              refine j_get (pc := 164) C gf_Rules_27 0 rfl rfl d_Rules_value_164 ?_
              refine j_iload (pc := 167) C d_Rules_value_167 0 rfl ?_
              refine j_iald (pc := 169) C 2 rfl (v := f (nI (t - 1)).toNatClampNeg) (vp_in_nI (by omega) (by decide)) rfl d_Rules_value_169 ?_
              refine j_callSi (pc := 170) C (c_joined l D y ((d.2 20) (nI i).toNatClampNeg) (f (nI (t - 1 - 1)).toNatClampNeg) (f (nI (t - 1)).toNatClampNeg)) kw_Rules_50 ks_Rules_joined ⟨by decide, by decide⟩ ⟨by decide, by decide⟩ (wr := [(ad 3, .inr (6, [.int (d.1 11), .int (d.1 12), .ref (ad 20), .ref (ad 21), .ref (ad 22), .ref (ad 23), .ref (ad 24), .ref (ad 25)])), (ad 24, .inl (y 0, 1600, .inl (d.2 20))), (ad 25, .inl (y 0, 40, .inl f))]) [] [0, 1, 2] rfl rfl (by decide) (by decide) (by decide) (As := [.int ((d.2 20) (nI i).toNatClampNeg), .int (f (nI (t - 1 - 1)).toNatClampNeg), .int (f (nI (t - 1)).toNatClampNeg)]) (rest := [.int (nI (t - 1 - 1)), .ref (ad 25)]) rfl (nb rfl) rfl d_Rules_value_170 (fun r4 _ hr4 => ?_)
              refine j_ws (ws' := [(ad 3, .inr (6, [.int (d.1 11), .int (d.1 12), .ref (ad 20), .ref (ad 21), .ref (ad 22), .ref (ad 23), .ref (ad 24), .ref (ad 25)])), (ad 24, .inl (y 0, 1600, .inl (d.2 20))), (ad 25, .inl (y 0, 40, .inl f))]) rfl ?_
              refine j_iast (pc := 173) C 2 rfl (ws' := [(ad 3, .inr (6, [.int (d.1 11), .int (d.1 12), .ref (ad 20), .ref (ad 21), .ref (ad 22), .ref (ad 23), .ref (ad 24), .ref (ad 25)])), (ad 24, .inl (y 0, 1600, .inl (d.2 20))), (ad 25, .inl (y 0, 40, .inl (upd f (nI (t - 1 - 1)).toNatClampNeg r4)))]) (vp_in_nI (by omega) (by decide)) rfl d_Rules_value_173 ?_
              refine j_iinc (pc := 174) C (v := nI (i + 1)) (lv' := [(7, .int (nI (i + 1))), (6, .int (nI (t - 1))), (8, .int ((d.2 20) (nI i).toNatClampNeg)), (0, .ref (ad 3)), (1, .int v1), (2, .int v2), (3, .int v3), (4, .int v4), (5, .int v5)]) d_Rules_value_174 8 rfl (nI_1 _) (by decide) rfl ?_
              refine j_goto (pc := 177) C (tgt := 10) d_Rules_value_177 (by decide) ?_
              refine j_locs (lv' := [(0, .ref (ad 3)), (1, .int v1), (2, .int v2), (3, .int v3), (4, .int v4), (5, .int v5), (6, .int (nI (t - 1))), (7, .int (nI (i + 1)))]) [3, 4, 5, 6, 7, 8, 1, 0] rfl ?_
              exact ih (i + 1) (t - 1) _ (by omega) (by omega) (by omega)
          · by_cases h1 : t < 1
            · refine j_iload (pc := 106) C d_Rules_value_106 7 rfl ?_
              refine j_iconst (pc := 108) C (v := 1) d_Rules_value_108 (by decide) ?_
              refine j_icmp_ltT (pc := 109) C (tgt := 174) d_Rules_value_109 (by decide) (show nI t < nI 1 from nI_lt h1 (by decide)) ?_
              refine j_iinc (pc := 174) C (v := nI (i + 1)) (lv' := [(7, .int (nI (i + 1))), (8, .int ((d.2 20) (nI i).toNatClampNeg)), (0, .ref (ad 3)), (1, .int v1), (2, .int v2), (3, .int v3), (4, .int v4), (5, .int v5), (6, .int (nI t))]) d_Rules_value_174 8 rfl (nI_1 _) (by decide) rfl ?_
              refine j_goto (pc := 177) C (tgt := 10) d_Rules_value_177 (by decide) ?_
              refine j_locs (lv' := [(0, .ref (ad 3)), (1, .int v1), (2, .int v2), (3, .int v3), (4, .int v4), (5, .int v5), (6, .int (nI t)), (7, .int (nI (i + 1)))]) [2, 3, 4, 5, 6, 7, 8, 0] rfl ?_
              exact ih (i + 1) t _ (by omega) (by omega) (by omega)
            · refine j_iload (pc := 106) C d_Rules_value_106 7 rfl ?_
              refine j_iconst (pc := 108) C (v := 1) d_Rules_value_108 (by decide) ?_
              refine j_icmp_ltF (pc := 109) C (tgt := 174) d_Rules_value_109 (by decide) (show ¬ nI t < nI 1 from nI_nlt (by omega) (by omega)) ?_
              refine j_aload_n (pc := 112) C d_Rules_value_112 rfl 1 rfl ?_
              refine j_get (pc := 113) C gf_Rules_27 0 rfl rfl d_Rules_value_113 ?_
              refine j_iload (pc := 116) C d_Rules_value_116 7 rfl ?_
              refine j_iconst (pc := 118) C (v := 1) d_Rules_value_118 (by decide) ?_
              refine j_isub (pc := 119) C (v := nI (t - 1)) d_Rules_value_119 (nI_s1 (by omega)) ?_
              refine j_iconst (pc := 120) C (v := 1) d_Rules_value_120 (by decide) ?_
              refine j_aload_n (pc := 121) C d_Rules_value_121 rfl 1 rfl ?_
              refine j_get (pc := 122) C gf_Rules_27 0 rfl rfl d_Rules_value_122 ?_
              refine j_iload (pc := 125) C d_Rules_value_125 7 rfl ?_
              refine j_iconst (pc := 127) C (v := 1) d_Rules_value_127 (by decide) ?_
              refine j_isub (pc := 128) C (v := nI (t - 1)) d_Rules_value_128 (nI_s1 (by omega)) ?_
              refine j_iald (pc := 129) C 2 rfl (v := f (nI (t - 1)).toNatClampNeg) (vp_in_nI (by omega) (by decide)) rfl d_Rules_value_129 ?_
              refine j_isub (pc := 130) C (v := 1 - (f (nI (t - 1)).toNatClampNeg)) d_Rules_value_130 rfl ?_
              refine j_iast (pc := 131) C 2 rfl (ws' := [(ad 3, .inr (6, [.int (d.1 11), .int (d.1 12), .ref (ad 20), .ref (ad 21), .ref (ad 22), .ref (ad 23), .ref (ad 24), .ref (ad 25)])), (ad 24, .inl (y 0, 1600, .inl (d.2 20))), (ad 25, .inl (y 0, 40, .inl (upd f (nI (t - 1)).toNatClampNeg (1 - (f (nI (t - 1)).toNatClampNeg)))))]) (vp_in_nI (by omega) (by decide)) rfl d_Rules_value_131 ?_
              refine j_goto (pc := 132) C (tgt := 174) d_Rules_value_132 (by decide) ?_
              refine j_iinc (pc := 174) C (v := nI (i + 1)) (lv' := [(7, .int (nI (i + 1))), (8, .int ((d.2 20) (nI i).toNatClampNeg)), (0, .ref (ad 3)), (1, .int v1), (2, .int v2), (3, .int v3), (4, .int v4), (5, .int v5), (6, .int (nI t))]) d_Rules_value_174 8 rfl (nI_1 _) (by decide) rfl ?_
              refine j_goto (pc := 177) C (tgt := 10) d_Rules_value_177 (by decide) ?_
              refine j_locs (lv' := [(0, .ref (ad 3)), (1, .int v1), (2, .int v2), (3, .int v3), (4, .int v4), (5, .int v5), (6, .int (nI t)), (7, .int (nI (i + 1)))]) [2, 3, 4, 5, 6, 7, 8, 0] rfl ?_
              exact ih (i + 1) t _ (by omega) (by omega) (by omega)
        · by_cases h40 : t < 40
          · refine j_iload (pc := 42) C d_Rules_value_42 7 rfl ?_
            refine j_aload_n (pc := 44) C d_Rules_value_44 rfl 1 rfl ?_
            refine j_get (pc := 45) C gf_Rules_27 0 rfl rfl d_Rules_value_45 ?_
            refine j_alen (pc := 48) C 2 0 rfl rfl (v := 40) rfl d_Rules_value_48 ?_
            refine j_icmp_geF (pc := 49) C (tgt := 174) d_Rules_value_49 (by decide) (show ¬ nI 40 ≤ nI t from nI_ge h40 (by decide)) ?_
            refine j_aload_n (pc := 52) C d_Rules_value_52 rfl 1 rfl ?_
            refine j_get (pc := 53) C gf_Rules_27 0 rfl rfl d_Rules_value_53 ?_
            refine j_iload (pc := 56) C d_Rules_value_56 7 rfl ?_
            refine j_iload (pc := 58) C d_Rules_value_58 0 rfl ?_
            refine j_if_lt (pc := 60) C (tgt := 68) d_Rules_value_60 (by decide) (fun c5 => ?_) (fun c5 => ?_)
            · refine j_iload (pc := 68) C d_Rules_value_68 0 rfl ?_
              refine j_iconst (pc := 70) C (v := (-1)) d_Rules_value_70 (by decide) ?_
              refine j_icmp_ne (pc := 71) C (tgt := 78) d_Rules_value_71 (by decide) (fun c6 => ?_) (fun c6 => ?_)
              · refine j_iload (pc := 78) C d_Rules_value_78 0 rfl ?_
                refine j_bipush (pc := 80) C (v := (-2)) d_Rules_value_80 (by decide) ?_
                refine j_icmp_ne (pc := 82) C (tgt := 90) d_Rules_value_82 (by decide) (fun c7 => ?_) (fun c7 => ?_)
                · refine j_iload (pc := 90) C d_Rules_value_90 6 rfl ?_
                  refine j_iast (pc := 92) C 2 rfl (ws' := [(ad 3, .inr (6, [.int (d.1 11), .int (d.1 12), .ref (ad 20), .ref (ad 21), .ref (ad 22), .ref (ad 23), .ref (ad 24), .ref (ad 25)])), (ad 24, .inl (y 0, 1600, .inl (d.2 20))), (ad 25, .inl (y 0, 40, .inl (upd f (nI t).toNatClampNeg v5)))]) (vp_in_nI (by omega) (by decide)) rfl d_Rules_value_92 ?_
                  refine j_iinc (pc := 93) C (v := nI (t + 1)) (lv' := [(6, .int (nI (t + 1))), (8, .int ((d.2 20) (nI i).toNatClampNeg)), (0, .ref (ad 3)), (1, .int v1), (2, .int v2), (3, .int v3), (4, .int v4), (5, .int v5), (7, .int (nI i))]) d_Rules_value_93 7 rfl (nI_1 _) (by decide) rfl ?_
                  refine j_goto (pc := 96) C (tgt := 174) d_Rules_value_96 (by decide) ?_
                  refine j_iinc (pc := 174) C (v := nI (i + 1)) (lv' := [(7, .int (nI (i + 1))), (6, .int (nI (t + 1))), (8, .int ((d.2 20) (nI i).toNatClampNeg)), (0, .ref (ad 3)), (1, .int v1), (2, .int v2), (3, .int v3), (4, .int v4), (5, .int v5)]) d_Rules_value_174 8 rfl (nI_1 _) (by decide) rfl ?_
                  refine j_goto (pc := 177) C (tgt := 10) d_Rules_value_177 (by decide) ?_
                  refine j_locs (lv' := [(0, .ref (ad 3)), (1, .int v1), (2, .int v2), (3, .int v3), (4, .int v4), (5, .int v5), (6, .int (nI (t + 1))), (7, .int (nI (i + 1)))]) [3, 4, 5, 6, 7, 8, 1, 0] rfl ?_
                  exact ih (i + 1) (t + 1) _ (by omega) (by omega) (by omega)
                · refine j_iload (pc := 85) C d_Rules_value_85 5 rfl ?_
                  refine j_goto (pc := 87) C (tgt := 92) d_Rules_value_87 (by decide) ?_
                  refine j_iast (pc := 92) C 2 rfl (ws' := [(ad 3, .inr (6, [.int (d.1 11), .int (d.1 12), .ref (ad 20), .ref (ad 21), .ref (ad 22), .ref (ad 23), .ref (ad 24), .ref (ad 25)])), (ad 24, .inl (y 0, 1600, .inl (d.2 20))), (ad 25, .inl (y 0, 40, .inl (upd f (nI t).toNatClampNeg v4)))]) (vp_in_nI (by omega) (by decide)) rfl d_Rules_value_92 ?_
                  refine j_iinc (pc := 93) C (v := nI (t + 1)) (lv' := [(6, .int (nI (t + 1))), (8, .int ((d.2 20) (nI i).toNatClampNeg)), (0, .ref (ad 3)), (1, .int v1), (2, .int v2), (3, .int v3), (4, .int v4), (5, .int v5), (7, .int (nI i))]) d_Rules_value_93 7 rfl (nI_1 _) (by decide) rfl ?_
                  refine j_goto (pc := 96) C (tgt := 174) d_Rules_value_96 (by decide) ?_
                  refine j_iinc (pc := 174) C (v := nI (i + 1)) (lv' := [(7, .int (nI (i + 1))), (6, .int (nI (t + 1))), (8, .int ((d.2 20) (nI i).toNatClampNeg)), (0, .ref (ad 3)), (1, .int v1), (2, .int v2), (3, .int v3), (4, .int v4), (5, .int v5)]) d_Rules_value_174 8 rfl (nI_1 _) (by decide) rfl ?_
                  refine j_goto (pc := 177) C (tgt := 10) d_Rules_value_177 (by decide) ?_
                  refine j_locs (lv' := [(0, .ref (ad 3)), (1, .int v1), (2, .int v2), (3, .int v3), (4, .int v4), (5, .int v5), (6, .int (nI (t + 1))), (7, .int (nI (i + 1)))]) [3, 4, 5, 6, 7, 8, 1, 0] rfl ?_
                  exact ih (i + 1) (t + 1) _ (by omega) (by omega) (by omega)
              · refine j_iload_n (pc := 74) C d_Rules_value_74 rfl 4 rfl ?_
                refine j_goto (pc := 75) C (tgt := 92) d_Rules_value_75 (by decide) ?_
                refine j_iast (pc := 92) C 2 rfl (ws' := [(ad 3, .inr (6, [.int (d.1 11), .int (d.1 12), .ref (ad 20), .ref (ad 21), .ref (ad 22), .ref (ad 23), .ref (ad 24), .ref (ad 25)])), (ad 24, .inl (y 0, 1600, .inl (d.2 20))), (ad 25, .inl (y 0, 40, .inl (upd f (nI t).toNatClampNeg v3)))]) (vp_in_nI (by omega) (by decide)) rfl d_Rules_value_92 ?_
                refine j_iinc (pc := 93) C (v := nI (t + 1)) (lv' := [(6, .int (nI (t + 1))), (8, .int ((d.2 20) (nI i).toNatClampNeg)), (0, .ref (ad 3)), (1, .int v1), (2, .int v2), (3, .int v3), (4, .int v4), (5, .int v5), (7, .int (nI i))]) d_Rules_value_93 7 rfl (nI_1 _) (by decide) rfl ?_
                refine j_goto (pc := 96) C (tgt := 174) d_Rules_value_96 (by decide) ?_
                refine j_iinc (pc := 174) C (v := nI (i + 1)) (lv' := [(7, .int (nI (i + 1))), (6, .int (nI (t + 1))), (8, .int ((d.2 20) (nI i).toNatClampNeg)), (0, .ref (ad 3)), (1, .int v1), (2, .int v2), (3, .int v3), (4, .int v4), (5, .int v5)]) d_Rules_value_174 8 rfl (nI_1 _) (by decide) rfl ?_
                refine j_goto (pc := 177) C (tgt := 10) d_Rules_value_177 (by decide) ?_
                refine j_locs (lv' := [(0, .ref (ad 3)), (1, .int v1), (2, .int v2), (3, .int v3), (4, .int v4), (5, .int v5), (6, .int (nI (t + 1))), (7, .int (nI (i + 1)))]) [3, 4, 5, 6, 7, 8, 1, 0] rfl ?_
                exact ih (i + 1) (t + 1) _ (by omega) (by omega) (by omega)
            · refine j_iload (pc := 63) C d_Rules_value_63 0 rfl ?_
              refine j_goto (pc := 65) C (tgt := 92) d_Rules_value_65 (by decide) ?_
              refine j_iast (pc := 92) C 2 rfl (ws' := [(ad 3, .inr (6, [.int (d.1 11), .int (d.1 12), .ref (ad 20), .ref (ad 21), .ref (ad 22), .ref (ad 23), .ref (ad 24), .ref (ad 25)])), (ad 24, .inl (y 0, 1600, .inl (d.2 20))), (ad 25, .inl (y 0, 40, .inl (upd f (nI t).toNatClampNeg ((d.2 20) (nI i).toNatClampNeg))))]) (vp_in_nI (by omega) (by decide)) rfl d_Rules_value_92 ?_
              refine j_iinc (pc := 93) C (v := nI (t + 1)) (lv' := [(6, .int (nI (t + 1))), (8, .int ((d.2 20) (nI i).toNatClampNeg)), (0, .ref (ad 3)), (1, .int v1), (2, .int v2), (3, .int v3), (4, .int v4), (5, .int v5), (7, .int (nI i))]) d_Rules_value_93 7 rfl (nI_1 _) (by decide) rfl ?_
              refine j_goto (pc := 96) C (tgt := 174) d_Rules_value_96 (by decide) ?_
              refine j_iinc (pc := 174) C (v := nI (i + 1)) (lv' := [(7, .int (nI (i + 1))), (6, .int (nI (t + 1))), (8, .int ((d.2 20) (nI i).toNatClampNeg)), (0, .ref (ad 3)), (1, .int v1), (2, .int v2), (3, .int v3), (4, .int v4), (5, .int v5)]) d_Rules_value_174 8 rfl (nI_1 _) (by decide) rfl ?_
              refine j_goto (pc := 177) C (tgt := 10) d_Rules_value_177 (by decide) ?_
              refine j_locs (lv' := [(0, .ref (ad 3)), (1, .int v1), (2, .int v2), (3, .int v3), (4, .int v4), (5, .int v5), (6, .int (nI (t + 1))), (7, .int (nI (i + 1)))]) [3, 4, 5, 6, 7, 8, 1, 0] rfl ?_
              exact ih (i + 1) (t + 1) _ (by omega) (by omega) (by omega)
          · refine j_iload (pc := 42) C d_Rules_value_42 7 rfl ?_
            refine j_aload_n (pc := 44) C d_Rules_value_44 rfl 1 rfl ?_
            refine j_get (pc := 45) C gf_Rules_27 0 rfl rfl d_Rules_value_45 ?_
            refine j_alen (pc := 48) C 2 0 rfl rfl (v := 40) rfl d_Rules_value_48 ?_
            refine j_icmp_geT (pc := 49) C (tgt := 174) d_Rules_value_49 (by decide) (show nI 40 ≤ nI t from nI_le (by omega) (by omega)) ?_
            refine j_iinc (pc := 174) C (v := nI (i + 1)) (lv' := [(7, .int (nI (i + 1))), (8, .int ((d.2 20) (nI i).toNatClampNeg)), (0, .ref (ad 3)), (1, .int v1), (2, .int v2), (3, .int v3), (4, .int v4), (5, .int v5), (6, .int (nI t))]) d_Rules_value_174 8 rfl (nI_1 _) (by decide) rfl ?_
            refine j_goto (pc := 177) C (tgt := 10) d_Rules_value_177 (by decide) ?_
            refine j_locs (lv' := [(0, .ref (ad 3)), (1, .int v1), (2, .int v2), (3, .int v3), (4, .int v4), (5, .int v5), (6, .int (nI t)), (7, .int (nI (i + 1)))]) [2, 3, 4, 5, 6, 7, 8, 0] rfl ?_
            exact ih (i + 1) t _ (by omega) (by omega) (by omega)
      · refine j_iload (pc := 16) C d_Rules_value_16 7 rfl ?_
        refine j_aload_n (pc := 18) C d_Rules_value_18 rfl 0 rfl ?_
        refine j_get (pc := 19) C gf_Rules_24 0 rfl rfl d_Rules_value_19 ?_
        refine j_alen (pc := 22) C 1 0 rfl rfl (v := 1600) rfl d_Rules_value_22 ?_
        refine j_icmp_geT (pc := 23) C (tgt := 180) d_Rules_value_23 (by decide) (show nI 1600 ≤ nI i from nI_le (by omega) hi) ?_
        exact kx _ _ _ (by omega)
set_option maxHeartbeats 4000000 in
set_option maxRecDepth 100000 in
theorem c_value (l : Launch) (D : va_G) (y : Nat → ClassId) (ad : Nat → Nat) (d : LD) (v1 : Int32) (v2 : Int32) (v3 : Int32) (v4 : Int32) (v5 : Int32) (g : Nat → Int32)  : CT l D y ⟨"NineBoards$Rules", "value", "(IIIII)I"⟩ prog_9_method_4_code 9 (some .int) ({ frames := 2, cells := 0, slots := 0, locals := 44 } : Room) [.ref (ad 3), .int v1, .int v2, .int v3, .int v4, .int v5] [(ad 3, .inr (6, [.int (d.1 11), .int (d.1 12), .ref (ad 20), .ref (ad 21), .ref (ad 22), .ref (ad 23), .ref (ad 24), .ref (ad 25)])), (ad 24, .inl (y 0, 1600, .inl (d.2 20))), (ad 25, .inl (y 0, 40, .inl g))] (QI D [(ad 3, .inr (6, [.int (d.1 11), .int (d.1 12), .ref (ad 20), .ref (ad 21), .ref (ad 22), .ref (ad 23), .ref (ad 24), .ref (ad 25)])), (ad 24, .inl (y 0, 1600, .inl (d.2 20))), (ad 25, .inl (y 0, 40, .inl g))] (fun (r : Int32) (u : Nat → Int32) => True) (fun u => [(ad 3, .inr (6, [.int (d.1 11), .int (d.1 12), .ref (ad 20), .ref (ad 21), .ref (ad 22), .ref (ad 23), .ref (ad 24), .ref (ad 25)])), (ad 24, .inl (y 0, 1600, .inl (d.2 20))), (ad 25, .inl (y 0, 40, .inl u))])) := by
  refine CT.of (by decide) (nb rfl) ?_
  intro p e s m args below meth c C hr
  refine j_lv (lv' := [(0, .ref (ad 3)), (1, .int v1), (2, .int v2), (3, .int v3), (4, .int v4), (5, .int v5)]) rfl ?_
  refine j_iconst (pc := 0) C (v := 0) d_Rules_value_0 (by decide) ?_
  refine j_istore (pc := 1) C (lv' := [(6, .int 0), (0, .ref (ad 3)), (1, .int v1), (2, .int v2), (3, .int v3), (4, .int v4), (5, .int v5)]) d_Rules_value_1 (by decide) rfl ?_
  refine j_iconst (pc := 3) C (v := 0) d_Rules_value_3 (by decide) ?_
  refine j_iload_n (pc := 4) C d_Rules_value_4 rfl 2 rfl ?_
  refine j_mmax (pc := 5) C (mt_4 (List.mem_of_getElem? (i := 89) rfl) rfl) (mt_1 (List.mem_of_getElem? (i := 34) rfl) rfl) (mt_1 (List.mem_of_getElem? (i := 3) rfl) rfl) (mt_1 (List.mem_of_getElem? (i := 35) rfl) rfl) (v := if 0 < v1 then v1 else 0) rfl (by decide) (nb rfl) (by decide) (by decide) d_Rules_value_5 ?_
  refine j_istore (pc := 8) C (lv' := [(7, .int (if 0 < v1 then v1 else 0)), (6, .int 0), (0, .ref (ad 3)), (1, .int v1), (2, .int v2), (3, .int v3), (4, .int v4), (5, .int v5)]) d_Rules_value_8 (by decide) rfl ?_
  obtain ⟨i, hi, e⟩ := mx0 v1
  refine j_locs (lv' := [(0, .ref (ad 3)), (1, .int v1), (2, .int v2), (3, .int v3), (4, .int v4), (5, .int v5), (6, .int 0), (7, .int (if 0 < v1 then v1 else 0))]) [2, 3, 4, 5, 6, 7, 1, 0] rfl ?_
  refine j_lv (lv' := [(0, .ref (ad 3)), (1, .int v1), (2, .int v2), (3, .int v3), (4, .int v4), (5, .int v5), (6, .int (nI 0)), (7, .int (nI i))]) (by rw [e]; rfl) ?_
  refine lp_value C ad d v1 v2 v3 v4 v5 (fun t i f ht => ?_) 1600 i 0 _ (by omega) hi (by omega)
  by_cases h1 : t < 1
  · refine j_iload (pc := 180) C d_Rules_value_180 6 rfl ?_
    refine j_iconst (pc := 182) C (v := 1) d_Rules_value_182 (by decide) ?_
    refine j_icmp_ltT (pc := 183) C (tgt := 198) d_Rules_value_183 (by decide) (show nI t < nI 1 from nI_lt h1 (by decide)) ?_
    refine j_iconst (pc := 198) C (v := 0) d_Rules_value_198 (by decide) ?_
    exact j_iret (pc := 199) C hr rfl f trivial [0, 1, 2] rfl (by decide) (by decide) (by decide) d_Rules_value_199
  · refine j_iload (pc := 180) C d_Rules_value_180 6 rfl ?_
    refine j_iconst (pc := 182) C (v := 1) d_Rules_value_182 (by decide) ?_
    refine j_icmp_ltF (pc := 183) C (tgt := 198) d_Rules_value_183 (by decide) (show ¬ nI t < nI 1 from nI_nlt (by omega) (by omega)) ?_
    refine j_aload_n (pc := 186) C d_Rules_value_186 rfl 0 rfl ?_
    refine j_get (pc := 187) C gf_Rules_27 0 rfl rfl d_Rules_value_187 ?_
    refine j_iload (pc := 190) C d_Rules_value_190 6 rfl ?_
    refine j_iconst (pc := 192) C (v := 1) d_Rules_value_192 (by decide) ?_
    refine j_isub (pc := 193) C (v := nI (t - 1)) d_Rules_value_193 (nI_s1 (by omega)) ?_
    refine j_iald (pc := 194) C 2 rfl (v := f (nI (t - 1)).toNatClampNeg) (vp_in_nI (by omega) (by decide)) rfl d_Rules_value_194 ?_
    refine j_goto (pc := 195) C (tgt := 199) d_Rules_value_195 (by decide) ?_
    exact j_iret (pc := 199) C hr rfl f trivial [0, 1, 2] rfl (by decide) (by decide) (by decide) d_Rules_value_199
theorem d_Rules_amount_3 : decode prog_9_method_3_code 3 = .ok (.iload 5, 2) := by decide +kernel
theorem d_Rules_amount_5 : decode prog_9_method_3_code 5 = .ok (.aload_n 0, 1) := by decide +kernel
theorem d_Rules_amount_6 : decode prog_9_method_3_code 6 = .ok (.getfield 34, 3) := by decide +kernel
theorem gf_Rules_34 : GF "NineBoards$Rules" 34 6 0 := ⟨_, _, _, rfl, ci_Rules, by decide, (mt_1 (List.mem_of_getElem? (i := 233) rfl) rfl)⟩
theorem d_Rules_amount_9 : decode prog_9_method_3_code 9 = .ok (.if_icmp .ge 82, 3) := by decide +kernel
theorem d_Rules_amount_12 : decode prog_9_method_3_code 12 = .ok (.aload_n 0, 1) := by decide +kernel
theorem d_Rules_amount_13 : decode prog_9_method_3_code 13 = .ok (.getfield 9, 3) := by decide +kernel
theorem gf_Rules_9 : GF "NineBoards$Rules" 9 6 2 := ⟨_, _, _, rfl, ci_Rules, by decide, (mt_1 (List.mem_of_getElem? (i := 239) rfl) rfl)⟩
theorem d_Rules_amount_16 : decode prog_9_method_3_code 16 = .ok (.iload 5, 2) := by decide +kernel
theorem d_Rules_amount_18 : decode prog_9_method_3_code 18 = .ok (.iaload, 1) := by decide +kernel
theorem d_Rules_amount_19 : decode prog_9_method_3_code 19 = .ok (.iload_n 1, 1) := by decide +kernel
theorem d_Rules_amount_20 : decode prog_9_method_3_code 20 = .ok (.if_icmp .ne 65, 3) := by decide +kernel
theorem d_Rules_amount_85 : decode prog_9_method_3_code 85 = .ok (.iinc 5 1, 3) := by decide +kernel
theorem d_Rules_amount_88 : decode prog_9_method_3_code 88 = .ok (.goto (-85), 3) := by decide +kernel
theorem d_Rules_amount_23 : decode prog_9_method_3_code 23 = .ok (.aload_n 0, 1) := by decide +kernel
theorem d_Rules_amount_24 : decode prog_9_method_3_code 24 = .ok (.aload_n 0, 1) := by decide +kernel
theorem d_Rules_amount_25 : decode prog_9_method_3_code 25 = .ok (.getfield 18, 3) := by decide +kernel
theorem gf_Rules_18 : GF "NineBoards$Rules" 18 6 4 := ⟨_, _, _, rfl, ci_Rules, by decide, (mt_2 (List.mem_of_getElem? (i := 3) rfl) rfl)⟩
theorem d_Rules_amount_28 : decode prog_9_method_3_code 28 = .ok (.iload 5, 2) := by decide +kernel
theorem d_Rules_amount_30 : decode prog_9_method_3_code 30 = .ok (.iaload, 1) := by decide +kernel
theorem d_Rules_amount_31 : decode prog_9_method_3_code 31 = .ok (.aload_n 0, 1) := by decide +kernel
theorem d_Rules_amount_32 : decode prog_9_method_3_code 32 = .ok (.getfield 21, 3) := by decide +kernel
theorem gf_Rules_21 : GF "NineBoards$Rules" 21 6 5 := ⟨_, _, _, rfl, ci_Rules, by decide, (mt_2 (List.mem_of_getElem? (i := 5) rfl) rfl)⟩
theorem d_Rules_amount_35 : decode prog_9_method_3_code 35 = .ok (.iload 5, 2) := by decide +kernel
theorem d_Rules_amount_37 : decode prog_9_method_3_code 37 = .ok (.iaload, 1) := by decide +kernel
theorem d_Rules_amount_38 : decode prog_9_method_3_code 38 = .ok (.iload_n 2, 1) := by decide +kernel
theorem d_Rules_amount_39 : decode prog_9_method_3_code 39 = .ok (.iload_n 3, 1) := by decide +kernel
theorem d_Rules_amount_40 : decode prog_9_method_3_code 40 = .ok (.iload 4, 2) := by decide +kernel
theorem d_Rules_amount_42 : decode prog_9_method_3_code 42 = .ok (.invokevirtual 37, 3) := by decide +kernel
theorem kw_Rules_37 : KW "NineBoards$Rules" 37 ⟨"NineBoards$Rules", "value", "(IIIII)I"⟩ prog_9_method_4_code 9 (some .int) 5 := ⟨(mt_4 (List.mem_of_getElem? (i := 85) rfl) rfl), (mt_1 (List.mem_of_getElem? (i := 9) rfl) rfl), (mt_4 (List.mem_of_getElem? (i := 88) rfl) rfl), by decide +kernel⟩
theorem kv_Rules_value : Cond.instanceMethod ⟨"NineBoards$Rules", "value", "(IIIII)I"⟩ ∈ TB ∧ Cond.selects "NineBoards$Rules" ⟨"NineBoards$Rules", "value", "(IIIII)I"⟩ ⟨"NineBoards$Rules", "value", "(IIIII)I"⟩ ∈ TB := ⟨(mt_4 (List.mem_of_getElem? (i := 87) rfl) rfl), (ms_0 (List.mem_map.mpr ⟨(⟨"NineBoards$Rules", "value", "(IIIII)I"⟩, 8), List.mem_of_getElem? (i := 33) (by decide +kernel), rfl⟩) rfl)⟩
theorem d_Rules_amount_45 : decode prog_9_method_3_code 45 = .ok (.ifCond .eq 40, 3) := by decide +kernel
theorem d_Rules_amount_0 : decode prog_9_method_3_code 0 = .ok (.iconst 0, 1) := by decide +kernel
theorem d_Rules_amount_1 : decode prog_9_method_3_code 1 = .ok (.istore 5, 2) := by decide +kernel
theorem d_Rules_amount_91 : decode prog_9_method_3_code 91 = .ok (.iconst 0, 1) := by decide +kernel
theorem d_Rules_amount_92 : decode prog_9_method_3_code 92 = .ok (.ireturn, 1) := by decide +kernel
theorem d_Rules_amount_48 : decode prog_9_method_3_code 48 = .ok (.aload_n 0, 1) := by decide +kernel
theorem d_Rules_amount_49 : decode prog_9_method_3_code 49 = .ok (.aload_n 0, 1) := by decide +kernel
theorem d_Rules_amount_50 : decode prog_9_method_3_code 50 = .ok (.getfield 15, 3) := by decide +kernel
theorem gf_Rules_15 : GF "NineBoards$Rules" 15 6 3 := ⟨_, _, _, rfl, ci_Rules, by decide, (mt_2 (List.mem_of_getElem? (i := 1) rfl) rfl)⟩
theorem d_Rules_amount_53 : decode prog_9_method_3_code 53 = .ok (.iload 5, 2) := by decide +kernel
theorem d_Rules_amount_55 : decode prog_9_method_3_code 55 = .ok (.iaload, 1) := by decide +kernel
theorem d_Rules_amount_56 : decode prog_9_method_3_code 56 = .ok (.aload_n 0, 1) := by decide +kernel
theorem d_Rules_amount_57 : decode prog_9_method_3_code 57 = .ok (.getfield 18, 3) := by decide +kernel
theorem d_Rules_amount_60 : decode prog_9_method_3_code 60 = .ok (.iload 5, 2) := by decide +kernel
theorem d_Rules_amount_62 : decode prog_9_method_3_code 62 = .ok (.iaload, 1) := by decide +kernel
theorem d_Rules_amount_63 : decode prog_9_method_3_code 63 = .ok (.iload_n 2, 1) := by decide +kernel
theorem d_Rules_amount_64 : decode prog_9_method_3_code 64 = .ok (.iload_n 3, 1) := by decide +kernel
theorem d_Rules_amount_65 : decode prog_9_method_3_code 65 = .ok (.iload 4, 2) := by decide +kernel
theorem d_Rules_amount_67 : decode prog_9_method_3_code 67 = .ok (.invokevirtual 37, 3) := by decide +kernel
theorem d_Rules_amount_70 : decode prog_9_method_3_code 70 = .ok (.istore 6, 2) := by decide +kernel
theorem d_Rules_amount_72 : decode prog_9_method_3_code 72 = .ok (.iconst 0, 1) := by decide +kernel
theorem d_Rules_amount_73 : decode prog_9_method_3_code 73 = .ok (.sipush 9999, 3) := by decide +kernel
theorem d_Rules_amount_76 : decode prog_9_method_3_code 76 = .ok (.iload 6, 2) := by decide +kernel
theorem d_Rules_amount_78 : decode prog_9_method_3_code 78 = .ok (.invokestatic 41, 3) := by decide +kernel
theorem d_Rules_amount_81 : decode prog_9_method_3_code 81 = .ok (.invokestatic 47, 3) := by decide +kernel
theorem d_Rules_amount_84 : decode prog_9_method_3_code 84 = .ok (.ireturn, 1) := by decide +kernel
set_option maxHeartbeats 4000000 in
set_option maxRecDepth 100000 in
theorem lp_amount {p : Program} {l : Launch} {e : Env} {s : State} {m : MethodId} {args : Array Value} {below : List Frame} {meth : Method} {c : Code} {Q : State → Prop} {D : va_G} {y : Nat → ClassId} {A : Nat → Prop} (C : Cx p s m args meth c D y A prog_9_method_3_code 7 "NineBoards$Rules" "amount") (ad : Nat → Nat) (d : LD) (n11 : Nat) (v1 : Int32) (v2 : Int32) (v3 : Int32) (v4 : Int32) (h11 : d.1 11 = nI n11) (b11 : n11 ≤ 8) (kx : ∀ f : Nat → Int32, J p l e ({ frames := 3, cells := 0, slots := 0, locals := 72 } : Room) s m args below meth c Q D A 7 [(ad 3, .inr (6, [.int (d.1 11), .int (d.1 12), .ref (ad 20), .ref (ad 21), .ref (ad 22), .ref (ad 23), .ref (ad 24), .ref (ad 25)])), (ad 20, .inl (y 0, 8, .inl (d.2 16))), (ad 21, .inl (y 0, 8, .inl (d.2 17))), (ad 22, .inl (y 0, 8, .inl (d.2 18))), (ad 23, .inl (y 0, 8, .inl (d.2 19))), (ad 24, .inl (y 0, 1600, .inl (d.2 20))), (ad 25, .inl (y 0, 40, .inl f))] [(0, .ref (ad 3)), (1, .int v1), (2, .int v2), (3, .int v3), (4, .int v4), (5, .int (nI n11))] 0 0 91 []) (kr : ∀ (i : Nat) (f : Nat → Int32), i < n11 → J p l e ({ frames := 3, cells := 0, slots := 0, locals := 72 } : Room) s m args below meth c Q D A 7 [(ad 3, .inr (6, [.int (d.1 11), .int (d.1 12), .ref (ad 20), .ref (ad 21), .ref (ad 22), .ref (ad 23), .ref (ad 24), .ref (ad 25)])), (ad 20, .inl (y 0, 8, .inl (d.2 16))), (ad 21, .inl (y 0, 8, .inl (d.2 17))), (ad 22, .inl (y 0, 8, .inl (d.2 18))), (ad 23, .inl (y 0, 8, .inl (d.2 19))), (ad 24, .inl (y 0, 1600, .inl (d.2 20))), (ad 25, .inl (y 0, 40, .inl f))] [(0, .ref (ad 3)), (1, .int v1), (2, .int v2), (3, .int v3), (4, .int v4), (5, .int (nI i))] 0 0 48 []) : ∀ (n : Nat) (i : Nat) (f : Nat → Int32), (i + n = n11) → J p l e ({ frames := 3, cells := 0, slots := 0, locals := 72 } : Room) s m args below meth c Q D A 7 [(ad 3, .inr (6, [.int (d.1 11), .int (d.1 12), .ref (ad 20), .ref (ad 21), .ref (ad 22), .ref (ad 23), .ref (ad 24), .ref (ad 25)])), (ad 20, .inl (y 0, 8, .inl (d.2 16))), (ad 21, .inl (y 0, 8, .inl (d.2 17))), (ad 22, .inl (y 0, 8, .inl (d.2 18))), (ad 23, .inl (y 0, 8, .inl (d.2 19))), (ad 24, .inl (y 0, 1600, .inl (d.2 20))), (ad 25, .inl (y 0, 40, .inl f))] [(0, .ref (ad 3)), (1, .int v1), (2, .int v2), (3, .int v3), (4, .int v4), (5, .int (nI i))] 0 0 3 [] := by
  intro n
  induction n with
  | zero =>
    intro i f hi
    obtain rfl : i = n11 := by omega
    refine j_iload (pc := 3) C d_Rules_amount_3 5 rfl ?_
    refine j_aload_n (pc := 5) C d_Rules_amount_5 rfl 0 rfl ?_
    refine j_get (pc := 6) C gf_Rules_34 0 rfl rfl d_Rules_amount_6 ?_
    refine j_icmp_geT (pc := 9) C (tgt := 91) d_Rules_amount_9 (by decide) (by rw [h11]; exact Int32.le_refl _) ?_
    exact kx _
  | succ n ih =>
    intro i f hi
    refine j_iload (pc := 3) C d_Rules_amount_3 5 rfl ?_
    refine j_aload_n (pc := 5) C d_Rules_amount_5 rfl 0 rfl ?_
    refine j_get (pc := 6) C gf_Rules_34 0 rfl rfl d_Rules_amount_6 ?_
    refine j_icmp_geF (pc := 9) C (tgt := 91) d_Rules_amount_9 (by decide) (by rw [h11]; exact nI_ge (by omega) (by omega)) ?_
    refine j_aload_n (pc := 12) C d_Rules_amount_12 rfl 0 rfl ?_
    refine j_get (pc := 13) C gf_Rules_9 0 rfl rfl d_Rules_amount_13 ?_
    refine j_iload (pc := 16) C d_Rules_amount_16 5 rfl ?_
    refine j_iald (pc := 18) C 1 rfl (v := (d.2 16) (nI i).toNatClampNeg) (vp_in_nI (by omega) (by decide)) rfl d_Rules_amount_18 ?_
    refine j_iload_n (pc := 19) C d_Rules_amount_19 rfl 1 rfl ?_
    refine j_icmp_ne (pc := 20) C (tgt := 85) d_Rules_amount_20 (by decide) (fun c1 => ?_) (fun c1 => ?_)
    · refine j_iinc (pc := 85) C (v := nI (i + 1)) (lv' := [(5, .int (nI (i + 1))), (0, .ref (ad 3)), (1, .int v1), (2, .int v2), (3, .int v3), (4, .int v4)]) d_Rules_amount_85 5 rfl (nI_1 _) (by decide) rfl ?_
      refine j_goto (pc := 88) C (tgt := 3) d_Rules_amount_88 (by decide) ?_
      refine j_locs (lv' := [(0, .ref (ad 3)), (1, .int v1), (2, .int v2), (3, .int v3), (4, .int v4), (5, .int (nI (i + 1)))]) [1, 2, 3, 4, 5, 0] rfl ?_
      exact ih (i + 1) _ (by omega)
    · refine j_aload_n (pc := 23) C d_Rules_amount_23 rfl 0 rfl ?_
      refine j_aload_n (pc := 24) C d_Rules_amount_24 rfl 0 rfl ?_
      refine j_get (pc := 25) C gf_Rules_18 0 rfl rfl d_Rules_amount_25 ?_
      refine j_iload (pc := 28) C d_Rules_amount_28 5 rfl ?_
      refine j_iald (pc := 30) C 3 rfl (v := (d.2 18) (nI i).toNatClampNeg) (vp_in_nI (by omega) (by decide)) rfl d_Rules_amount_30 ?_
      refine j_aload_n (pc := 31) C d_Rules_amount_31 rfl 0 rfl ?_
      refine j_get (pc := 32) C gf_Rules_21 0 rfl rfl d_Rules_amount_32 ?_
      refine j_iload (pc := 35) C d_Rules_amount_35 5 rfl ?_
      refine j_iald (pc := 37) C 4 rfl (v := (d.2 19) (nI i).toNatClampNeg) (vp_in_nI (by omega) (by decide)) rfl d_Rules_amount_37 ?_
      refine j_iload_n (pc := 38) C d_Rules_amount_38 rfl 2 rfl ?_
      refine j_iload_n (pc := 39) C d_Rules_amount_39 rfl 3 rfl ?_
      refine j_iload (pc := 40) C d_Rules_amount_40 4 rfl ?_
      refine j_callVi (pc := 42) C (c_value l D y ad d ((d.2 18) (nI i).toNatClampNeg) ((d.2 19) (nI i).toNatClampNeg) v2 v3 v4 f) kw_Rules_37 kv_Rules_value 0 6 rfl rfl ⟨by decide, by decide⟩ ⟨by decide, by decide⟩ (wr := [(ad 20, .inl (y 0, 8, .inl (d.2 16))), (ad 21, .inl (y 0, 8, .inl (d.2 17))), (ad 22, .inl (y 0, 8, .inl (d.2 18))), (ad 23, .inl (y 0, 8, .inl (d.2 19)))]) [0, 5, 6] [1, 2, 3, 4] rfl rfl (by decide +kernel) (by decide +kernel) (by decide +kernel) (As := [.int ((d.2 18) (nI i).toNatClampNeg), .int ((d.2 19) (nI i).toNatClampNeg), .int v2, .int v3, .int v4]) (rest := []) rfl (nb rfl) rfl d_Rules_amount_42 (fun r2 u3 hr2 => ?_)
      refine j_ws (ws' := [(ad 20, .inl (y 0, 8, .inl (d.2 16))), (ad 21, .inl (y 0, 8, .inl (d.2 17))), (ad 22, .inl (y 0, 8, .inl (d.2 18))), (ad 23, .inl (y 0, 8, .inl (d.2 19))), (ad 3, .inr (6, [.int (d.1 11), .int (d.1 12), .ref (ad 20), .ref (ad 21), .ref (ad 22), .ref (ad 23), .ref (ad 24), .ref (ad 25)])), (ad 24, .inl (y 0, 1600, .inl (d.2 20))), (ad 25, .inl (y 0, 40, .inl u3))]) rfl ?_
      refine j_if_eq (pc := 45) C (tgt := 85) d_Rules_amount_45 (by decide) (fun c4 => ?_) (fun c4 => ?_)
      · refine j_iinc (pc := 85) C (v := nI (i + 1)) (lv' := [(5, .int (nI (i + 1))), (0, .ref (ad 3)), (1, .int v1), (2, .int v2), (3, .int v3), (4, .int v4)]) d_Rules_amount_85 5 rfl (nI_1 _) (by decide) rfl ?_
        refine j_goto (pc := 88) C (tgt := 3) d_Rules_amount_88 (by decide) ?_
        refine j_sub (ws' := [(ad 3, .inr (6, [.int (d.1 11), .int (d.1 12), .ref (ad 20), .ref (ad 21), .ref (ad 22), .ref (ad 23), .ref (ad 24), .ref (ad 25)])), (ad 20, .inl (y 0, 8, .inl (d.2 16))), (ad 21, .inl (y 0, 8, .inl (d.2 17))), (ad 22, .inl (y 0, 8, .inl (d.2 18))), (ad 23, .inl (y 0, 8, .inl (d.2 19))), (ad 24, .inl (y 0, 1600, .inl (d.2 20))), (ad 25, .inl (y 0, 40, .inl u3))]) [4, 0, 1, 2, 3, 5, 6] rfl (by decide +kernel) ?_
        refine j_locs (lv' := [(0, .ref (ad 3)), (1, .int v1), (2, .int v2), (3, .int v3), (4, .int v4), (5, .int (nI (i + 1)))]) [1, 2, 3, 4, 5, 0] rfl ?_
        exact ih (i + 1) _ (by omega)
      · refine j_sub (ws' := [(ad 3, .inr (6, [.int (d.1 11), .int (d.1 12), .ref (ad 20), .ref (ad 21), .ref (ad 22), .ref (ad 23), .ref (ad 24), .ref (ad 25)])), (ad 20, .inl (y 0, 8, .inl (d.2 16))), (ad 21, .inl (y 0, 8, .inl (d.2 17))), (ad 22, .inl (y 0, 8, .inl (d.2 18))), (ad 23, .inl (y 0, 8, .inl (d.2 19))), (ad 24, .inl (y 0, 1600, .inl (d.2 20))), (ad 25, .inl (y 0, 40, .inl u3))]) [4, 0, 1, 2, 3, 5, 6] rfl (by decide +kernel) ?_
        exact kr i _ (by omega)
set_option maxHeartbeats 4000000 in
set_option maxRecDepth 100000 in
theorem c_amount (l : Launch) (D : va_G) (y : Nat → ClassId) (ad : Nat → Nat) (d : LD) (n11 : Nat) (v1 : Int32) (v2 : Int32) (v3 : Int32) (v4 : Int32) (g : Nat → Int32) (h11 : d.1 11 = nI n11) (b11 : n11 ≤ 8) : CT l D y ⟨"NineBoards$Rules", "amount", "(IIII)I"⟩ prog_9_method_3_code 7 (some .int) ({ frames := 3, cells := 0, slots := 0, locals := 72 } : Room) [.ref (ad 3), .int v1, .int v2, .int v3, .int v4] [(ad 3, .inr (6, [.int (d.1 11), .int (d.1 12), .ref (ad 20), .ref (ad 21), .ref (ad 22), .ref (ad 23), .ref (ad 24), .ref (ad 25)])), (ad 20, .inl (y 0, 8, .inl (d.2 16))), (ad 21, .inl (y 0, 8, .inl (d.2 17))), (ad 22, .inl (y 0, 8, .inl (d.2 18))), (ad 23, .inl (y 0, 8, .inl (d.2 19))), (ad 24, .inl (y 0, 1600, .inl (d.2 20))), (ad 25, .inl (y 0, 40, .inl g))] (QI D [(ad 3, .inr (6, [.int (d.1 11), .int (d.1 12), .ref (ad 20), .ref (ad 21), .ref (ad 22), .ref (ad 23), .ref (ad 24), .ref (ad 25)])), (ad 20, .inl (y 0, 8, .inl (d.2 16))), (ad 21, .inl (y 0, 8, .inl (d.2 17))), (ad 22, .inl (y 0, 8, .inl (d.2 18))), (ad 23, .inl (y 0, 8, .inl (d.2 19))), (ad 24, .inl (y 0, 1600, .inl (d.2 20))), (ad 25, .inl (y 0, 40, .inl g))] (fun (r : Int32) (u : Nat → Int32) => True) (fun u => [(ad 3, .inr (6, [.int (d.1 11), .int (d.1 12), .ref (ad 20), .ref (ad 21), .ref (ad 22), .ref (ad 23), .ref (ad 24), .ref (ad 25)])), (ad 20, .inl (y 0, 8, .inl (d.2 16))), (ad 21, .inl (y 0, 8, .inl (d.2 17))), (ad 22, .inl (y 0, 8, .inl (d.2 18))), (ad 23, .inl (y 0, 8, .inl (d.2 19))), (ad 24, .inl (y 0, 1600, .inl (d.2 20))), (ad 25, .inl (y 0, 40, .inl u))])) := by
  refine CT.of (by decide) (nb rfl) ?_
  intro p e s m args below meth c C hr
  refine j_lv (lv' := [(0, .ref (ad 3)), (1, .int v1), (2, .int v2), (3, .int v3), (4, .int v4)]) rfl ?_
  refine j_iconst (pc := 0) C (v := 0) d_Rules_amount_0 (by decide) ?_
  refine j_istore (pc := 1) C (lv' := [(5, .int 0), (0, .ref (ad 3)), (1, .int v1), (2, .int v2), (3, .int v3), (4, .int v4)]) d_Rules_amount_1 (by decide) rfl ?_
  refine j_locs (lv' := [(0, .ref (ad 3)), (1, .int v1), (2, .int v2), (3, .int v3), (4, .int v4), (5, .int 0)]) [1, 2, 3, 4, 5, 0] rfl ?_
  refine j_lv (lv' := [(0, .ref (ad 3)), (1, .int v1), (2, .int v2), (3, .int v3), (4, .int v4), (5, .int (nI 0))]) rfl ?_
  refine lp_amount C ad d n11 v1 v2 v3 v4 h11 b11 (fun f => ?_) (fun i f hx => ?_) n11 0 _ (by omega)
  · refine j_iconst (pc := 91) C (v := 0) d_Rules_amount_91 (by decide) ?_
    exact j_iret (pc := 92) C hr rfl f trivial [0, 1, 2, 3, 4, 5, 6] rfl (by decide) (by decide) (by decide) d_Rules_amount_92
  · refine j_aload_n (pc := 48) C d_Rules_amount_48 rfl 0 rfl ?_
    refine j_aload_n (pc := 49) C d_Rules_amount_49 rfl 0 rfl ?_
    refine j_get (pc := 50) C gf_Rules_15 0 rfl rfl d_Rules_amount_50 ?_
    refine j_iload (pc := 53) C d_Rules_amount_53 5 rfl ?_
    refine j_iald (pc := 55) C 2 rfl (v := (d.2 17) (nI i).toNatClampNeg) (vp_in_nI (by omega) (by decide)) rfl d_Rules_amount_55 ?_
    refine j_aload_n (pc := 56) C d_Rules_amount_56 rfl 0 rfl ?_
    refine j_get (pc := 57) C gf_Rules_18 0 rfl rfl d_Rules_amount_57 ?_
    refine j_iload (pc := 60) C d_Rules_amount_60 5 rfl ?_
    refine j_iald (pc := 62) C 3 rfl (v := (d.2 18) (nI i).toNatClampNeg) (vp_in_nI (by omega) (by decide)) rfl d_Rules_amount_62 ?_
    refine j_iload_n (pc := 63) C d_Rules_amount_63 rfl 2 rfl ?_
    refine j_iload_n (pc := 64) C d_Rules_amount_64 rfl 3 rfl ?_
    refine j_iload (pc := 65) C d_Rules_amount_65 4 rfl ?_
    refine j_callVi (pc := 67) C (c_value l D y ad d ((d.2 17) (nI i).toNatClampNeg) ((d.2 18) (nI i).toNatClampNeg) v2 v3 v4 f) kw_Rules_37 kv_Rules_value 0 6 rfl rfl ⟨by decide, by decide⟩ ⟨by decide, by decide⟩ (wr := [(ad 20, .inl (y 0, 8, .inl (d.2 16))), (ad 21, .inl (y 0, 8, .inl (d.2 17))), (ad 22, .inl (y 0, 8, .inl (d.2 18))), (ad 23, .inl (y 0, 8, .inl (d.2 19)))]) [0, 5, 6] [1, 2, 3, 4] rfl rfl (by decide +kernel) (by decide +kernel) (by decide +kernel) (As := [.int ((d.2 17) (nI i).toNatClampNeg), .int ((d.2 18) (nI i).toNatClampNeg), .int v2, .int v3, .int v4]) (rest := []) rfl (nb rfl) rfl d_Rules_amount_67 (fun r1 u2 hr1 => ?_)
    refine j_ws (ws' := [(ad 20, .inl (y 0, 8, .inl (d.2 16))), (ad 21, .inl (y 0, 8, .inl (d.2 17))), (ad 22, .inl (y 0, 8, .inl (d.2 18))), (ad 23, .inl (y 0, 8, .inl (d.2 19))), (ad 3, .inr (6, [.int (d.1 11), .int (d.1 12), .ref (ad 20), .ref (ad 21), .ref (ad 22), .ref (ad 23), .ref (ad 24), .ref (ad 25)])), (ad 24, .inl (y 0, 1600, .inl (d.2 20))), (ad 25, .inl (y 0, 40, .inl u2))]) rfl ?_
    refine j_istore (pc := 70) C (lv' := [(6, .int r1), (0, .ref (ad 3)), (1, .int v1), (2, .int v2), (3, .int v3), (4, .int v4), (5, .int (nI i))]) d_Rules_amount_70 (by decide) rfl ?_
    refine j_iconst (pc := 72) C (v := 0) d_Rules_amount_72 (by decide) ?_
    refine j_sipush (pc := 73) C (v := 9999) d_Rules_amount_73 (by decide) ?_
    refine j_iload (pc := 76) C d_Rules_amount_76 0 rfl ?_
    refine j_mmin (pc := 78) C (mt_4 (List.mem_of_getElem? (i := 101) rfl) rfl) (mt_3 (List.mem_of_getElem? (i := 56) rfl) rfl) (mt_1 (List.mem_of_getElem? (i := 3) rfl) rfl) (mt_3 (List.mem_of_getElem? (i := 57) rfl) rfl) (v := if r1 < 9999 then r1 else 9999) rfl (by decide) (nb rfl) (by decide) (by decide) d_Rules_amount_78 ?_
    refine j_mmax (pc := 81) C (mt_4 (List.mem_of_getElem? (i := 89) rfl) rfl) (mt_1 (List.mem_of_getElem? (i := 34) rfl) rfl) (mt_1 (List.mem_of_getElem? (i := 3) rfl) rfl) (mt_1 (List.mem_of_getElem? (i := 35) rfl) rfl) (v := if 0 < if r1 < 9999 then r1 else 9999 then if r1 < 9999 then r1 else 9999 else 0) rfl (by decide) (nb rfl) (by decide) (by decide) d_Rules_amount_81 ?_
    exact j_iret (pc := 84) C hr rfl u2 trivial [4, 0, 1, 2, 3, 5, 6] rfl (by decide) (by decide) (by decide) d_Rules_amount_84
