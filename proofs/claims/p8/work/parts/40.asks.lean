theorem d_Model_undo_0 : decode prog_13_method_83_code 0 = .ok (.aload_n 0, 1) := by decide +kernel
theorem d_Model_undo_1 : decode prog_13_method_83_code 1 = .ok (.getfield 415, 3) := by decide +kernel
theorem d_Model_undo_4 : decode prog_13_method_83_code 4 = .ok (.ifCond .ne 5, 3) := by decide +kernel
theorem d_Model_undo_9 : decode prog_13_method_83_code 9 = .ok (.iconst 0, 1) := by decide +kernel
theorem d_Model_undo_10 : decode prog_13_method_83_code 10 = .ok (.istore_n 1, 1) := by decide +kernel
theorem d_Model_undo_11 : decode prog_13_method_83_code 11 = .ok (.iload_n 1, 1) := by decide +kernel
theorem d_Model_undo_12 : decode prog_13_method_83_code 12 = .ok (.bipush 63, 2) := by decide +kernel
theorem d_Model_undo_14 : decode prog_13_method_83_code 14 = .ok (.if_icmp .ge 29, 3) := by decide +kernel
theorem d_Model_undo_43 : decode prog_13_method_83_code 43 = .ok (.aload_n 0, 1) := by decide +kernel
theorem d_Model_undo_44 : decode prog_13_method_83_code 44 = .ok (.aload_n 0, 1) := by decide +kernel
theorem d_Model_undo_45 : decode prog_13_method_83_code 45 = .ok (.getfield 460, 3) := by decide +kernel
theorem d_Model_undo_48 : decode prog_13_method_83_code 48 = .ok (.bipush 30, 2) := by decide +kernel
theorem d_Model_undo_50 : decode prog_13_method_83_code 50 = .ok (.iadd, 1) := by decide +kernel
theorem d_Model_undo_51 : decode prog_13_method_83_code 51 = .ok (.iconst 1, 1) := by decide +kernel
theorem d_Model_undo_52 : decode prog_13_method_83_code 52 = .ok (.isub, 1) := by decide +kernel
theorem d_Model_undo_53 : decode prog_13_method_83_code 53 = .ok (.bipush 30, 2) := by decide +kernel
theorem d_Model_undo_55 : decode prog_13_method_83_code 55 = .ok (.irem, 1) := by decide +kernel
theorem d_Model_undo_56 : decode prog_13_method_83_code 56 = .ok (.putfield 460, 3) := by decide +kernel
theorem d_Model_undo_59 : decode prog_13_method_83_code 59 = .ok (.aload_n 0, 1) := by decide +kernel
theorem d_Model_undo_60 : decode prog_13_method_83_code 60 = .ok (.dup, 1) := by decide +kernel
theorem d_Model_undo_61 : decode prog_13_method_83_code 61 = .ok (.getfield 415, 3) := by decide +kernel
theorem d_Model_undo_64 : decode prog_13_method_83_code 64 = .ok (.iconst 1, 1) := by decide +kernel
theorem d_Model_undo_65 : decode prog_13_method_83_code 65 = .ok (.isub, 1) := by decide +kernel
theorem d_Model_undo_66 : decode prog_13_method_83_code 66 = .ok (.putfield 415, 3) := by decide +kernel
theorem d_Model_undo_69 : decode prog_13_method_83_code 69 = .ok (.iconst 1, 1) := by decide +kernel
theorem d_Model_undo_70 : decode prog_13_method_83_code 70 = .ok (.ireturn, 1) := by decide +kernel
theorem d_Model_undo_17 : decode prog_13_method_83_code 17 = .ok (.aload_n 0, 1) := by decide +kernel
theorem d_Model_undo_18 : decode prog_13_method_83_code 18 = .ok (.getfield 158, 3) := by decide +kernel
theorem d_Model_undo_21 : decode prog_13_method_83_code 21 = .ok (.iload_n 1, 1) := by decide +kernel
theorem d_Model_undo_22 : decode prog_13_method_83_code 22 = .ok (.aload_n 0, 1) := by decide +kernel
theorem d_Model_undo_23 : decode prog_13_method_83_code 23 = .ok (.getfield 164, 3) := by decide +kernel
theorem d_Model_undo_26 : decode prog_13_method_83_code 26 = .ok (.bipush 63, 2) := by decide +kernel
theorem d_Model_undo_28 : decode prog_13_method_83_code 28 = .ok (.aload_n 0, 1) := by decide +kernel
theorem d_Model_undo_29 : decode prog_13_method_83_code 29 = .ok (.getfield 460, 3) := by decide +kernel
theorem d_Model_undo_32 : decode prog_13_method_83_code 32 = .ok (.imul, 1) := by decide +kernel
theorem d_Model_undo_33 : decode prog_13_method_83_code 33 = .ok (.iload_n 1, 1) := by decide +kernel
theorem d_Model_undo_34 : decode prog_13_method_83_code 34 = .ok (.iadd, 1) := by decide +kernel
theorem d_Model_undo_35 : decode prog_13_method_83_code 35 = .ok (.iaload, 1) := by decide +kernel
theorem d_Model_undo_36 : decode prog_13_method_83_code 36 = .ok (.iastore, 1) := by decide +kernel
theorem d_Model_undo_37 : decode prog_13_method_83_code 37 = .ok (.iinc 1 1, 3) := by decide +kernel
theorem d_Model_undo_40 : decode prog_13_method_83_code 40 = .ok (.goto (-29), 3) := by decide +kernel
theorem d_Model_undo_7 : decode prog_13_method_83_code 7 = .ok (.iconst 0, 1) := by decide +kernel
theorem d_Model_undo_8 : decode prog_13_method_83_code 8 = .ok (.ireturn, 1) := by decide +kernel
theorem d_Model_nothing_0 : decode prog_13_method_53_code 0 = .ok (.iconst 0, 1) := by decide +kernel
theorem d_Model_nothing_1 : decode prog_13_method_53_code 1 = .ok (.istore_n 1, 1) := by decide +kernel
theorem d_Model_nothing_2 : decode prog_13_method_53_code 2 = .ok (.iload_n 1, 1) := by decide +kernel
theorem d_Model_nothing_3 : decode prog_13_method_53_code 3 = .ok (.bipush 63, 2) := by decide +kernel
theorem d_Model_nothing_5 : decode prog_13_method_53_code 5 = .ok (.if_icmp .ge 16, 3) := by decide +kernel
theorem d_Model_nothing_21 : decode prog_13_method_53_code 21 = .ok (.aload_n 0, 1) := by decide +kernel
theorem d_Model_nothing_22 : decode prog_13_method_53_code 22 = .ok (.iconst 0, 1) := by decide +kernel
theorem d_Model_nothing_23 : decode prog_13_method_53_code 23 = .ok (.putfield 415, 3) := by decide +kernel
theorem d_Model_nothing_26 : decode prog_13_method_53_code 26 = .ok (.return_, 1) := by decide +kernel
theorem d_Model_nothing_8 : decode prog_13_method_53_code 8 = .ok (.aload_n 0, 1) := by decide +kernel
theorem d_Model_nothing_9 : decode prog_13_method_53_code 9 = .ok (.getfield 158, 3) := by decide +kernel
theorem d_Model_nothing_12 : decode prog_13_method_53_code 12 = .ok (.iload_n 1, 1) := by decide +kernel
theorem d_Model_nothing_13 : decode prog_13_method_53_code 13 = .ok (.iconst 0, 1) := by decide +kernel
theorem d_Model_nothing_14 : decode prog_13_method_53_code 14 = .ok (.iastore, 1) := by decide +kernel
theorem d_Model_nothing_15 : decode prog_13_method_53_code 15 = .ok (.iinc 1 1, 3) := by decide +kernel
theorem d_Model_nothing_18 : decode prog_13_method_53_code 18 = .ok (.goto (-16), 3) := by decide +kernel
theorem d_Model_has_0 : decode prog_13_method_72_code 0 = .ok (.iload_n 1, 1) := by decide +kernel
theorem d_Model_has_1 : decode prog_13_method_72_code 1 = .ok (.tableswitch 108 0 8 #[51, 56, 61, 69, 77, 84, 91, 96, 103], 51) := by decide +kernel
theorem d_Model_has_52 : decode prog_13_method_72_code 52 = .ok (.aload_n 0, 1) := by decide +kernel
theorem d_Model_has_53 : decode prog_13_method_72_code 53 = .ok (.invokevirtual 341, 3) := by decide +kernel
theorem d_Model_has_56 : decode prog_13_method_72_code 56 = .ok (.ireturn, 1) := by decide +kernel
theorem d_Model_has_57 : decode prog_13_method_72_code 57 = .ok (.aload_n 0, 1) := by decide +kernel
theorem d_Model_has_58 : decode prog_13_method_72_code 58 = .ok (.invokevirtual 448, 3) := by decide +kernel
theorem d_Model_has_61 : decode prog_13_method_72_code 61 = .ok (.ireturn, 1) := by decide +kernel
theorem d_Model_has_62 : decode prog_13_method_72_code 62 = .ok (.aload_n 0, 1) := by decide +kernel
theorem d_Model_has_63 : decode prog_13_method_72_code 63 = .ok (.getfield 117, 3) := by decide +kernel
theorem d_Model_has_66 : decode prog_13_method_72_code 66 = .ok (.bipush 6, 2) := by decide +kernel
theorem d_Model_has_68 : decode prog_13_method_72_code 68 = .ok (.iaload, 1) := by decide +kernel
theorem d_Model_has_69 : decode prog_13_method_72_code 69 = .ok (.ireturn, 1) := by decide +kernel
theorem d_Model_has_70 : decode prog_13_method_72_code 70 = .ok (.aload_n 0, 1) := by decide +kernel
theorem d_Model_has_71 : decode prog_13_method_72_code 71 = .ok (.getfield 117, 3) := by decide +kernel
theorem d_Model_has_74 : decode prog_13_method_72_code 74 = .ok (.bipush 7, 2) := by decide +kernel
theorem d_Model_has_76 : decode prog_13_method_72_code 76 = .ok (.iaload, 1) := by decide +kernel
theorem d_Model_has_77 : decode prog_13_method_72_code 77 = .ok (.ireturn, 1) := by decide +kernel
theorem d_Model_has_78 : decode prog_13_method_72_code 78 = .ok (.aload_n 0, 1) := by decide +kernel
theorem d_Model_has_79 : decode prog_13_method_72_code 79 = .ok (.getfield 158, 3) := by decide +kernel
theorem d_Model_has_82 : decode prog_13_method_72_code 82 = .ok (.iconst 0, 1) := by decide +kernel
theorem d_Model_has_83 : decode prog_13_method_72_code 83 = .ok (.iaload, 1) := by decide +kernel
theorem d_Model_has_84 : decode prog_13_method_72_code 84 = .ok (.ireturn, 1) := by decide +kernel
theorem d_Model_has_85 : decode prog_13_method_72_code 85 = .ok (.aload_n 0, 1) := by decide +kernel
theorem d_Model_has_86 : decode prog_13_method_72_code 86 = .ok (.getfield 158, 3) := by decide +kernel
theorem d_Model_has_89 : decode prog_13_method_72_code 89 = .ok (.iconst 1, 1) := by decide +kernel
theorem d_Model_has_90 : decode prog_13_method_72_code 90 = .ok (.iaload, 1) := by decide +kernel
theorem d_Model_has_91 : decode prog_13_method_72_code 91 = .ok (.ireturn, 1) := by decide +kernel
theorem d_Model_has_92 : decode prog_13_method_72_code 92 = .ok (.aload_n 0, 1) := by decide +kernel
theorem d_Model_has_93 : decode prog_13_method_72_code 93 = .ok (.invokevirtual 427, 3) := by decide +kernel
theorem d_Model_has_96 : decode prog_13_method_72_code 96 = .ok (.ireturn, 1) := by decide +kernel
theorem d_Model_has_97 : decode prog_13_method_72_code 97 = .ok (.aload_n 0, 1) := by decide +kernel
theorem d_Model_has_98 : decode prog_13_method_72_code 98 = .ok (.getfield 158, 3) := by decide +kernel
theorem d_Model_has_101 : decode prog_13_method_72_code 101 = .ok (.iconst 2, 1) := by decide +kernel
theorem d_Model_has_102 : decode prog_13_method_72_code 102 = .ok (.iaload, 1) := by decide +kernel
theorem d_Model_has_103 : decode prog_13_method_72_code 103 = .ok (.ireturn, 1) := by decide +kernel
theorem d_Model_has_104 : decode prog_13_method_72_code 104 = .ok (.aload_n 0, 1) := by decide +kernel
theorem d_Model_has_105 : decode prog_13_method_72_code 105 = .ok (.getfield 415, 3) := by decide +kernel
theorem d_Model_has_108 : decode prog_13_method_72_code 108 = .ok (.ireturn, 1) := by decide +kernel
theorem d_Model_has_109 : decode prog_13_method_72_code 109 = .ok (.iconst (-1), 1) := by decide +kernel
theorem d_Model_has_110 : decode prog_13_method_72_code 110 = .ok (.ireturn, 1) := by decide +kernel
set_option maxHeartbeats 4000000 in
set_option maxRecDepth 100000 in
theorem c_M_has (l : Launch) (D : va_G) (y : Nat → ClassId) (mo : Nat) (ma : Nat → Nat) (t1 : Nat) (i2 : Int32) (i3 : Int32) (i4 : Int32) (i5 : Int32) (i6 : Int32) (i7 : Int32) (i8 : Int32) (i42 : Int32) (i49 : Int32) (i51 : Int32) (i53 : Int32) (i54 : Int32) (i59 : Int32) (i61 : Int32) (i64 : Int32) (i66 : Int32) (t67 : Nat) (i76 : Int64) (i78 : Int32) (g43 : Nat → Int32) (g45 : Nat → Int32) (g62 : Nat → Int32) (v : Int32) (c0 : Nat) (c1 : Nat) (c2 : Nat) (c3 : Nat) (hc0 : g43 4 = nI c0) (bc0 : c0 ≤ 9) (hc1 : g43 5 = nI c1) (bc1 : c1 ≤ 6) (hc2 : g43 6 = nI c2) (bc2 : c2 ≤ 16) (hc3 : g43 7 = nI c3) (bc3 : c3 ≤ 8) (hL : ¬ g45 7 = 0) : CT l D y ⟨"NineBoardsModel", "has", "(I)I"⟩ prog_13_method_72_code 2 (some .int) ({ frames := 1, cells := 0, slots := 0, locals := 20 } : Room) [.ref mo, .int v] [MB mo ma (nI t1) i2 i3 i4 i5 i6 i7 i8 i42 i49 i51 i53 i54 i59 i61 i64 i66 (nI t67) i76 i78, (ma 43, .inl (y 0, 8, .inl g43)), (ma 45, .inl (y 0, 14, .inl g45)), (ma 62, .inl (y 0, 63, .inl g62))] (QI D [MB mo ma (nI t1) i2 i3 i4 i5 i6 i7 i8 i42 i49 i51 i53 i54 i59 i61 i64 i66 (nI t67) i76 i78, (ma 43, .inl (y 0, 8, .inl g43)), (ma 45, .inl (y 0, 14, .inl g45)), (ma 62, .inl (y 0, 63, .inl g62))] (fun (r : Int32) (u : Unit) => True) (fun _ => [MB mo ma (nI t1) i2 i3 i4 i5 i6 i7 i8 i42 i49 i51 i53 i54 i59 i61 i64 i66 (nI t67) i76 i78, (ma 43, .inl (y 0, 8, .inl g43)), (ma 45, .inl (y 0, 14, .inl g45)), (ma 62, .inl (y 0, 63, .inl g62))])) := by
  refine CT.of (by decide) (nb rfl) ?_
  intro p e s m args below meth c C hr
  refine j_lv (lv' := [(0, .ref mo), (1, .int v)]) rfl ?_
  refine j_iload_n (pc := 0) C d_Model_has_0 rfl 1 rfl ?_
  by_cases c4_0 : v = 0
  · refine j_tabIn (pc := 1) C (off := 51) (tgt := 52) d_Model_has_1 (by rw [c4_0]; decide) (by rw [c4_0]; decide) (by rw [c4_0]; decide) (by decide) ?_
    refine j_aload_n (pc := 52) C d_Model_has_52 rfl 0 rfl ?_
    refine j_callVi (pc := 53) C (c_M_gateMany l D y mo ma t1 i2 i3 i4 i5 i6 i7 i8 i42 i49 i51 i53 i54 i59 i61 i64 i66 t67 i76 i78 g43 c0 hc0 bc0) kw_Model_341 kv_Model_gateMany 0 10 rfl rfl ⟨by decide, by decide⟩ ⟨by decide, by decide⟩ (wr := [(ma 45, .inl (y 0, 14, .inl g45)), (ma 62, .inl (y 0, 63, .inl g62))]) [0, 1] [2, 3] rfl rfl (by decide) (by decide) (by decide) (As := []) (rest := []) rfl (nb rfl) rfl d_Model_has_53 (fun r5 _ hr5 => ?_)
    obtain rfl := hr5
    refine j_ws (ws' := [(ma 45, .inl (y 0, 14, .inl g45)), (ma 62, .inl (y 0, 63, .inl g62)), MB mo ma (nI t1) i2 i3 i4 i5 i6 i7 i8 i42 i49 i51 i53 i54 i59 i61 i64 i66 (nI t67) i76 i78, (ma 43, .inl (y 0, 8, .inl g43))]) rfl ?_
    exact j_iret (pc := 56) C hr rfl () trivial [2, 3, 0, 1] rfl (by decide) (by decide) (by decide) d_Model_has_56
  · by_cases c4_1 : v = 1
    · refine j_tabIn (pc := 1) C (off := 56) (tgt := 57) d_Model_has_1 (by rw [c4_1]; decide) (by rw [c4_1]; decide) (by rw [c4_1]; decide) (by decide) ?_
      refine j_aload_n (pc := 57) C d_Model_has_57 rfl 0 rfl ?_
      refine j_callVi (pc := 58) C (c_M_villages l D y mo ma t1 i2 i3 i4 i5 i6 i7 i8 i42 i49 i51 i53 i54 i59 i61 i64 i66 t67 i76 i78 g43 c1 hc1 bc1) kw_Model_448 kv_Model_villages 0 10 rfl rfl ⟨by decide, by decide⟩ ⟨by decide, by decide⟩ (wr := [(ma 45, .inl (y 0, 14, .inl g45)), (ma 62, .inl (y 0, 63, .inl g62))]) [0, 1] [2, 3] rfl rfl (by decide) (by decide) (by decide) (As := []) (rest := []) rfl (nb rfl) rfl d_Model_has_58 (fun r6 _ hr6 => ?_)
      obtain rfl := hr6
      refine j_ws (ws' := [(ma 45, .inl (y 0, 14, .inl g45)), (ma 62, .inl (y 0, 63, .inl g62)), MB mo ma (nI t1) i2 i3 i4 i5 i6 i7 i8 i42 i49 i51 i53 i54 i59 i61 i64 i66 (nI t67) i76 i78, (ma 43, .inl (y 0, 8, .inl g43))]) rfl ?_
      exact j_iret (pc := 61) C hr rfl () trivial [2, 3, 0, 1] rfl (by decide) (by decide) (by decide) d_Model_has_61
    · by_cases c4_2 : v = 2
      · refine j_tabIn (pc := 1) C (off := 61) (tgt := 62) d_Model_has_1 (by rw [c4_2]; decide) (by rw [c4_2]; decide) (by rw [c4_2]; decide) (by decide) ?_
        refine j_aload_n (pc := 62) C d_Model_has_62 rfl 0 rfl ?_
        refine j_get (pc := 63) C gf_Model_117 0 rfl rfl d_Model_has_63 ?_
        refine j_bipush (pc := 66) C (v := 6) d_Model_has_66 (by decide) ?_
        refine j_iald (pc := 68) C 1 rfl (v := nI c2) (vin (by decide)) (by exact hc2) d_Model_has_68 ?_
        exact j_iret (pc := 69) C hr rfl () trivial [0, 1, 2, 3] rfl (by decide) (by decide) (by decide) d_Model_has_69
      · by_cases c4_3 : v = 3
        · refine j_tabIn (pc := 1) C (off := 69) (tgt := 70) d_Model_has_1 (by rw [c4_3]; decide) (by rw [c4_3]; decide) (by rw [c4_3]; decide) (by decide) ?_
          refine j_aload_n (pc := 70) C d_Model_has_70 rfl 0 rfl ?_
          refine j_get (pc := 71) C gf_Model_117 0 rfl rfl d_Model_has_71 ?_
          refine j_bipush (pc := 74) C (v := 7) d_Model_has_74 (by decide) ?_
          refine j_iald (pc := 76) C 1 rfl (v := nI c3) (vin (by decide)) (by exact hc3) d_Model_has_76 ?_
          exact j_iret (pc := 77) C hr rfl () trivial [0, 1, 2, 3] rfl (by decide) (by decide) (by decide) d_Model_has_77
        · by_cases c4_4 : v = 4
          · refine j_tabIn (pc := 1) C (off := 77) (tgt := 78) d_Model_has_1 (by rw [c4_4]; decide) (by rw [c4_4]; decide) (by rw [c4_4]; decide) (by decide) ?_
            refine j_aload_n (pc := 78) C d_Model_has_78 rfl 0 rfl ?_
            refine j_get (pc := 79) C gf_Model_158 0 rfl rfl d_Model_has_79 ?_
            refine j_iconst (pc := 82) C (v := 0) d_Model_has_82 (by decide) ?_
            refine j_iald (pc := 83) C 3 rfl (v := g62 0) (vin (by decide)) rfl d_Model_has_83 ?_
            exact j_iret (pc := 84) C hr rfl () trivial [0, 1, 2, 3] rfl (by decide) (by decide) (by decide) d_Model_has_84
          · by_cases c4_5 : v = 5
            · refine j_tabIn (pc := 1) C (off := 84) (tgt := 85) d_Model_has_1 (by rw [c4_5]; decide) (by rw [c4_5]; decide) (by rw [c4_5]; decide) (by decide) ?_
              refine j_aload_n (pc := 85) C d_Model_has_85 rfl 0 rfl ?_
              refine j_get (pc := 86) C gf_Model_158 0 rfl rfl d_Model_has_86 ?_
              refine j_iconst (pc := 89) C (v := 1) d_Model_has_89 (by decide) ?_
              refine j_iald (pc := 90) C 3 rfl (v := g62 1) (vin (by decide)) rfl d_Model_has_90 ?_
              exact j_iret (pc := 91) C hr rfl () trivial [0, 1, 2, 3] rfl (by decide) (by decide) (by decide) d_Model_has_91
            · by_cases c4_6 : v = 6
              · refine j_tabIn (pc := 1) C (off := 91) (tgt := 92) d_Model_has_1 (by rw [c4_6]; decide) (by rw [c4_6]; decide) (by rw [c4_6]; decide) (by decide) ?_
                refine j_aload_n (pc := 92) C d_Model_has_92 rfl 0 rfl ?_
                refine j_callVi (pc := 93) C (c_M_level l D y mo ma t1 i2 i3 i4 i5 i6 i7 i8 i42 i49 i51 i53 i54 i59 i61 i64 i66 t67 i76 i78 g45 g62 hL) kw_Model_427 kv_Model_level 0 10 rfl rfl ⟨by decide, by decide⟩ ⟨by decide, by decide⟩ (wr := [(ma 43, .inl (y 0, 8, .inl g43))]) [0, 2, 3] [1] rfl rfl (by decide) (by decide) (by decide) (As := []) (rest := []) rfl (nb rfl) rfl d_Model_has_93 (fun r7 _ hr7 => ?_)
                refine j_ws (ws' := [(ma 43, .inl (y 0, 8, .inl g43)), MB mo ma (nI t1) i2 i3 i4 i5 i6 i7 i8 i42 i49 i51 i53 i54 i59 i61 i64 i66 (nI t67) i76 i78, (ma 45, .inl (y 0, 14, .inl g45)), (ma 62, .inl (y 0, 63, .inl g62))]) rfl ?_
                exact j_iret (pc := 96) C hr rfl () trivial [1, 0, 2, 3] rfl (by decide) (by decide) (by decide) d_Model_has_96
              · by_cases c4_7 : v = 7
                · refine j_tabIn (pc := 1) C (off := 96) (tgt := 97) d_Model_has_1 (by rw [c4_7]; decide) (by rw [c4_7]; decide) (by rw [c4_7]; decide) (by decide) ?_
                  refine j_aload_n (pc := 97) C d_Model_has_97 rfl 0 rfl ?_
                  refine j_get (pc := 98) C gf_Model_158 0 rfl rfl d_Model_has_98 ?_
                  refine j_iconst (pc := 101) C (v := 2) d_Model_has_101 (by decide) ?_
                  refine j_iald (pc := 102) C 3 rfl (v := g62 2) (vin (by decide)) rfl d_Model_has_102 ?_
                  exact j_iret (pc := 103) C hr rfl () trivial [0, 1, 2, 3] rfl (by decide) (by decide) (by decide) d_Model_has_103
                · by_cases c4_8 : v = 8
                  · refine j_tabIn (pc := 1) C (off := 103) (tgt := 104) d_Model_has_1 (by rw [c4_8]; decide) (by rw [c4_8]; decide) (by rw [c4_8]; decide) (by decide) ?_
                    refine j_aload_n (pc := 104) C d_Model_has_104 rfl 0 rfl ?_
                    refine j_get (pc := 105) C gf_Model_415 0 rfl rfl d_Model_has_105 ?_
                    exact j_iret (pc := 108) C hr rfl () trivial [0, 1, 2, 3] rfl (by decide) (by decide) (by decide) d_Model_has_108
                  · refine j_tabOut (pc := 1) C (tgt := 109) d_Model_has_1 (by exact to_0_8 c4_0 c4_1 c4_2 c4_3 c4_4 c4_5 c4_6 c4_7 c4_8) (by decide) ?_
                    refine j_iconst (pc := 109) C (v := (-1)) d_Model_has_109 (by decide) ?_
                    exact j_iret (pc := 110) C hr rfl () trivial [0, 1, 2, 3] rfl (by decide) (by decide) (by decide) d_Model_has_110
theorem in_01 {v : Int32} (h1 : 0 ≤ v.toInt) (h2 : v.toInt ≤ 1) : ((1 : Int32) = 1 ∧ v = 0) ∨ ((1 : Int32) = 1 ∧ v = 1) := by
  rcases (by omega : v.toInt = 0 ∨ v.toInt = 1) with q | q
  · exact Or.inl ⟨rfl, Int32.toInt_inj.mp (by rw [q]; rfl)⟩
  · exact Or.inr ⟨rfl, Int32.toInt_inj.mp (by rw [q]; rfl)⟩
set_option maxHeartbeats 4000000 in
set_option maxRecDepth 100000 in
theorem c_isIn_01 (l : Launch) (D : va_G) (y : Nat → ClassId) (v : Int32)  : CT l D y ⟨"NineBoardsModel", "isIn", "(JJJ)Z"⟩ prog_13_method_2_code 6 (some .boolean) ({ frames := 0, cells := 0, slots := 0, locals := 0 } : Room) [.long v.toInt64, .long 0, .long 1] [] (QI D [] (fun (r : Int32) (u : Unit) => (r = 0 ∨ (r = 1 ∧ v = 0) ∨ (r = 1 ∧ v = 1))) (fun _ => [])) := by
  refine CT.of (by decide) (nb rfl) ?_
  intro p e s m args below meth c C hr
  refine j_lv (lv' := [(0, .long v.toInt64), (2, .long 0), (4, .long 1)]) rfl ?_
  refine j_lload_n (pc := 0) C d_Model_isIn_0 rfl 0 rfl ?_
  refine j_lload_n (pc := 1) C d_Model_isIn_1 rfl 1 rfl ?_
  refine j_lcmp (pc := 2) C (v := lg_cmp v.toInt64 0) d_Model_isIn_2 rfl ?_
  refine j_if_lt (pc := 3) C (tgt := 17) d_Model_isIn_3 (by decide) (fun c1 => ?_) (fun c1 => ?_)
  · refine j_iconst (pc := 17) C (v := 0) d_Model_isIn_17 (by decide) ?_
    exact j_iret (pc := 18) C hr (by decide) () (by exact Or.inl rfl) [] rfl (by decide) (by decide) (by decide) d_Model_isIn_18
  · refine j_lload_n (pc := 6) C d_Model_isIn_6 rfl 0 rfl ?_
    refine j_lload (pc := 7) C d_Model_isIn_7 2 rfl ?_
    refine j_lcmp (pc := 9) C (v := lg_cmp v.toInt64 1) d_Model_isIn_9 rfl ?_
    refine j_if_gt (pc := 10) C (tgt := 17) d_Model_isIn_10 (by decide) (fun c2 => ?_) (fun c2 => ?_)
    · refine j_iconst (pc := 17) C (v := 0) d_Model_isIn_17 (by decide) ?_
      exact j_iret (pc := 18) C hr (by decide) () (by exact Or.inl rfl) [] rfl (by decide) (by decide) (by decide) d_Model_isIn_18
    · refine j_iconst (pc := 13) C (v := 1) d_Model_isIn_13 (by decide) ?_
      refine j_goto (pc := 14) C (tgt := 18) d_Model_isIn_14 (by decide) ?_
      exact j_iret (pc := 18) C hr (by decide) () (by simp only [lg_cmp_lt, lg_cmp_gt, Int64.lt_iff_toInt_lt, Int32.toInt_toInt64, (by decide : Int64.toInt 0 = 0), (by decide : Int64.toInt 1 = 1)] at c1 c2; exact Or.inr (in_01 (by omega) (by omega))) [] rfl (by decide) (by decide) (by decide) d_Model_isIn_18
theorem d_Model_letter_0 : decode prog_13_method_73_code 0 = .ok (.iload_n 1, 1) := by decide +kernel
theorem d_Model_letter_1 : decode prog_13_method_73_code 1 = .ok (.i2l, 1) := by decide +kernel
theorem d_Model_letter_2 : decode prog_13_method_73_code 2 = .ok (.lconst 0, 1) := by decide +kernel
theorem d_Model_letter_3 : decode prog_13_method_73_code 3 = .ok (.lconst 1, 1) := by decide +kernel
theorem d_Model_letter_4 : decode prog_13_method_73_code 4 = .ok (.invokestatic 240, 3) := by decide +kernel
theorem d_Model_letter_7 : decode prog_13_method_73_code 7 = .ok (.ifCond .eq 35, 3) := by decide +kernel
theorem d_Model_letter_42 : decode prog_13_method_73_code 42 = .ok (.iconst (-1), 1) := by decide +kernel
theorem d_Model_letter_43 : decode prog_13_method_73_code 43 = .ok (.ireturn, 1) := by decide +kernel
theorem d_Model_letter_10 : decode prog_13_method_73_code 10 = .ok (.iload_n 2, 1) := by decide +kernel
theorem d_Model_letter_11 : decode prog_13_method_73_code 11 = .ok (.i2l, 1) := by decide +kernel
theorem d_Model_letter_12 : decode prog_13_method_73_code 12 = .ok (.lconst 0, 1) := by decide +kernel
theorem d_Model_letter_13 : decode prog_13_method_73_code 13 = .ok (.aload_n 0, 1) := by decide +kernel
theorem d_Model_letter_14 : decode prog_13_method_73_code 14 = .ok (.getfield 117, 3) := by decide +kernel
theorem d_Model_letter_17 : decode prog_13_method_73_code 17 = .ok (.iconst 4, 1) := by decide +kernel
theorem d_Model_letter_18 : decode prog_13_method_73_code 18 = .ok (.iload_n 1, 1) := by decide +kernel
theorem d_Model_letter_19 : decode prog_13_method_73_code 19 = .ok (.iadd, 1) := by decide +kernel
theorem d_Model_letter_20 : decode prog_13_method_73_code 20 = .ok (.iaload, 1) := by decide +kernel
theorem d_Model_letter_21 : decode prog_13_method_73_code 21 = .ok (.iconst 1, 1) := by decide +kernel
theorem d_Model_letter_22 : decode prog_13_method_73_code 22 = .ok (.isub, 1) := by decide +kernel
theorem d_Model_letter_23 : decode prog_13_method_73_code 23 = .ok (.i2l, 1) := by decide +kernel
theorem d_Model_letter_24 : decode prog_13_method_73_code 24 = .ok (.invokestatic 240, 3) := by decide +kernel
theorem d_Model_letter_27 : decode prog_13_method_73_code 27 = .ok (.ifCond .eq 15, 3) := by decide +kernel
theorem d_Model_letter_30 : decode prog_13_method_73_code 30 = .ok (.iload_n 3, 1) := by decide +kernel
theorem d_Model_letter_31 : decode prog_13_method_73_code 31 = .ok (.i2l, 1) := by decide +kernel
theorem d_Model_letter_32 : decode prog_13_method_73_code 32 = .ok (.lconst 0, 1) := by decide +kernel
theorem d_Model_letter_33 : decode prog_13_method_73_code 33 = .ok (.ldc2_w 463, 3) := by decide +kernel
theorem d_Model_letter_36 : decode prog_13_method_73_code 36 = .ok (.invokestatic 240, 3) := by decide +kernel
theorem d_Model_letter_39 : decode prog_13_method_73_code 39 = .ok (.ifCond .ne 5, 3) := by decide +kernel
theorem d_Model_letter_44 : decode prog_13_method_73_code 44 = .ok (.aload_n 0, 1) := by decide +kernel
theorem d_Model_letter_45 : decode prog_13_method_73_code 45 = .ok (.getfield 120, 3) := by decide +kernel
theorem gf_Model_120 : GF "NineBoardsModel" 120 10 44 := ⟨_, _, _, rfl, ci_Model, by decide, (mt_5 (List.mem_of_getElem? (i := 132) rfl) rfl)⟩
theorem d_Model_letter_48 : decode prog_13_method_73_code 48 = .ok (.bipush 18, 2) := by decide +kernel
theorem d_Model_letter_50 : decode prog_13_method_73_code 50 = .ok (.bipush 9, 2) := by decide +kernel
theorem d_Model_letter_52 : decode prog_13_method_73_code 52 = .ok (.iload_n 1, 1) := by decide +kernel
theorem d_Model_letter_53 : decode prog_13_method_73_code 53 = .ok (.imul, 1) := by decide +kernel
theorem d_Model_letter_54 : decode prog_13_method_73_code 54 = .ok (.iadd, 1) := by decide +kernel
theorem d_Model_letter_55 : decode prog_13_method_73_code 55 = .ok (.iload_n 2, 1) := by decide +kernel
theorem d_Model_letter_56 : decode prog_13_method_73_code 56 = .ok (.iadd, 1) := by decide +kernel
theorem d_Model_letter_57 : decode prog_13_method_73_code 57 = .ok (.laload, 1) := by decide +kernel
theorem d_Model_letter_58 : decode prog_13_method_73_code 58 = .ok (.lstore 4, 2) := by decide +kernel
theorem d_Model_letter_60 : decode prog_13_method_73_code 60 = .ok (.iconst 0, 1) := by decide +kernel
theorem d_Model_letter_61 : decode prog_13_method_73_code 61 = .ok (.istore 6, 2) := by decide +kernel
theorem d_Model_letter_63 : decode prog_13_method_73_code 63 = .ok (.lload 4, 2) := by decide +kernel
theorem d_Model_letter_65 : decode prog_13_method_73_code 65 = .ok (.lstore 7, 2) := by decide +kernel
theorem d_Model_letter_67 : decode prog_13_method_73_code 67 = .ok (.lload 7, 2) := by decide +kernel
theorem d_Model_letter_69 : decode prog_13_method_73_code 69 = .ok (.lconst 0, 1) := by decide +kernel
theorem d_Model_letter_70 : decode prog_13_method_73_code 70 = .ok (.lcmp, 1) := by decide +kernel
theorem d_Model_letter_71 : decode prog_13_method_73_code 71 = .ok (.ifCond .le 17, 3) := by decide +kernel
theorem d_Model_letter_88 : decode prog_13_method_73_code 88 = .ok (.iload_n 3, 1) := by decide +kernel
theorem d_Model_letter_89 : decode prog_13_method_73_code 89 = .ok (.iload 6, 2) := by decide +kernel
theorem d_Model_letter_91 : decode prog_13_method_73_code 91 = .ok (.if_icmp .lt 5, 3) := by decide +kernel
theorem d_Model_letter_96 : decode prog_13_method_73_code 96 = .ok (.iload 6, 2) := by decide +kernel
theorem d_Model_letter_98 : decode prog_13_method_73_code 98 = .ok (.iconst 1, 1) := by decide +kernel
theorem d_Model_letter_99 : decode prog_13_method_73_code 99 = .ok (.isub, 1) := by decide +kernel
theorem d_Model_letter_100 : decode prog_13_method_73_code 100 = .ok (.istore 7, 2) := by decide +kernel
theorem d_Model_letter_102 : decode prog_13_method_73_code 102 = .ok (.iload 7, 2) := by decide +kernel
theorem d_Model_letter_104 : decode prog_13_method_73_code 104 = .ok (.iload_n 3, 1) := by decide +kernel
theorem d_Model_letter_105 : decode prog_13_method_73_code 105 = .ok (.if_icmp .le 17, 3) := by decide +kernel
theorem d_Model_letter_122 : decode prog_13_method_73_code 122 = .ok (.lload 4, 2) := by decide +kernel
theorem d_Model_letter_124 : decode prog_13_method_73_code 124 = .ok (.ldc2_w 251, 3) := by decide +kernel
theorem d_Model_letter_127 : decode prog_13_method_73_code 127 = .ok (.lrem, 1) := by decide +kernel
theorem d_Model_letter_128 : decode prog_13_method_73_code 128 = .ok (.l2i, 1) := by decide +kernel
theorem d_Model_letter_129 : decode prog_13_method_73_code 129 = .ok (.ireturn, 1) := by decide +kernel
theorem d_Model_letter_108 : decode prog_13_method_73_code 108 = .ok (.lload 4, 2) := by decide +kernel
theorem d_Model_letter_110 : decode prog_13_method_73_code 110 = .ok (.ldc2_w 251, 3) := by decide +kernel
theorem d_Model_letter_113 : decode prog_13_method_73_code 113 = .ok (.ldiv, 1) := by decide +kernel
theorem d_Model_letter_114 : decode prog_13_method_73_code 114 = .ok (.lstore 4, 2) := by decide +kernel
theorem d_Model_letter_116 : decode prog_13_method_73_code 116 = .ok (.iinc 7 (-1), 3) := by decide +kernel
theorem d_Model_letter_119 : decode prog_13_method_73_code 119 = .ok (.goto (-17), 3) := by decide +kernel
theorem d_Model_letter_94 : decode prog_13_method_73_code 94 = .ok (.iconst 0, 1) := by decide +kernel
theorem d_Model_letter_95 : decode prog_13_method_73_code 95 = .ok (.ireturn, 1) := by decide +kernel
theorem d_Model_letter_74 : decode prog_13_method_73_code 74 = .ok (.iinc 6 1, 3) := by decide +kernel
theorem d_Model_letter_77 : decode prog_13_method_73_code 77 = .ok (.lload 7, 2) := by decide +kernel
theorem d_Model_letter_79 : decode prog_13_method_73_code 79 = .ok (.ldc2_w 251, 3) := by decide +kernel
theorem d_Model_letter_82 : decode prog_13_method_73_code 82 = .ok (.ldiv, 1) := by decide +kernel
theorem d_Model_letter_83 : decode prog_13_method_73_code 83 = .ok (.lstore 7, 2) := by decide +kernel
theorem d_Model_letter_85 : decode prog_13_method_73_code 85 = .ok (.goto (-18), 3) := by decide +kernel
theorem d_Model_gate_0 : decode prog_13_method_76_code 0 = .ok (.aload_n 0, 1) := by decide +kernel
theorem d_Model_gate_1 : decode prog_13_method_76_code 1 = .ok (.iload_n 1, 1) := by decide +kernel
theorem d_Model_gate_2 : decode prog_13_method_76_code 2 = .ok (.invokevirtual 465, 3) := by decide +kernel
theorem kw_Model_465 : KW "NineBoardsModel" 465 ⟨"NineBoardsModel", "isGate", "(I)Z"⟩ prog_13_method_74_code 2 (some .boolean) 1 := ⟨(mt_7 (List.mem_of_getElem? (i := 56) rfl) rfl), (mt_1 (List.mem_of_getElem? (i := 16) rfl) rfl), (mt_7 (List.mem_of_getElem? (i := 59) rfl) rfl), by decide +kernel⟩
theorem kv_Model_isGate : Cond.instanceMethod ⟨"NineBoardsModel", "isGate", "(I)Z"⟩ ∈ TB ∧ Cond.selects "NineBoardsModel" ⟨"NineBoardsModel", "isGate", "(I)Z"⟩ ⟨"NineBoardsModel", "isGate", "(I)Z"⟩ ∈ TB := ⟨(mt_7 (List.mem_of_getElem? (i := 58) rfl) rfl), (ms_0 (List.mem_map.mpr ⟨(⟨"NineBoardsModel", "isGate", "(I)Z"⟩, 79), List.mem_of_getElem? (i := 91) (by decide +kernel), rfl⟩) rfl)⟩
theorem d_Model_gate_5 : decode prog_13_method_76_code 5 = .ok (.ifCond .ne 5, 3) := by decide +kernel
theorem d_Model_gate_8 : decode prog_13_method_76_code 8 = .ok (.iconst (-1), 1) := by decide +kernel
theorem d_Model_gate_9 : decode prog_13_method_76_code 9 = .ok (.ireturn, 1) := by decide +kernel
theorem d_Model_gate_10 : decode prog_13_method_76_code 10 = .ok (.iconst 0, 1) := by decide +kernel
theorem d_Model_gate_11 : decode prog_13_method_76_code 11 = .ok (.istore_n 3, 1) := by decide +kernel
theorem d_Model_gate_12 : decode prog_13_method_76_code 12 = .ok (.iload_n 2, 1) := by decide +kernel
theorem d_Model_gate_13 : decode prog_13_method_76_code 13 = .ok (.tableswitch 101 0 5 #[39, 52, 58, 73, 79, 91], 39) := by decide +kernel
theorem d_Model_gate_52 : decode prog_13_method_76_code 52 = .ok (.aload_n 0, 1) := by decide +kernel
theorem d_Model_gate_53 : decode prog_13_method_76_code 53 = .ok (.getfield 127, 3) := by decide +kernel
theorem d_Model_gate_56 : decode prog_13_method_76_code 56 = .ok (.bipush 54, 2) := by decide +kernel
theorem d_Model_gate_58 : decode prog_13_method_76_code 58 = .ok (.bipush 6, 2) := by decide +kernel
theorem d_Model_gate_60 : decode prog_13_method_76_code 60 = .ok (.iload_n 1, 1) := by decide +kernel
theorem d_Model_gate_61 : decode prog_13_method_76_code 61 = .ok (.imul, 1) := by decide +kernel
theorem d_Model_gate_62 : decode prog_13_method_76_code 62 = .ok (.iadd, 1) := by decide +kernel
theorem d_Model_gate_63 : decode prog_13_method_76_code 63 = .ok (.iaload, 1) := by decide +kernel
theorem d_Model_gate_64 : decode prog_13_method_76_code 64 = .ok (.ireturn, 1) := by decide +kernel
theorem d_Model_gate_65 : decode prog_13_method_76_code 65 = .ok (.aload_n 0, 1) := by decide +kernel
theorem d_Model_gate_66 : decode prog_13_method_76_code 66 = .ok (.iload_n 1, 1) := by decide +kernel
theorem d_Model_gate_67 : decode prog_13_method_76_code 67 = .ok (.invokevirtual 421, 3) := by decide +kernel
theorem d_Model_gate_70 : decode prog_13_method_76_code 70 = .ok (.ireturn, 1) := by decide +kernel
theorem d_Model_gate_71 : decode prog_13_method_76_code 71 = .ok (.aload_n 0, 1) := by decide +kernel
theorem d_Model_gate_72 : decode prog_13_method_76_code 72 = .ok (.getfield 127, 3) := by decide +kernel
theorem d_Model_gate_75 : decode prog_13_method_76_code 75 = .ok (.bipush 54, 2) := by decide +kernel
theorem d_Model_gate_77 : decode prog_13_method_76_code 77 = .ok (.bipush 6, 2) := by decide +kernel
theorem d_Model_gate_79 : decode prog_13_method_76_code 79 = .ok (.iload_n 1, 1) := by decide +kernel
theorem d_Model_gate_80 : decode prog_13_method_76_code 80 = .ok (.imul, 1) := by decide +kernel
theorem d_Model_gate_81 : decode prog_13_method_76_code 81 = .ok (.iadd, 1) := by decide +kernel
theorem d_Model_gate_82 : decode prog_13_method_76_code 82 = .ok (.iconst 4, 1) := by decide +kernel
theorem d_Model_gate_83 : decode prog_13_method_76_code 83 = .ok (.iadd, 1) := by decide +kernel
theorem d_Model_gate_84 : decode prog_13_method_76_code 84 = .ok (.iaload, 1) := by decide +kernel
theorem d_Model_gate_85 : decode prog_13_method_76_code 85 = .ok (.ireturn, 1) := by decide +kernel
theorem d_Model_gate_86 : decode prog_13_method_76_code 86 = .ok (.aload_n 0, 1) := by decide +kernel
theorem d_Model_gate_87 : decode prog_13_method_76_code 87 = .ok (.iload_n 1, 1) := by decide +kernel
theorem d_Model_gate_88 : decode prog_13_method_76_code 88 = .ok (.invokevirtual 418, 3) := by decide +kernel
theorem d_Model_gate_91 : decode prog_13_method_76_code 91 = .ok (.ireturn, 1) := by decide +kernel
theorem d_Model_gate_92 : decode prog_13_method_76_code 92 = .ok (.aload_n 0, 1) := by decide +kernel
theorem d_Model_gate_93 : decode prog_13_method_76_code 93 = .ok (.invokevirtual 434, 3) := by decide +kernel
theorem d_Model_gate_96 : decode prog_13_method_76_code 96 = .ok (.istore_n 3, 1) := by decide +kernel
theorem d_Model_gate_97 : decode prog_13_method_76_code 97 = .ok (.aload_n 0, 1) := by decide +kernel
theorem d_Model_gate_98 : decode prog_13_method_76_code 98 = .ok (.getfield 161, 3) := by decide +kernel
theorem d_Model_gate_101 : decode prog_13_method_76_code 101 = .ok (.iload_n 1, 1) := by decide +kernel
theorem d_Model_gate_102 : decode prog_13_method_76_code 102 = .ok (.iaload, 1) := by decide +kernel
theorem d_Model_gate_103 : decode prog_13_method_76_code 103 = .ok (.ireturn, 1) := by decide +kernel
theorem d_Model_gate_104 : decode prog_13_method_76_code 104 = .ok (.aload_n 0, 1) := by decide +kernel
theorem d_Model_gate_105 : decode prog_13_method_76_code 105 = .ok (.getfield 158, 3) := by decide +kernel
theorem d_Model_gate_108 : decode prog_13_method_76_code 108 = .ok (.bipush 12, 2) := by decide +kernel
theorem d_Model_gate_110 : decode prog_13_method_76_code 110 = .ok (.iload_n 1, 1) := by decide +kernel
theorem d_Model_gate_111 : decode prog_13_method_76_code 111 = .ok (.iadd, 1) := by decide +kernel
theorem d_Model_gate_112 : decode prog_13_method_76_code 112 = .ok (.iaload, 1) := by decide +kernel
theorem d_Model_gate_113 : decode prog_13_method_76_code 113 = .ok (.ireturn, 1) := by decide +kernel
theorem d_Model_gate_114 : decode prog_13_method_76_code 114 = .ok (.iconst (-1), 1) := by decide +kernel
theorem d_Model_gate_115 : decode prog_13_method_76_code 115 = .ok (.ireturn, 1) := by decide +kernel
theorem d_Model_stream_0 : decode prog_13_method_77_code 0 = .ok (.aload_n 0, 1) := by decide +kernel
theorem d_Model_stream_1 : decode prog_13_method_77_code 1 = .ok (.iload_n 1, 1) := by decide +kernel
theorem d_Model_stream_2 : decode prog_13_method_77_code 2 = .ok (.invokevirtual 465, 3) := by decide +kernel
theorem d_Model_stream_5 : decode prog_13_method_77_code 5 = .ok (.ifCond .eq 16, 3) := by decide +kernel
theorem d_Model_stream_21 : decode prog_13_method_77_code 21 = .ok (.ldc2_w 468, 3) := by decide +kernel
theorem d_Model_stream_24 : decode prog_13_method_77_code 24 = .ok (.lreturn, 1) := by decide +kernel
theorem d_Model_stream_8 : decode prog_13_method_77_code 8 = .ok (.aload_n 0, 1) := by decide +kernel
theorem d_Model_stream_9 : decode prog_13_method_77_code 9 = .ok (.getfield 158, 3) := by decide +kernel
theorem d_Model_stream_12 : decode prog_13_method_77_code 12 = .ok (.bipush 21, 2) := by decide +kernel
theorem d_Model_stream_14 : decode prog_13_method_77_code 14 = .ok (.iload_n 1, 1) := by decide +kernel
theorem d_Model_stream_15 : decode prog_13_method_77_code 15 = .ok (.iadd, 1) := by decide +kernel
theorem d_Model_stream_16 : decode prog_13_method_77_code 16 = .ok (.iaload, 1) := by decide +kernel
theorem d_Model_stream_17 : decode prog_13_method_77_code 17 = .ok (.i2l, 1) := by decide +kernel
theorem d_Model_stream_18 : decode prog_13_method_77_code 18 = .ok (.goto 6, 3) := by decide +kernel
set_option maxHeartbeats 4000000 in
set_option maxRecDepth 100000 in
theorem c_M_stream (l : Launch) (D : va_G) (y : Nat → ClassId) (mo : Nat) (ma : Nat → Nat) (t1 : Nat) (i2 : Int32) (i3 : Int32) (i4 : Int32) (i5 : Int32) (i6 : Int32) (i7 : Int32) (i8 : Int32) (i42 : Int32) (i49 : Int32) (i51 : Int32) (i53 : Int32) (i54 : Int32) (i59 : Int32) (i61 : Int32) (i64 : Int32) (i66 : Int32) (t67 : Nat) (i76 : Int64) (i78 : Int32) (g43 : Nat → Int32) (g62 : Nat → Int32) (v : Int32) (c0 : Nat) (hc0 : g43 4 = nI c0) (bc0 : c0 ≤ 9) : CT l D y ⟨"NineBoardsModel", "stream", "(I)J"⟩ prog_13_method_77_code 2 (some .long) ({ frames := 2, cells := 0, slots := 0, locals := 46 } : Room) [.ref mo, .int v] [MB mo ma (nI t1) i2 i3 i4 i5 i6 i7 i8 i42 i49 i51 i53 i54 i59 i61 i64 i66 (nI t67) i76 i78, (ma 43, .inl (y 0, 8, .inl g43)), (ma 62, .inl (y 0, 63, .inl g62))] (QL D [MB mo ma (nI t1) i2 i3 i4 i5 i6 i7 i8 i42 i49 i51 i53 i54 i59 i61 i64 i66 (nI t67) i76 i78, (ma 43, .inl (y 0, 8, .inl g43)), (ma 62, .inl (y 0, 63, .inl g62))] (fun (r : Int64) (u : Unit) => True) (fun _ => [MB mo ma (nI t1) i2 i3 i4 i5 i6 i7 i8 i42 i49 i51 i53 i54 i59 i61 i64 i66 (nI t67) i76 i78, (ma 43, .inl (y 0, 8, .inl g43)), (ma 62, .inl (y 0, 63, .inl g62))])) := by
  refine CT.of (by decide) (nb rfl) ?_
  intro p e s m args below meth c C hr
  refine j_lv (lv' := [(0, .ref mo), (1, .int v)]) rfl ?_
  refine j_aload_n (pc := 0) C d_Model_stream_0 rfl 0 rfl ?_
  refine j_iload_n (pc := 1) C d_Model_stream_1 rfl 1 rfl ?_
  refine j_callVi (pc := 2) C (c_M_isGate l D y mo ma t1 i2 i3 i4 i5 i6 i7 i8 i42 i49 i51 i53 i54 i59 i61 i64 i66 t67 i76 i78 g43 v c0 hc0 bc0) kw_Model_465 kv_Model_isGate 0 10 rfl rfl ⟨by decide, by decide⟩ ⟨by decide, by decide⟩ (wr := [(ma 62, .inl (y 0, 63, .inl g62))]) [0, 1] [2] rfl rfl (by decide) (by decide) (by decide) (As := [.int v]) (rest := []) rfl (nb rfl) rfl d_Model_stream_2 (fun r1 _ hr1 => ?_)
  refine j_ws (ws' := [(ma 62, .inl (y 0, 63, .inl g62)), MB mo ma (nI t1) i2 i3 i4 i5 i6 i7 i8 i42 i49 i51 i53 i54 i59 i61 i64 i66 (nI t67) i76 i78, (ma 43, .inl (y 0, 8, .inl g43))]) rfl ?_
  rcases hr1 with rfl | ⟨rfl, j2, xh3, rfl⟩
  · refine j_if_eqT (pc := 5) C (tgt := 21) d_Model_stream_5 (by decide) (by decide) ?_
    refine j_ldc2 (pc := 21) C (v := (-1)) (mt_7 (List.mem_of_getElem? (i := 80) rfl) rfl) d_Model_stream_21 ?_
    exact j_lret (pc := 24) C hr () trivial [1, 2, 0] rfl (by decide) (by decide) (by decide) d_Model_stream_24
  · refine j_if_eqF (pc := 5) C (tgt := 21) d_Model_stream_5 (by decide) (by decide) ?_
    refine j_aload_n (pc := 8) C d_Model_stream_8 rfl 0 rfl ?_
    refine j_get (pc := 9) C gf_Model_158 1 rfl rfl d_Model_stream_9 ?_
    refine j_bipush (pc := 12) C (v := 21) d_Model_stream_12 (by decide) ?_
    refine j_iload_n (pc := 14) C d_Model_stream_14 rfl 1 rfl ?_
    refine j_iadd (pc := 15) C (v := nI (21 + j2)) d_Model_stream_15 (nI_add _ _) ?_
    refine j_iald (pc := 16) C 0 rfl (v := g62 (21 + j2)) (vp_in_nI (by omega) (by decide)) (by rw [nI_clamp (by omega)]) d_Model_stream_16 ?_
    refine j_i2l (pc := 17) C (v := (g62 (21 + j2)).toInt64) d_Model_stream_17 rfl ?_
    refine j_goto (pc := 18) C (tgt := 24) d_Model_stream_18 (by decide) ?_
    exact j_lret (pc := 24) C hr () trivial [1, 2, 0] rfl (by decide) (by decide) (by decide) d_Model_stream_24
theorem d_Model_all_0 : decode prog_13_method_78_code 0 = .ok (.iload_n 1, 1) := by decide +kernel
theorem d_Model_all_1 : decode prog_13_method_78_code 1 = .ok (.i2l, 1) := by decide +kernel
theorem d_Model_all_2 : decode prog_13_method_78_code 2 = .ok (.lconst 0, 1) := by decide +kernel
theorem d_Model_all_3 : decode prog_13_method_78_code 3 = .ok (.ldc2_w 470, 3) := by decide +kernel
theorem d_Model_all_6 : decode prog_13_method_78_code 6 = .ok (.invokestatic 240, 3) := by decide +kernel
theorem d_Model_all_9 : decode prog_13_method_78_code 9 = .ok (.ifCond .eq 16, 3) := by decide +kernel
theorem d_Model_all_25 : decode prog_13_method_78_code 25 = .ok (.ldc2_w 468, 3) := by decide +kernel
theorem d_Model_all_28 : decode prog_13_method_78_code 28 = .ok (.lreturn, 1) := by decide +kernel
theorem d_Model_all_12 : decode prog_13_method_78_code 12 = .ok (.aload_n 0, 1) := by decide +kernel
theorem d_Model_all_13 : decode prog_13_method_78_code 13 = .ok (.getfield 158, 3) := by decide +kernel
theorem d_Model_all_16 : decode prog_13_method_78_code 16 = .ok (.bipush 30, 2) := by decide +kernel
theorem d_Model_all_18 : decode prog_13_method_78_code 18 = .ok (.iload_n 1, 1) := by decide +kernel
theorem d_Model_all_19 : decode prog_13_method_78_code 19 = .ok (.iadd, 1) := by decide +kernel
theorem d_Model_all_20 : decode prog_13_method_78_code 20 = .ok (.iaload, 1) := by decide +kernel
theorem d_Model_all_21 : decode prog_13_method_78_code 21 = .ok (.i2l, 1) := by decide +kernel
theorem d_Model_all_22 : decode prog_13_method_78_code 22 = .ok (.goto 6, 3) := by decide +kernel
set_option maxHeartbeats 4000000 in
set_option maxRecDepth 100000 in
theorem c_M_all (l : Launch) (D : va_G) (y : Nat → ClassId) (mo : Nat) (ma : Nat → Nat) (t1 : Nat) (i2 : Int32) (i3 : Int32) (i4 : Int32) (i5 : Int32) (i6 : Int32) (i7 : Int32) (i8 : Int32) (i42 : Int32) (i49 : Int32) (i51 : Int32) (i53 : Int32) (i54 : Int32) (i59 : Int32) (i61 : Int32) (i64 : Int32) (i66 : Int32) (t67 : Nat) (i76 : Int64) (i78 : Int32) (g62 : Nat → Int32) (v : Int32)  : CT l D y ⟨"NineBoardsModel", "all", "(I)J"⟩ prog_13_method_78_code 2 (some .long) ({ frames := 1, cells := 0, slots := 0, locals := 25 } : Room) [.ref mo, .int v] [MB mo ma (nI t1) i2 i3 i4 i5 i6 i7 i8 i42 i49 i51 i53 i54 i59 i61 i64 i66 (nI t67) i76 i78, (ma 62, .inl (y 0, 63, .inl g62))] (QL D [MB mo ma (nI t1) i2 i3 i4 i5 i6 i7 i8 i42 i49 i51 i53 i54 i59 i61 i64 i66 (nI t67) i76 i78, (ma 62, .inl (y 0, 63, .inl g62))] (fun (r : Int64) (u : Unit) => True) (fun _ => [MB mo ma (nI t1) i2 i3 i4 i5 i6 i7 i8 i42 i49 i51 i53 i54 i59 i61 i64 i66 (nI t67) i76 i78, (ma 62, .inl (y 0, 63, .inl g62))])) := by
  refine CT.of (by decide) (nb rfl) ?_
  intro p e s m args below meth c C hr
  refine j_lv (lv' := [(0, .ref mo), (1, .int v)]) rfl ?_
  refine j_iload_n (pc := 0) C d_Model_all_0 rfl 1 rfl ?_
  refine j_i2l (pc := 1) C (v := v.toInt64) d_Model_all_1 rfl ?_
  refine j_lconst (pc := 2) C (v := 0) d_Model_all_2 (by decide) ?_
  refine j_ldc2 (pc := 3) C (v := 4) (mt_7 (List.mem_of_getElem? (i := 85) rfl) rfl) d_Model_all_3 ?_
  refine j_callSi (pc := 6) C (c_isIn_0_4 l D y v) kw_Model_240 ks_Model_isIn ⟨by decide, by decide⟩ ⟨by decide, by decide⟩ (wr := [MB mo ma (nI t1) i2 i3 i4 i5 i6 i7 i8 i42 i49 i51 i53 i54 i59 i61 i64 i66 (nI t67) i76 i78, (ma 62, .inl (y 0, 63, .inl g62))]) [] [0, 1] rfl rfl (by decide) (by decide) (by decide) (As := [.long v.toInt64, .long 0, .long 4]) (rest := []) rfl (nb rfl) rfl d_Model_all_6 (fun r1 _ hr1 => ?_)
  refine j_ws (ws' := [MB mo ma (nI t1) i2 i3 i4 i5 i6 i7 i8 i42 i49 i51 i53 i54 i59 i61 i64 i66 (nI t67) i76 i78, (ma 62, .inl (y 0, 63, .inl g62))]) rfl ?_
  rcases hr1 with rfl | ⟨rfl, j2, xh3, rfl⟩
  · refine j_if_eqT (pc := 9) C (tgt := 25) d_Model_all_9 (by decide) (by decide) ?_
    refine j_ldc2 (pc := 25) C (v := (-1)) (mt_7 (List.mem_of_getElem? (i := 80) rfl) rfl) d_Model_all_25 ?_
    exact j_lret (pc := 28) C hr () trivial [0, 1] rfl (by decide) (by decide) (by decide) d_Model_all_28
  · refine j_if_eqF (pc := 9) C (tgt := 25) d_Model_all_9 (by decide) (by decide) ?_
    refine j_aload_n (pc := 12) C d_Model_all_12 rfl 0 rfl ?_
    refine j_get (pc := 13) C gf_Model_158 0 rfl rfl d_Model_all_13 ?_
    refine j_bipush (pc := 16) C (v := 30) d_Model_all_16 (by decide) ?_
    refine j_iload_n (pc := 18) C d_Model_all_18 rfl 1 rfl ?_
    refine j_iadd (pc := 19) C (v := nI (30 + j2)) d_Model_all_19 (nI_add _ _) ?_
    refine j_iald (pc := 20) C 1 rfl (v := g62 (30 + j2)) (vp_in_nI (by omega) (by decide)) (by rw [nI_clamp (by omega)]) d_Model_all_20 ?_
    refine j_i2l (pc := 21) C (v := (g62 (30 + j2)).toInt64) d_Model_all_21 rfl ?_
    refine j_goto (pc := 22) C (tgt := 28) d_Model_all_22 (by decide) ?_
    exact j_lret (pc := 28) C hr () trivial [0, 1] rfl (by decide) (by decide) (by decide) d_Model_all_28
theorem d_Model_village_0 : decode prog_13_method_79_code 0 = .ok (.aload_n 0, 1) := by decide +kernel
theorem d_Model_village_1 : decode prog_13_method_79_code 1 = .ok (.iload_n 1, 1) := by decide +kernel
theorem d_Model_village_2 : decode prog_13_method_79_code 2 = .ok (.invokevirtual 472, 3) := by decide +kernel
theorem kw_Model_472 : KW "NineBoardsModel" 472 ⟨"NineBoardsModel", "isVillage", "(I)Z"⟩ prog_13_method_75_code 2 (some .boolean) 1 := ⟨(mt_7 (List.mem_of_getElem? (i := 90) rfl) rfl), (mt_1 (List.mem_of_getElem? (i := 16) rfl) rfl), (mt_7 (List.mem_of_getElem? (i := 93) rfl) rfl), by decide +kernel⟩
theorem kv_Model_isVillage : Cond.instanceMethod ⟨"NineBoardsModel", "isVillage", "(I)Z"⟩ ∈ TB ∧ Cond.selects "NineBoardsModel" ⟨"NineBoardsModel", "isVillage", "(I)Z"⟩ ⟨"NineBoardsModel", "isVillage", "(I)Z"⟩ ∈ TB := ⟨(mt_7 (List.mem_of_getElem? (i := 92) rfl) rfl), (ms_0 (List.mem_map.mpr ⟨(⟨"NineBoardsModel", "isVillage", "(I)Z"⟩, 79), List.mem_of_getElem? (i := 96) (by decide +kernel), rfl⟩) rfl)⟩
theorem d_Model_village_5 : decode prog_13_method_79_code 5 = .ok (.ifCond .ne 7, 3) := by decide +kernel
theorem d_Model_village_8 : decode prog_13_method_79_code 8 = .ok (.ldc_w 475, 3) := by decide +kernel
theorem d_Model_village_11 : decode prog_13_method_79_code 11 = .ok (.ireturn, 1) := by decide +kernel
theorem d_Model_village_12 : decode prog_13_method_79_code 12 = .ok (.aload_n 0, 1) := by decide +kernel
theorem d_Model_village_13 : decode prog_13_method_79_code 13 = .ok (.getfield 130, 3) := by decide +kernel
theorem d_Model_village_16 : decode prog_13_method_79_code 16 = .ok (.bipush 6, 2) := by decide +kernel
theorem d_Model_village_18 : decode prog_13_method_79_code 18 = .ok (.iload_n 1, 1) := by decide +kernel
theorem d_Model_village_19 : decode prog_13_method_79_code 19 = .ok (.iadd, 1) := by decide +kernel
theorem d_Model_village_20 : decode prog_13_method_79_code 20 = .ok (.iaload, 1) := by decide +kernel
theorem d_Model_village_21 : decode prog_13_method_79_code 21 = .ok (.istore_n 3, 1) := by decide +kernel
theorem d_Model_village_22 : decode prog_13_method_79_code 22 = .ok (.iload_n 2, 1) := by decide +kernel
theorem d_Model_village_23 : decode prog_13_method_79_code 23 = .ok (.tableswitch 106 0 4 #[33, 35, 45, 55, 72], 33) := by decide +kernel
theorem d_Model_village_56 : decode prog_13_method_79_code 56 = .ok (.iload_n 3, 1) := by decide +kernel
theorem d_Model_village_57 : decode prog_13_method_79_code 57 = .ok (.ireturn, 1) := by decide +kernel
theorem d_Model_village_58 : decode prog_13_method_79_code 58 = .ok (.aload_n 0, 1) := by decide +kernel
theorem d_Model_village_59 : decode prog_13_method_79_code 59 = .ok (.getfield 158, 3) := by decide +kernel
theorem d_Model_village_62 : decode prog_13_method_79_code 62 = .ok (.bipush 35, 2) := by decide +kernel
theorem d_Model_village_64 : decode prog_13_method_79_code 64 = .ok (.iload_n 1, 1) := by decide +kernel
theorem d_Model_village_65 : decode prog_13_method_79_code 65 = .ok (.iadd, 1) := by decide +kernel
theorem d_Model_village_66 : decode prog_13_method_79_code 66 = .ok (.iaload, 1) := by decide +kernel
theorem d_Model_village_67 : decode prog_13_method_79_code 67 = .ok (.ireturn, 1) := by decide +kernel
theorem d_Model_village_68 : decode prog_13_method_79_code 68 = .ok (.aload_n 0, 1) := by decide +kernel
theorem d_Model_village_69 : decode prog_13_method_79_code 69 = .ok (.getfield 158, 3) := by decide +kernel
theorem d_Model_village_72 : decode prog_13_method_79_code 72 = .ok (.bipush 41, 2) := by decide +kernel
theorem d_Model_village_74 : decode prog_13_method_79_code 74 = .ok (.iload_n 1, 1) := by decide +kernel
theorem d_Model_village_75 : decode prog_13_method_79_code 75 = .ok (.iadd, 1) := by decide +kernel
theorem d_Model_village_76 : decode prog_13_method_79_code 76 = .ok (.iaload, 1) := by decide +kernel
theorem d_Model_village_77 : decode prog_13_method_79_code 77 = .ok (.ireturn, 1) := by decide +kernel
theorem d_Model_village_78 : decode prog_13_method_79_code 78 = .ok (.iload_n 1, 1) := by decide +kernel
theorem d_Model_village_79 : decode prog_13_method_79_code 79 = .ok (.aload_n 0, 1) := by decide +kernel
theorem d_Model_village_80 : decode prog_13_method_79_code 80 = .ok (.invokevirtual 451, 3) := by decide +kernel
theorem d_Model_village_83 : decode prog_13_method_79_code 83 = .ok (.isub, 1) := by decide +kernel
theorem d_Model_village_84 : decode prog_13_method_79_code 84 = .ok (.aload_n 0, 1) := by decide +kernel
theorem d_Model_village_85 : decode prog_13_method_79_code 85 = .ok (.invokevirtual 448, 3) := by decide +kernel
theorem d_Model_village_88 : decode prog_13_method_79_code 88 = .ok (.iadd, 1) := by decide +kernel
theorem d_Model_village_89 : decode prog_13_method_79_code 89 = .ok (.aload_n 0, 1) := by decide +kernel
theorem d_Model_village_90 : decode prog_13_method_79_code 90 = .ok (.invokevirtual 448, 3) := by decide +kernel
theorem d_Model_village_93 : decode prog_13_method_79_code 93 = .ok (.irem, 1) := by decide +kernel
theorem d_Model_village_94 : decode prog_13_method_79_code 94 = .ok (.ireturn, 1) := by decide +kernel
theorem d_Model_village_95 : decode prog_13_method_79_code 95 = .ok (.iconst 1, 1) := by decide +kernel
theorem d_Model_village_96 : decode prog_13_method_79_code 96 = .ok (.aload_n 0, 1) := by decide +kernel
theorem d_Model_village_97 : decode prog_13_method_79_code 97 = .ok (.iconst 0, 1) := by decide +kernel
theorem d_Model_village_98 : decode prog_13_method_79_code 98 = .ok (.iconst 1, 1) := by decide +kernel
theorem d_Model_village_99 : decode prog_13_method_79_code 99 = .ok (.iload_n 3, 1) := by decide +kernel
theorem d_Model_village_100 : decode prog_13_method_79_code 100 = .ok (.invokevirtual 457, 3) := by decide +kernel
theorem d_Model_village_103 : decode prog_13_method_79_code 103 = .ok (.ifCond .eq 7, 3) := by decide +kernel
theorem d_Model_village_110 : decode prog_13_method_79_code 110 = .ok (.iconst 0, 1) := by decide +kernel
theorem d_Model_village_111 : decode prog_13_method_79_code 111 = .ok (.iadd, 1) := by decide +kernel
theorem d_Model_village_112 : decode prog_13_method_79_code 112 = .ok (.aload_n 0, 1) := by decide +kernel
theorem d_Model_village_113 : decode prog_13_method_79_code 113 = .ok (.iconst 0, 1) := by decide +kernel
theorem d_Model_village_114 : decode prog_13_method_79_code 114 = .ok (.iconst 2, 1) := by decide +kernel
theorem d_Model_village_115 : decode prog_13_method_79_code 115 = .ok (.iload_n 3, 1) := by decide +kernel
theorem d_Model_village_116 : decode prog_13_method_79_code 116 = .ok (.invokevirtual 457, 3) := by decide +kernel
theorem d_Model_village_119 : decode prog_13_method_79_code 119 = .ok (.ifCond .eq 7, 3) := by decide +kernel
theorem d_Model_village_126 : decode prog_13_method_79_code 126 = .ok (.iconst 0, 1) := by decide +kernel
theorem d_Model_village_127 : decode prog_13_method_79_code 127 = .ok (.iadd, 1) := by decide +kernel
theorem d_Model_village_128 : decode prog_13_method_79_code 128 = .ok (.ireturn, 1) := by decide +kernel
theorem d_Model_village_122 : decode prog_13_method_79_code 122 = .ok (.iconst 4, 1) := by decide +kernel
theorem d_Model_village_123 : decode prog_13_method_79_code 123 = .ok (.goto 4, 3) := by decide +kernel
theorem d_Model_village_106 : decode prog_13_method_79_code 106 = .ok (.iconst 2, 1) := by decide +kernel
theorem d_Model_village_107 : decode prog_13_method_79_code 107 = .ok (.goto 4, 3) := by decide +kernel
theorem d_Model_village_129 : decode prog_13_method_79_code 129 = .ok (.ldc_w 475, 3) := by decide +kernel
theorem d_Model_village_132 : decode prog_13_method_79_code 132 = .ok (.ireturn, 1) := by decide +kernel
set_option maxHeartbeats 4000000 in
set_option maxRecDepth 100000 in
theorem c_M_village (l : Launch) (D : va_G) (y : Nat → ClassId) (mo : Nat) (ma : Nat → Nat) (t1 : Nat) (i2 : Int32) (i3 : Int32) (i4 : Int32) (i5 : Int32) (i6 : Int32) (i7 : Int32) (i8 : Int32) (i42 : Int32) (i49 : Int32) (i51 : Int32) (i53 : Int32) (i54 : Int32) (i59 : Int32) (i61 : Int32) (i64 : Int32) (i66 : Int32) (t67 : Nat) (i76 : Int64) (i78 : Int32) (g43 : Nat → Int32) (g46 : Nat → Int32) (g47 : Nat → Int32) (g62 : Nat → Int32) (v : Int32) (v2 : Int32) (c1 : Nat) (dy : Nat) (hc1 : g43 5 = nI c1) (bc1 : c1 ≤ 6) (hG : ∀ j, j < 9 → g46 (54 + 6 * j + 5) = -1 ∨ ∃ q, q < 9 ∧ g46 (54 + 6 * j + 5) = nI q) (hO : ∀ j, j < 6 → ∃ q, q < 9 ∧ g47 (6 + j) = nI q) (hD : g62 0 = nI dy) (bD : dy ≤ 999) : CT l D y ⟨"NineBoardsModel", "village", "(II)I"⟩ prog_13_method_79_code 4 (some .int) ({ frames := 3, cells := 0, slots := 0, locals := 72 } : Room) [.ref mo, .int v, .int v2] [MB mo ma (nI t1) i2 i3 i4 i5 i6 i7 i8 i42 i49 i51 i53 i54 i59 i61 i64 i66 (nI t67) i76 i78, (ma 43, .inl (y 0, 8, .inl g43)), (ma 46, .inl (y 0, 108, .inl g46)), (ma 47, .inl (y 0, 12, .inl g47)), (ma 62, .inl (y 0, 63, .inl g62))] (QI D [MB mo ma (nI t1) i2 i3 i4 i5 i6 i7 i8 i42 i49 i51 i53 i54 i59 i61 i64 i66 (nI t67) i76 i78, (ma 43, .inl (y 0, 8, .inl g43)), (ma 46, .inl (y 0, 108, .inl g46)), (ma 47, .inl (y 0, 12, .inl g47)), (ma 62, .inl (y 0, 63, .inl g62))] (fun (r : Int32) (u : Unit) => True) (fun _ => [MB mo ma (nI t1) i2 i3 i4 i5 i6 i7 i8 i42 i49 i51 i53 i54 i59 i61 i64 i66 (nI t67) i76 i78, (ma 43, .inl (y 0, 8, .inl g43)), (ma 46, .inl (y 0, 108, .inl g46)), (ma 47, .inl (y 0, 12, .inl g47)), (ma 62, .inl (y 0, 63, .inl g62))])) := by
  refine CT.of (by decide) (nb rfl) ?_
  intro p e s m args below meth c C hr
  refine j_lv (lv' := [(0, .ref mo), (1, .int v), (2, .int v2)]) rfl ?_
  refine j_aload_n (pc := 0) C d_Model_village_0 rfl 0 rfl ?_
  refine j_iload_n (pc := 1) C d_Model_village_1 rfl 1 rfl ?_
  refine j_callVi (pc := 2) C (c_M_isVillage l D y mo ma t1 i2 i3 i4 i5 i6 i7 i8 i42 i49 i51 i53 i54 i59 i61 i64 i66 t67 i76 i78 g43 v c1 hc1 bc1) kw_Model_472 kv_Model_isVillage 0 10 rfl rfl ⟨by decide, by decide⟩ ⟨by decide, by decide⟩ (wr := [(ma 46, .inl (y 0, 108, .inl g46)), (ma 47, .inl (y 0, 12, .inl g47)), (ma 62, .inl (y 0, 63, .inl g62))]) [0, 1] [2, 3, 4] rfl rfl (by decide) (by decide) (by decide) (As := [.int v]) (rest := []) rfl (nb rfl) rfl d_Model_village_2 (fun r1 _ hr1 => ?_)
  refine j_ws (ws' := [(ma 46, .inl (y 0, 108, .inl g46)), (ma 47, .inl (y 0, 12, .inl g47)), (ma 62, .inl (y 0, 63, .inl g62)), MB mo ma (nI t1) i2 i3 i4 i5 i6 i7 i8 i42 i49 i51 i53 i54 i59 i61 i64 i66 (nI t67) i76 i78, (ma 43, .inl (y 0, 8, .inl g43))]) rfl ?_
  rcases hr1 with rfl | ⟨rfl, j2, xh3, rfl⟩
  · refine j_if_neF (pc := 5) C (tgt := 12) d_Model_village_5 (by decide) (by decide) ?_
    refine j_ldcw (pc := 8) C (v := (-1000000000)) (mt_7 (List.mem_of_getElem? (i := 94) rfl) rfl) d_Model_village_8 ?_
    exact j_iret (pc := 11) C hr rfl () trivial [3, 4, 0, 1, 2] rfl (by decide) (by decide) (by decide) d_Model_village_11
  · refine j_if_neT (pc := 5) C (tgt := 12) d_Model_village_5 (by decide) (by decide) ?_
    refine j_aload_n (pc := 12) C d_Model_village_12 rfl 0 rfl ?_
    refine j_get (pc := 13) C gf_Model_130 3 rfl rfl d_Model_village_13 ?_
    refine j_bipush (pc := 16) C (v := 6) d_Model_village_16 (by decide) ?_
    refine j_iload_n (pc := 18) C d_Model_village_18 rfl 1 rfl ?_
    refine j_iadd (pc := 19) C (v := nI (6 + j2)) d_Model_village_19 (nI_add _ _) ?_
    obtain ⟨q4, xh5, e6⟩ := hO j2 (by omega)
    refine j_iald (pc := 20) C 1 rfl (v := nI q4) (vp_in_nI (by omega) (by decide)) (by rw [nI_clamp (by omega)]; exact e6) d_Model_village_20 ?_
    refine j_istore_n (pc := 21) C (lv' := [(3, .int (nI q4)), (0, .ref mo), (1, .int (nI j2)), (2, .int v2)]) d_Model_village_21 rfl (by decide) rfl ?_
    refine j_iload_n (pc := 22) C d_Model_village_22 rfl 3 rfl ?_
    by_cases c7_0 : v2 = 0
    · refine j_tabIn (pc := 23) C (off := 33) (tgt := 56) d_Model_village_23 (by rw [c7_0]; decide) (by rw [c7_0]; decide) (by rw [c7_0]; decide) (by decide) ?_
      refine j_iload_n (pc := 56) C d_Model_village_56 rfl 0 rfl ?_
      exact j_iret (pc := 57) C hr rfl () trivial [3, 4, 0, 1, 2] rfl (by decide) (by decide) (by decide) d_Model_village_57
    · by_cases c7_1 : v2 = 1
      · refine j_tabIn (pc := 23) C (off := 35) (tgt := 58) d_Model_village_23 (by rw [c7_1]; decide) (by rw [c7_1]; decide) (by rw [c7_1]; decide) (by decide) ?_
        refine j_aload_n (pc := 58) C d_Model_village_58 rfl 1 rfl ?_
        refine j_get (pc := 59) C gf_Model_158 3 rfl rfl d_Model_village_59 ?_
        refine j_bipush (pc := 62) C (v := 35) d_Model_village_62 (by decide) ?_
        refine j_iload_n (pc := 64) C d_Model_village_64 rfl 2 rfl ?_
        refine j_iadd (pc := 65) C (v := nI (35 + j2)) d_Model_village_65 (nI_add _ _) ?_
        refine j_iald (pc := 66) C 2 rfl (v := g62 (35 + j2)) (vp_in_nI (by omega) (by decide)) (by rw [nI_clamp (by omega)]) d_Model_village_66 ?_
        exact j_iret (pc := 67) C hr rfl () trivial [3, 4, 0, 1, 2] rfl (by decide) (by decide) (by decide) d_Model_village_67
      · by_cases c7_2 : v2 = 2
        · refine j_tabIn (pc := 23) C (off := 45) (tgt := 68) d_Model_village_23 (by rw [c7_2]; decide) (by rw [c7_2]; decide) (by rw [c7_2]; decide) (by decide) ?_
          refine j_aload_n (pc := 68) C d_Model_village_68 rfl 1 rfl ?_
          refine j_get (pc := 69) C gf_Model_158 3 rfl rfl d_Model_village_69 ?_
          refine j_bipush (pc := 72) C (v := 41) d_Model_village_72 (by decide) ?_
          refine j_iload_n (pc := 74) C d_Model_village_74 rfl 2 rfl ?_
          refine j_iadd (pc := 75) C (v := nI (41 + j2)) d_Model_village_75 (nI_add _ _) ?_
          refine j_iald (pc := 76) C 2 rfl (v := g62 (41 + j2)) (vp_in_nI (by omega) (by decide)) (by rw [nI_clamp (by omega)]) d_Model_village_76 ?_
          exact j_iret (pc := 77) C hr rfl () trivial [3, 4, 0, 1, 2] rfl (by decide) (by decide) (by decide) d_Model_village_77
        · by_cases c7_3 : v2 = 3
          · refine j_tabIn (pc := 23) C (off := 55) (tgt := 78) d_Model_village_23 (by rw [c7_3]; decide) (by rw [c7_3]; decide) (by rw [c7_3]; decide) (by decide) ?_
            refine j_iload_n (pc := 78) C d_Model_village_78 rfl 2 rfl ?_
            refine j_aload_n (pc := 79) C d_Model_village_79 rfl 1 rfl ?_
            refine j_callVi (pc := 80) C (c_M_todays l D y mo ma t1 i2 i3 i4 i5 i6 i7 i8 i42 i49 i51 i53 i54 i59 i61 i64 i66 t67 i76 i78 g43 g62 c1 dy hc1 bc1 hD (by omega)) kw_Model_451 kv_Model_todays 0 10 rfl rfl ⟨by decide, by decide⟩ ⟨by decide, by decide⟩ (wr := [(ma 46, .inl (y 0, 108, .inl g46)), (ma 47, .inl (y 0, 12, .inl g47))]) [3, 4, 2] [0, 1] rfl rfl (by decide) (by decide) (by decide) (As := []) (rest := [.int (nI j2)]) rfl (nb rfl) rfl d_Model_village_80 (fun r8 _ hr8 => ?_)
            refine j_ws (ws' := [(ma 46, .inl (y 0, 108, .inl g46)), (ma 47, .inl (y 0, 12, .inl g47)), MB mo ma (nI t1) i2 i3 i4 i5 i6 i7 i8 i42 i49 i51 i53 i54 i59 i61 i64 i66 (nI t67) i76 i78, (ma 43, .inl (y 0, 8, .inl g43)), (ma 62, .inl (y 0, 63, .inl g62))]) rfl ?_
            rcases hr8 with ⟨rfl, xh10⟩ | ⟨q11, xh12, rfl⟩
            · exact absurd xh10 (by omega)
            · refine j_isub (pc := 83) C (v := (nI j2 - nI q11)) d_Model_village_83 rfl ?_
              refine j_aload_n (pc := 84) C d_Model_village_84 rfl 1 rfl ?_
              refine j_callVi (pc := 85) C (c_M_villages l D y mo ma t1 i2 i3 i4 i5 i6 i7 i8 i42 i49 i51 i53 i54 i59 i61 i64 i66 t67 i76 i78 g43 c1 hc1 bc1) kw_Model_448 kv_Model_villages 0 10 rfl rfl ⟨by decide, by decide⟩ ⟨by decide, by decide⟩ (wr := [(ma 46, .inl (y 0, 108, .inl g46)), (ma 47, .inl (y 0, 12, .inl g47)), (ma 62, .inl (y 0, 63, .inl g62))]) [2, 3] [0, 1, 4] rfl rfl (by decide) (by decide) (by decide) (As := []) (rest := [.int (nI j2 - nI q11)]) rfl (nb rfl) rfl d_Model_village_85 (fun r13 _ hr13 => ?_)
              obtain rfl := hr13
              refine j_ws (ws' := [(ma 46, .inl (y 0, 108, .inl g46)), (ma 47, .inl (y 0, 12, .inl g47)), (ma 62, .inl (y 0, 63, .inl g62)), MB mo ma (nI t1) i2 i3 i4 i5 i6 i7 i8 i42 i49 i51 i53 i54 i59 i61 i64 i66 (nI t67) i76 i78, (ma 43, .inl (y 0, 8, .inl g43))]) rfl ?_
              refine j_iadd (pc := 88) C (v := (nI j2 - nI q11) + (nI c1)) d_Model_village_88 rfl ?_
              refine j_anyI (fun v14 => ?_)
              refine j_aload_n (pc := 89) C d_Model_village_89 rfl 1 rfl ?_
              refine j_callVi (pc := 90) C (c_M_villages l D y mo ma t1 i2 i3 i4 i5 i6 i7 i8 i42 i49 i51 i53 i54 i59 i61 i64 i66 t67 i76 i78 g43 c1 hc1 bc1) kw_Model_448 kv_Model_villages 0 10 rfl rfl ⟨by decide, by decide⟩ ⟨by decide, by decide⟩ (wr := [(ma 46, .inl (y 0, 108, .inl g46)), (ma 47, .inl (y 0, 12, .inl g47)), (ma 62, .inl (y 0, 63, .inl g62))]) [3, 4] [0, 1, 2] rfl rfl (by decide) (by decide) (by decide) (As := []) (rest := [.int v14]) rfl (nb rfl) rfl d_Model_village_90 (fun r15 _ hr15 => ?_)
              obtain rfl := hr15
              refine j_ws (ws' := [(ma 46, .inl (y 0, 108, .inl g46)), (ma 47, .inl (y 0, 12, .inl g47)), (ma 62, .inl (y 0, 63, .inl g62)), MB mo ma (nI t1) i2 i3 i4 i5 i6 i7 i8 i42 i49 i51 i53 i54 i59 i61 i64 i66 (nI t67) i76 i78, (ma 43, .inl (y 0, 8, .inl g43))]) rfl ?_
              refine j_irem (pc := 93) C (v := v14 - v14 / (nI c1) * (nI c1)) d_Model_village_93 (nI_ne0 (by omega) (by omega)) rfl ?_
              exact j_iret (pc := 94) C hr rfl () trivial [3, 4, 0, 1, 2] rfl (by decide) (by decide) (by decide) d_Model_village_94
          · by_cases c7_4 : v2 = 4
            · refine j_tabIn (pc := 23) C (off := 72) (tgt := 95) d_Model_village_23 (by rw [c7_4]; decide) (by rw [c7_4]; decide) (by rw [c7_4]; decide) (by decide) ?_
              refine j_iconst (pc := 95) C (v := 1) d_Model_village_95 (by decide) ?_
              refine j_aload_n (pc := 96) C d_Model_village_96 rfl 1 rfl ?_
              refine j_iconst (pc := 97) C (v := 0) d_Model_village_97 (by decide) ?_
              refine j_iconst (pc := 98) C (v := 1) d_Model_village_98 (by decide) ?_
              refine j_iload_n (pc := 99) C d_Model_village_99 rfl 0 rfl ?_
              refine j_callVi (pc := 100) C (c_M_isAllowed l D y mo ma t1 i2 i3 i4 i5 i6 i7 i8 i42 i49 i51 i53 i54 i59 i61 i64 i66 t67 i76 i78 g46 g62 0 1 q4 (by omega) (by omega)) kw_Model_457 kv_Model_isAllowed 0 10 rfl rfl ⟨by decide, by decide⟩ ⟨by decide, by decide⟩ (wr := [(ma 47, .inl (y 0, 12, .inl g47)), (ma 43, .inl (y 0, 8, .inl g43))]) [3, 0, 2] [1, 4] rfl rfl (by decide) (by decide) (by decide) (As := [.int 0, .int 1, .int (nI q4)]) (rest := [.int 1]) rfl (nb rfl) rfl d_Model_village_100 (fun r16 _ hr16 => ?_)
              have xh17 := hr16
              refine j_ws (ws' := [(ma 47, .inl (y 0, 12, .inl g47)), (ma 43, .inl (y 0, 8, .inl g43)), MB mo ma (nI t1) i2 i3 i4 i5 i6 i7 i8 i42 i49 i51 i53 i54 i59 i61 i64 i66 (nI t67) i76 i78, (ma 46, .inl (y 0, 108, .inl g46)), (ma 62, .inl (y 0, 63, .inl g62))]) rfl ?_
              refine j_if_eq (pc := 103) C (tgt := 110) d_Model_village_103 (by decide) (fun c18 => ?_) (fun c18 => ?_)
              · refine j_iconst (pc := 110) C (v := 0) d_Model_village_110 (by decide) ?_
                refine j_iadd (pc := 111) C (v := 1) d_Model_village_111 (by decide) ?_
                refine j_aload_n (pc := 112) C d_Model_village_112 rfl 1 rfl ?_
                refine j_iconst (pc := 113) C (v := 0) d_Model_village_113 (by decide) ?_
                refine j_iconst (pc := 114) C (v := 2) d_Model_village_114 (by decide) ?_
                refine j_iload_n (pc := 115) C d_Model_village_115 rfl 0 rfl ?_
                refine j_callVi (pc := 116) C (c_M_isAllowed l D y mo ma t1 i2 i3 i4 i5 i6 i7 i8 i42 i49 i51 i53 i54 i59 i61 i64 i66 t67 i76 i78 g46 g62 0 2 q4 (by omega) (by omega)) kw_Model_457 kv_Model_isAllowed 0 10 rfl rfl ⟨by decide, by decide⟩ ⟨by decide, by decide⟩ (wr := [(ma 47, .inl (y 0, 12, .inl g47)), (ma 43, .inl (y 0, 8, .inl g43))]) [2, 3, 4] [0, 1] rfl rfl (by decide) (by decide) (by decide) (As := [.int 0, .int 2, .int (nI q4)]) (rest := [.int 1]) rfl (nb rfl) rfl d_Model_village_116 (fun r19 _ hr19 => ?_)
                have xh20 := hr19
                refine j_ws (ws' := [(ma 47, .inl (y 0, 12, .inl g47)), (ma 43, .inl (y 0, 8, .inl g43)), MB mo ma (nI t1) i2 i3 i4 i5 i6 i7 i8 i42 i49 i51 i53 i54 i59 i61 i64 i66 (nI t67) i76 i78, (ma 46, .inl (y 0, 108, .inl g46)), (ma 62, .inl (y 0, 63, .inl g62))]) rfl ?_
                refine j_if_eq (pc := 119) C (tgt := 126) d_Model_village_119 (by decide) (fun c21 => ?_) (fun c21 => ?_)
                · refine j_iconst (pc := 126) C (v := 0) d_Model_village_126 (by decide) ?_
                  refine j_iadd (pc := 127) C (v := 1) d_Model_village_127 (by decide) ?_
                  exact j_iret (pc := 128) C hr rfl () trivial [2, 1, 3, 0, 4] rfl (by decide) (by decide) (by decide) d_Model_village_128
                · refine j_iconst (pc := 122) C (v := 4) d_Model_village_122 (by decide) ?_
                  refine j_goto (pc := 123) C (tgt := 127) d_Model_village_123 (by decide) ?_
                  refine j_iadd (pc := 127) C (v := 5) d_Model_village_127 (by decide) ?_
                  exact j_iret (pc := 128) C hr rfl () trivial [2, 1, 3, 0, 4] rfl (by decide) (by decide) (by decide) d_Model_village_128
              · refine j_iconst (pc := 106) C (v := 2) d_Model_village_106 (by decide) ?_
                refine j_goto (pc := 107) C (tgt := 111) d_Model_village_107 (by decide) ?_
                refine j_iadd (pc := 111) C (v := 3) d_Model_village_111 (by decide) ?_
                refine j_aload_n (pc := 112) C d_Model_village_112 rfl 1 rfl ?_
                refine j_iconst (pc := 113) C (v := 0) d_Model_village_113 (by decide) ?_
                refine j_iconst (pc := 114) C (v := 2) d_Model_village_114 (by decide) ?_
                refine j_iload_n (pc := 115) C d_Model_village_115 rfl 0 rfl ?_
                refine j_callVi (pc := 116) C (c_M_isAllowed l D y mo ma t1 i2 i3 i4 i5 i6 i7 i8 i42 i49 i51 i53 i54 i59 i61 i64 i66 t67 i76 i78 g46 g62 0 2 q4 (by omega) (by omega)) kw_Model_457 kv_Model_isAllowed 0 10 rfl rfl ⟨by decide, by decide⟩ ⟨by decide, by decide⟩ (wr := [(ma 47, .inl (y 0, 12, .inl g47)), (ma 43, .inl (y 0, 8, .inl g43))]) [2, 3, 4] [0, 1] rfl rfl (by decide) (by decide) (by decide) (As := [.int 0, .int 2, .int (nI q4)]) (rest := [.int 3]) rfl (nb rfl) rfl d_Model_village_116 (fun r22 _ hr22 => ?_)
                have xh23 := hr22
                refine j_ws (ws' := [(ma 47, .inl (y 0, 12, .inl g47)), (ma 43, .inl (y 0, 8, .inl g43)), MB mo ma (nI t1) i2 i3 i4 i5 i6 i7 i8 i42 i49 i51 i53 i54 i59 i61 i64 i66 (nI t67) i76 i78, (ma 46, .inl (y 0, 108, .inl g46)), (ma 62, .inl (y 0, 63, .inl g62))]) rfl ?_
                refine j_if_eq (pc := 119) C (tgt := 126) d_Model_village_119 (by decide) (fun c24 => ?_) (fun c24 => ?_)
                · refine j_iconst (pc := 126) C (v := 0) d_Model_village_126 (by decide) ?_
                  refine j_iadd (pc := 127) C (v := 3) d_Model_village_127 (by decide) ?_
                  exact j_iret (pc := 128) C hr rfl () trivial [2, 1, 3, 0, 4] rfl (by decide) (by decide) (by decide) d_Model_village_128
                · refine j_iconst (pc := 122) C (v := 4) d_Model_village_122 (by decide) ?_
                  refine j_goto (pc := 123) C (tgt := 127) d_Model_village_123 (by decide) ?_
                  refine j_iadd (pc := 127) C (v := 7) d_Model_village_127 (by decide) ?_
                  exact j_iret (pc := 128) C hr rfl () trivial [2, 1, 3, 0, 4] rfl (by decide) (by decide) (by decide) d_Model_village_128
            · refine j_tabOut (pc := 23) C (tgt := 129) d_Model_village_23 (by exact to_0_4 c7_0 c7_1 c7_2 c7_3 c7_4) (by decide) ?_
              refine j_ldcw (pc := 129) C (v := (-1000000000)) (mt_7 (List.mem_of_getElem? (i := 94) rfl) rfl) d_Model_village_129 ?_
              exact j_iret (pc := 132) C hr rfl () trivial [3, 4, 0, 1, 2] rfl (by decide) (by decide) (by decide) d_Model_village_132
theorem d_Model_served_0 : decode prog_13_method_80_code 0 = .ok (.iload_n 1, 1) := by decide +kernel
theorem d_Model_served_1 : decode prog_13_method_80_code 1 = .ok (.i2l, 1) := by decide +kernel
theorem d_Model_served_2 : decode prog_13_method_80_code 2 = .ok (.lconst 0, 1) := by decide +kernel
theorem d_Model_served_3 : decode prog_13_method_80_code 3 = .ok (.aload_n 0, 1) := by decide +kernel
theorem d_Model_served_4 : decode prog_13_method_80_code 4 = .ok (.getfield 117, 3) := by decide +kernel
theorem d_Model_served_7 : decode prog_13_method_80_code 7 = .ok (.bipush 6, 2) := by decide +kernel
theorem d_Model_served_9 : decode prog_13_method_80_code 9 = .ok (.iaload, 1) := by decide +kernel
theorem d_Model_served_10 : decode prog_13_method_80_code 10 = .ok (.iconst 1, 1) := by decide +kernel
theorem d_Model_served_11 : decode prog_13_method_80_code 11 = .ok (.isub, 1) := by decide +kernel
theorem d_Model_served_12 : decode prog_13_method_80_code 12 = .ok (.i2l, 1) := by decide +kernel
theorem d_Model_served_13 : decode prog_13_method_80_code 13 = .ok (.invokestatic 240, 3) := by decide +kernel
theorem d_Model_served_16 : decode prog_13_method_80_code 16 = .ok (.ifCond .eq 15, 3) := by decide +kernel
theorem d_Model_served_31 : decode prog_13_method_80_code 31 = .ok (.iconst (-1), 1) := by decide +kernel
theorem d_Model_served_32 : decode prog_13_method_80_code 32 = .ok (.ireturn, 1) := by decide +kernel
theorem d_Model_served_19 : decode prog_13_method_80_code 19 = .ok (.aload_n 0, 1) := by decide +kernel
theorem d_Model_served_20 : decode prog_13_method_80_code 20 = .ok (.getfield 158, 3) := by decide +kernel
theorem d_Model_served_23 : decode prog_13_method_80_code 23 = .ok (.bipush 47, 2) := by decide +kernel
theorem d_Model_served_25 : decode prog_13_method_80_code 25 = .ok (.iload_n 1, 1) := by decide +kernel
theorem d_Model_served_26 : decode prog_13_method_80_code 26 = .ok (.iadd, 1) := by decide +kernel
theorem d_Model_served_27 : decode prog_13_method_80_code 27 = .ok (.iaload, 1) := by decide +kernel
theorem d_Model_served_28 : decode prog_13_method_80_code 28 = .ok (.goto 4, 3) := by decide +kernel
set_option maxHeartbeats 4000000 in
set_option maxRecDepth 100000 in
theorem c_M_served (l : Launch) (D : va_G) (y : Nat → ClassId) (mo : Nat) (ma : Nat → Nat) (t1 : Nat) (i2 : Int32) (i3 : Int32) (i4 : Int32) (i5 : Int32) (i6 : Int32) (i7 : Int32) (i8 : Int32) (i42 : Int32) (i49 : Int32) (i51 : Int32) (i53 : Int32) (i54 : Int32) (i59 : Int32) (i61 : Int32) (i64 : Int32) (i66 : Int32) (t67 : Nat) (i76 : Int64) (i78 : Int32) (g43 : Nat → Int32) (g62 : Nat → Int32) (v : Int32) (c2 : Nat) (hc2 : g43 6 = nI c2) (bc2 : c2 ≤ 16) : CT l D y ⟨"NineBoardsModel", "served", "(I)I"⟩ prog_13_method_80_code 2 (some .int) ({ frames := 1, cells := 0, slots := 0, locals := 25 } : Room) [.ref mo, .int v] [MB mo ma (nI t1) i2 i3 i4 i5 i6 i7 i8 i42 i49 i51 i53 i54 i59 i61 i64 i66 (nI t67) i76 i78, (ma 43, .inl (y 0, 8, .inl g43)), (ma 62, .inl (y 0, 63, .inl g62))] (QI D [MB mo ma (nI t1) i2 i3 i4 i5 i6 i7 i8 i42 i49 i51 i53 i54 i59 i61 i64 i66 (nI t67) i76 i78, (ma 43, .inl (y 0, 8, .inl g43)), (ma 62, .inl (y 0, 63, .inl g62))] (fun (r : Int32) (u : Unit) => True) (fun _ => [MB mo ma (nI t1) i2 i3 i4 i5 i6 i7 i8 i42 i49 i51 i53 i54 i59 i61 i64 i66 (nI t67) i76 i78, (ma 43, .inl (y 0, 8, .inl g43)), (ma 62, .inl (y 0, 63, .inl g62))])) := by
  refine CT.of (by decide) (nb rfl) ?_
  intro p e s m args below meth c C hr
  refine j_lv (lv' := [(0, .ref mo), (1, .int v)]) rfl ?_
  refine j_iload_n (pc := 0) C d_Model_served_0 rfl 1 rfl ?_
  refine j_i2l (pc := 1) C (v := v.toInt64) d_Model_served_1 rfl ?_
  refine j_lconst (pc := 2) C (v := 0) d_Model_served_2 (by decide) ?_
  refine j_aload_n (pc := 3) C d_Model_served_3 rfl 0 rfl ?_
  refine j_get (pc := 4) C gf_Model_117 0 rfl rfl d_Model_served_4 ?_
  refine j_bipush (pc := 7) C (v := 6) d_Model_served_7 (by decide) ?_
  refine j_iald (pc := 9) C 1 rfl (v := nI c2) (vin (by decide)) (by exact hc2) d_Model_served_9 ?_
  refine j_iconst (pc := 10) C (v := 1) d_Model_served_10 (by decide) ?_
  refine j_isub (pc := 11) C (v := nI c2 - 1) d_Model_served_11 rfl ?_
  refine j_i2l (pc := 12) C (v := (nI c2 - 1).toInt64) d_Model_served_12 rfl ?_
  refine j_callSi (pc := 13) C (c_isIn_ix l D y v c2 (by omega)) kw_Model_240 ks_Model_isIn ⟨by decide, by decide⟩ ⟨by decide, by decide⟩ (wr := [MB mo ma (nI t1) i2 i3 i4 i5 i6 i7 i8 i42 i49 i51 i53 i54 i59 i61 i64 i66 (nI t67) i76 i78, (ma 43, .inl (y 0, 8, .inl g43)), (ma 62, .inl (y 0, 63, .inl g62))]) [] [0, 1, 2] rfl rfl (by decide) (by decide) (by decide) (As := [.long v.toInt64, .long 0, .long ((nI c2 - 1).toInt64)]) (rest := []) rfl (nb rfl) rfl d_Model_served_13 (fun r1 _ hr1 => ?_)
  refine j_ws (ws' := [MB mo ma (nI t1) i2 i3 i4 i5 i6 i7 i8 i42 i49 i51 i53 i54 i59 i61 i64 i66 (nI t67) i76 i78, (ma 43, .inl (y 0, 8, .inl g43)), (ma 62, .inl (y 0, 63, .inl g62))]) rfl ?_
  rcases hr1 with rfl | ⟨rfl, j2, xh3, rfl⟩
  · refine j_if_eqT (pc := 16) C (tgt := 31) d_Model_served_16 (by decide) (by decide) ?_
    refine j_iconst (pc := 31) C (v := (-1)) d_Model_served_31 (by decide) ?_
    exact j_iret (pc := 32) C hr rfl () trivial [0, 1, 2] rfl (by decide) (by decide) (by decide) d_Model_served_32
  · refine j_if_eqF (pc := 16) C (tgt := 31) d_Model_served_16 (by decide) (by decide) ?_
    refine j_aload_n (pc := 19) C d_Model_served_19 rfl 0 rfl ?_
    refine j_get (pc := 20) C gf_Model_158 0 rfl rfl d_Model_served_20 ?_
    refine j_bipush (pc := 23) C (v := 47) d_Model_served_23 (by decide) ?_
    refine j_iload_n (pc := 25) C d_Model_served_25 rfl 1 rfl ?_
    refine j_iadd (pc := 26) C (v := nI (47 + j2)) d_Model_served_26 (nI_add _ _) ?_
    refine j_iald (pc := 27) C 2 rfl (v := g62 (47 + j2)) (vp_in_nI (by omega) (by decide)) (by rw [nI_clamp (by omega)]) d_Model_served_27 ?_
    refine j_goto (pc := 28) C (tgt := 32) d_Model_served_28 (by decide) ?_
    exact j_iret (pc := 32) C hr rfl () trivial [0, 1, 2] rfl (by decide) (by decide) (by decide) d_Model_served_32
theorem d_Model_weather_0 : decode prog_13_method_84_code 0 = .ok (.iload_n 1, 1) := by decide +kernel
theorem d_Model_weather_1 : decode prog_13_method_84_code 1 = .ok (.i2l, 1) := by decide +kernel
theorem d_Model_weather_2 : decode prog_13_method_84_code 2 = .ok (.lconst 0, 1) := by decide +kernel
theorem d_Model_weather_3 : decode prog_13_method_84_code 3 = .ok (.ldc2_w 493, 3) := by decide +kernel
theorem d_Model_weather_6 : decode prog_13_method_84_code 6 = .ok (.invokestatic 240, 3) := by decide +kernel
theorem d_Model_weather_9 : decode prog_13_method_84_code 9 = .ok (.ifCond .eq 25, 3) := by decide +kernel
theorem d_Model_weather_34 : decode prog_13_method_84_code 34 = .ok (.iconst (-1), 1) := by decide +kernel
theorem d_Model_weather_35 : decode prog_13_method_84_code 35 = .ok (.ireturn, 1) := by decide +kernel
theorem d_Model_weather_12 : decode prog_13_method_84_code 12 = .ok (.iload_n 2, 1) := by decide +kernel
theorem d_Model_weather_13 : decode prog_13_method_84_code 13 = .ok (.i2l, 1) := by decide +kernel
theorem d_Model_weather_14 : decode prog_13_method_84_code 14 = .ok (.lconst 0, 1) := by decide +kernel
theorem d_Model_weather_15 : decode prog_13_method_84_code 15 = .ok (.ldc2_w 413, 3) := by decide +kernel
theorem d_Model_weather_18 : decode prog_13_method_84_code 18 = .ok (.invokestatic 240, 3) := by decide +kernel
theorem d_Model_weather_21 : decode prog_13_method_84_code 21 = .ok (.ifCond .eq 13, 3) := by decide +kernel
theorem d_Model_weather_24 : decode prog_13_method_84_code 24 = .ok (.aload_n 0, 1) := by decide +kernel
theorem d_Model_weather_25 : decode prog_13_method_84_code 25 = .ok (.iload_n 1, 1) := by decide +kernel
theorem d_Model_weather_26 : decode prog_13_method_84_code 26 = .ok (.iload_n 2, 1) := by decide +kernel
theorem d_Model_weather_27 : decode prog_13_method_84_code 27 = .ok (.iload_n 3, 1) := by decide +kernel
theorem d_Model_weather_28 : decode prog_13_method_84_code 28 = .ok (.invokevirtual 437, 3) := by decide +kernel
theorem d_Model_weather_31 : decode prog_13_method_84_code 31 = .ok (.goto 4, 3) := by decide +kernel
set_option maxHeartbeats 4000000 in
set_option maxRecDepth 100000 in
theorem c_M_weather (l : Launch) (D : va_G) (y : Nat → ClassId) (mo : Nat) (ma : Nat → Nat) (t1 : Nat) (i2 : Int32) (i3 : Int32) (i4 : Int32) (i5 : Int32) (i6 : Int32) (i7 : Int32) (i8 : Int32) (i42 : Int32) (i49 : Int32) (i51 : Int32) (i53 : Int32) (i54 : Int32) (i59 : Int32) (i61 : Int32) (i64 : Int32) (i66 : Int32) (t67 : Nat) (i76 : Int64) (i78 : Int32) (g43 : Nat → Int32) (g45 : Nat → Int32) (g50 : Nat → Int32) (g55 : Nat → Int32) (g56 : Nat → Int32) (g57 : Nat → Int32) (g58 : Nat → Int32) (g60 : Nat → Int64) (v1 : Int32) (v2 : Int32) (v3 : Int32) (c3 : Nat) (hc3 : g43 7 = nI c3) (bc3 : c3 ≤ 8) (hL : ¬ g45 7 = 0) (hC : ∀ k, 8 ≤ k → k < 8 + c3 → ∃ a b c, g56 k = nI a ∧ g57 k = nI b ∧ g58 k = nI c ∧ a ≤ b ∧ b ≤ c ∧ c ≤ 1600 ∧ (∃ q, dp g50 (1600 + a) (b - a) = some q) ∧ (∃ q, dp g50 (1600 + b) (c - b) = some q)) : CT l D y ⟨"NineBoardsModel", "weather", "(IIZ)I"⟩ prog_13_method_84_code 4 (some .int) ({ frames := 4, cells := 0, slots := 0, locals := 102 } : Room) [.ref mo, .int v1, .int v2, .int v3] [MB mo ma (nI t1) i2 i3 i4 i5 i6 i7 i8 i42 i49 i51 i53 i54 i59 i61 i64 i66 (nI t67) i76 i78, (ma 43, .inl (y 0, 8, .inl g43)), (ma 45, .inl (y 0, 14, .inl g45)), (ma 50, .inl (y 0, 3200, .inl g50)), (ma 55, .inl (y 2, 16, .inl g55)), (ma 56, .inl (y 0, 16, .inl g56)), (ma 57, .inl (y 0, 16, .inl g57)), (ma 58, .inl (y 0, 16, .inl g58)), (ma 60, .inl (y 1, 1700, .inr (.inl g60)))] (QI D [MB mo ma (nI t1) i2 i3 i4 i5 i6 i7 i8 i42 i49 i51 i53 i54 i59 i61 i64 i66 (nI t67) i76 i78, (ma 43, .inl (y 0, 8, .inl g43)), (ma 45, .inl (y 0, 14, .inl g45)), (ma 50, .inl (y 0, 3200, .inl g50)), (ma 55, .inl (y 2, 16, .inl g55)), (ma 56, .inl (y 0, 16, .inl g56)), (ma 57, .inl (y 0, 16, .inl g57)), (ma 58, .inl (y 0, 16, .inl g58)), (ma 60, .inl (y 1, 1700, .inr (.inl g60)))] (fun (r : Int32) (u : Int32 × (Nat → Int64)) => True) (fun u => [MB mo ma (nI t1) i2 i3 i4 i5 i6 i7 i8 i42 i49 i51 i53 i54 i59 u.1 i64 i66 (nI t67) i76 i78, (ma 43, .inl (y 0, 8, .inl g43)), (ma 45, .inl (y 0, 14, .inl g45)), (ma 50, .inl (y 0, 3200, .inl g50)), (ma 55, .inl (y 2, 16, .inl g55)), (ma 56, .inl (y 0, 16, .inl g56)), (ma 57, .inl (y 0, 16, .inl g57)), (ma 58, .inl (y 0, 16, .inl g58)), (ma 60, .inl (y 1, 1700, .inr (.inl u.2)))])) := by
  refine CT.of (by decide) (nb rfl) ?_
  intro p e s m args below meth c C hr
  refine j_lv (lv' := [(0, .ref mo), (1, .int v1), (2, .int v2), (3, .int v3)]) rfl ?_
  refine j_iload_n (pc := 0) C d_Model_weather_0 rfl 1 rfl ?_
  refine j_i2l (pc := 1) C (v := v1.toInt64) d_Model_weather_1 rfl ?_
  refine j_lconst (pc := 2) C (v := 0) d_Model_weather_2 (by decide) ?_
  refine j_ldc2 (pc := 3) C (v := 998) (mt_7 (List.mem_of_getElem? (i := 180) rfl) rfl) d_Model_weather_3 ?_
  refine j_callSi (pc := 6) C (c_isIn_0_998 l D y v1) kw_Model_240 ks_Model_isIn ⟨by decide, by decide⟩ ⟨by decide, by decide⟩ (wr := [MB mo ma (nI t1) i2 i3 i4 i5 i6 i7 i8 i42 i49 i51 i53 i54 i59 i61 i64 i66 (nI t67) i76 i78, (ma 43, .inl (y 0, 8, .inl g43)), (ma 45, .inl (y 0, 14, .inl g45)), (ma 50, .inl (y 0, 3200, .inl g50)), (ma 55, .inl (y 2, 16, .inl g55)), (ma 56, .inl (y 0, 16, .inl g56)), (ma 57, .inl (y 0, 16, .inl g57)), (ma 58, .inl (y 0, 16, .inl g58)), (ma 60, .inl (y 1, 1700, .inr (.inl g60)))]) [] [0, 1, 2, 3, 4, 5, 6, 7, 8] rfl rfl (by decide +kernel) (by decide +kernel) (by decide +kernel) (As := [.long v1.toInt64, .long 0, .long 998]) (rest := []) rfl (nb rfl) rfl d_Model_weather_6 (fun r1 _ hr1 => ?_)
  refine j_ws (ws' := [MB mo ma (nI t1) i2 i3 i4 i5 i6 i7 i8 i42 i49 i51 i53 i54 i59 i61 i64 i66 (nI t67) i76 i78, (ma 43, .inl (y 0, 8, .inl g43)), (ma 45, .inl (y 0, 14, .inl g45)), (ma 50, .inl (y 0, 3200, .inl g50)), (ma 55, .inl (y 2, 16, .inl g55)), (ma 56, .inl (y 0, 16, .inl g56)), (ma 57, .inl (y 0, 16, .inl g57)), (ma 58, .inl (y 0, 16, .inl g58)), (ma 60, .inl (y 1, 1700, .inr (.inl g60)))]) rfl ?_
  rcases hr1 with rfl | ⟨rfl, j2, xh3, rfl⟩
  · refine j_if_eqT (pc := 9) C (tgt := 34) d_Model_weather_9 (by decide) (by decide) ?_
    refine j_iconst (pc := 34) C (v := (-1)) d_Model_weather_34 (by decide) ?_
    exact j_iret (pc := 35) C hr rfl (i61, g60) trivial [0, 1, 2, 3, 4, 5, 6, 7, 8] rfl (by decide) (by decide) (by decide) d_Model_weather_35
  · refine j_if_eqF (pc := 9) C (tgt := 34) d_Model_weather_9 (by decide) (by decide) ?_
    refine j_iload_n (pc := 12) C d_Model_weather_12 rfl 2 rfl ?_
    refine j_i2l (pc := 13) C (v := v2.toInt64) d_Model_weather_13 rfl ?_
    refine j_lconst (pc := 14) C (v := 0) d_Model_weather_14 (by decide) ?_
    refine j_ldc2 (pc := 15) C (v := 9999) (mt_7 (List.mem_of_getElem? (i := 162) rfl) rfl) d_Model_weather_15 ?_
    refine j_callSi (pc := 18) C (c_isIn_0_9999 l D y v2) kw_Model_240 ks_Model_isIn ⟨by decide, by decide⟩ ⟨by decide, by decide⟩ (wr := [MB mo ma (nI t1) i2 i3 i4 i5 i6 i7 i8 i42 i49 i51 i53 i54 i59 i61 i64 i66 (nI t67) i76 i78, (ma 43, .inl (y 0, 8, .inl g43)), (ma 45, .inl (y 0, 14, .inl g45)), (ma 50, .inl (y 0, 3200, .inl g50)), (ma 55, .inl (y 2, 16, .inl g55)), (ma 56, .inl (y 0, 16, .inl g56)), (ma 57, .inl (y 0, 16, .inl g57)), (ma 58, .inl (y 0, 16, .inl g58)), (ma 60, .inl (y 1, 1700, .inr (.inl g60)))]) [] [0, 1, 2, 3, 4, 5, 6, 7, 8] rfl rfl (by decide +kernel) (by decide +kernel) (by decide +kernel) (As := [.long v2.toInt64, .long 0, .long 9999]) (rest := []) rfl (nb rfl) rfl d_Model_weather_18 (fun r4 _ hr4 => ?_)
    refine j_ws (ws' := [MB mo ma (nI t1) i2 i3 i4 i5 i6 i7 i8 i42 i49 i51 i53 i54 i59 i61 i64 i66 (nI t67) i76 i78, (ma 43, .inl (y 0, 8, .inl g43)), (ma 45, .inl (y 0, 14, .inl g45)), (ma 50, .inl (y 0, 3200, .inl g50)), (ma 55, .inl (y 2, 16, .inl g55)), (ma 56, .inl (y 0, 16, .inl g56)), (ma 57, .inl (y 0, 16, .inl g57)), (ma 58, .inl (y 0, 16, .inl g58)), (ma 60, .inl (y 1, 1700, .inr (.inl g60)))]) rfl ?_
    rcases hr4 with rfl | ⟨rfl, j5, xh6, rfl⟩
    · refine j_if_eqT (pc := 21) C (tgt := 34) d_Model_weather_21 (by decide) (by decide) ?_
      refine j_iconst (pc := 34) C (v := (-1)) d_Model_weather_34 (by decide) ?_
      exact j_iret (pc := 35) C hr rfl (i61, g60) trivial [0, 1, 2, 3, 4, 5, 6, 7, 8] rfl (by decide) (by decide) (by decide) d_Model_weather_35
    · refine j_if_eqF (pc := 21) C (tgt := 34) d_Model_weather_21 (by decide) (by decide) ?_
      refine j_aload_n (pc := 24) C d_Model_weather_24 rfl 0 rfl ?_
      refine j_iload_n (pc := 25) C d_Model_weather_25 rfl 1 rfl ?_
      refine j_iload_n (pc := 26) C d_Model_weather_26 rfl 2 rfl ?_
      refine j_iload_n (pc := 27) C d_Model_weather_27 rfl 3 rfl ?_
      refine j_callVi (pc := 28) C (c_M_weatherOf l D y mo ma t1 i2 i3 i4 i5 i6 i7 i8 i42 i49 i51 i53 i54 i59 i61 i64 i66 t67 i76 i78 g43 g45 g50 g55 g56 g57 g58 g60 (nI j2) (nI j5) v3 c3 hc3 bc3 hL hC) kw_Model_437 kv_Model_weatherOf 0 10 rfl rfl ⟨by decide, by decide⟩ ⟨by decide, by decide⟩ (wr := []) [0, 1, 2, 3, 4, 5, 6, 7, 8] [] rfl rfl (by decide +kernel) (by decide +kernel) (by decide +kernel) (As := [.int (nI j2), .int (nI j5), .int v3]) (rest := []) rfl (nb rfl) rfl d_Model_weather_28 (fun r7 u8 hr7 => ?_)
      refine j_ws (ws' := [MB mo ma (nI t1) i2 i3 i4 i5 i6 i7 i8 i42 i49 i51 i53 i54 i59 u8.1 i64 i66 (nI t67) i76 i78, (ma 43, .inl (y 0, 8, .inl g43)), (ma 45, .inl (y 0, 14, .inl g45)), (ma 50, .inl (y 0, 3200, .inl g50)), (ma 55, .inl (y 2, 16, .inl g55)), (ma 56, .inl (y 0, 16, .inl g56)), (ma 57, .inl (y 0, 16, .inl g57)), (ma 58, .inl (y 0, 16, .inl g58)), (ma 60, .inl (y 1, 1700, .inr (.inl u8.2)))]) rfl ?_
      refine j_goto (pc := 31) C (tgt := 35) d_Model_weather_31 (by decide) ?_
      exact j_iret (pc := 35) C hr rfl (u8.1, u8.2) trivial [0, 1, 2, 3, 4, 5, 6, 7, 8] rfl (by decide) (by decide) (by decide) d_Model_weather_35
