set_option maxHeartbeats 4000000 in
set_option maxRecDepth 100000 in
theorem c_misGate (l : Launch) (D : va_G) (y : Nat → ClassId) (mo : Nat) (ma : Nat → Nat) (t1 : Nat) (i2 : Int32) (i3 : Int32) (i4 : Int32) (i5 : Int32) (i6 : Int32) (i7 : Int32) (i8 : Int32) (i42 : Int32) (i49 : Int32) (i51 : Int32) (i53 : Int32) (i54 : Int32) (i59 : Int32) (i61 : Int32) (i64 : Int32) (i66 : Int32) (t67 : Nat) (i76 : Int64) (i78 : Int32) (g43 : Nat → Int32) (v : Int32) (gt : LA_) (hto : TOQ gt) (hs_many : MC gt (fun j => g43 (4 + j))) : CT l D y ⟨"NineBoardsModel", "isGate", "(I)Z"⟩ prog_13_method_74_code 2 (some .boolean) ({ frames := 1, cells := 0, slots := 0, locals := 25 } : Room) [.ref mo, .int v] [MB mo ma (nI t1) i2 i3 i4 i5 i6 i7 i8 i42 i49 i51 i53 i54 i59 i61 i64 i66 (nI t67) i76 i78, (ma 43, .inl (y 0, 8, .inl g43))] (QI D [MB mo ma (nI t1) i2 i3 i4 i5 i6 i7 i8 i42 i49 i51 i53 i54 i59 i61 i64 i66 (nI t67) i76 i78, (ma 43, .inl (y 0, 8, .inl g43))] (fun (r : Int32) (u : Unit) => ((r = 0 ∧ ∀ j, j < gt.s 9 → ¬ v = nI j) ∨ (r = 1 ∧ ∃ j : Nat, j < gt.s 9 ∧ v = nI j))) (fun _ => [MB mo ma (nI t1) i2 i3 i4 i5 i6 i7 i8 i42 i49 i51 i53 i54 i59 i61 i64 i66 (nI t67) i76 i78, (ma 43, .inl (y 0, 8, .inl g43))])) := by
  refine CT.of (by decide) (nb rfl) ?_
  intro p e s m args below meth c C hr
  refine j_lv (lv' := [(0, .ref mo), (1, .int v)]) rfl ?_
  obtain ⟨_, _, _, _, b9, b4, b10, b11⟩ := id hs_many
  obtain ⟨b1, b1x, b2, b2x, b3, b5, b6, b7, b8⟩ := to_n hto
  refine j_iload_n (pc := 0) C d_Model_isGate_0 rfl 1 rfl ?_
  refine j_i2l (pc := 1) C (v := v.toInt64) d_Model_isGate_1 rfl ?_
  refine j_lconst (pc := 2) C (v := 0) d_Model_isGate_2 (by decide) ?_
  refine j_aload_n (pc := 3) C d_Model_isGate_3 rfl 0 rfl ?_
  refine j_callVi (pc := 4) C (c_mgateMany l D y mo ma t1 i2 i3 i4 i5 i6 i7 i8 i42 i49 i51 i53 i54 i59 i61 i64 i66 t67 i76 i78 g43 gt hs_many) kw_Model_341 kv_Model_gateMany 0 10 rfl rfl ⟨by decide, by decide⟩ ⟨by decide, by decide⟩ (wr := []) [0, 1] [] rfl rfl (by decide) (by decide) (by decide) (As := []) (rest := [.long 0, .long v.toInt64]) rfl (nb rfl) rfl d_Model_isGate_4 (fun r1 _ hr1 => ?_)
  obtain rfl := hr1
  refine j_ws (ws' := [MB mo ma (nI t1) i2 i3 i4 i5 i6 i7 i8 i42 i49 i51 i53 i54 i59 i61 i64 i66 (nI t67) i76 i78, (ma 43, .inl (y 0, 8, .inl g43))]) rfl ?_
  refine j_iconst (pc := 7) C (v := 1) d_Model_isGate_7 (by decide) ?_
  refine j_isub (pc := 8) C (v := (nI (gt.s 9) - 1)) d_Model_isGate_8 rfl ?_
  refine j_i2l (pc := 9) C (v := (nI (gt.s 9) - 1).toInt64) d_Model_isGate_9 rfl ?_
  refine j_callSi (pc := 10) C (c_isInx_ix l D y v (gt.s 9) (by omega)) kw_Model_240 ks_Model_isIn ⟨by decide, by decide⟩ ⟨by decide, by decide⟩ (wr := [MB mo ma (nI t1) i2 i3 i4 i5 i6 i7 i8 i42 i49 i51 i53 i54 i59 i61 i64 i66 (nI t67) i76 i78, (ma 43, .inl (y 0, 8, .inl g43))]) [] [0, 1] rfl rfl (by decide) (by decide) (by decide) (As := [.long v.toInt64, .long 0, .long ((nI (gt.s 9) - 1).toInt64)]) (rest := []) rfl (nb rfl) rfl d_Model_isGate_10 (fun r2 _ hr2 => ?_)
  refine j_ws (ws' := [MB mo ma (nI t1) i2 i3 i4 i5 i6 i7 i8 i42 i49 i51 i53 i54 i59 i61 i64 i66 (nI t67) i76 i78, (ma 43, .inl (y 0, 8, .inl g43))]) rfl ?_
  rcases hr2 with ⟨rfl, xh5⟩ | ⟨rfl, j3, xh4, rfl⟩
  · exact j_iret (pc := 13) C hr (by decide) () (Or.inl ⟨rfl, xh5⟩) [0, 1] rfl (by decide) (by decide) (by decide) d_Model_isGate_13
  · exact j_iret (pc := 13) C hr (by decide) () (Or.inr ⟨rfl, j3, xh4, rfl⟩) [0, 1] rfl (by decide) (by decide) (by decide) d_Model_isGate_13
set_option maxHeartbeats 4000000 in
set_option maxRecDepth 100000 in
theorem c_m_has (l : Launch) (D : va_G) (y : Nat → ClassId) (mo : Nat) (ma : Nat → Nat) (t1 : Nat) (i2 : Int32) (i3 : Int32) (i4 : Int32) (i5 : Int32) (i6 : Int32) (i7 : Int32) (i8 : Int32) (i42 : Int32) (i49 : Int32) (i51 : Int32) (i53 : Int32) (i54 : Int32) (i59 : Int32) (i61 : Int32) (i64 : Int32) (cn : Nat) (t67 : Nat) (i76 : Int64) (i78 : Int32) (g43 : Nat → Int32) (g45 : Nat → Int32) (g62 : Nat → Int32) (v : Int32) (gt : LA_) (dy : Nat) (wa : Nat) (la : Nat) (bd : Nat → Nat) (fl : Nat → Nat) (st : Nat → Nat) (wo : Nat → Int) (ly : Nat → Int) (se : Nat → Nat) (su : Nat → Nat) (hto : TOQ gt) (hnw : NW g62 0 dy wa la bd fl st wo ly se su) (hs_many : MC gt (fun j => g43 (4 + j))) (hs_lake : LR gt (fun j => g45 (7 + j))) (hwa : wa ≤ 9999) : CT l D y ⟨"NineBoardsModel", "has", "(I)I"⟩ prog_13_method_72_code 2 (some .int) ({ frames := 1, cells := 0, slots := 0, locals := 20 } : Room) [.ref mo, .int v] [MB mo ma (nI t1) i2 i3 i4 i5 i6 i7 i8 i42 i49 i51 i53 i54 i59 i61 i64 (nI cn) (nI t67) i76 i78, (ma 43, .inl (y 0, 8, .inl g43)), (ma 45, .inl (y 0, 14, .inl g45)), (ma 62, .inl (y 0, 63, .inl g62))] (QI D [MB mo ma (nI t1) i2 i3 i4 i5 i6 i7 i8 i42 i49 i51 i53 i54 i59 i61 i64 (nI cn) (nI t67) i76 i78, (ma 43, .inl (y 0, 8, .inl g43)), (ma 45, .inl (y 0, 14, .inl g45)), (ma 62, .inl (y 0, 63, .inl g62))] (fun (r : Int32) (u : Unit) => r = hasV gt dy wa la cn v) (fun _ => [MB mo ma (nI t1) i2 i3 i4 i5 i6 i7 i8 i42 i49 i51 i53 i54 i59 i61 i64 (nI cn) (nI t67) i76 i78, (ma 43, .inl (y 0, 8, .inl g43)), (ma 45, .inl (y 0, 14, .inl g45)), (ma 62, .inl (y 0, 63, .inl g62))])) := by
  refine CT.of (by decide) (nb rfl) ?_
  intro p e s m args below meth c C hr
  refine j_lv (lv' := [(0, .ref mo), (1, .int v)]) rfl ?_
  obtain ⟨_, _, _, _, b9, b4, b10, b11⟩ := id hs_many
  obtain ⟨b1, b1x, b2, b2x, b3, b5, b6, b7, b8⟩ := to_n hto
  refine j_iload_n (pc := 0) C d_Model_has_0 rfl 1 rfl ?_
  by_cases c1_0 : v = 0
  · refine j_tabIn (pc := 1) C (off := 51) (tgt := 52) d_Model_has_1 (by rw [c1_0]; decide) (by rw [c1_0]; decide) (by rw [c1_0]; decide) (by decide) ?_
    refine j_aload_n (pc := 52) C d_Model_has_52 rfl 0 rfl ?_
    refine j_callVi (pc := 53) C (c_mgateMany l D y mo ma t1 i2 i3 i4 i5 i6 i7 i8 i42 i49 i51 i53 i54 i59 i61 i64 (nI cn) t67 i76 i78 g43 gt hs_many) kw_Model_341 kv_Model_gateMany 0 10 rfl rfl ⟨by decide, by decide⟩ ⟨by decide, by decide⟩ (wr := [(ma 45, .inl (y 0, 14, .inl g45)), (ma 62, .inl (y 0, 63, .inl g62))]) [0, 1] [2, 3] rfl rfl (by decide) (by decide) (by decide) (As := []) (rest := []) rfl (nb rfl) rfl d_Model_has_53 (fun r2 _ hr2 => ?_)
    obtain rfl := hr2
    refine j_ws (ws' := [(ma 45, .inl (y 0, 14, .inl g45)), (ma 62, .inl (y 0, 63, .inl g62)), MB mo ma (nI t1) i2 i3 i4 i5 i6 i7 i8 i42 i49 i51 i53 i54 i59 i61 i64 (nI cn) (nI t67) i76 i78, (ma 43, .inl (y 0, 8, .inl g43))]) rfl ?_
    exact j_iret (pc := 56) C hr rfl () (by rw [c1_0]; rfl) [2, 3, 0, 1] rfl (by decide) (by decide) (by decide) d_Model_has_56
  · by_cases c1_1 : v = 1
    · refine j_tabIn (pc := 1) C (off := 56) (tgt := 57) d_Model_has_1 (by rw [c1_1]; decide) (by rw [c1_1]; decide) (by rw [c1_1]; decide) (by decide) ?_
      refine j_aload_n (pc := 57) C d_Model_has_57 rfl 0 rfl ?_
      refine j_callVi (pc := 58) C (c_mvillages l D y mo ma t1 i2 i3 i4 i5 i6 i7 i8 i42 i49 i51 i53 i54 i59 i61 i64 (nI cn) t67 i76 i78 g43 gt hs_many) kw_Model_448 kv_Model_villages 0 10 rfl rfl ⟨by decide, by decide⟩ ⟨by decide, by decide⟩ (wr := [(ma 45, .inl (y 0, 14, .inl g45)), (ma 62, .inl (y 0, 63, .inl g62))]) [0, 1] [2, 3] rfl rfl (by decide) (by decide) (by decide) (As := []) (rest := []) rfl (nb rfl) rfl d_Model_has_58 (fun r3 _ hr3 => ?_)
      obtain rfl := hr3
      refine j_ws (ws' := [(ma 45, .inl (y 0, 14, .inl g45)), (ma 62, .inl (y 0, 63, .inl g62)), MB mo ma (nI t1) i2 i3 i4 i5 i6 i7 i8 i42 i49 i51 i53 i54 i59 i61 i64 (nI cn) (nI t67) i76 i78, (ma 43, .inl (y 0, 8, .inl g43))]) rfl ?_
      exact j_iret (pc := 61) C hr rfl () (by rw [c1_1]; rfl) [2, 3, 0, 1] rfl (by decide) (by decide) (by decide) d_Model_has_61
    · by_cases c1_2 : v = 2
      · refine j_tabIn (pc := 1) C (off := 61) (tgt := 62) d_Model_has_1 (by rw [c1_2]; decide) (by rw [c1_2]; decide) (by rw [c1_2]; decide) (by decide) ?_
        refine j_aload_n (pc := 62) C d_Model_has_62 rfl 0 rfl ?_
        refine j_get (pc := 63) C gf_Model_117 0 rfl rfl d_Model_has_63 ?_
        refine j_bipush (pc := 66) C (v := 6) d_Model_has_66 (by decide) ?_
        refine j_iald (pc := 68) C 1 rfl (v := nI (gt.s 10)) (vin (by decide)) (hs_many.2.2.1) d_Model_has_68 ?_
        exact j_iret (pc := 69) C hr rfl () (by rw [c1_2]; rfl) [0, 1, 2, 3] rfl (by decide) (by decide) (by decide) d_Model_has_69
      · by_cases c1_3 : v = 3
        · refine j_tabIn (pc := 1) C (off := 69) (tgt := 70) d_Model_has_1 (by rw [c1_3]; decide) (by rw [c1_3]; decide) (by rw [c1_3]; decide) (by decide) ?_
          refine j_aload_n (pc := 70) C d_Model_has_70 rfl 0 rfl ?_
          refine j_get (pc := 71) C gf_Model_117 0 rfl rfl d_Model_has_71 ?_
          refine j_bipush (pc := 74) C (v := 7) d_Model_has_74 (by decide) ?_
          refine j_iald (pc := 76) C 1 rfl (v := nI (gt.s 11)) (vin (by decide)) (hs_many.2.2.2.1) d_Model_has_76 ?_
          exact j_iret (pc := 77) C hr rfl () (by rw [c1_3]; rfl) [0, 1, 2, 3] rfl (by decide) (by decide) (by decide) d_Model_has_77
        · by_cases c1_4 : v = 4
          · refine j_tabIn (pc := 1) C (off := 77) (tgt := 78) d_Model_has_1 (by rw [c1_4]; decide) (by rw [c1_4]; decide) (by rw [c1_4]; decide) (by decide) ?_
            refine j_aload_n (pc := 78) C d_Model_has_78 rfl 0 rfl ?_
            refine j_get (pc := 79) C gf_Model_158 0 rfl rfl d_Model_has_79 ?_
            refine j_iconst (pc := 82) C (v := 0) d_Model_has_82 (by decide) ?_
            refine j_iald (pc := 83) C 3 rfl (v := nI dy) (vin (by decide)) (nw_dy hnw) d_Model_has_83 ?_
            exact j_iret (pc := 84) C hr rfl () (by rw [c1_4]; rfl) [0, 1, 2, 3] rfl (by decide) (by decide) (by decide) d_Model_has_84
          · by_cases c1_5 : v = 5
            · refine j_tabIn (pc := 1) C (off := 84) (tgt := 85) d_Model_has_1 (by rw [c1_5]; decide) (by rw [c1_5]; decide) (by rw [c1_5]; decide) (by decide) ?_
              refine j_aload_n (pc := 85) C d_Model_has_85 rfl 0 rfl ?_
              refine j_get (pc := 86) C gf_Model_158 0 rfl rfl d_Model_has_86 ?_
              refine j_iconst (pc := 89) C (v := 1) d_Model_has_89 (by decide) ?_
              refine j_iald (pc := 90) C 3 rfl (v := nI wa) (vin (by decide)) (nw_wa hnw) d_Model_has_90 ?_
              exact j_iret (pc := 91) C hr rfl () (by rw [c1_5]; rfl) [0, 1, 2, 3] rfl (by decide) (by decide) (by decide) d_Model_has_91
            · by_cases c1_6 : v = 6
              · refine j_tabIn (pc := 1) C (off := 91) (tgt := 92) d_Model_has_1 (by rw [c1_6]; decide) (by rw [c1_6]; decide) (by rw [c1_6]; decide) (by decide) ?_
                refine j_aload_n (pc := 92) C d_Model_has_92 rfl 0 rfl ?_
                refine j_callVi (pc := 93) C (c_mlevel l D y mo ma t1 i2 i3 i4 i5 i6 i7 i8 i42 i49 i51 i53 i54 i59 i61 i64 (nI cn) t67 i76 i78 g45 g62 gt dy wa la bd fl st wo ly se su hto hnw hs_lake hwa) kw_Model_427 kv_Model_level 0 10 rfl rfl ⟨by decide, by decide⟩ ⟨by decide, by decide⟩ (wr := [(ma 43, .inl (y 0, 8, .inl g43))]) [0, 2, 3] [1] rfl rfl (by decide) (by decide) (by decide) (As := []) (rest := []) rfl (nb rfl) rfl d_Model_has_93 (fun r4 _ hr4 => ?_)
                obtain rfl := hr4
                refine j_ws (ws' := [(ma 43, .inl (y 0, 8, .inl g43)), MB mo ma (nI t1) i2 i3 i4 i5 i6 i7 i8 i42 i49 i51 i53 i54 i59 i61 i64 (nI cn) (nI t67) i76 i78, (ma 45, .inl (y 0, 14, .inl g45)), (ma 62, .inl (y 0, 63, .inl g62))]) rfl ?_
                exact j_iret (pc := 96) C hr rfl () (by rw [c1_6]; rfl) [1, 0, 2, 3] rfl (by decide) (by decide) (by decide) d_Model_has_96
              · by_cases c1_7 : v = 7
                · refine j_tabIn (pc := 1) C (off := 96) (tgt := 97) d_Model_has_1 (by rw [c1_7]; decide) (by rw [c1_7]; decide) (by rw [c1_7]; decide) (by decide) ?_
                  refine j_aload_n (pc := 97) C d_Model_has_97 rfl 0 rfl ?_
                  refine j_get (pc := 98) C gf_Model_158 0 rfl rfl d_Model_has_98 ?_
                  refine j_iconst (pc := 101) C (v := 2) d_Model_has_101 (by decide) ?_
                  refine j_iald (pc := 102) C 3 rfl (v := nI la) (vin (by decide)) (nw_la hnw) d_Model_has_102 ?_
                  exact j_iret (pc := 103) C hr rfl () (by rw [c1_7]; rfl) [0, 1, 2, 3] rfl (by decide) (by decide) (by decide) d_Model_has_103
                · by_cases c1_8 : v = 8
                  · refine j_tabIn (pc := 1) C (off := 103) (tgt := 104) d_Model_has_1 (by rw [c1_8]; decide) (by rw [c1_8]; decide) (by rw [c1_8]; decide) (by decide) ?_
                    refine j_aload_n (pc := 104) C d_Model_has_104 rfl 0 rfl ?_
                    refine j_get (pc := 105) C gf_Model_415 0 rfl rfl d_Model_has_105 ?_
                    exact j_iret (pc := 108) C hr rfl () (by rw [c1_8]; rfl) [0, 1, 2, 3] rfl (by decide) (by decide) (by decide) d_Model_has_108
                  · refine j_tabOut (pc := 1) C (tgt := 109) d_Model_has_1 (by exact to_0_8 c1_0 c1_1 c1_2 c1_3 c1_4 c1_5 c1_6 c1_7 c1_8) (by decide) ?_
                    refine j_iconst (pc := 109) C (v := (-1)) d_Model_has_109 (by decide) ?_
                    exact j_iret (pc := 110) C hr rfl () (by unfold hasV; rw [if_neg c1_0, if_neg c1_1, if_neg c1_2, if_neg c1_3, if_neg c1_4, if_neg c1_5, if_neg c1_6, if_neg c1_7, if_neg c1_8]) [0, 1, 2, 3] rfl (by decide) (by decide) (by decide) d_Model_has_110
