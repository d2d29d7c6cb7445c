set_option maxHeartbeats 4000000 in
set_option maxRecDepth 100000 in
theorem c_misGate (l : Launch) (D : va_G) (y : Nat → ClassId) (mo : Nat) (ma : Nat → Nat) (t1 : Nat) (i2 : Int32) (i3 : Int32) (i4 : Int32) (i5 : Int32) (i6 : Int32) (i7 : Int32) (i8 : Int32) (i42 : Int32) (i49 : Int32) (i51 : Int32) (i53 : Int32) (i54 : Int32) (i59 : Int32) (i61 : Int32) (i64 : Int32) (i66 : Int32) (t67 : Nat) (i76 : Int64) (i78 : Int32) (g43 : Nat → Int32) (v : Int32) (gt : LA_) (hto : TOQ gt) (hs_many : MC gt (fun j => g43 (4 + j))) : CT l D y ⟨"NineBoardsModel", "isGate", "(I)Z"⟩ prog_13_method_74_code 2 (some .boolean) ({ frames := 1, cells := 0, slots := 0, locals := 25 } : Room) [.ref mo, .int v] [MB mo ma (nI t1) i2 i3 i4 i5 i6 i7 i8 i42 i49 i51 i53 i54 i59 i61 i64 i66 (nI t67) i76 i78, (ma 43, .inl (y 0, 8, .inl g43))] (QI D [MB mo ma (nI t1) i2 i3 i4 i5 i6 i7 i8 i42 i49 i51 i53 i54 i59 i61 i64 i66 (nI t67) i76 i78, (ma 43, .inl (y 0, 8, .inl g43))] (fun (r : Int32) (u : Unit) => ((r = 0 ∧ ∀ j, j < gt.s 9 → ¬ v = nI j) ∨ (r = 1 ∧ ∃ j : Nat, j < gt.s 9 ∧ v = nI j))) (fun _ => [MB mo ma (nI t1) i2 i3 i4 i5 i6 i7 i8 i42 i49 i51 i53 i54 i59 i61 i64 i66 (nI t67) i76 i78, (ma 43, .inl (y 0, 8, .inl g43))])) := by
  refine CT.of (by decide) (nb rfl) ?_
  intro p e s m args below meth c C hr
  refine j_lv (lv' := [(0, .ref mo), (1, .int v)]) rfl ?_
  obtain ⟨_, _, _, _, b9, b4, b10, b11⟩ := id hs_many
  obtain ⟨b1, b1x, b2, b2x, b3, b5, b6, b7, b8⟩ := to_n hto
  refine j_iload_n (pc := 0) C d_Model_isGate_0 rfl 1 rfl ?_
  refine j_i2l (pc := 1) C (v := v.toInt64) d_Model_isGate_1 rfl ?_
  refine j_lconst (pc := 2) C (v := 0) d_Model_isGate_2 (by decide) ?_
  refine j_aload_n (pc := 3) C d_Model_isGate_3 rfl 0 rfl ?_
  refine j_callVi (pc := 4) C (c_mgateMany l D y mo ma t1 i2 i3 i4 i5 i6 i7 i8 i42 i49 i51 i53 i54 i59 i61 i64 i66 t67 i76 i78 g43 gt hs_many) kw_Model_341 kv_Model_gateMany 0 10 rfl rfl ⟨by decide, by decide⟩ ⟨by decide, by decide⟩ (wr := []) [0, 1] [] rfl rfl (by decide) (by decide) (by decide) (As := []) (rest := [.long 0, .long v.toInt64]) rfl (nb rfl) rfl d_Model_isGate_4 (fun r1 _ hr1 => ?_)
  obtain rfl := hr1
  refine j_ws (ws' := [MB mo ma (nI t1) i2 i3 i4 i5 i6 i7 i8 i42 i49 i51 i53 i54 i59 i61 i64 i66 (nI t67) i76 i78, (ma 43, .inl (y 0, 8, .inl g43))]) rfl ?_
  refine j_iconst (pc := 7) C (v := 1) d_Model_isGate_7 (by decide) ?_
  refine j_isub (pc := 8) C (v := (nI (gt.s 9) - 1)) d_Model_isGate_8 rfl ?_
  refine j_i2l (pc := 9) C (v := (nI (gt.s 9) - 1).toInt64) d_Model_isGate_9 rfl ?_
  refine j_callSi (pc := 10) C (c_isInx_ix l D y v (gt.s 9) (by omega)) kw_Model_240 ks_Model_isIn ⟨by decide, by decide⟩ ⟨by decide, by decide⟩ (wr := [MB mo ma (nI t1) i2 i3 i4 i5 i6 i7 i8 i42 i49 i51 i53 i54 i59 i61 i64 i66 (nI t67) i76 i78, (ma 43, .inl (y 0, 8, .inl g43))]) [] [0, 1] rfl rfl (by decide) (by decide) (by decide) (As := [.long v.toInt64, .long 0, .long ((nI (gt.s 9) - 1).toInt64)]) (rest := []) rfl (nb rfl) rfl d_Model_isGate_10 (fun r2 _ hr2 => ?_)
  refine j_ws (ws' := [MB mo ma (nI t1) i2 i3 i4 i5 i6 i7 i8 i42 i49 i51 i53 i54 i59 i61 i64 i66 (nI t67) i76 i78, (ma 43, .inl (y 0, 8, .inl g43))]) rfl ?_
  rcases hr2 with ⟨rfl, xh5⟩ | ⟨rfl, j3, xh4, rfl⟩
  · exact j_iret (pc := 13) C hr (by decide) () (Or.inl ⟨rfl, xh5⟩) [0, 1] rfl (by decide) (by decide) (by decide) d_Model_isGate_13
  · exact j_iret (pc := 13) C hr (by decide) () (Or.inr ⟨rfl, j3, xh4, rfl⟩) [0, 1] rfl (by decide) (by decide) (by decide) d_Model_isGate_13
set_option maxHeartbeats 4000000 in
set_option maxRecDepth 100000 in
theorem c_m_gate (l : Launch) (D : va_G) (y : Nat → ClassId) (mo : Nat) (ma : Nat → Nat) (t1 : Nat) (i2 : Int32) (i3 : Int32) (i4 : Int32) (i5 : Int32) (i6 : Int32) (i7 : Int32) (i8 : Int32) (i42 : Int32) (i49 : Int32) (i51 : Int32) (i53 : Int32) (i54 : Int32) (i59 : Int32) (i61 : Int32) (i64 : Int32) (i66 : Int32) (t67 : Nat) (i76 : Int64) (i78 : Int32) (g43 : Nat → Int32) (g45 : Nat → Int32) (g46 : Nat → Int32) (g62 : Nat → Int32) (g63 : Nat → Int32) (v1 : Int32) (v2 : Int32) (gt : LA_) (dy : Nat) (wa : Nat) (la : Nat) (bd : Nat → Nat) (fl : Nat → Nat) (st : Nat → Nat) (wo : Nat → Int) (ly : Nat → Int) (se : Nat → Nat) (su : Nat → Nat) (hto : TOQ gt) (hnw : NW g62 0 dy wa la bd fl st wo ly se su) (hs_many : MC gt (fun j => g43 (4 + j))) (hs_lake : LR gt (fun j => g45 (7 + j))) (hs_gates : GR gt (fun j => g46 (54 + j))) (hdy : dy ≤ 999) (hwa : wa ≤ 9999) (hla : la ≤ 2) (hbd : BN (gt.s 9) bd 20) : CT l D y ⟨"NineBoardsModel", "gate", "(II)I"⟩ prog_13_method_76_code 4 (some .int) ({ frames := 3, cells := 0, slots := 0, locals := 74 } : Room) [.ref mo, .int v1, .int v2] [MB mo ma (nI t1) i2 i3 i4 i5 i6 i7 i8 i42 i49 i51 i53 i54 i59 i61 i64 i66 (nI t67) i76 i78, (ma 43, .inl (y 0, 8, .inl g43)), (ma 45, .inl (y 0, 14, .inl g45)), (ma 46, .inl (y 0, 108, .inl g46)), (ma 62, .inl (y 0, 63, .inl g62)), (ma 63, .inl (y 0, 9, .inl g63))] (QI D [MB mo ma (nI t1) i2 i3 i4 i5 i6 i7 i8 i42 i49 i51 i53 i54 i59 i61 i64 i66 (nI t67) i76 i78, (ma 43, .inl (y 0, 8, .inl g43)), (ma 45, .inl (y 0, 14, .inl g45)), (ma 46, .inl (y 0, 108, .inl g46)), (ma 62, .inl (y 0, 63, .inl g62)), (ma 63, .inl (y 0, 9, .inl g63))] (fun (r : Int32) (u : Nat → Int32) => IDX (gt.s 9) v1 (-1) (gateV gt dy wa bd fl v2) r) (fun u => [MB mo ma (nI t1) i2 i3 i4 i5 i6 i7 i8 i42 i49 i51 i53 i54 i59 i61 i64 i66 (nI t67) i76 i78, (ma 43, .inl (y 0, 8, .inl g43)), (ma 45, .inl (y 0, 14, .inl g45)), (ma 46, .inl (y 0, 108, .inl g46)), (ma 62, .inl (y 0, 63, .inl g62)), (ma 63, .inl (y 0, 9, .inl u))])) := by
  refine CT.of (by decide) (nb rfl) ?_
  intro p e s m args below meth c C hr
  refine j_lv (lv' := [(0, .ref mo), (1, .int v1), (2, .int v2)]) rfl ?_
  obtain ⟨_, _, _, _, b9, b4, b10, b11⟩ := id hs_many
  obtain ⟨b1, b1x, b2, b2x, b3, b5, b6, b7, b8⟩ := to_n hto
  refine j_aload_n (pc := 0) C d_Model_gate_0 rfl 0 rfl ?_
  refine j_iload_n (pc := 1) C d_Model_gate_1 rfl 1 rfl ?_
  refine j_callVi (pc := 2) C (c_misGate l D y mo ma t1 i2 i3 i4 i5 i6 i7 i8 i42 i49 i51 i53 i54 i59 i61 i64 i66 t67 i76 i78 g43 v1 gt hto hs_many) kw_Model_465 kv_Model_isGate 0 10 rfl rfl ⟨by decide, by decide⟩ ⟨by decide, by decide⟩ (wr := [(ma 45, .inl (y 0, 14, .inl g45)), (ma 46, .inl (y 0, 108, .inl g46)), (ma 62, .inl (y 0, 63, .inl g62)), (ma 63, .inl (y 0, 9, .inl g63))]) [0, 1] [2, 3, 4, 5] rfl rfl (by decide +kernel) (by decide +kernel) (by decide +kernel) (As := [.int v1]) (rest := []) rfl (nb rfl) rfl d_Model_gate_2 (fun r1 _ hr1 => ?_)
  refine j_ws (ws' := [(ma 45, .inl (y 0, 14, .inl g45)), (ma 46, .inl (y 0, 108, .inl g46)), (ma 62, .inl (y 0, 63, .inl g62)), (ma 63, .inl (y 0, 9, .inl g63)), MB mo ma (nI t1) i2 i3 i4 i5 i6 i7 i8 i42 i49 i51 i53 i54 i59 i61 i64 i66 (nI t67) i76 i78, (ma 43, .inl (y 0, 8, .inl g43))]) rfl ?_
  rcases hr1 with ⟨rfl, xh4⟩ | ⟨rfl, j2, xh3, rfl⟩
  · refine j_if_neF (pc := 5) C (tgt := 10) d_Model_gate_5 (by decide) (by decide) ?_
    refine j_iconst (pc := 8) C (v := (-1)) d_Model_gate_8 (by decide) ?_
    exact j_iret (pc := 9) C hr rfl g63 (Or.inl ⟨rfl, xh4⟩) [4, 5, 0, 1, 2, 3] rfl (by decide) (by decide) (by decide) d_Model_gate_9
  · refine j_if_neT (pc := 5) C (tgt := 10) d_Model_gate_5 (by decide) (by decide) ?_
    refine j_iconst (pc := 10) C (v := 0) d_Model_gate_10 (by decide) ?_
    refine j_istore_n (pc := 11) C (lv' := [(3, .int 0), (0, .ref mo), (1, .int (nI j2)), (2, .int v2)]) d_Model_gate_11 rfl (by decide) rfl ?_
    refine j_iload_n (pc := 12) C d_Model_gate_12 rfl 3 rfl ?_
    by_cases c5_0 : v2 = 0
    · refine j_tabIn (pc := 13) C (off := 39) (tgt := 52) d_Model_gate_13 (by rw [c5_0]; decide) (by rw [c5_0]; decide) (by rw [c5_0]; decide) (by decide) ?_
      refine j_aload_n (pc := 52) C d_Model_gate_52 rfl 1 rfl ?_
      refine j_get (pc := 53) C gf_Model_127 4 rfl rfl d_Model_gate_53 ?_
      refine j_bipush (pc := 56) C (v := 54) d_Model_gate_56 (by decide) ?_
      refine j_bipush (pc := 58) C (v := 6) d_Model_gate_58 (by decide) ?_
      refine j_iload_n (pc := 60) C d_Model_gate_60 rfl 2 rfl ?_
      refine j_imul (pc := 61) C (v := nI (6 * j2)) d_Model_gate_61 (pk_mul _ _) ?_
      refine j_iadd (pc := 62) C (v := nI (54 + (6 * j2))) d_Model_gate_62 (nI_add _ _) ?_
      refine j_iald (pc := 63) C 1 rfl (v := nI (gt.r 1 j2)) (vp_in_nI (by omega) (by decide)) (by rw [nI_clamp (by omega)]; exact (gt_ix0 (G := g46) (j := j2)).trans (hs_gates j2 (by omega)).1) d_Model_gate_63 ?_
      exact j_iret (pc := 64) C hr rfl g63 (Or.inr ⟨j2, xh3, rfl, (by rw [c5_0]; exact rfl)⟩) [4, 5, 0, 1, 2, 3] rfl (by decide) (by decide) (by decide) d_Model_gate_64
    · by_cases c5_1 : v2 = 1
      · refine j_tabIn (pc := 13) C (off := 52) (tgt := 65) d_Model_gate_13 (by rw [c5_1]; decide) (by rw [c5_1]; decide) (by rw [c5_1]; decide) (by decide) ?_
        refine j_aload_n (pc := 65) C d_Model_gate_65 rfl 1 rfl ?_
        refine j_iload_n (pc := 66) C d_Model_gate_66 rfl 2 rfl ?_
        refine j_callVi (pc := 67) C (c_mboards l D y mo ma t1 i2 i3 i4 i5 i6 i7 i8 i42 i49 i51 i53 i54 i59 i61 i64 i66 t67 i76 i78 g62 j2 dy wa la bd fl st wo ly se su hnw (by omega)) kw_Model_421 kv_Model_boards 0 10 rfl rfl ⟨by decide, by decide⟩ ⟨by decide, by decide⟩ (wr := [(ma 45, .inl (y 0, 14, .inl g45)), (ma 46, .inl (y 0, 108, .inl g46)), (ma 63, .inl (y 0, 9, .inl g63)), (ma 43, .inl (y 0, 8, .inl g43))]) [4, 2] [0, 1, 3, 5] rfl rfl (by decide +kernel) (by decide +kernel) (by decide +kernel) (As := [.int (nI j2)]) (rest := []) rfl (nb rfl) rfl d_Model_gate_67 (fun r6 _ hr6 => ?_)
        obtain rfl := hr6
        refine j_ws (ws' := [(ma 45, .inl (y 0, 14, .inl g45)), (ma 46, .inl (y 0, 108, .inl g46)), (ma 63, .inl (y 0, 9, .inl g63)), (ma 43, .inl (y 0, 8, .inl g43)), MB mo ma (nI t1) i2 i3 i4 i5 i6 i7 i8 i42 i49 i51 i53 i54 i59 i61 i64 i66 (nI t67) i76 i78, (ma 62, .inl (y 0, 63, .inl g62))]) rfl ?_
        exact j_iret (pc := 70) C hr rfl g63 (Or.inr ⟨j2, xh3, rfl, (by rw [c5_1]; exact rfl)⟩) [4, 3, 0, 1, 5, 2] rfl (by decide) (by decide) (by decide) d_Model_gate_70
      · by_cases c5_2 : v2 = 2
        · refine j_tabIn (pc := 13) C (off := 58) (tgt := 71) d_Model_gate_13 (by rw [c5_2]; decide) (by rw [c5_2]; decide) (by rw [c5_2]; decide) (by decide) ?_
          refine j_aload_n (pc := 71) C d_Model_gate_71 rfl 1 rfl ?_
          refine j_get (pc := 72) C gf_Model_127 4 rfl rfl d_Model_gate_72 ?_
          refine j_bipush (pc := 75) C (v := 54) d_Model_gate_75 (by decide) ?_
          refine j_bipush (pc := 77) C (v := 6) d_Model_gate_77 (by decide) ?_
          refine j_iload_n (pc := 79) C d_Model_gate_79 rfl 2 rfl ?_
          refine j_imul (pc := 80) C (v := nI (6 * j2)) d_Model_gate_80 (pk_mul _ _) ?_
          refine j_iadd (pc := 81) C (v := nI (54 + (6 * j2))) d_Model_gate_81 (nI_add _ _) ?_
          refine j_iconst (pc := 82) C (v := 4) d_Model_gate_82 (by decide) ?_
          refine j_iadd (pc := 83) C (v := nI ((54 + (6 * j2)) + 4)) d_Model_gate_83 (nI_add _ _) ?_
          refine j_iald (pc := 84) C 1 rfl (v := nI (gt.r 5 j2)) (vp_in_nI (by omega) (by decide)) (by rw [nI_clamp (by omega)]; exact (gt_ix4 (G := g46) (j := j2)).trans (hs_gates j2 (by omega)).2.2.2.2.1) d_Model_gate_84 ?_
          exact j_iret (pc := 85) C hr rfl g63 (Or.inr ⟨j2, xh3, rfl, (by rw [c5_2]; exact rfl)⟩) [4, 5, 0, 1, 2, 3] rfl (by decide) (by decide) (by decide) d_Model_gate_85
        · by_cases c5_3 : v2 = 3
          · refine j_tabIn (pc := 13) C (off := 73) (tgt := 86) d_Model_gate_13 (by rw [c5_3]; decide) (by rw [c5_3]; decide) (by rw [c5_3]; decide) (by decide) ?_
            refine j_aload_n (pc := 86) C d_Model_gate_86 rfl 1 rfl ?_
            refine j_iload_n (pc := 87) C d_Model_gate_87 rfl 2 rfl ?_
            refine j_callVi (pc := 88) C (c_mjoinedTo l D y mo ma t1 i2 i3 i4 i5 i6 i7 i8 i42 i49 i51 i53 i54 i59 i61 i64 i66 t67 i76 i78 g46 j2 gt hto hs_gates (by omega) (by omega)) kw_Model_418 kv_Model_joinedTo 0 10 rfl rfl ⟨by decide, by decide⟩ ⟨by decide, by decide⟩ (wr := [(ma 45, .inl (y 0, 14, .inl g45)), (ma 62, .inl (y 0, 63, .inl g62)), (ma 63, .inl (y 0, 9, .inl g63)), (ma 43, .inl (y 0, 8, .inl g43))]) [4, 1] [0, 2, 3, 5] rfl rfl (by decide +kernel) (by decide +kernel) (by decide +kernel) (As := [.int (nI j2)]) (rest := []) rfl (nb rfl) rfl d_Model_gate_88 (fun r7 _ hr7 => ?_)
            refine j_ws (ws' := [(ma 45, .inl (y 0, 14, .inl g45)), (ma 62, .inl (y 0, 63, .inl g62)), (ma 63, .inl (y 0, 9, .inl g63)), (ma 43, .inl (y 0, 8, .inl g43)), MB mo ma (nI t1) i2 i3 i4 i5 i6 i7 i8 i42 i49 i51 i53 i54 i59 i61 i64 i66 (nI t67) i76 i78, (ma 46, .inl (y 0, 108, .inl g46))]) rfl ?_
            rcases hr7 with ⟨rfl, xh9⟩ | ⟨rfl, xh10, xh11⟩
            · exact j_iret (pc := 91) C hr rfl g63 (Or.inr ⟨j2, xh3, rfl, (by rw [c5_3]; exact (if_pos xh9).symm)⟩) [4, 3, 0, 5, 1, 2] rfl (by decide) (by decide) (by decide) d_Model_gate_91
            · exact j_iret (pc := 91) C hr rfl g63 (Or.inr ⟨j2, xh3, rfl, (by rw [c5_3]; exact (if_neg xh11).symm)⟩) [4, 3, 0, 5, 1, 2] rfl (by decide) (by decide) (by decide) d_Model_gate_91
          · by_cases c5_4 : v2 = 4
            · refine j_tabIn (pc := 13) C (off := 79) (tgt := 92) d_Model_gate_13 (by rw [c5_4]; decide) (by rw [c5_4]; decide) (by rw [c5_4]; decide) (by decide) ?_
              refine j_aload_n (pc := 92) C d_Model_gate_92 rfl 1 rfl ?_
              refine j_callVi (pc := 93) C (c_mflowsNow l D y mo ma t1 i2 i3 i4 i5 i6 i7 i8 i42 i49 i51 i53 i54 i59 i61 i64 i66 t67 i76 i78 g43 g45 g46 g62 g63 gt dy wa la bd fl st wo ly se su hto hnw hs_many hs_lake hs_gates hbd (by omega) hwa) kw_Model_434 kv_Model_flowsNow 0 10 rfl rfl ⟨by decide, by decide⟩ ⟨by decide, by decide⟩ (wr := []) [4, 5, 0, 1, 2, 3] [] rfl rfl (by decide +kernel) (by decide +kernel) (by decide +kernel) (As := []) (rest := []) rfl (nb rfl) rfl d_Model_gate_93 (fun r12 u13 hr12 => ?_)
              obtain ⟨rfl, xh14⟩ := hr12
              refine j_ws (ws' := [MB mo ma (nI t1) i2 i3 i4 i5 i6 i7 i8 i42 i49 i51 i53 i54 i59 i61 i64 i66 (nI t67) i76 i78, (ma 43, .inl (y 0, 8, .inl g43)), (ma 45, .inl (y 0, 14, .inl g45)), (ma 46, .inl (y 0, 108, .inl g46)), (ma 62, .inl (y 0, 63, .inl g62)), (ma 63, .inl (y 0, 9, .inl u13))]) rfl ?_
              refine j_istore_n (pc := 96) C (lv' := [(3, .int (nI (leftT gt bd (wa / gt.s 1) dy wa (gt.s 9)))), (0, .ref mo), (1, .int (nI j2)), (2, .int v2)]) d_Model_gate_96 rfl (by decide) rfl ?_
              refine j_aload_n (pc := 97) C d_Model_gate_97 rfl 1 rfl ?_
              refine j_get (pc := 98) C gf_Model_161 0 rfl rfl d_Model_gate_98 ?_
              refine j_iload_n (pc := 101) C d_Model_gate_101 rfl 2 rfl ?_
              refine j_iald (pc := 102) C 5 rfl (v := nI ((flowT gt bd (wa / gt.s 1) dy wa) j2)) (vp_in_nI (by omega) (by decide)) (by rw [nI_clamp (by omega)]; exact (xh14 j2 (by omega))) d_Model_gate_102 ?_
              exact j_iret (pc := 103) C hr rfl u13 (Or.inr ⟨j2, xh3, rfl, (by rw [c5_4]; exact rfl)⟩) [0, 1, 2, 3, 4, 5] rfl (by decide) (by decide) (by decide) d_Model_gate_103
            · by_cases c5_5 : v2 = 5
              · refine j_tabIn (pc := 13) C (off := 91) (tgt := 104) d_Model_gate_13 (by rw [c5_5]; decide) (by rw [c5_5]; decide) (by rw [c5_5]; decide) (by decide) ?_
                refine j_aload_n (pc := 104) C d_Model_gate_104 rfl 1 rfl ?_
                refine j_get (pc := 105) C gf_Model_158 4 rfl rfl d_Model_gate_105 ?_
                refine j_bipush (pc := 108) C (v := 12) d_Model_gate_108 (by decide) ?_
                refine j_iload_n (pc := 110) C d_Model_gate_110 rfl 2 rfl ?_
                refine j_iadd (pc := 111) C (v := nI (12 + j2)) d_Model_gate_111 (nI_add _ _) ?_
                refine j_iald (pc := 112) C 2 rfl (v := nI (fl j2)) (vp_in_nI (by omega) (by decide)) (by rw [nI_clamp (by omega)]; exact (nw_fl hnw j2 (by omega))) d_Model_gate_112 ?_
                exact j_iret (pc := 113) C hr rfl g63 (Or.inr ⟨j2, xh3, rfl, (by rw [c5_5]; exact rfl)⟩) [4, 5, 0, 1, 2, 3] rfl (by decide) (by decide) (by decide) d_Model_gate_113
              · refine j_tabOut (pc := 13) C (tgt := 114) d_Model_gate_13 (by exact to_0_5 c5_0 c5_1 c5_2 c5_3 c5_4 c5_5) (by decide) ?_
                refine j_iconst (pc := 114) C (v := (-1)) d_Model_gate_114 (by decide) ?_
                exact j_iret (pc := 115) C hr rfl g63 (Or.inr ⟨j2, xh3, rfl, (by unfold gateV; rw [if_neg c5_0, if_neg c5_1, if_neg c5_2, if_neg c5_3, if_neg c5_4, if_neg c5_5])⟩) [4, 5, 0, 1, 2, 3] rfl (by decide) (by decide) (by decide) d_Model_gate_115
