set_option maxHeartbeats 4000000 in
set_option maxRecDepth 100000 in
theorem c_misInN (l : Launch) (D : va_G) (y : Nat → ClassId) (aq : Nat) (bq : Nat) (cq : Nat) (ha : aq < 2147483648) (hb : bq < 2147483648) (hc : cq < 2147483648) : CT l D y ⟨"NineBoardsModel", "isIn", "(JJJ)Z"⟩ prog_13_method_2_code 6 (some .boolean) ({ frames := 0, cells := 0, slots := 0, locals := 0 } : Room) [.long (nL aq), .long (nL bq), .long (nL cq)] [] (QI D [] (fun (r : Int32) (u : Unit) => ((r = 1 ∧ (bq ≤ aq ∧ aq ≤ cq)) ∨ (r = 0 ∧ ¬ (bq ≤ aq ∧ aq ≤ cq)))) (fun _ => [])) := by
  refine CT.of (by decide) (nb rfl) ?_
  intro p e s m args below meth c C hr
  refine j_lv (lv' := [(0, .long (nL aq)), (2, .long (nL bq)), (4, .long (nL cq))]) rfl ?_
  refine j_lload_n (pc := 0) C d_Model_isIn_0 rfl 0 rfl ?_
  refine j_lload_n (pc := 1) C d_Model_isIn_1 rfl 1 rfl ?_
  refine j_lcmp (pc := 2) C (v := lg_cmp (nL aq) (nL bq)) d_Model_isIn_2 rfl ?_
  by_cases c2 : aq < bq
  · refine j_if_ltT (pc := 3) C (tgt := 17) d_Model_isIn_3 (by decide) ((nc_lt (a := aq) (b := bq) (by omega) (by omega)).mpr c2) ?_
    refine j_iconst (pc := 17) C (v := 0) d_Model_isIn_17 (by decide) ?_
    exact j_iret (pc := 18) C hr (by decide) () (Or.inr ⟨rfl, by omega⟩) [] rfl (by decide) (by decide) (by decide) d_Model_isIn_18
  · refine j_if_ltF (pc := 3) C (tgt := 17) d_Model_isIn_3 (by decide) (fun e => c2 ((nc_lt (a := aq) (b := bq) (by omega) (by omega)).mp e)) ?_
    refine j_lload_n (pc := 6) C d_Model_isIn_6 rfl 0 rfl ?_
    refine j_lload (pc := 7) C d_Model_isIn_7 2 rfl ?_
    refine j_lcmp (pc := 9) C (v := lg_cmp (nL aq) (nL cq)) d_Model_isIn_9 rfl ?_
    by_cases c4 : cq < aq
    · refine j_if_gtT (pc := 10) C (tgt := 17) d_Model_isIn_10 (by decide) ((nc_gt (a := aq) (b := cq) (by omega) (by omega)).mpr c4) ?_
      refine j_iconst (pc := 17) C (v := 0) d_Model_isIn_17 (by decide) ?_
      exact j_iret (pc := 18) C hr (by decide) () (Or.inr ⟨rfl, by omega⟩) [] rfl (by decide) (by decide) (by decide) d_Model_isIn_18
    · refine j_if_gtF (pc := 10) C (tgt := 17) d_Model_isIn_10 (by decide) (fun e => c4 ((nc_gt (a := aq) (b := cq) (by omega) (by omega)).mp e)) ?_
      refine j_iconst (pc := 13) C (v := 1) d_Model_isIn_13 (by decide) ?_
      refine j_goto (pc := 14) C (tgt := 18) d_Model_isIn_14 (by decide) ?_
      exact j_iret (pc := 18) C hr (by decide) () (Or.inl ⟨rfl, by omega⟩) [] rfl (by decide) (by decide) (by decide) d_Model_isIn_18
set_option maxHeartbeats 4000000 in
set_option maxRecDepth 100000 in
theorem c_mgateMany (l : Launch) (D : va_G) (y : Nat → ClassId) (mo : Nat) (ma : Nat → Nat) (t1 : Nat) (i2 : Int32) (i3 : Int32) (i4 : Int32) (i5 : Int32) (i6 : Int32) (i7 : Int32) (i8 : Int32) (i42 : Int32) (i49 : Int32) (i51 : Int32) (i53 : Int32) (i54 : Int32) (i59 : Int32) (i61 : Int32) (i64 : Int32) (i66 : Int32) (t67 : Nat) (i76 : Int64) (i78 : Int32) (g43 : Nat → Int32) (gt : LA_) (hs_many : MC gt (fun j => g43 (4 + j))) : CT l D y ⟨"NineBoardsModel", "gateMany", "()I"⟩ prog_13_method_54_code 1 (some .int) ({ frames := 0, cells := 0, slots := 0, locals := 0 } : Room) [.ref mo] [MB mo ma (nI t1) i2 i3 i4 i5 i6 i7 i8 i42 i49 i51 i53 i54 i59 i61 i64 i66 (nI t67) i76 i78, (ma 43, .inl (y 0, 8, .inl g43))] (QI D [MB mo ma (nI t1) i2 i3 i4 i5 i6 i7 i8 i42 i49 i51 i53 i54 i59 i61 i64 i66 (nI t67) i76 i78, (ma 43, .inl (y 0, 8, .inl g43))] (fun (r : Int32) (u : Unit) => r = nI (gt.s 9)) (fun _ => [MB mo ma (nI t1) i2 i3 i4 i5 i6 i7 i8 i42 i49 i51 i53 i54 i59 i61 i64 i66 (nI t67) i76 i78, (ma 43, .inl (y 0, 8, .inl g43))])) := by
  refine CT.of (by decide) (nb rfl) ?_
  intro p e s m args below meth c C hr
  refine j_lv (lv' := [(0, .ref mo)]) rfl ?_
  obtain ⟨_, _, _, _, b9, b4, b10, b11⟩ := id hs_many
  refine j_aload_n (pc := 0) C d_Model_gateMany_0 rfl 0 rfl ?_
  refine j_get (pc := 1) C gf_Model_117 0 rfl rfl d_Model_gateMany_1 ?_
  refine j_iconst (pc := 4) C (v := 4) d_Model_gateMany_4 (by decide) ?_
  refine j_iald (pc := 5) C 1 rfl (v := nI (gt.s 9)) (vin (by decide)) (hs_many.1) d_Model_gateMany_5 ?_
  exact j_iret (pc := 6) C hr rfl () rfl [0, 1] rfl (by decide) (by decide) (by decide) d_Model_gateMany_6
set_option maxHeartbeats 4000000 in
set_option maxRecDepth 100000 in
theorem c_mvillages (l : Launch) (D : va_G) (y : Nat → ClassId) (mo : Nat) (ma : Nat → Nat) (t1 : Nat) (i2 : Int32) (i3 : Int32) (i4 : Int32) (i5 : Int32) (i6 : Int32) (i7 : Int32) (i8 : Int32) (i42 : Int32) (i49 : Int32) (i51 : Int32) (i53 : Int32) (i54 : Int32) (i59 : Int32) (i61 : Int32) (i64 : Int32) (i66 : Int32) (t67 : Nat) (i76 : Int64) (i78 : Int32) (g43 : Nat → Int32) (gt : LA_) (hs_many : MC gt (fun j => g43 (4 + j))) : CT l D y ⟨"NineBoardsModel", "villages", "()I"⟩ prog_13_method_55_code 1 (some .int) ({ frames := 0, cells := 0, slots := 0, locals := 0 } : Room) [.ref mo] [MB mo ma (nI t1) i2 i3 i4 i5 i6 i7 i8 i42 i49 i51 i53 i54 i59 i61 i64 i66 (nI t67) i76 i78, (ma 43, .inl (y 0, 8, .inl g43))] (QI D [MB mo ma (nI t1) i2 i3 i4 i5 i6 i7 i8 i42 i49 i51 i53 i54 i59 i61 i64 i66 (nI t67) i76 i78, (ma 43, .inl (y 0, 8, .inl g43))] (fun (r : Int32) (u : Unit) => r = nI (gt.s 4)) (fun _ => [MB mo ma (nI t1) i2 i3 i4 i5 i6 i7 i8 i42 i49 i51 i53 i54 i59 i61 i64 i66 (nI t67) i76 i78, (ma 43, .inl (y 0, 8, .inl g43))])) := by
  refine CT.of (by decide) (nb rfl) ?_
  intro p e s m args below meth c C hr
  refine j_lv (lv' := [(0, .ref mo)]) rfl ?_
  obtain ⟨_, _, _, _, b9, b4, b10, b11⟩ := id hs_many
  refine j_aload_n (pc := 0) C d_Model_villages_0 rfl 0 rfl ?_
  refine j_get (pc := 1) C gf_Model_117 0 rfl rfl d_Model_villages_1 ?_
  refine j_iconst (pc := 4) C (v := 5) d_Model_villages_4 (by decide) ?_
  refine j_iald (pc := 5) C 1 rfl (v := nI (gt.s 4)) (vin (by decide)) (hs_many.2.1) d_Model_villages_5 ?_
  exact j_iret (pc := 6) C hr rfl () rfl [0, 1] rfl (by decide) (by decide) (by decide) d_Model_villages_6
set_option maxHeartbeats 4000000 in
set_option maxRecDepth 100000 in
theorem c_mjoinedTo (l : Launch) (D : va_G) (y : Nat → ClassId) (mo : Nat) (ma : Nat → Nat) (t1 : Nat) (i2 : Int32) (i3 : Int32) (i4 : Int32) (i5 : Int32) (i6 : Int32) (i7 : Int32) (i8 : Int32) (i42 : Int32) (i49 : Int32) (i51 : Int32) (i53 : Int32) (i54 : Int32) (i59 : Int32) (i61 : Int32) (i64 : Int32) (i66 : Int32) (t67 : Nat) (i76 : Int64) (i78 : Int32) (g46 : Nat → Int32) (gq : Nat) (gt : LA_) (hto : TOQ gt) (hs_gates : GR gt (fun j => g46 (54 + j))) (hg : gq < gt.s 9) (h9 : gt.s 9 ≤ 9) : CT l D y ⟨"NineBoardsModel", "joinedTo", "(I)I"⟩ prog_13_method_56_code 2 (some .int) ({ frames := 0, cells := 0, slots := 0, locals := 0 } : Room) [.ref mo, .int (nI gq)] [MB mo ma (nI t1) i2 i3 i4 i5 i6 i7 i8 i42 i49 i51 i53 i54 i59 i61 i64 i66 (nI t67) i76 i78, (ma 46, .inl (y 0, 108, .inl g46))] (QI D [MB mo ma (nI t1) i2 i3 i4 i5 i6 i7 i8 i42 i49 i51 i53 i54 i59 i61 i64 i66 (nI t67) i76 i78, (ma 46, .inl (y 0, 108, .inl g46))] (fun (r : Int32) (u : Unit) => ((r = -1 ∧ gt.r 6 gq = 0) ∨ (r = nI (gt.r 6 gq - 1) ∧ (gt.r 6 gq ≤ gt.s 9 ∧ ¬ gt.r 6 gq = gq + 1) ∧ ¬ gt.r 6 gq = 0))) (fun _ => [MB mo ma (nI t1) i2 i3 i4 i5 i6 i7 i8 i42 i49 i51 i53 i54 i59 i61 i64 i66 (nI t67) i76 i78, (ma 46, .inl (y 0, 108, .inl g46))])) := by
  refine CT.of (by decide) (nb rfl) ?_
  intro p e s m args below meth c C hr
  refine j_lv (lv' := [(0, .ref mo), (1, .int (nI gq))]) rfl ?_
  obtain ⟨b1, b1x, b2, b2x, b3, b5, b6, b7, b8⟩ := to_n hto
  refine j_aload_n (pc := 0) C d_Model_joinedTo_0 rfl 0 rfl ?_
  refine j_get (pc := 1) C gf_Model_127 0 rfl rfl d_Model_joinedTo_1 ?_
  refine j_bipush (pc := 4) C (v := 54) d_Model_joinedTo_4 (by decide) ?_
  refine j_bipush (pc := 6) C (v := 6) d_Model_joinedTo_6 (by decide) ?_
  refine j_iload_n (pc := 8) C d_Model_joinedTo_8 rfl 1 rfl ?_
  refine j_imul (pc := 9) C (v := nI (6 * gq)) d_Model_joinedTo_9 (pk_mul _ _) ?_
  refine j_iadd (pc := 10) C (v := nI (54 + (6 * gq))) d_Model_joinedTo_10 (nI_add _ _) ?_
  refine j_iconst (pc := 11) C (v := 5) d_Model_joinedTo_11 (by decide) ?_
  refine j_iadd (pc := 12) C (v := nI ((54 + (6 * gq)) + 5)) d_Model_joinedTo_12 (nI_add _ _) ?_
  have xh1 := (hs_gates gq (by omega)).2.2.2.2.2
  obtain ⟨xh1a, xh1b⟩ := xh1
  have xh1c := (to_j hto gq (by omega)).2
  by_cases e2 : gt.r 6 gq = 0
  · refine j_iald (pc := 13) C 1 rfl (v := (-1)) (vp_in_nI (by omega) (by decide)) (by rw [nI_clamp (by omega)]; exact (gt_ix5 (G := g46) (j := gq)).trans (xh1a.trans (if_pos e2))) d_Model_joinedTo_13 ?_
    exact j_iret (pc := 14) C hr rfl () (Or.inl ⟨rfl, e2⟩) [0, 1] rfl (by decide) (by decide) (by decide) d_Model_joinedTo_14
  · refine j_iald (pc := 13) C 1 rfl (v := nI (gt.r 6 gq - 1)) (vp_in_nI (by omega) (by decide)) (by rw [nI_clamp (by omega)]; exact (gt_ix5 (G := g46) (j := gq)).trans (xh1a.trans (if_neg e2))) d_Model_joinedTo_13 ?_
    exact j_iret (pc := 14) C hr rfl () (Or.inr ⟨rfl, to_j hto gq hg, e2⟩) [0, 1] rfl (by decide) (by decide) (by decide) d_Model_joinedTo_14
set_option maxHeartbeats 4000000 in
set_option maxRecDepth 100000 in
theorem c_mboards (l : Launch) (D : va_G) (y : Nat → ClassId) (mo : Nat) (ma : Nat → Nat) (t1 : Nat) (i2 : Int32) (i3 : Int32) (i4 : Int32) (i5 : Int32) (i6 : Int32) (i7 : Int32) (i8 : Int32) (i42 : Int32) (i49 : Int32) (i51 : Int32) (i53 : Int32) (i54 : Int32) (i59 : Int32) (i61 : Int32) (i64 : Int32) (i66 : Int32) (t67 : Nat) (i76 : Int64) (i78 : Int32) (g62 : Nat → Int32) (gq : Nat) (dy : Nat) (wa : Nat) (la : Nat) (bd : Nat → Nat) (fl : Nat → Nat) (st : Nat → Nat) (wo : Nat → Int) (ly : Nat → Int) (se : Nat → Nat) (su : Nat → Nat) (hnw : NW g62 0 dy wa la bd fl st wo ly se su) (hg : gq < 9) : CT l D y ⟨"NineBoardsModel", "boards", "(I)I"⟩ prog_13_method_58_code 2 (some .int) ({ frames := 0, cells := 0, slots := 0, locals := 0 } : Room) [.ref mo, .int (nI gq)] [MB mo ma (nI t1) i2 i3 i4 i5 i6 i7 i8 i42 i49 i51 i53 i54 i59 i61 i64 i66 (nI t67) i76 i78, (ma 62, .inl (y 0, 63, .inl g62))] (QI D [MB mo ma (nI t1) i2 i3 i4 i5 i6 i7 i8 i42 i49 i51 i53 i54 i59 i61 i64 i66 (nI t67) i76 i78, (ma 62, .inl (y 0, 63, .inl g62))] (fun (r : Int32) (u : Unit) => r = nI (bd gq)) (fun _ => [MB mo ma (nI t1) i2 i3 i4 i5 i6 i7 i8 i42 i49 i51 i53 i54 i59 i61 i64 i66 (nI t67) i76 i78, (ma 62, .inl (y 0, 63, .inl g62))])) := by
  refine CT.of (by decide) (nb rfl) ?_
  intro p e s m args below meth c C hr
  refine j_lv (lv' := [(0, .ref mo), (1, .int (nI gq))]) rfl ?_
  refine j_aload_n (pc := 0) C d_Model_boards_0 rfl 0 rfl ?_
  refine j_get (pc := 1) C gf_Model_158 0 rfl rfl d_Model_boards_1 ?_
  refine j_iconst (pc := 4) C (v := 3) d_Model_boards_4 (by decide) ?_
  refine j_iload_n (pc := 5) C d_Model_boards_5 rfl 1 rfl ?_
  refine j_iadd (pc := 6) C (v := nI (3 + gq)) d_Model_boards_6 (nI_add _ _) ?_
  refine j_iald (pc := 7) C 1 rfl (v := nI (bd gq)) (vp_in_nI (by omega) (by decide)) (by rw [nI_clamp (by omega)]; exact (nw_bd hnw gq (by omega))) d_Model_boards_7 ?_
  exact j_iret (pc := 8) C hr rfl () rfl [0, 1] rfl (by decide) (by decide) (by decide) d_Model_boards_8
set_option maxHeartbeats 4000000 in
set_option maxRecDepth 100000 in
theorem c_mlevel (l : Launch) (D : va_G) (y : Nat → ClassId) (mo : Nat) (ma : Nat → Nat) (t1 : Nat) (i2 : Int32) (i3 : Int32) (i4 : Int32) (i5 : Int32) (i6 : Int32) (i7 : Int32) (i8 : Int32) (i42 : Int32) (i49 : Int32) (i51 : Int32) (i53 : Int32) (i54 : Int32) (i59 : Int32) (i61 : Int32) (i64 : Int32) (i66 : Int32) (t67 : Nat) (i76 : Int64) (i78 : Int32) (g45 : Nat → Int32) (g62 : Nat → Int32) (gt : LA_) (dy : Nat) (wa : Nat) (la : Nat) (bd : Nat → Nat) (fl : Nat → Nat) (st : Nat → Nat) (wo : Nat → Int) (ly : Nat → Int) (se : Nat → Nat) (su : Nat → Nat) (hto : TOQ gt) (hnw : NW g62 0 dy wa la bd fl st wo ly se su) (hs_lake : LR gt (fun j => g45 (7 + j))) (hwa : wa ≤ 9999) : CT l D y ⟨"NineBoardsModel", "level", "()I"⟩ prog_13_method_57_code 1 (some .int) ({ frames := 0, cells := 0, slots := 0, locals := 0 } : Room) [.ref mo] [MB mo ma (nI t1) i2 i3 i4 i5 i6 i7 i8 i42 i49 i51 i53 i54 i59 i61 i64 i66 (nI t67) i76 i78, (ma 45, .inl (y 0, 14, .inl g45)), (ma 62, .inl (y 0, 63, .inl g62))] (QI D [MB mo ma (nI t1) i2 i3 i4 i5 i6 i7 i8 i42 i49 i51 i53 i54 i59 i61 i64 i66 (nI t67) i76 i78, (ma 45, .inl (y 0, 14, .inl g45)), (ma 62, .inl (y 0, 63, .inl g62))] (fun (r : Int32) (u : Unit) => r = nI (wa / gt.s 1)) (fun _ => [MB mo ma (nI t1) i2 i3 i4 i5 i6 i7 i8 i42 i49 i51 i53 i54 i59 i61 i64 i66 (nI t67) i76 i78, (ma 45, .inl (y 0, 14, .inl g45)), (ma 62, .inl (y 0, 63, .inl g62))])) := by
  refine CT.of (by decide) (nb rfl) ?_
  intro p e s m args below meth c C hr
  refine j_lv (lv' := [(0, .ref mo)]) rfl ?_
  obtain ⟨b1, b1x, b2, b2x, b3, b5, b6, b7, b8⟩ := to_n hto
  refine j_aload_n (pc := 0) C d_Model_level_0 rfl 0 rfl ?_
  refine j_get (pc := 1) C gf_Model_158 0 rfl rfl d_Model_level_1 ?_
  refine j_iconst (pc := 4) C (v := 1) d_Model_level_4 (by decide) ?_
  refine j_iald (pc := 5) C 2 rfl (v := nI wa) (vin (by decide)) (nw_wa hnw) d_Model_level_5 ?_
  refine j_aload_n (pc := 6) C d_Model_level_6 rfl 0 rfl ?_
  refine j_get (pc := 7) C gf_Model_124 0 rfl rfl d_Model_level_7 ?_
  refine j_bipush (pc := 10) C (v := 7) d_Model_level_10 (by decide) ?_
  refine j_iald (pc := 12) C 1 rfl (v := nI (gt.s 1)) (vin (by decide)) (hs_lake.1) d_Model_level_12 ?_
  refine j_idiv (pc := 13) C (v := nI (wa / (gt.s 1))) d_Model_level_13 (nI_ne0 (by omega) (by omega)) (pk_div (by omega) (by omega) (by omega)) ?_
  exact j_iret (pc := 14) C hr rfl () rfl [0, 1, 2] rfl (by decide) (by decide) (by decide) d_Model_level_14
set_option maxHeartbeats 4000000 in
set_option maxRecDepth 100000 in
theorem c_mareBoards (l : Launch) (D : va_G) (y : Nat → ClassId) (mo : Nat) (ma : Nat → Nat) (t1 : Nat) (i2 : Int32) (i3 : Int32) (i4 : Int32) (i5 : Int32) (i6 : Int32) (i7 : Int32) (i8 : Int32) (i42 : Int32) (i49 : Int32) (i51 : Int32) (i53 : Int32) (i54 : Int32) (i59 : Int32) (i61 : Int32) (i64 : Int32) (i66 : Int32) (t67 : Nat) (i76 : Int64) (i78 : Int32) (g46 : Nat → Int32) (g62 : Nat → Int32) (gq : Nat) (bq : Nat) (cq : Nat) (gt : LA_) (dy : Nat) (wa : Nat) (la : Nat) (bd : Nat → Nat) (fl : Nat → Nat) (st : Nat → Nat) (wo : Nat → Int) (ly : Nat → Int) (se : Nat → Nat) (su : Nat → Nat) (hto : TOQ gt) (hnw : NW g62 0 dy wa la bd fl st wo ly se su) (hs_gates : GR gt (fun j => g46 (54 + j))) (hg : gq < gt.s 9) (h9 : gt.s 9 ≤ 9) (hbd : BN (gt.s 9) bd 20) (hb : bq ≤ 100) (hc : cq ≤ 100) : CT l D y ⟨"NineBoardsModel", "areBoards", "(III)Z"⟩ prog_13_method_59_code 5 (some .boolean) ({ frames := 1, cells := 0, slots := 0, locals := 25 } : Room) [.ref mo, .int (nI gq), .int (nI bq), .int (nI cq)] [MB mo ma (nI t1) i2 i3 i4 i5 i6 i7 i8 i42 i49 i51 i53 i54 i59 i61 i64 i66 (nI t67) i76 i78, (ma 46, .inl (y 0, 108, .inl g46)), (ma 62, .inl (y 0, 63, .inl g62))] (QI D [MB mo ma (nI t1) i2 i3 i4 i5 i6 i7 i8 i42 i49 i51 i53 i54 i59 i61 i64 i66 (nI t67) i76 i78, (ma 46, .inl (y 0, 108, .inl g46)), (ma 62, .inl (y 0, 63, .inl g62))] (fun (r : Int32) (u : Unit) => ((r = 1 ∧ (bq ≤ bd gq ∧ bd gq ≤ cq ∧ (gt.r 6 gq = 0 ∨ (bq ≤ bd (gt.r 6 gq - 1) ∧ bd (gt.r 6 gq - 1) ≤ cq)))) ∨ (r = 0 ∧ ¬ (bq ≤ bd gq ∧ bd gq ≤ cq ∧ (gt.r 6 gq = 0 ∨ (bq ≤ bd (gt.r 6 gq - 1) ∧ bd (gt.r 6 gq - 1) ≤ cq)))))) (fun _ => [MB mo ma (nI t1) i2 i3 i4 i5 i6 i7 i8 i42 i49 i51 i53 i54 i59 i61 i64 i66 (nI t67) i76 i78, (ma 46, .inl (y 0, 108, .inl g46)), (ma 62, .inl (y 0, 63, .inl g62))])) := by
  refine CT.of (by decide) (nb rfl) ?_
  intro p e s m args below meth c C hr
  refine j_lv (lv' := [(0, .ref mo), (1, .int (nI gq)), (2, .int (nI bq)), (3, .int (nI cq))]) rfl ?_
  obtain ⟨b1, b1x, b2, b2x, b3, b5, b6, b7, b8⟩ := to_n hto
  refine j_aload_n (pc := 0) C d_Model_areBoards_0 rfl 0 rfl ?_
  refine j_iload_n (pc := 1) C d_Model_areBoards_1 rfl 1 rfl ?_
  refine j_callVi (pc := 2) C (c_mjoinedTo l D y mo ma t1 i2 i3 i4 i5 i6 i7 i8 i42 i49 i51 i53 i54 i59 i61 i64 i66 t67 i76 i78 g46 gq gt hto hs_gates hg h9) kw_Model_418 kv_Model_joinedTo 0 10 rfl rfl ⟨by decide, by decide⟩ ⟨by decide, by decide⟩ (wr := [(ma 62, .inl (y 0, 63, .inl g62))]) [0, 1] [2] rfl rfl (by decide) (by decide) (by decide) (As := [.int (nI gq)]) (rest := []) rfl (nb rfl) rfl d_Model_areBoards_2 (fun r1 _ hr1 => ?_)
  refine j_ws (ws' := [(ma 62, .inl (y 0, 63, .inl g62)), MB mo ma (nI t1) i2 i3 i4 i5 i6 i7 i8 i42 i49 i51 i53 i54 i59 i61 i64 i66 (nI t67) i76 i78, (ma 46, .inl (y 0, 108, .inl g46))]) rfl ?_
  rcases hr1 with ⟨rfl, xh3⟩ | ⟨rfl, xh4, xh5⟩
  · refine j_istore (pc := 5) C (lv' := [(4, .int (-1)), (0, .ref mo), (1, .int (nI gq)), (2, .int (nI bq)), (3, .int (nI cq))]) d_Model_areBoards_5 (by decide) rfl ?_
    refine j_aload_n (pc := 7) C d_Model_areBoards_7 rfl 1 rfl ?_
    refine j_iload_n (pc := 8) C d_Model_areBoards_8 rfl 2 rfl ?_
    refine j_callVi (pc := 9) C (c_mboards l D y mo ma t1 i2 i3 i4 i5 i6 i7 i8 i42 i49 i51 i53 i54 i59 i61 i64 i66 t67 i76 i78 g62 gq dy wa la bd fl st wo ly se su hnw (by omega)) kw_Model_421 kv_Model_boards 0 10 rfl rfl ⟨by decide, by decide⟩ ⟨by decide, by decide⟩ (wr := [(ma 46, .inl (y 0, 108, .inl g46))]) [1, 0] [2] rfl rfl (by decide) (by decide) (by decide) (As := [.int (nI gq)]) (rest := []) rfl (nb rfl) rfl d_Model_areBoards_9 (fun r6 _ hr6 => ?_)
    obtain rfl := hr6
    refine j_ws (ws' := [(ma 46, .inl (y 0, 108, .inl g46)), MB mo ma (nI t1) i2 i3 i4 i5 i6 i7 i8 i42 i49 i51 i53 i54 i59 i61 i64 i66 (nI t67) i76 i78, (ma 62, .inl (y 0, 63, .inl g62))]) rfl ?_
    have hb1 := hbd gq hg
    refine j_i2l (pc := 12) C (v := nL (bd gq)) d_Model_areBoards_12 (nId_L (by omega)) ?_
    refine j_iload_n (pc := 13) C d_Model_areBoards_13 rfl 3 rfl ?_
    refine j_i2l (pc := 14) C (v := nL bq) d_Model_areBoards_14 (nId_L (by omega)) ?_
    refine j_iload_n (pc := 15) C d_Model_areBoards_15 rfl 4 rfl ?_
    refine j_i2l (pc := 16) C (v := nL cq) d_Model_areBoards_16 (nId_L (by omega)) ?_
    refine j_callSi (pc := 17) C (c_misInN l D y (bd gq) bq cq (by omega) (by omega) (by omega)) kw_Model_240 ks_Model_isIn ⟨by decide, by decide⟩ ⟨by decide, by decide⟩ (wr := [(ma 46, .inl (y 0, 108, .inl g46)), MB mo ma (nI t1) i2 i3 i4 i5 i6 i7 i8 i42 i49 i51 i53 i54 i59 i61 i64 i66 (nI t67) i76 i78, (ma 62, .inl (y 0, 63, .inl g62))]) [] [0, 1, 2] rfl rfl (by decide) (by decide) (by decide) (As := [.long (nL (bd gq)), .long (nL bq), .long (nL cq)]) (rest := []) rfl (nb rfl) rfl d_Model_areBoards_17 (fun r7 _ hr7 => ?_)
    refine j_ws (ws' := [(ma 46, .inl (y 0, 108, .inl g46)), MB mo ma (nI t1) i2 i3 i4 i5 i6 i7 i8 i42 i49 i51 i53 i54 i59 i61 i64 i66 (nI t67) i76 i78, (ma 62, .inl (y 0, 63, .inl g62))]) rfl ?_
    rcases hr7 with ⟨rfl, xh9⟩ | ⟨rfl, xh10⟩
    · refine j_if_eqF (pc := 20) C (tgt := 50) d_Model_areBoards_20 (by decide) (by decide) ?_
      refine j_iload (pc := 23) C d_Model_areBoards_23 0 rfl ?_
      refine j_iconst (pc := 25) C (v := (-1)) d_Model_areBoards_25 (by decide) ?_
      refine j_icmp_eqT (pc := 26) C (tgt := 46) d_Model_areBoards_26 (by decide) (by decide) ?_
      refine j_iconst (pc := 46) C (v := 1) d_Model_areBoards_46 (by decide) ?_
      refine j_goto (pc := 47) C (tgt := 51) d_Model_areBoards_47 (by decide) ?_
      exact j_iret (pc := 51) C hr (by decide) () (Or.inl ⟨rfl, by omega⟩) [1, 0, 2] rfl (by decide) (by decide) (by decide) d_Model_areBoards_51
    · refine j_if_eqT (pc := 20) C (tgt := 50) d_Model_areBoards_20 (by decide) (by decide) ?_
      refine j_iconst (pc := 50) C (v := 0) d_Model_areBoards_50 (by decide) ?_
      exact j_iret (pc := 51) C hr (by decide) () (Or.inr ⟨rfl, by omega⟩) [1, 0, 2] rfl (by decide) (by decide) (by decide) d_Model_areBoards_51
  · refine j_istore (pc := 5) C (lv' := [(4, .int (nI (gt.r 6 gq - 1))), (0, .ref mo), (1, .int (nI gq)), (2, .int (nI bq)), (3, .int (nI cq))]) d_Model_areBoards_5 (by decide) rfl ?_
    refine j_aload_n (pc := 7) C d_Model_areBoards_7 rfl 1 rfl ?_
    refine j_iload_n (pc := 8) C d_Model_areBoards_8 rfl 2 rfl ?_
    refine j_callVi (pc := 9) C (c_mboards l D y mo ma t1 i2 i3 i4 i5 i6 i7 i8 i42 i49 i51 i53 i54 i59 i61 i64 i66 t67 i76 i78 g62 gq dy wa la bd fl st wo ly se su hnw (by omega)) kw_Model_421 kv_Model_boards 0 10 rfl rfl ⟨by decide, by decide⟩ ⟨by decide, by decide⟩ (wr := [(ma 46, .inl (y 0, 108, .inl g46))]) [1, 0] [2] rfl rfl (by decide) (by decide) (by decide) (As := [.int (nI gq)]) (rest := []) rfl (nb rfl) rfl d_Model_areBoards_9 (fun r11 _ hr11 => ?_)
    obtain rfl := hr11
    refine j_ws (ws' := [(ma 46, .inl (y 0, 108, .inl g46)), MB mo ma (nI t1) i2 i3 i4 i5 i6 i7 i8 i42 i49 i51 i53 i54 i59 i61 i64 i66 (nI t67) i76 i78, (ma 62, .inl (y 0, 63, .inl g62))]) rfl ?_
    have hb1 := hbd gq hg
    refine j_i2l (pc := 12) C (v := nL (bd gq)) d_Model_areBoards_12 (nId_L (by omega)) ?_
    refine j_iload_n (pc := 13) C d_Model_areBoards_13 rfl 3 rfl ?_
    refine j_i2l (pc := 14) C (v := nL bq) d_Model_areBoards_14 (nId_L (by omega)) ?_
    refine j_iload_n (pc := 15) C d_Model_areBoards_15 rfl 4 rfl ?_
    refine j_i2l (pc := 16) C (v := nL cq) d_Model_areBoards_16 (nId_L (by omega)) ?_
    refine j_callSi (pc := 17) C (c_misInN l D y (bd gq) bq cq (by omega) (by omega) (by omega)) kw_Model_240 ks_Model_isIn ⟨by decide, by decide⟩ ⟨by decide, by decide⟩ (wr := [(ma 46, .inl (y 0, 108, .inl g46)), MB mo ma (nI t1) i2 i3 i4 i5 i6 i7 i8 i42 i49 i51 i53 i54 i59 i61 i64 i66 (nI t67) i76 i78, (ma 62, .inl (y 0, 63, .inl g62))]) [] [0, 1, 2] rfl rfl (by decide) (by decide) (by decide) (As := [.long (nL (bd gq)), .long (nL bq), .long (nL cq)]) (rest := []) rfl (nb rfl) rfl d_Model_areBoards_17 (fun r12 _ hr12 => ?_)
    refine j_ws (ws' := [(ma 46, .inl (y 0, 108, .inl g46)), MB mo ma (nI t1) i2 i3 i4 i5 i6 i7 i8 i42 i49 i51 i53 i54 i59 i61 i64 i66 (nI t67) i76 i78, (ma 62, .inl (y 0, 63, .inl g62))]) rfl ?_
    rcases hr12 with ⟨rfl, xh14⟩ | ⟨rfl, xh15⟩
    · refine j_if_eqF (pc := 20) C (tgt := 50) d_Model_areBoards_20 (by decide) (by decide) ?_
      refine j_iload (pc := 23) C d_Model_areBoards_23 0 rfl ?_
      refine j_iconst (pc := 25) C (v := (-1)) d_Model_areBoards_25 (by decide) ?_
      refine j_icmp_eqF (pc := 26) C (tgt := 46) d_Model_areBoards_26 (by decide) (nI_nm1 (by omega)) ?_
      refine j_aload_n (pc := 29) C d_Model_areBoards_29 rfl 1 rfl ?_
      refine j_iload (pc := 30) C d_Model_areBoards_30 0 rfl ?_
      refine j_callVi (pc := 32) C (c_mboards l D y mo ma t1 i2 i3 i4 i5 i6 i7 i8 i42 i49 i51 i53 i54 i59 i61 i64 i66 t67 i76 i78 g62 (gt.r 6 gq - 1) dy wa la bd fl st wo ly se su hnw (by omega)) kw_Model_421 kv_Model_boards 0 10 rfl rfl ⟨by decide, by decide⟩ ⟨by decide, by decide⟩ (wr := [(ma 46, .inl (y 0, 108, .inl g46))]) [1, 2] [0] rfl rfl (by decide) (by decide) (by decide) (As := [.int (nI (gt.r 6 gq - 1))]) (rest := []) rfl (nb rfl) rfl d_Model_areBoards_32 (fun r16 _ hr16 => ?_)
      obtain rfl := hr16
      refine j_ws (ws' := [(ma 46, .inl (y 0, 108, .inl g46)), MB mo ma (nI t1) i2 i3 i4 i5 i6 i7 i8 i42 i49 i51 i53 i54 i59 i61 i64 i66 (nI t67) i76 i78, (ma 62, .inl (y 0, 63, .inl g62))]) rfl ?_
      have hb2 := hbd (gt.r 6 gq - 1) (by omega)
      refine j_i2l (pc := 35) C (v := nL (bd (gt.r 6 gq - 1))) d_Model_areBoards_35 (nId_L (by omega)) ?_
      refine j_iload_n (pc := 36) C d_Model_areBoards_36 rfl 3 rfl ?_
      refine j_i2l (pc := 37) C (v := nL bq) d_Model_areBoards_37 (nId_L (by omega)) ?_
      refine j_iload_n (pc := 38) C d_Model_areBoards_38 rfl 4 rfl ?_
      refine j_i2l (pc := 39) C (v := nL cq) d_Model_areBoards_39 (nId_L (by omega)) ?_
      refine j_callSi (pc := 40) C (c_misInN l D y (bd (gt.r 6 gq - 1)) bq cq (by omega) (by omega) (by omega)) kw_Model_240 ks_Model_isIn ⟨by decide, by decide⟩ ⟨by decide, by decide⟩ (wr := [(ma 46, .inl (y 0, 108, .inl g46)), MB mo ma (nI t1) i2 i3 i4 i5 i6 i7 i8 i42 i49 i51 i53 i54 i59 i61 i64 i66 (nI t67) i76 i78, (ma 62, .inl (y 0, 63, .inl g62))]) [] [0, 1, 2] rfl rfl (by decide) (by decide) (by decide) (As := [.long (nL (bd (gt.r 6 gq - 1))), .long (nL bq), .long (nL cq)]) (rest := []) rfl (nb rfl) rfl d_Model_areBoards_40 (fun r17 _ hr17 => ?_)
      refine j_ws (ws' := [(ma 46, .inl (y 0, 108, .inl g46)), MB mo ma (nI t1) i2 i3 i4 i5 i6 i7 i8 i42 i49 i51 i53 i54 i59 i61 i64 i66 (nI t67) i76 i78, (ma 62, .inl (y 0, 63, .inl g62))]) rfl ?_
      rcases hr17 with ⟨rfl, xh19⟩ | ⟨rfl, xh20⟩
      · refine j_if_eqF (pc := 43) C (tgt := 50) d_Model_areBoards_43 (by decide) (by decide) ?_
        refine j_iconst (pc := 46) C (v := 1) d_Model_areBoards_46 (by decide) ?_
        refine j_goto (pc := 47) C (tgt := 51) d_Model_areBoards_47 (by decide) ?_
        exact j_iret (pc := 51) C hr (by decide) () (Or.inl ⟨rfl, by omega⟩) [1, 0, 2] rfl (by decide) (by decide) (by decide) d_Model_areBoards_51
      · refine j_if_eqT (pc := 43) C (tgt := 50) d_Model_areBoards_43 (by decide) (by decide) ?_
        refine j_iconst (pc := 50) C (v := 0) d_Model_areBoards_50 (by decide) ?_
        exact j_iret (pc := 51) C hr (by decide) () (Or.inr ⟨rfl, by omega⟩) [1, 0, 2] rfl (by decide) (by decide) (by decide) d_Model_areBoards_51
    · refine j_if_eqT (pc := 20) C (tgt := 50) d_Model_areBoards_20 (by decide) (by decide) ?_
      refine j_iconst (pc := 50) C (v := 0) d_Model_areBoards_50 (by decide) ?_
      exact j_iret (pc := 51) C hr (by decide) () (Or.inr ⟨rfl, by omega⟩) [1, 0, 2] rfl (by decide) (by decide) (by decide) d_Model_areBoards_51
set_option maxHeartbeats 4000000 in
set_option maxRecDepth 100000 in
theorem c_malters_1 (l : Launch) (D : va_G) (y : Nat → ClassId) (mo : Nat) (ma : Nat → Nat) (t1 : Nat) (i2 : Int32) (i3 : Int32) (i4 : Int32) (i5 : Int32) (i6 : Int32) (i7 : Int32) (i8 : Int32) (i42 : Int32) (i49 : Int32) (i51 : Int32) (i53 : Int32) (i54 : Int32) (i59 : Int32) (i61 : Int32) (i64 : Int32) (i66 : Int32) (t67 : Nat) (i76 : Int64) (i78 : Int32) (g46 : Nat → Int32) (g62 : Nat → Int32) (gq : Nat) (gt : LA_) (dy : Nat) (wa : Nat) (la : Nat) (bd : Nat → Nat) (fl : Nat → Nat) (st : Nat → Nat) (wo : Nat → Int) (ly : Nat → Int) (se : Nat → Nat) (su : Nat → Nat) (hto : TOQ gt) (hnw : NW g62 0 dy wa la bd fl st wo ly se su) (hs_gates : GR gt (fun j => g46 (54 + j))) (hg : gq < gt.s 9) (h9 : gt.s 9 ≤ 9) (hq1 : 1 ≤ bd gq) (hq2 : (gt.r 6 gq = 0 ∨ 1 ≤ bd (gt.r 6 gq - 1))) : CT l D y ⟨"NineBoardsModel", "alters", "(II)V"⟩ prog_13_method_60_code 3 none ({ frames := 1, cells := 0, slots := 0, locals := 21 } : Room) [.ref mo, .int (nI gq), .int (-1)] [MB mo ma (nI t1) i2 i3 i4 i5 i6 i7 i8 i42 i49 i51 i53 i54 i59 i61 i64 i66 (nI t67) i76 i78, (ma 46, .inl (y 0, 108, .inl g46)), (ma 62, .inl (y 0, 63, .inl g62))] (QV D [MB mo ma (nI t1) i2 i3 i4 i5 i6 i7 i8 i42 i49 i51 i53 i54 i59 i61 i64 i66 (nI t67) i76 i78, (ma 46, .inl (y 0, 108, .inl g46)), (ma 62, .inl (y 0, 63, .inl g62))] (fun (u : Nat → Int32) => NW u 0 dy wa la (mvB gt bd gq 1) fl st wo ly se su) (fun u => [MB mo ma (nI t1) i2 i3 i4 i5 i6 i7 i8 i42 i49 i51 i53 i54 i59 i61 i64 i66 (nI t67) i76 i78, (ma 46, .inl (y 0, 108, .inl g46)), (ma 62, .inl (y 0, 63, .inl u))])) := by
  refine CT.of (by decide) (nb rfl) ?_
  intro p e s m args below meth c C hr
  refine j_lv (lv' := [(0, .ref mo), (1, .int (nI gq)), (2, .int (-1))]) rfl ?_
  obtain ⟨b1, b1x, b2, b2x, b3, b5, b6, b7, b8⟩ := to_n hto
  refine j_aload_n (pc := 0) C d_Model_alters_0 rfl 0 rfl ?_
  refine j_get (pc := 1) C gf_Model_158 0 rfl rfl d_Model_alters_1 ?_
  refine j_iconst (pc := 4) C (v := 3) d_Model_alters_4 (by decide) ?_
  refine j_iload_n (pc := 5) C d_Model_alters_5 rfl 1 rfl ?_
  refine j_iadd (pc := 6) C (v := nI (3 + gq)) d_Model_alters_6 (nI_add _ _) ?_
  refine j_dup2 (pc := 7) C d_Model_alters_7 rfl rfl ?_
  refine j_iald (pc := 8) C 2 rfl (v := nI (bd gq)) (vp_in_nI (by omega) (by decide)) (by rw [nI_clamp (by omega)]; exact (nw_bd hnw gq (by omega))) d_Model_alters_8 ?_
  refine j_iload_n (pc := 9) C d_Model_alters_9 rfl 2 rfl ?_
  refine j_iadd (pc := 10) C (v := nI ((bd gq) - 1)) d_Model_alters_10 (nI_dn (by omega)) ?_
  refine j_iast (pc := 11) C 2 rfl (ws' := [MB mo ma (nI t1) i2 i3 i4 i5 i6 i7 i8 i42 i49 i51 i53 i54 i59 i61 i64 i66 (nI t67) i76 i78, (ma 46, .inl (y 0, 108, .inl g46)), (ma 62, .inl (y 0, 63, .inl (upd g62 (3 + gq) (nI ((bd gq) - 1)))))]) (vp_in_nI (by omega) (by decide)) (by rw [nI_clamp (by omega)]; rfl) d_Model_alters_11 ?_
  have xh1 : NW (upd g62 (3 + gq) (nI ((bd gq) - 1))) 0 dy wa la (upN bd gq ((bd gq) - 1)) fl st wo ly se su := nu_bd (k := gq) hnw (by omega)
  refine j_aload_n (pc := 12) C d_Model_alters_12 rfl 0 rfl ?_
  refine j_iload_n (pc := 13) C d_Model_alters_13 rfl 1 rfl ?_
  refine j_callVi (pc := 14) C (c_mjoinedTo l D y mo ma t1 i2 i3 i4 i5 i6 i7 i8 i42 i49 i51 i53 i54 i59 i61 i64 i66 t67 i76 i78 g46 gq gt hto hs_gates hg h9) kw_Model_418 kv_Model_joinedTo 0 10 rfl rfl ⟨by decide, by decide⟩ ⟨by decide, by decide⟩ (wr := [(ma 62, .inl (y 0, 63, .inl (upd g62 (3 + gq) (nI ((bd gq) - 1)))))]) [0, 1] [2] rfl rfl (by decide) (by decide) (by decide) (As := [.int (nI gq)]) (rest := []) rfl (nb rfl) rfl d_Model_alters_14 (fun r2 _ hr2 => ?_)
  refine j_ws (ws' := [(ma 62, .inl (y 0, 63, .inl (upd g62 (3 + gq) (nI ((bd gq) - 1))))), MB mo ma (nI t1) i2 i3 i4 i5 i6 i7 i8 i42 i49 i51 i53 i54 i59 i61 i64 i66 (nI t67) i76 i78, (ma 46, .inl (y 0, 108, .inl g46))]) rfl ?_
  rcases hr2 with ⟨rfl, xh4⟩ | ⟨rfl, xh5, xh6⟩
  · refine j_iconst (pc := 17) C (v := (-1)) d_Model_alters_17 (by decide) ?_
    refine j_icmp_eqT (pc := 18) C (tgt := 37) d_Model_alters_18 (by decide) (by decide) ?_
    exact j_vret (pc := 37) C hr (upd g62 (3 + gq) (nI ((bd gq) - 1))) (by rw [mv_0 xh4]; exact xh1) [1, 2, 0] rfl (by decide) (by decide) (by decide) d_Model_alters_37
  · refine j_iconst (pc := 17) C (v := (-1)) d_Model_alters_17 (by decide) ?_
    refine j_icmp_eqF (pc := 18) C (tgt := 37) d_Model_alters_18 (by decide) (nI_nm1 (by omega)) ?_
    refine j_aload_n (pc := 21) C d_Model_alters_21 rfl 0 rfl ?_
    refine j_get (pc := 22) C gf_Model_158 1 rfl rfl d_Model_alters_22 ?_
    refine j_iconst (pc := 25) C (v := 3) d_Model_alters_25 (by decide) ?_
    refine j_aload_n (pc := 26) C d_Model_alters_26 rfl 0 rfl ?_
    refine j_iload_n (pc := 27) C d_Model_alters_27 rfl 1 rfl ?_
    refine j_callVi (pc := 28) C (c_mjoinedTo l D y mo ma t1 i2 i3 i4 i5 i6 i7 i8 i42 i49 i51 i53 i54 i59 i61 i64 i66 t67 i76 i78 g46 gq gt hto hs_gates hg h9) kw_Model_418 kv_Model_joinedTo 0 10 rfl rfl ⟨by decide, by decide⟩ ⟨by decide, by decide⟩ (wr := [(ma 62, .inl (y 0, 63, .inl (upd g62 (3 + gq) (nI ((bd gq) - 1)))))]) [1, 2] [0] rfl rfl (by decide) (by decide) (by decide) (As := [.int (nI gq)]) (rest := [.int 3, .ref (ma 62)]) rfl (nb rfl) rfl d_Model_alters_28 (fun r7 _ hr7 => ?_)
    refine j_ws (ws' := [(ma 62, .inl (y 0, 63, .inl (upd g62 (3 + gq) (nI ((bd gq) - 1))))), MB mo ma (nI t1) i2 i3 i4 i5 i6 i7 i8 i42 i49 i51 i53 i54 i59 i61 i64 i66 (nI t67) i76 i78, (ma 46, .inl (y 0, 108, .inl g46))]) rfl ?_
    rcases hr7 with ⟨rfl, xh9⟩ | ⟨rfl, xh10, xh11⟩
    · exact absurd xh9 xh6
    · refine j_iadd (pc := 31) C (v := nI (3 + (gt.r 6 gq - 1))) d_Model_alters_31 (nI_add _ _) ?_
      refine j_dup2 (pc := 32) C d_Model_alters_32 rfl rfl ?_
      have hjq : upN bd gq (bd gq - 1) (gt.r 6 gq - 1) = bd (gt.r 6 gq - 1) := upN_n (by omega)
      refine j_iald (pc := 33) C 0 rfl (v := nI ((upN bd gq ((bd gq) - 1)) (gt.r 6 gq - 1))) (vp_in_nI (by omega) (by decide)) (by rw [nI_clamp (by omega)]; exact (nw_bd xh1 (gt.r 6 gq - 1) (by omega))) d_Model_alters_33 ?_
      refine j_iload_n (pc := 34) C d_Model_alters_34 rfl 2 rfl ?_
      refine j_iadd (pc := 35) C (v := nI (((upN bd gq ((bd gq) - 1)) (gt.r 6 gq - 1)) - 1)) d_Model_alters_35 (nI_dn (by omega)) ?_
      refine j_iast (pc := 36) C 0 rfl (ws' := [(ma 62, .inl (y 0, 63, .inl (upd (upd g62 (3 + gq) (nI ((bd gq) - 1))) (3 + (gt.r 6 gq - 1)) (nI (((upN bd gq ((bd gq) - 1)) (gt.r 6 gq - 1)) - 1))))), MB mo ma (nI t1) i2 i3 i4 i5 i6 i7 i8 i42 i49 i51 i53 i54 i59 i61 i64 i66 (nI t67) i76 i78, (ma 46, .inl (y 0, 108, .inl g46))]) (vp_in_nI (by omega) (by decide)) (by rw [nI_clamp (by omega)]; rfl) d_Model_alters_36 ?_
      have xh12 : NW (upd (upd g62 (3 + gq) (nI ((bd gq) - 1))) (3 + (gt.r 6 gq - 1)) (nI (((upN bd gq ((bd gq) - 1)) (gt.r 6 gq - 1)) - 1))) 0 dy wa la (upN (upN bd gq ((bd gq) - 1)) (gt.r 6 gq - 1) (((upN bd gq ((bd gq) - 1)) (gt.r 6 gq - 1)) - 1)) fl st wo ly se su := nu_bd (k := (gt.r 6 gq - 1)) xh1 (by omega)
      exact j_vret (pc := 37) C hr (upd (upd g62 (3 + gq) (nI ((bd gq) - 1))) (3 + (gt.r 6 gq - 1)) (nI (((upN bd gq ((bd gq) - 1)) (gt.r 6 gq - 1)) - 1))) (by rw [mv_1 xh6]; exact xh12) [1, 2, 0] rfl (by decide) (by decide) (by decide) d_Model_alters_37
set_option maxHeartbeats 4000000 in
set_option maxRecDepth 100000 in
theorem c_malters_2 (l : Launch) (D : va_G) (y : Nat → ClassId) (mo : Nat) (ma : Nat → Nat) (t1 : Nat) (i2 : Int32) (i3 : Int32) (i4 : Int32) (i5 : Int32) (i6 : Int32) (i7 : Int32) (i8 : Int32) (i42 : Int32) (i49 : Int32) (i51 : Int32) (i53 : Int32) (i54 : Int32) (i59 : Int32) (i61 : Int32) (i64 : Int32) (i66 : Int32) (t67 : Nat) (i76 : Int64) (i78 : Int32) (g46 : Nat → Int32) (g62 : Nat → Int32) (gq : Nat) (gt : LA_) (dy : Nat) (wa : Nat) (la : Nat) (bd : Nat → Nat) (fl : Nat → Nat) (st : Nat → Nat) (wo : Nat → Int) (ly : Nat → Int) (se : Nat → Nat) (su : Nat → Nat) (hto : TOQ gt) (hnw : NW g62 0 dy wa la bd fl st wo ly se su) (hs_gates : GR gt (fun j => g46 (54 + j))) (hg : gq < gt.s 9) (h9 : gt.s 9 ≤ 9) : CT l D y ⟨"NineBoardsModel", "alters", "(II)V"⟩ prog_13_method_60_code 3 none ({ frames := 1, cells := 0, slots := 0, locals := 21 } : Room) [.ref mo, .int (nI gq), .int 1] [MB mo ma (nI t1) i2 i3 i4 i5 i6 i7 i8 i42 i49 i51 i53 i54 i59 i61 i64 i66 (nI t67) i76 i78, (ma 46, .inl (y 0, 108, .inl g46)), (ma 62, .inl (y 0, 63, .inl g62))] (QV D [MB mo ma (nI t1) i2 i3 i4 i5 i6 i7 i8 i42 i49 i51 i53 i54 i59 i61 i64 i66 (nI t67) i76 i78, (ma 46, .inl (y 0, 108, .inl g46)), (ma 62, .inl (y 0, 63, .inl g62))] (fun (u : Nat → Int32) => NW u 0 dy wa la (mvB gt bd gq 2) fl st wo ly se su) (fun u => [MB mo ma (nI t1) i2 i3 i4 i5 i6 i7 i8 i42 i49 i51 i53 i54 i59 i61 i64 i66 (nI t67) i76 i78, (ma 46, .inl (y 0, 108, .inl g46)), (ma 62, .inl (y 0, 63, .inl u))])) := by
  refine CT.of (by decide) (nb rfl) ?_
  intro p e s m args below meth c C hr
  refine j_lv (lv' := [(0, .ref mo), (1, .int (nI gq)), (2, .int 1)]) rfl ?_
  obtain ⟨b1, b1x, b2, b2x, b3, b5, b6, b7, b8⟩ := to_n hto
  refine j_aload_n (pc := 0) C d_Model_alters_0 rfl 0 rfl ?_
  refine j_get (pc := 1) C gf_Model_158 0 rfl rfl d_Model_alters_1 ?_
  refine j_iconst (pc := 4) C (v := 3) d_Model_alters_4 (by decide) ?_
  refine j_iload_n (pc := 5) C d_Model_alters_5 rfl 1 rfl ?_
  refine j_iadd (pc := 6) C (v := nI (3 + gq)) d_Model_alters_6 (nI_add _ _) ?_
  refine j_dup2 (pc := 7) C d_Model_alters_7 rfl rfl ?_
  refine j_iald (pc := 8) C 2 rfl (v := nI (bd gq)) (vp_in_nI (by omega) (by decide)) (by rw [nI_clamp (by omega)]; exact (nw_bd hnw gq (by omega))) d_Model_alters_8 ?_
  refine j_iload_n (pc := 9) C d_Model_alters_9 rfl 2 rfl ?_
  refine j_iadd (pc := 10) C (v := nI ((bd gq) + 1)) d_Model_alters_10 (nI_add _ _) ?_
  refine j_iast (pc := 11) C 2 rfl (ws' := [MB mo ma (nI t1) i2 i3 i4 i5 i6 i7 i8 i42 i49 i51 i53 i54 i59 i61 i64 i66 (nI t67) i76 i78, (ma 46, .inl (y 0, 108, .inl g46)), (ma 62, .inl (y 0, 63, .inl (upd g62 (3 + gq) (nI ((bd gq) + 1)))))]) (vp_in_nI (by omega) (by decide)) (by rw [nI_clamp (by omega)]; rfl) d_Model_alters_11 ?_
  have xh1 : NW (upd g62 (3 + gq) (nI ((bd gq) + 1))) 0 dy wa la (upN bd gq ((bd gq) + 1)) fl st wo ly se su := nu_bd (k := gq) hnw (by omega)
  refine j_aload_n (pc := 12) C d_Model_alters_12 rfl 0 rfl ?_
  refine j_iload_n (pc := 13) C d_Model_alters_13 rfl 1 rfl ?_
  refine j_callVi (pc := 14) C (c_mjoinedTo l D y mo ma t1 i2 i3 i4 i5 i6 i7 i8 i42 i49 i51 i53 i54 i59 i61 i64 i66 t67 i76 i78 g46 gq gt hto hs_gates hg h9) kw_Model_418 kv_Model_joinedTo 0 10 rfl rfl ⟨by decide, by decide⟩ ⟨by decide, by decide⟩ (wr := [(ma 62, .inl (y 0, 63, .inl (upd g62 (3 + gq) (nI ((bd gq) + 1)))))]) [0, 1] [2] rfl rfl (by decide) (by decide) (by decide) (As := [.int (nI gq)]) (rest := []) rfl (nb rfl) rfl d_Model_alters_14 (fun r2 _ hr2 => ?_)
  refine j_ws (ws' := [(ma 62, .inl (y 0, 63, .inl (upd g62 (3 + gq) (nI ((bd gq) + 1))))), MB mo ma (nI t1) i2 i3 i4 i5 i6 i7 i8 i42 i49 i51 i53 i54 i59 i61 i64 i66 (nI t67) i76 i78, (ma 46, .inl (y 0, 108, .inl g46))]) rfl ?_
  rcases hr2 with ⟨rfl, xh4⟩ | ⟨rfl, xh5, xh6⟩
  · refine j_iconst (pc := 17) C (v := (-1)) d_Model_alters_17 (by decide) ?_
    refine j_icmp_eqT (pc := 18) C (tgt := 37) d_Model_alters_18 (by decide) (by decide) ?_
    exact j_vret (pc := 37) C hr (upd g62 (3 + gq) (nI ((bd gq) + 1))) (by rw [mv_0 xh4]; exact xh1) [1, 2, 0] rfl (by decide) (by decide) (by decide) d_Model_alters_37
  · refine j_iconst (pc := 17) C (v := (-1)) d_Model_alters_17 (by decide) ?_
    refine j_icmp_eqF (pc := 18) C (tgt := 37) d_Model_alters_18 (by decide) (nI_nm1 (by omega)) ?_
    refine j_aload_n (pc := 21) C d_Model_alters_21 rfl 0 rfl ?_
    refine j_get (pc := 22) C gf_Model_158 1 rfl rfl d_Model_alters_22 ?_
    refine j_iconst (pc := 25) C (v := 3) d_Model_alters_25 (by decide) ?_
    refine j_aload_n (pc := 26) C d_Model_alters_26 rfl 0 rfl ?_
    refine j_iload_n (pc := 27) C d_Model_alters_27 rfl 1 rfl ?_
    refine j_callVi (pc := 28) C (c_mjoinedTo l D y mo ma t1 i2 i3 i4 i5 i6 i7 i8 i42 i49 i51 i53 i54 i59 i61 i64 i66 t67 i76 i78 g46 gq gt hto hs_gates hg h9) kw_Model_418 kv_Model_joinedTo 0 10 rfl rfl ⟨by decide, by decide⟩ ⟨by decide, by decide⟩ (wr := [(ma 62, .inl (y 0, 63, .inl (upd g62 (3 + gq) (nI ((bd gq) + 1)))))]) [1, 2] [0] rfl rfl (by decide) (by decide) (by decide) (As := [.int (nI gq)]) (rest := [.int 3, .ref (ma 62)]) rfl (nb rfl) rfl d_Model_alters_28 (fun r7 _ hr7 => ?_)
    refine j_ws (ws' := [(ma 62, .inl (y 0, 63, .inl (upd g62 (3 + gq) (nI ((bd gq) + 1))))), MB mo ma (nI t1) i2 i3 i4 i5 i6 i7 i8 i42 i49 i51 i53 i54 i59 i61 i64 i66 (nI t67) i76 i78, (ma 46, .inl (y 0, 108, .inl g46))]) rfl ?_
    rcases hr7 with ⟨rfl, xh9⟩ | ⟨rfl, xh10, xh11⟩
    · exact absurd xh9 xh6
    · refine j_iadd (pc := 31) C (v := nI (3 + (gt.r 6 gq - 1))) d_Model_alters_31 (nI_add _ _) ?_
      refine j_dup2 (pc := 32) C d_Model_alters_32 rfl rfl ?_
      have hjq : upN bd gq (bd gq + 1) (gt.r 6 gq - 1) = bd (gt.r 6 gq - 1) := upN_n (by omega)
      refine j_iald (pc := 33) C 0 rfl (v := nI ((upN bd gq ((bd gq) + 1)) (gt.r 6 gq - 1))) (vp_in_nI (by omega) (by decide)) (by rw [nI_clamp (by omega)]; exact (nw_bd xh1 (gt.r 6 gq - 1) (by omega))) d_Model_alters_33 ?_
      refine j_iload_n (pc := 34) C d_Model_alters_34 rfl 2 rfl ?_
      refine j_iadd (pc := 35) C (v := nI (((upN bd gq ((bd gq) + 1)) (gt.r 6 gq - 1)) + 1)) d_Model_alters_35 (nI_add _ _) ?_
      refine j_iast (pc := 36) C 0 rfl (ws' := [(ma 62, .inl (y 0, 63, .inl (upd (upd g62 (3 + gq) (nI ((bd gq) + 1))) (3 + (gt.r 6 gq - 1)) (nI (((upN bd gq ((bd gq) + 1)) (gt.r 6 gq - 1)) + 1))))), MB mo ma (nI t1) i2 i3 i4 i5 i6 i7 i8 i42 i49 i51 i53 i54 i59 i61 i64 i66 (nI t67) i76 i78, (ma 46, .inl (y 0, 108, .inl g46))]) (vp_in_nI (by omega) (by decide)) (by rw [nI_clamp (by omega)]; rfl) d_Model_alters_36 ?_
      have xh12 : NW (upd (upd g62 (3 + gq) (nI ((bd gq) + 1))) (3 + (gt.r 6 gq - 1)) (nI (((upN bd gq ((bd gq) + 1)) (gt.r 6 gq - 1)) + 1))) 0 dy wa la (upN (upN bd gq ((bd gq) + 1)) (gt.r 6 gq - 1) (((upN bd gq ((bd gq) + 1)) (gt.r 6 gq - 1)) + 1)) fl st wo ly se su := nu_bd (k := (gt.r 6 gq - 1)) xh1 (by omega)
      exact j_vret (pc := 37) C hr (upd (upd g62 (3 + gq) (nI ((bd gq) + 1))) (3 + (gt.r 6 gq - 1)) (nI (((upN bd gq ((bd gq) + 1)) (gt.r 6 gq - 1)) + 1))) (by rw [mv_1 xh6]; exact xh12) [1, 2, 0] rfl (by decide) (by decide) (by decide) d_Model_alters_37
set_option maxHeartbeats 4000000 in
set_option maxRecDepth 100000 in
theorem c_misAllowed (l : Launch) (D : va_G) (y : Nat → ClassId) (mo : Nat) (ma : Nat → Nat) (t1 : Nat) (i2 : Int32) (i3 : Int32) (i4 : Int32) (i5 : Int32) (i6 : Int32) (i7 : Int32) (i8 : Int32) (i42 : Int32) (i49 : Int32) (i51 : Int32) (i53 : Int32) (i54 : Int32) (i59 : Int32) (i61 : Int32) (i64 : Int32) (i66 : Int32) (t67 : Nat) (i76 : Int64) (i78 : Int32) (g46 : Nat → Int32) (g62 : Nat → Int32) (lw : Nat) (aq : Nat) (gq : Nat) (gt : LA_) (dy : Nat) (wa : Nat) (la : Nat) (bd : Nat → Nat) (fl : Nat → Nat) (st : Nat → Nat) (wo : Nat → Int) (ly : Nat → Int) (se : Nat → Nat) (su : Nat → Nat) (hto : TOQ gt) (hnw : NW g62 0 dy wa la bd fl st wo ly se su) (hs_gates : GR gt (fun j => g46 (54 + j))) (hg : gq < gt.s 9) (h9 : gt.s 9 ≤ 9) (hbd : BN (gt.s 9) bd 20) (ha : aq ≤ 2) (hl : lw ≤ 3) (hla : la ≤ 2) : CT l D y ⟨"NineBoardsModel", "isAllowed", "(III)Z"⟩ prog_13_method_61_code 4 (some .boolean) ({ frames := 2, cells := 0, slots := 0, locals := 49 } : Room) [.ref mo, .int (nI lw), .int (nI aq), .int (nI gq)] [MB mo ma (nI t1) i2 i3 i4 i5 i6 i7 i8 i42 i49 i51 i53 i54 i59 i61 i64 i66 (nI t67) i76 i78, (ma 46, .inl (y 0, 108, .inl g46)), (ma 62, .inl (y 0, 63, .inl g62))] (QI D [MB mo ma (nI t1) i2 i3 i4 i5 i6 i7 i8 i42 i49 i51 i53 i54 i59 i61 i64 i66 (nI t67) i76 i78, (ma 46, .inl (y 0, 108, .inl g46)), (ma 62, .inl (y 0, 63, .inl g62))] (fun (r : Int32) (u : Unit) => ((r = 1 ∧ (aq = 0 ∨ (¬ lw = 3 ∧ ¬ (lw = 0 ∧ la = aq) ∧ fitT lw aq (bd gq) ∧ (gt.r 6 gq = 0 ∨ fitT lw aq (bd (gt.r 6 gq - 1)))))) ∨ (r = 0 ∧ ¬ (aq = 0 ∨ (¬ lw = 3 ∧ ¬ (lw = 0 ∧ la = aq) ∧ fitT lw aq (bd gq) ∧ (gt.r 6 gq = 0 ∨ fitT lw aq (bd (gt.r 6 gq - 1)))))))) (fun _ => [MB mo ma (nI t1) i2 i3 i4 i5 i6 i7 i8 i42 i49 i51 i53 i54 i59 i61 i64 i66 (nI t67) i76 i78, (ma 46, .inl (y 0, 108, .inl g46)), (ma 62, .inl (y 0, 63, .inl g62))])) := by
  refine CT.of (by decide) (nb rfl) ?_
  intro p e s m args below meth c C hr
  refine j_lv (lv' := [(0, .ref mo), (1, .int (nI lw)), (2, .int (nI aq)), (3, .int (nI gq))]) rfl ?_
  obtain ⟨b1, b1x, b2, b2x, b3, b5, b6, b7, b8⟩ := to_n hto
  have hb1 := hbd gq hg
  have hb2 : gt.r 6 gq = 0 ∨ bd (gt.r 6 gq - 1) ≤ 20 := by
    rcases Nat.eq_zero_or_pos (gt.r 6 gq) with q | q
    · exact Or.inl q
    · exact Or.inr (hbd _ (by have := (to_j hto gq hg).1; omega))
  refine j_iload_n (pc := 0) C d_Model_isAllowed_0 rfl 2 rfl ?_
  by_cases c1 : ¬ aq = 0
  · refine j_if_neT (pc := 1) C (tgt := 6) d_Model_isAllowed_1 (by decide) (show ¬ nI aq = nI 0 from fun e => absurd ((nI_eq (by omega) (by omega)).mp e) (by omega)) ?_
    refine j_iload_n (pc := 6) C d_Model_isAllowed_6 rfl 1 rfl ?_
    refine j_iconst (pc := 7) C (v := 3) d_Model_isAllowed_7 (by decide) ?_
    by_cases c2 : lw = 3
    · refine j_icmp_eqT (pc := 8) C (tgt := 25) d_Model_isAllowed_8 (by decide) (show nI lw = nI 3 from (nI_eq (by omega) (by omega)).mpr (by omega)) ?_
      refine j_iconst (pc := 25) C (v := 0) d_Model_isAllowed_25 (by decide) ?_
      exact j_iret (pc := 26) C hr (by decide) () (Or.inr ⟨rfl, by omega⟩) [0, 1, 2] rfl (by decide) (by decide) (by decide) d_Model_isAllowed_26
    · refine j_icmp_eqF (pc := 8) C (tgt := 25) d_Model_isAllowed_8 (by decide) (show ¬ nI lw = nI 3 from fun e => absurd ((nI_eq (by omega) (by omega)).mp e) (by omega)) ?_
      refine j_iload_n (pc := 11) C d_Model_isAllowed_11 rfl 1 rfl ?_
      by_cases c3 : ¬ lw = 0
      · refine j_if_neT (pc := 12) C (tgt := 27) d_Model_isAllowed_12 (by decide) (show ¬ nI lw = nI 0 from fun e => absurd ((nI_eq (by omega) (by omega)).mp e) (by omega)) ?_
        refine j_iload_n (pc := 27) C d_Model_isAllowed_27 rfl 2 rfl ?_
        refine j_iconst (pc := 28) C (v := 1) d_Model_isAllowed_28 (by decide) ?_
        by_cases c4 : ¬ aq = 1
        · refine j_icmp_neT (pc := 29) C (tgt := 50) d_Model_isAllowed_29 (by decide) (show ¬ nI aq = nI 1 from fun e => absurd ((nI_eq (by omega) (by omega)).mp e) (by omega)) ?_
          refine j_aload_n (pc := 50) C d_Model_isAllowed_50 rfl 0 rfl ?_
          refine j_iload_n (pc := 51) C d_Model_isAllowed_51 rfl 3 rfl ?_
          refine j_iconst (pc := 52) C (v := 0) d_Model_isAllowed_52 (by decide) ?_
          refine j_iload_n (pc := 53) C d_Model_isAllowed_53 rfl 1 rfl ?_
          refine j_iconst (pc := 54) C (v := 2) d_Model_isAllowed_54 (by decide) ?_
          by_cases c5 : ¬ lw = 2
          · refine j_icmp_neT (pc := 55) C (tgt := 63) d_Model_isAllowed_55 (by decide) (show ¬ nI lw = nI 2 from fun e => absurd ((nI_eq (by omega) (by omega)).mp e) (by omega)) ?_
            refine j_bipush (pc := 63) C (v := 19) d_Model_isAllowed_63 (by decide) ?_
            refine j_callVi (pc := 65) C (c_mareBoards l D y mo ma t1 i2 i3 i4 i5 i6 i7 i8 i42 i49 i51 i53 i54 i59 i61 i64 i66 t67 i76 i78 g46 g62 gq 0 19 gt dy wa la bd fl st wo ly se su hto hnw hs_gates hg h9 hbd (by omega) (by omega)) kw_Model_424 kv_Model_areBoards 0 10 rfl rfl ⟨by decide, by decide⟩ ⟨by decide, by decide⟩ (wr := []) [0, 1, 2] [] rfl rfl (by decide) (by decide) (by decide) (As := [.int (nI gq), .int 0, .int 19]) (rest := []) rfl (nb rfl) rfl d_Model_isAllowed_65 (fun r6 _ hr6 => ?_)
            refine j_ws (ws' := [MB mo ma (nI t1) i2 i3 i4 i5 i6 i7 i8 i42 i49 i51 i53 i54 i59 i61 i64 i66 (nI t67) i76 i78, (ma 46, .inl (y 0, 108, .inl g46)), (ma 62, .inl (y 0, 63, .inl g62))]) rfl ?_
            rcases hr6 with ⟨rfl, xh8⟩ | ⟨rfl, xh9⟩
            · exact j_iret (pc := 68) C hr (by decide) () (Or.inl ⟨rfl, by omega⟩) [0, 1, 2] rfl (by decide) (by decide) (by decide) d_Model_isAllowed_68
            · exact j_iret (pc := 68) C hr (by decide) () (Or.inr ⟨rfl, by omega⟩) [0, 1, 2] rfl (by decide) (by decide) (by decide) d_Model_isAllowed_68
          · refine j_icmp_neF (pc := 55) C (tgt := 63) d_Model_isAllowed_55 (by decide) (show nI lw = nI 2 from (nI_eq (by omega) (by omega)).mpr (by omega)) ?_
            refine j_bipush (pc := 58) C (v := 8) d_Model_isAllowed_58 (by decide) ?_
            refine j_goto (pc := 60) C (tgt := 65) d_Model_isAllowed_60 (by decide) ?_
            refine j_callVi (pc := 65) C (c_mareBoards l D y mo ma t1 i2 i3 i4 i5 i6 i7 i8 i42 i49 i51 i53 i54 i59 i61 i64 i66 t67 i76 i78 g46 g62 gq 0 8 gt dy wa la bd fl st wo ly se su hto hnw hs_gates hg h9 hbd (by omega) (by omega)) kw_Model_424 kv_Model_areBoards 0 10 rfl rfl ⟨by decide, by decide⟩ ⟨by decide, by decide⟩ (wr := []) [0, 1, 2] [] rfl rfl (by decide) (by decide) (by decide) (As := [.int (nI gq), .int 0, .int 8]) (rest := []) rfl (nb rfl) rfl d_Model_isAllowed_65 (fun r10 _ hr10 => ?_)
            refine j_ws (ws' := [MB mo ma (nI t1) i2 i3 i4 i5 i6 i7 i8 i42 i49 i51 i53 i54 i59 i61 i64 i66 (nI t67) i76 i78, (ma 46, .inl (y 0, 108, .inl g46)), (ma 62, .inl (y 0, 63, .inl g62))]) rfl ?_
            rcases hr10 with ⟨rfl, xh12⟩ | ⟨rfl, xh13⟩
            · exact j_iret (pc := 68) C hr (by decide) () (Or.inl ⟨rfl, by omega⟩) [0, 1, 2] rfl (by decide) (by decide) (by decide) d_Model_isAllowed_68
            · exact j_iret (pc := 68) C hr (by decide) () (Or.inr ⟨rfl, by omega⟩) [0, 1, 2] rfl (by decide) (by decide) (by decide) d_Model_isAllowed_68
        · refine j_icmp_neF (pc := 29) C (tgt := 50) d_Model_isAllowed_29 (by decide) (show nI aq = nI 1 from (nI_eq (by omega) (by omega)).mpr (by omega)) ?_
          refine j_aload_n (pc := 32) C d_Model_isAllowed_32 rfl 0 rfl ?_
          refine j_iload_n (pc := 33) C d_Model_isAllowed_33 rfl 3 rfl ?_
          refine j_iload_n (pc := 34) C d_Model_isAllowed_34 rfl 1 rfl ?_
          refine j_iconst (pc := 35) C (v := 2) d_Model_isAllowed_35 (by decide) ?_
          by_cases c14 : ¬ lw = 2
          · refine j_icmp_neT (pc := 36) C (tgt := 43) d_Model_isAllowed_36 (by decide) (show ¬ nI lw = nI 2 from fun e => absurd ((nI_eq (by omega) (by omega)).mp e) (by omega)) ?_
            refine j_iconst (pc := 43) C (v := 1) d_Model_isAllowed_43 (by decide) ?_
            refine j_bipush (pc := 44) C (v := 20) d_Model_isAllowed_44 (by decide) ?_
            refine j_callVi (pc := 46) C (c_mareBoards l D y mo ma t1 i2 i3 i4 i5 i6 i7 i8 i42 i49 i51 i53 i54 i59 i61 i64 i66 t67 i76 i78 g46 g62 gq 1 20 gt dy wa la bd fl st wo ly se su hto hnw hs_gates hg h9 hbd (by omega) (by omega)) kw_Model_424 kv_Model_areBoards 0 10 rfl rfl ⟨by decide, by decide⟩ ⟨by decide, by decide⟩ (wr := []) [0, 1, 2] [] rfl rfl (by decide) (by decide) (by decide) (As := [.int (nI gq), .int 1, .int 20]) (rest := []) rfl (nb rfl) rfl d_Model_isAllowed_46 (fun r15 _ hr15 => ?_)
            refine j_ws (ws' := [MB mo ma (nI t1) i2 i3 i4 i5 i6 i7 i8 i42 i49 i51 i53 i54 i59 i61 i64 i66 (nI t67) i76 i78, (ma 46, .inl (y 0, 108, .inl g46)), (ma 62, .inl (y 0, 63, .inl g62))]) rfl ?_
            rcases hr15 with ⟨rfl, xh17⟩ | ⟨rfl, xh18⟩
            · exact j_iret (pc := 49) C hr (by decide) () (Or.inl ⟨rfl, by omega⟩) [0, 1, 2] rfl (by decide) (by decide) (by decide) d_Model_isAllowed_49
            · exact j_iret (pc := 49) C hr (by decide) () (Or.inr ⟨rfl, by omega⟩) [0, 1, 2] rfl (by decide) (by decide) (by decide) d_Model_isAllowed_49
          · refine j_icmp_neF (pc := 36) C (tgt := 43) d_Model_isAllowed_36 (by decide) (show nI lw = nI 2 from (nI_eq (by omega) (by omega)).mpr (by omega)) ?_
            refine j_iconst (pc := 39) C (v := 2) d_Model_isAllowed_39 (by decide) ?_
            refine j_goto (pc := 40) C (tgt := 44) d_Model_isAllowed_40 (by decide) ?_
            refine j_bipush (pc := 44) C (v := 20) d_Model_isAllowed_44 (by decide) ?_
            refine j_callVi (pc := 46) C (c_mareBoards l D y mo ma t1 i2 i3 i4 i5 i6 i7 i8 i42 i49 i51 i53 i54 i59 i61 i64 i66 t67 i76 i78 g46 g62 gq 2 20 gt dy wa la bd fl st wo ly se su hto hnw hs_gates hg h9 hbd (by omega) (by omega)) kw_Model_424 kv_Model_areBoards 0 10 rfl rfl ⟨by decide, by decide⟩ ⟨by decide, by decide⟩ (wr := []) [0, 1, 2] [] rfl rfl (by decide) (by decide) (by decide) (As := [.int (nI gq), .int 2, .int 20]) (rest := []) rfl (nb rfl) rfl d_Model_isAllowed_46 (fun r19 _ hr19 => ?_)
            refine j_ws (ws' := [MB mo ma (nI t1) i2 i3 i4 i5 i6 i7 i8 i42 i49 i51 i53 i54 i59 i61 i64 i66 (nI t67) i76 i78, (ma 46, .inl (y 0, 108, .inl g46)), (ma 62, .inl (y 0, 63, .inl g62))]) rfl ?_
            rcases hr19 with ⟨rfl, xh21⟩ | ⟨rfl, xh22⟩
            · exact j_iret (pc := 49) C hr (by decide) () (Or.inl ⟨rfl, by omega⟩) [0, 1, 2] rfl (by decide) (by decide) (by decide) d_Model_isAllowed_49
            · exact j_iret (pc := 49) C hr (by decide) () (Or.inr ⟨rfl, by omega⟩) [0, 1, 2] rfl (by decide) (by decide) (by decide) d_Model_isAllowed_49
      · refine j_if_neF (pc := 12) C (tgt := 27) d_Model_isAllowed_12 (by decide) (show nI lw = nI 0 from (nI_eq (by omega) (by omega)).mpr (by omega)) ?_
        refine j_aload_n (pc := 15) C d_Model_isAllowed_15 rfl 0 rfl ?_
        refine j_get (pc := 16) C gf_Model_158 0 rfl rfl d_Model_isAllowed_16 ?_
        refine j_iconst (pc := 19) C (v := 2) d_Model_isAllowed_19 (by decide) ?_
        refine j_iald (pc := 20) C 2 rfl (v := nI la) (vin (by decide)) (nw_la hnw) d_Model_isAllowed_20 ?_
        refine j_iload_n (pc := 21) C d_Model_isAllowed_21 rfl 2 rfl ?_
        by_cases c23 : ¬ la = aq
        · refine j_icmp_neT (pc := 22) C (tgt := 27) d_Model_isAllowed_22 (by decide) (show ¬ nI la = nI aq from fun e => absurd ((nI_eq (by omega) (by omega)).mp e) (by omega)) ?_
          refine j_iload_n (pc := 27) C d_Model_isAllowed_27 rfl 2 rfl ?_
          refine j_iconst (pc := 28) C (v := 1) d_Model_isAllowed_28 (by decide) ?_
          by_cases c24 : ¬ aq = 1
          · refine j_icmp_neT (pc := 29) C (tgt := 50) d_Model_isAllowed_29 (by decide) (show ¬ nI aq = nI 1 from fun e => absurd ((nI_eq (by omega) (by omega)).mp e) (by omega)) ?_
            refine j_aload_n (pc := 50) C d_Model_isAllowed_50 rfl 0 rfl ?_
            refine j_iload_n (pc := 51) C d_Model_isAllowed_51 rfl 3 rfl ?_
            refine j_iconst (pc := 52) C (v := 0) d_Model_isAllowed_52 (by decide) ?_
            refine j_iload_n (pc := 53) C d_Model_isAllowed_53 rfl 1 rfl ?_
            refine j_iconst (pc := 54) C (v := 2) d_Model_isAllowed_54 (by decide) ?_
            by_cases c25 : ¬ lw = 2
            · refine j_icmp_neT (pc := 55) C (tgt := 63) d_Model_isAllowed_55 (by decide) (show ¬ nI lw = nI 2 from fun e => absurd ((nI_eq (by omega) (by omega)).mp e) (by omega)) ?_
              refine j_bipush (pc := 63) C (v := 19) d_Model_isAllowed_63 (by decide) ?_
              refine j_callVi (pc := 65) C (c_mareBoards l D y mo ma t1 i2 i3 i4 i5 i6 i7 i8 i42 i49 i51 i53 i54 i59 i61 i64 i66 t67 i76 i78 g46 g62 gq 0 19 gt dy wa la bd fl st wo ly se su hto hnw hs_gates hg h9 hbd (by omega) (by omega)) kw_Model_424 kv_Model_areBoards 0 10 rfl rfl ⟨by decide, by decide⟩ ⟨by decide, by decide⟩ (wr := []) [0, 1, 2] [] rfl rfl (by decide) (by decide) (by decide) (As := [.int (nI gq), .int 0, .int 19]) (rest := []) rfl (nb rfl) rfl d_Model_isAllowed_65 (fun r26 _ hr26 => ?_)
              refine j_ws (ws' := [MB mo ma (nI t1) i2 i3 i4 i5 i6 i7 i8 i42 i49 i51 i53 i54 i59 i61 i64 i66 (nI t67) i76 i78, (ma 46, .inl (y 0, 108, .inl g46)), (ma 62, .inl (y 0, 63, .inl g62))]) rfl ?_
              rcases hr26 with ⟨rfl, xh28⟩ | ⟨rfl, xh29⟩
              · exact j_iret (pc := 68) C hr (by decide) () (Or.inl ⟨rfl, by omega⟩) [0, 1, 2] rfl (by decide) (by decide) (by decide) d_Model_isAllowed_68
              · exact j_iret (pc := 68) C hr (by decide) () (Or.inr ⟨rfl, by omega⟩) [0, 1, 2] rfl (by decide) (by decide) (by decide) d_Model_isAllowed_68
            · refine j_icmp_neF (pc := 55) C (tgt := 63) d_Model_isAllowed_55 (by decide) (show nI lw = nI 2 from (nI_eq (by omega) (by omega)).mpr (by omega)) ?_
              refine j_bipush (pc := 58) C (v := 8) d_Model_isAllowed_58 (by decide) ?_
              refine j_goto (pc := 60) C (tgt := 65) d_Model_isAllowed_60 (by decide) ?_
              refine j_callVi (pc := 65) C (c_mareBoards l D y mo ma t1 i2 i3 i4 i5 i6 i7 i8 i42 i49 i51 i53 i54 i59 i61 i64 i66 t67 i76 i78 g46 g62 gq 0 8 gt dy wa la bd fl st wo ly se su hto hnw hs_gates hg h9 hbd (by omega) (by omega)) kw_Model_424 kv_Model_areBoards 0 10 rfl rfl ⟨by decide, by decide⟩ ⟨by decide, by decide⟩ (wr := []) [0, 1, 2] [] rfl rfl (by decide) (by decide) (by decide) (As := [.int (nI gq), .int 0, .int 8]) (rest := []) rfl (nb rfl) rfl d_Model_isAllowed_65 (fun r30 _ hr30 => ?_)
              refine j_ws (ws' := [MB mo ma (nI t1) i2 i3 i4 i5 i6 i7 i8 i42 i49 i51 i53 i54 i59 i61 i64 i66 (nI t67) i76 i78, (ma 46, .inl (y 0, 108, .inl g46)), (ma 62, .inl (y 0, 63, .inl g62))]) rfl ?_
              rcases hr30 with ⟨rfl, xh32⟩ | ⟨rfl, xh33⟩
              · exact j_iret (pc := 68) C hr (by decide) () (Or.inl ⟨rfl, by omega⟩) [0, 1, 2] rfl (by decide) (by decide) (by decide) d_Model_isAllowed_68
              · exact j_iret (pc := 68) C hr (by decide) () (Or.inr ⟨rfl, by omega⟩) [0, 1, 2] rfl (by decide) (by decide) (by decide) d_Model_isAllowed_68
          · refine j_icmp_neF (pc := 29) C (tgt := 50) d_Model_isAllowed_29 (by decide) (show nI aq = nI 1 from (nI_eq (by omega) (by omega)).mpr (by omega)) ?_
            refine j_aload_n (pc := 32) C d_Model_isAllowed_32 rfl 0 rfl ?_
            refine j_iload_n (pc := 33) C d_Model_isAllowed_33 rfl 3 rfl ?_
            refine j_iload_n (pc := 34) C d_Model_isAllowed_34 rfl 1 rfl ?_
            refine j_iconst (pc := 35) C (v := 2) d_Model_isAllowed_35 (by decide) ?_
            by_cases c34 : ¬ lw = 2
            · refine j_icmp_neT (pc := 36) C (tgt := 43) d_Model_isAllowed_36 (by decide) (show ¬ nI lw = nI 2 from fun e => absurd ((nI_eq (by omega) (by omega)).mp e) (by omega)) ?_
              refine j_iconst (pc := 43) C (v := 1) d_Model_isAllowed_43 (by decide) ?_
              refine j_bipush (pc := 44) C (v := 20) d_Model_isAllowed_44 (by decide) ?_
              refine j_callVi (pc := 46) C (c_mareBoards l D y mo ma t1 i2 i3 i4 i5 i6 i7 i8 i42 i49 i51 i53 i54 i59 i61 i64 i66 t67 i76 i78 g46 g62 gq 1 20 gt dy wa la bd fl st wo ly se su hto hnw hs_gates hg h9 hbd (by omega) (by omega)) kw_Model_424 kv_Model_areBoards 0 10 rfl rfl ⟨by decide, by decide⟩ ⟨by decide, by decide⟩ (wr := []) [0, 1, 2] [] rfl rfl (by decide) (by decide) (by decide) (As := [.int (nI gq), .int 1, .int 20]) (rest := []) rfl (nb rfl) rfl d_Model_isAllowed_46 (fun r35 _ hr35 => ?_)
              refine j_ws (ws' := [MB mo ma (nI t1) i2 i3 i4 i5 i6 i7 i8 i42 i49 i51 i53 i54 i59 i61 i64 i66 (nI t67) i76 i78, (ma 46, .inl (y 0, 108, .inl g46)), (ma 62, .inl (y 0, 63, .inl g62))]) rfl ?_
              rcases hr35 with ⟨rfl, xh37⟩ | ⟨rfl, xh38⟩
              · exact j_iret (pc := 49) C hr (by decide) () (Or.inl ⟨rfl, by omega⟩) [0, 1, 2] rfl (by decide) (by decide) (by decide) d_Model_isAllowed_49
              · exact j_iret (pc := 49) C hr (by decide) () (Or.inr ⟨rfl, by omega⟩) [0, 1, 2] rfl (by decide) (by decide) (by decide) d_Model_isAllowed_49
            · refine j_icmp_neF (pc := 36) C (tgt := 43) d_Model_isAllowed_36 (by decide) (show nI lw = nI 2 from (nI_eq (by omega) (by omega)).mpr (by omega)) ?_
              refine j_iconst (pc := 39) C (v := 2) d_Model_isAllowed_39 (by decide) ?_
              refine j_goto (pc := 40) C (tgt := 44) d_Model_isAllowed_40 (by decide) ?_
              refine j_bipush (pc := 44) C (v := 20) d_Model_isAllowed_44 (by decide) ?_
              refine j_callVi (pc := 46) C (c_mareBoards l D y mo ma t1 i2 i3 i4 i5 i6 i7 i8 i42 i49 i51 i53 i54 i59 i61 i64 i66 t67 i76 i78 g46 g62 gq 2 20 gt dy wa la bd fl st wo ly se su hto hnw hs_gates hg h9 hbd (by omega) (by omega)) kw_Model_424 kv_Model_areBoards 0 10 rfl rfl ⟨by decide, by decide⟩ ⟨by decide, by decide⟩ (wr := []) [0, 1, 2] [] rfl rfl (by decide) (by decide) (by decide) (As := [.int (nI gq), .int 2, .int 20]) (rest := []) rfl (nb rfl) rfl d_Model_isAllowed_46 (fun r39 _ hr39 => ?_)
              refine j_ws (ws' := [MB mo ma (nI t1) i2 i3 i4 i5 i6 i7 i8 i42 i49 i51 i53 i54 i59 i61 i64 i66 (nI t67) i76 i78, (ma 46, .inl (y 0, 108, .inl g46)), (ma 62, .inl (y 0, 63, .inl g62))]) rfl ?_
              rcases hr39 with ⟨rfl, xh41⟩ | ⟨rfl, xh42⟩
              · exact j_iret (pc := 49) C hr (by decide) () (Or.inl ⟨rfl, by omega⟩) [0, 1, 2] rfl (by decide) (by decide) (by decide) d_Model_isAllowed_49
              · exact j_iret (pc := 49) C hr (by decide) () (Or.inr ⟨rfl, by omega⟩) [0, 1, 2] rfl (by decide) (by decide) (by decide) d_Model_isAllowed_49
        · refine j_icmp_neF (pc := 22) C (tgt := 27) d_Model_isAllowed_22 (by decide) (show nI la = nI aq from (nI_eq (by omega) (by omega)).mpr (by omega)) ?_
          refine j_iconst (pc := 25) C (v := 0) d_Model_isAllowed_25 (by decide) ?_
          exact j_iret (pc := 26) C hr (by decide) () (Or.inr ⟨rfl, by omega⟩) [0, 1, 2] rfl (by decide) (by decide) (by decide) d_Model_isAllowed_26
  · refine j_if_neF (pc := 1) C (tgt := 6) d_Model_isAllowed_1 (by decide) (show nI aq = nI 0 from (nI_eq (by omega) (by omega)).mpr (by omega)) ?_
    refine j_iconst (pc := 4) C (v := 1) d_Model_isAllowed_4 (by decide) ?_
    exact j_iret (pc := 5) C hr (by decide) () (Or.inl ⟨rfl, by omega⟩) [0, 1, 2] rfl (by decide) (by decide) (by decide) d_Model_isAllowed_5
set_option maxHeartbeats 4000000 in
set_option maxRecDepth 100000 in
theorem c_mtodays (l : Launch) (D : va_G) (y : Nat → ClassId) (mo : Nat) (ma : Nat → Nat) (t1 : Nat) (i2 : Int32) (i3 : Int32) (i4 : Int32) (i5 : Int32) (i6 : Int32) (i7 : Int32) (i8 : Int32) (i42 : Int32) (i49 : Int32) (i51 : Int32) (i53 : Int32) (i54 : Int32) (i59 : Int32) (i61 : Int32) (i64 : Int32) (i66 : Int32) (t67 : Nat) (i76 : Int64) (i78 : Int32) (g43 : Nat → Int32) (g62 : Nat → Int32) (dy : Nat) (wa : Nat) (la : Nat) (bd : Nat → Nat) (fl : Nat → Nat) (st : Nat → Nat) (wo : Nat → Int) (ly : Nat → Int) (se : Nat → Nat) (su : Nat → Nat) (gt : LA_) (hnw : NW g62 0 dy wa la bd fl st wo ly se su) (hs_many : MC gt (fun j => g43 (4 + j))) (hdy : dy ≤ 2000) : CT l D y ⟨"NineBoardsModel", "todays", "()I"⟩ prog_13_method_66_code 1 (some .int) ({ frames := 1, cells := 0, slots := 0, locals := 20 } : Room) [.ref mo] [MB mo ma (nI t1) i2 i3 i4 i5 i6 i7 i8 i42 i49 i51 i53 i54 i59 i61 i64 i66 (nI t67) i76 i78, (ma 43, .inl (y 0, 8, .inl g43)), (ma 62, .inl (y 0, 63, .inl g62))] (QI D [MB mo ma (nI t1) i2 i3 i4 i5 i6 i7 i8 i42 i49 i51 i53 i54 i59 i61 i64 i66 (nI t67) i76 i78, (ma 43, .inl (y 0, 8, .inl g43)), (ma 62, .inl (y 0, 63, .inl g62))] (fun (r : Int32) (u : Unit) => ((r = -1 ∧ gt.s 4 = 0) ∨ (r = nI (dy % gt.s 4) ∧ 0 < gt.s 4))) (fun _ => [MB mo ma (nI t1) i2 i3 i4 i5 i6 i7 i8 i42 i49 i51 i53 i54 i59 i61 i64 i66 (nI t67) i76 i78, (ma 43, .inl (y 0, 8, .inl g43)), (ma 62, .inl (y 0, 63, .inl g62))])) := by
  refine CT.of (by decide) (nb rfl) ?_
  intro p e s m args below meth c C hr
  refine j_lv (lv' := [(0, .ref mo)]) rfl ?_
  obtain ⟨_, _, _, _, b9, b4, b10, b11⟩ := id hs_many
  refine j_aload_n (pc := 0) C d_Model_todays_0 rfl 0 rfl ?_
  refine j_callVi (pc := 1) C (c_mvillages l D y mo ma t1 i2 i3 i4 i5 i6 i7 i8 i42 i49 i51 i53 i54 i59 i61 i64 i66 t67 i76 i78 g43 gt hs_many) kw_Model_448 kv_Model_villages 0 10 rfl rfl ⟨by decide, by decide⟩ ⟨by decide, by decide⟩ (wr := [(ma 62, .inl (y 0, 63, .inl g62))]) [0, 1] [2] rfl rfl (by decide) (by decide) (by decide) (As := []) (rest := []) rfl (nb rfl) rfl d_Model_todays_1 (fun r1 _ hr1 => ?_)
  obtain rfl := hr1
  refine j_ws (ws' := [(ma 62, .inl (y 0, 63, .inl g62)), MB mo ma (nI t1) i2 i3 i4 i5 i6 i7 i8 i42 i49 i51 i53 i54 i59 i61 i64 i66 (nI t67) i76 i78, (ma 43, .inl (y 0, 8, .inl g43))]) rfl ?_
  by_cases c2 : ¬ (gt.s 4) = 0
  · refine j_if_neT (pc := 4) C (tgt := 11) d_Model_todays_4 (by decide) (show ¬ nI (gt.s 4) = nI 0 from fun e => absurd ((nI_eq (by omega) (by omega)).mp e) (by omega)) ?_
    refine j_aload_n (pc := 11) C d_Model_todays_11 rfl 0 rfl ?_
    refine j_get (pc := 12) C gf_Model_158 1 rfl rfl d_Model_todays_12 ?_
    refine j_iconst (pc := 15) C (v := 0) d_Model_todays_15 (by decide) ?_
    refine j_iald (pc := 16) C 0 rfl (v := nI dy) (vin (by decide)) (nw_dy hnw) d_Model_todays_16 ?_
    refine j_aload_n (pc := 17) C d_Model_todays_17 rfl 0 rfl ?_
    refine j_callVi (pc := 18) C (c_mvillages l D y mo ma t1 i2 i3 i4 i5 i6 i7 i8 i42 i49 i51 i53 i54 i59 i61 i64 i66 t67 i76 i78 g43 gt hs_many) kw_Model_448 kv_Model_villages 0 10 rfl rfl ⟨by decide, by decide⟩ ⟨by decide, by decide⟩ (wr := [(ma 62, .inl (y 0, 63, .inl g62))]) [1, 2] [0] rfl rfl (by decide) (by decide) (by decide) (As := []) (rest := [.int (nI dy)]) rfl (nb rfl) rfl d_Model_todays_18 (fun r3 _ hr3 => ?_)
    obtain rfl := hr3
    refine j_ws (ws' := [(ma 62, .inl (y 0, 63, .inl g62)), MB mo ma (nI t1) i2 i3 i4 i5 i6 i7 i8 i42 i49 i51 i53 i54 i59 i61 i64 i66 (nI t67) i76 i78, (ma 43, .inl (y 0, 8, .inl g43))]) rfl ?_
    refine j_irem (pc := 21) C (v := nI (dy % (gt.s 4))) d_Model_todays_21 (nI_ne0 (by omega) (by omega)) (pk_rem (by omega) (by omega) (by omega)) ?_
    exact j_iret (pc := 22) C hr rfl () (Or.inr ⟨rfl, by omega⟩) [1, 2, 0] rfl (by decide) (by decide) (by decide) d_Model_todays_22
  · refine j_if_neF (pc := 4) C (tgt := 11) d_Model_todays_4 (by decide) (show nI (gt.s 4) = nI 0 from (nI_eq (by omega) (by omega)).mpr (by omega)) ?_
    refine j_iconst (pc := 7) C (v := (-1)) d_Model_todays_7 (by decide) ?_
    refine j_goto (pc := 8) C (tgt := 22) d_Model_todays_8 (by decide) ?_
    exact j_iret (pc := 22) C hr rfl () (Or.inl ⟨rfl, by omega⟩) [1, 2, 0] rfl (by decide) (by decide) (by decide) d_Model_todays_22
set_option maxHeartbeats 4000000 in
set_option maxRecDepth 100000 in
theorem c_macts (l : Launch) (D : va_G) (y : Nat → ClassId) (mo : Nat) (ma : Nat → Nat) (t1 : Nat) (i2 : Int32) (i3 : Int32) (i4 : Int32) (i5 : Int32) (i6 : Int32) (i7 : Int32) (i8 : Int32) (i42 : Int32) (i49 : Int32) (i51 : Int32) (i53 : Int32) (i54 : Int32) (i59 : Int32) (i61 : Int32) (i64 : Int32) (i66 : Int32) (t67 : Nat) (i76 : Int64) (i78 : Int32) (g43 : Nat → Int32) (g46 : Nat → Int32) (g47 : Nat → Int32) (g62 : Nat → Int32) (aq : Nat) (gt : LA_) (dy : Nat) (wa : Nat) (la : Nat) (bd : Nat → Nat) (fl : Nat → Nat) (st : Nat → Nat) (wo : Nat → Int) (ly : Nat → Int) (se : Nat → Nat) (su : Nat → Nat) (hto : TOQ gt) (hnw : NW g62 0 dy wa la bd fl st wo ly se su) (hs_many : MC gt (fun j => g43 (4 + j))) (hs_gates : GR gt (fun j => g46 (54 + j))) (hs_gateOf : OR_ gt (fun j => g47 (6 + j))) (hbd : BN (gt.s 9) bd 20) (hdy : dy ≤ 2000) (ha : aq ≤ 2) (hm : aq = 0 ∨ (0 < gt.s 4 ∧ fitT 0 aq (bd (gt.r 8 (dy % gt.s 4))) ∧ (gt.r 6 (gt.r 8 (dy % gt.s 4)) = 0 ∨ fitT 0 aq (bd (gt.r 6 (gt.r 8 (dy % gt.s 4)) - 1))))) : CT l D y ⟨"NineBoardsModel", "acts", "(I)V"⟩ prog_13_method_67_code 2 none ({ frames := 2, cells := 0, slots := 0, locals := 43 } : Room) [.ref mo, .int (nI aq)] [MB mo ma (nI t1) i2 i3 i4 i5 i6 i7 i8 i42 i49 i51 i53 i54 i59 i61 i64 i66 (nI t67) i76 i78, (ma 43, .inl (y 0, 8, .inl g43)), (ma 46, .inl (y 0, 108, .inl g46)), (ma 47, .inl (y 0, 12, .inl g47)), (ma 62, .inl (y 0, 63, .inl g62))] (QV D [MB mo ma (nI t1) i2 i3 i4 i5 i6 i7 i8 i42 i49 i51 i53 i54 i59 i61 i64 i66 (nI t67) i76 i78, (ma 43, .inl (y 0, 8, .inl g43)), (ma 46, .inl (y 0, 108, .inl g46)), (ma 47, .inl (y 0, 12, .inl g47)), (ma 62, .inl (y 0, 63, .inl g62))] (fun (u : Nat → Int32) => NW u 0 dy wa (actL la aq) (actB gt bd dy aq) fl st wo ly se su ∧ BN (gt.s 9) (actB gt bd dy aq) 20) (fun u => [MB mo ma (nI t1) i2 i3 i4 i5 i6 i7 i8 i42 i49 i51 i53 i54 i59 i61 i64 i66 (nI t67) i76 i78, (ma 43, .inl (y 0, 8, .inl g43)), (ma 46, .inl (y 0, 108, .inl g46)), (ma 47, .inl (y 0, 12, .inl g47)), (ma 62, .inl (y 0, 63, .inl u))])) := by
  refine CT.of (by decide) (nb rfl) ?_
  intro p e s m args below meth c C hr
  refine j_lv (lv' := [(0, .ref mo), (1, .int (nI aq))]) rfl ?_
  obtain ⟨_, _, _, _, b9, b4, b10, b11⟩ := id hs_many
  obtain ⟨b1, b1x, b2, b2x, b3, b5, b6, b7, b8⟩ := to_n hto
  by_cases e1 : aq = 0
  · refine j_iload_n (pc := 0) C d_Model_acts_0 rfl 1 rfl ?_
    refine j_if_neF (pc := 1) C (tgt := 5) d_Model_acts_1 (by decide) (show nI aq = nI 0 from (nI_eq (by omega) (by omega)).mpr (by omega)) ?_
    exact j_vret (pc := 4) C hr g62 ⟨(by unfold actB actL; rw [if_pos e1, if_pos e1]; exact hnw), act_bn hbd ha hm (fun h0 => (to_j hto _ ((hs_gateOf _ (Nat.mod_lt _ h0)).2)).2)⟩ [0, 1, 2, 3, 4] rfl (by decide) (by decide) (by decide) d_Model_acts_4
  · refine j_iload_n (pc := 0) C d_Model_acts_0 rfl 1 rfl ?_
    refine j_if_neT (pc := 1) C (tgt := 5) d_Model_acts_1 (by decide) (show ¬ nI aq = nI 0 from fun e => absurd ((nI_eq (by omega) (by omega)).mp e) (by omega)) ?_
    refine j_aload_n (pc := 5) C d_Model_acts_5 rfl 0 rfl ?_
    refine j_aload_n (pc := 6) C d_Model_acts_6 rfl 0 rfl ?_
    refine j_get (pc := 7) C gf_Model_130 0 rfl rfl d_Model_acts_7 ?_
    refine j_bipush (pc := 10) C (v := 6) d_Model_acts_10 (by decide) ?_
    refine j_aload_n (pc := 12) C d_Model_acts_12 rfl 0 rfl ?_
    refine j_callVi (pc := 13) C (c_mtodays l D y mo ma t1 i2 i3 i4 i5 i6 i7 i8 i42 i49 i51 i53 i54 i59 i61 i64 i66 t67 i76 i78 g43 g62 dy wa la bd fl st wo ly se su gt hnw hs_many hdy) kw_Model_451 kv_Model_todays 0 10 rfl rfl ⟨by decide, by decide⟩ ⟨by decide, by decide⟩ (wr := [(ma 46, .inl (y 0, 108, .inl g46)), (ma 47, .inl (y 0, 12, .inl g47))]) [0, 1, 4] [2, 3] rfl rfl (by decide) (by decide) (by decide) (As := []) (rest := [.int 6, .ref (ma 47), .ref mo]) rfl (nb rfl) rfl d_Model_acts_13 (fun r2 _ hr2 => ?_)
    refine j_ws (ws' := [(ma 46, .inl (y 0, 108, .inl g46)), (ma 47, .inl (y 0, 12, .inl g47)), MB mo ma (nI t1) i2 i3 i4 i5 i6 i7 i8 i42 i49 i51 i53 i54 i59 i61 i64 i66 (nI t67) i76 i78, (ma 43, .inl (y 0, 8, .inl g43)), (ma 62, .inl (y 0, 63, .inl g62))]) rfl ?_
    rcases hr2 with ⟨rfl, xh4⟩ | ⟨rfl, xh5⟩
    · exact absurd xh4 (by omega)
    · have hvq : dy % gt.s 4 < gt.s 4 := Nat.mod_lt _ (by omega)
      refine j_iadd (pc := 16) C (v := nI (6 + (dy % gt.s 4))) d_Model_acts_16 (nI_add _ _) ?_
      have xh6 : gt.r 8 (dy % gt.s 4) < gt.s 9 := (hs_gateOf (dy % gt.s 4) (by omega)).2
      refine j_iald (pc := 17) C 1 rfl (v := nI (gt.r 8 (dy % gt.s 4))) (vp_in_nI (by omega) (by decide)) (by rw [nI_clamp (by omega)]; exact (hs_gateOf (dy % gt.s 4) (by omega)).1) d_Model_acts_17 ?_
      have hvq : dy % gt.s 4 < gt.s 4 := Nat.mod_lt _ (by omega)
      by_cases e7 : aq = 1
      · have hqv : aq = 1 := by omega
        refine j_iload_n (pc := 18) C d_Model_acts_18 rfl 1 rfl ?_
        refine j_iconst (pc := 19) C (v := 1) d_Model_acts_19 (by decide) ?_
        refine j_icmp_neF (pc := 20) C (tgt := 27) d_Model_acts_20 (by decide) (show nI aq = nI 1 from (nI_eq (by omega) (by omega)).mpr (by omega)) ?_
        refine j_iconst (pc := 23) C (v := (-1)) d_Model_acts_23 (by decide) ?_
        refine j_goto (pc := 24) C (tgt := 28) d_Model_acts_24 (by decide) ?_
        refine j_callVv (pc := 28) C (c_malters_1 l D y mo ma t1 i2 i3 i4 i5 i6 i7 i8 i42 i49 i51 i53 i54 i59 i61 i64 i66 t67 i76 i78 g46 g62 (gt.r 8 (dy % gt.s 4)) gt dy wa la bd fl st wo ly se su hto hnw hs_gates (by omega) (by omega) (by omega) (by omega)) kw_Model_454 kv_Model_alters 0 10 rfl rfl ⟨by decide, by decide⟩ ⟨by decide, by decide⟩ (wr := [(ma 47, .inl (y 0, 12, .inl g47)), (ma 43, .inl (y 0, 8, .inl g43))]) [2, 0, 4] [1, 3] rfl rfl (by decide) (by decide) (by decide) (As := [.int (nI (gt.r 8 (dy % gt.s 4))), .int (-1)]) (rest := []) rfl (nb rfl) rfl d_Model_acts_28 (fun u8 hu9 => ?_)
        have xh10 := hu9
        refine j_ws (ws' := [(ma 47, .inl (y 0, 12, .inl g47)), (ma 43, .inl (y 0, 8, .inl g43)), MB mo ma (nI t1) i2 i3 i4 i5 i6 i7 i8 i42 i49 i51 i53 i54 i59 i61 i64 i66 (nI t67) i76 i78, (ma 46, .inl (y 0, 108, .inl g46)), (ma 62, .inl (y 0, 63, .inl u8))]) rfl ?_
        refine j_aload_n (pc := 31) C d_Model_acts_31 rfl 0 rfl ?_
        refine j_get (pc := 32) C gf_Model_158 2 rfl rfl d_Model_acts_32 ?_
        refine j_iconst (pc := 35) C (v := 2) d_Model_acts_35 (by decide) ?_
        refine j_iload_n (pc := 36) C d_Model_acts_36 rfl 1 rfl ?_
        refine j_iast (pc := 37) C 4 rfl (ws' := [(ma 47, .inl (y 0, 12, .inl g47)), (ma 43, .inl (y 0, 8, .inl g43)), MB mo ma (nI t1) i2 i3 i4 i5 i6 i7 i8 i42 i49 i51 i53 i54 i59 i61 i64 i66 (nI t67) i76 i78, (ma 46, .inl (y 0, 108, .inl g46)), (ma 62, .inl (y 0, 63, .inl (upd u8 2 (nI aq))))]) (vin (by decide)) rfl d_Model_acts_37 ?_
        have xh11 : NW (upd u8 2 (nI aq)) 0 dy wa aq (mvB gt bd (gt.r 8 (dy % gt.s 4)) 1) fl st wo ly se su := nu_la xh10
        exact j_vret (pc := 38) C hr (upd u8 2 (nI aq)) ⟨(by unfold actB actL; rw [if_neg e1, if_neg e1, show mvB gt bd (gt.r 8 (dy % gt.s 4)) aq = mvB gt bd (gt.r 8 (dy % gt.s 4)) 1 by rw [hqv]]; exact xh11), act_bn hbd ha hm (fun h0 => (to_j hto _ ((hs_gateOf _ (Nat.mod_lt _ h0)).2)).2)⟩ [2, 1, 3, 0, 4] rfl (by decide) (by decide) (by decide) d_Model_acts_38
      · have hqv : aq = 2 := by omega
        refine j_iload_n (pc := 18) C d_Model_acts_18 rfl 1 rfl ?_
        refine j_iconst (pc := 19) C (v := 1) d_Model_acts_19 (by decide) ?_
        refine j_icmp_neT (pc := 20) C (tgt := 27) d_Model_acts_20 (by decide) (show ¬ nI aq = nI 1 from fun e => absurd ((nI_eq (by omega) (by omega)).mp e) (by omega)) ?_
        refine j_iconst (pc := 27) C (v := 1) d_Model_acts_27 (by decide) ?_
        refine j_callVv (pc := 28) C (c_malters_2 l D y mo ma t1 i2 i3 i4 i5 i6 i7 i8 i42 i49 i51 i53 i54 i59 i61 i64 i66 t67 i76 i78 g46 g62 (gt.r 8 (dy % gt.s 4)) gt dy wa la bd fl st wo ly se su hto hnw hs_gates (by omega) (by omega)) kw_Model_454 kv_Model_alters 0 10 rfl rfl ⟨by decide, by decide⟩ ⟨by decide, by decide⟩ (wr := [(ma 47, .inl (y 0, 12, .inl g47)), (ma 43, .inl (y 0, 8, .inl g43))]) [2, 0, 4] [1, 3] rfl rfl (by decide) (by decide) (by decide) (As := [.int (nI (gt.r 8 (dy % gt.s 4))), .int 1]) (rest := []) rfl (nb rfl) rfl d_Model_acts_28 (fun u12 hu13 => ?_)
        have xh14 := hu13
        refine j_ws (ws' := [(ma 47, .inl (y 0, 12, .inl g47)), (ma 43, .inl (y 0, 8, .inl g43)), MB mo ma (nI t1) i2 i3 i4 i5 i6 i7 i8 i42 i49 i51 i53 i54 i59 i61 i64 i66 (nI t67) i76 i78, (ma 46, .inl (y 0, 108, .inl g46)), (ma 62, .inl (y 0, 63, .inl u12))]) rfl ?_
        refine j_aload_n (pc := 31) C d_Model_acts_31 rfl 0 rfl ?_
        refine j_get (pc := 32) C gf_Model_158 2 rfl rfl d_Model_acts_32 ?_
        refine j_iconst (pc := 35) C (v := 2) d_Model_acts_35 (by decide) ?_
        refine j_iload_n (pc := 36) C d_Model_acts_36 rfl 1 rfl ?_
        refine j_iast (pc := 37) C 4 rfl (ws' := [(ma 47, .inl (y 0, 12, .inl g47)), (ma 43, .inl (y 0, 8, .inl g43)), MB mo ma (nI t1) i2 i3 i4 i5 i6 i7 i8 i42 i49 i51 i53 i54 i59 i61 i64 i66 (nI t67) i76 i78, (ma 46, .inl (y 0, 108, .inl g46)), (ma 62, .inl (y 0, 63, .inl (upd u12 2 (nI aq))))]) (vin (by decide)) rfl d_Model_acts_37 ?_
        have xh15 : NW (upd u12 2 (nI aq)) 0 dy wa aq (mvB gt bd (gt.r 8 (dy % gt.s 4)) 2) fl st wo ly se su := nu_la xh14
        exact j_vret (pc := 38) C hr (upd u12 2 (nI aq)) ⟨(by unfold actB actL; rw [if_neg e1, if_neg e1, show mvB gt bd (gt.r 8 (dy % gt.s 4)) aq = mvB gt bd (gt.r 8 (dy % gt.s 4)) 2 by rw [hqv]]; exact xh15), act_bn hbd ha hm (fun h0 => (to_j hto _ ((hs_gateOf _ (Nat.mod_lt _ h0)).2)).2)⟩ [2, 1, 3, 0, 4] rfl (by decide) (by decide) (by decide) d_Model_acts_38
set_option maxHeartbeats 4000000 in
set_option maxRecDepth 100000 in
theorem c_mmayDo (l : Launch) (D : va_G) (y : Nat → ClassId) (mo : Nat) (ma : Nat → Nat) (t1 : Nat) (i2 : Int32) (i3 : Int32) (i4 : Int32) (i5 : Int32) (i6 : Int32) (i7 : Int32) (i8 : Int32) (i42 : Int32) (i49 : Int32) (i51 : Int32) (i53 : Int32) (i54 : Int32) (i59 : Int32) (i61 : Int32) (i64 : Int32) (i66 : Int32) (t67 : Nat) (i76 : Int64) (i78 : Int32) (g43 : Nat → Int32) (g46 : Nat → Int32) (g47 : Nat → Int32) (g62 : Nat → Int32) (lw : Nat) (aq : Nat) (gt : LA_) (dy : Nat) (wa : Nat) (la : Nat) (bd : Nat → Nat) (fl : Nat → Nat) (st : Nat → Nat) (wo : Nat → Int) (ly : Nat → Int) (se : Nat → Nat) (su : Nat → Nat) (hto : TOQ gt) (hnw : NW g62 0 dy wa la bd fl st wo ly se su) (hs_many : MC gt (fun j => g43 (4 + j))) (hs_gates : GR gt (fun j => g46 (54 + j))) (hs_gateOf : OR_ gt (fun j => g47 (6 + j))) (hbd : BN (gt.s 9) bd 20) (hdy : dy ≤ 2000) (ha : aq ≤ 2) (hl : lw ≤ 3) (hla : la ≤ 2) : CT l D y ⟨"NineBoardsModel", "mayDo", "(II)Z"⟩ prog_13_method_68_code 3 (some .boolean) ({ frames := 3, cells := 0, slots := 0, locals := 72 } : Room) [.ref mo, .int (nI lw), .int (nI aq)] [MB mo ma (nI t1) i2 i3 i4 i5 i6 i7 i8 i42 i49 i51 i53 i54 i59 i61 i64 i66 (nI t67) i76 i78, (ma 43, .inl (y 0, 8, .inl g43)), (ma 46, .inl (y 0, 108, .inl g46)), (ma 47, .inl (y 0, 12, .inl g47)), (ma 62, .inl (y 0, 63, .inl g62))] (QI D [MB mo ma (nI t1) i2 i3 i4 i5 i6 i7 i8 i42 i49 i51 i53 i54 i59 i61 i64 i66 (nI t67) i76 i78, (ma 43, .inl (y 0, 8, .inl g43)), (ma 46, .inl (y 0, 108, .inl g46)), (ma 47, .inl (y 0, 12, .inl g47)), (ma 62, .inl (y 0, 63, .inl g62))] (fun (r : Int32) (u : Unit) => ((r = 1 ∧ (aq = 0 ∨ (0 < gt.s 4 ∧ ¬ lw = 3 ∧ ¬ (lw = 0 ∧ la = aq) ∧ fitT lw aq (bd (gt.r 8 (dy % gt.s 4))) ∧ (gt.r 6 (gt.r 8 (dy % gt.s 4)) = 0 ∨ fitT lw aq (bd (gt.r 6 (gt.r 8 (dy % gt.s 4)) - 1)))))) ∨ (r = 0 ∧ ¬ (aq = 0 ∨ (0 < gt.s 4 ∧ ¬ lw = 3 ∧ ¬ (lw = 0 ∧ la = aq) ∧ fitT lw aq (bd (gt.r 8 (dy % gt.s 4))) ∧ (gt.r 6 (gt.r 8 (dy % gt.s 4)) = 0 ∨ fitT lw aq (bd (gt.r 6 (gt.r 8 (dy % gt.s 4)) - 1)))))))) (fun _ => [MB mo ma (nI t1) i2 i3 i4 i5 i6 i7 i8 i42 i49 i51 i53 i54 i59 i61 i64 i66 (nI t67) i76 i78, (ma 43, .inl (y 0, 8, .inl g43)), (ma 46, .inl (y 0, 108, .inl g46)), (ma 47, .inl (y 0, 12, .inl g47)), (ma 62, .inl (y 0, 63, .inl g62))])) := by
  refine CT.of (by decide) (nb rfl) ?_
  intro p e s m args below meth c C hr
  refine j_lv (lv' := [(0, .ref mo), (1, .int (nI lw)), (2, .int (nI aq))]) rfl ?_
  obtain ⟨_, _, _, _, b9, b4, b10, b11⟩ := id hs_many
  obtain ⟨b1, b1x, b2, b2x, b3, b5, b6, b7, b8⟩ := to_n hto
  refine j_iload_n (pc := 0) C d_Model_mayDo_0 rfl 2 rfl ?_
  by_cases c1 : aq = 0
  · refine j_if_eqT (pc := 1) C (tgt := 32) d_Model_mayDo_1 (by decide) (show nI aq = nI 0 from (nI_eq (by omega) (by omega)).mpr (by omega)) ?_
    refine j_iconst (pc := 32) C (v := 1) d_Model_mayDo_32 (by decide) ?_
    refine j_goto (pc := 33) C (tgt := 37) d_Model_mayDo_33 (by decide) ?_
    exact j_iret (pc := 37) C hr (by decide) () (Or.inl ⟨rfl, by omega⟩) [0, 1, 2, 3, 4] rfl (by decide) (by decide) (by decide) d_Model_mayDo_37
  · refine j_if_eqF (pc := 1) C (tgt := 32) d_Model_mayDo_1 (by decide) (show ¬ nI aq = nI 0 from fun e => absurd ((nI_eq (by omega) (by omega)).mp e) (by omega)) ?_
    refine j_aload_n (pc := 4) C d_Model_mayDo_4 rfl 0 rfl ?_
    refine j_callVi (pc := 5) C (c_mvillages l D y mo ma t1 i2 i3 i4 i5 i6 i7 i8 i42 i49 i51 i53 i54 i59 i61 i64 i66 t67 i76 i78 g43 gt hs_many) kw_Model_448 kv_Model_villages 0 10 rfl rfl ⟨by decide, by decide⟩ ⟨by decide, by decide⟩ (wr := [(ma 46, .inl (y 0, 108, .inl g46)), (ma 47, .inl (y 0, 12, .inl g47)), (ma 62, .inl (y 0, 63, .inl g62))]) [0, 1] [2, 3, 4] rfl rfl (by decide) (by decide) (by decide) (As := []) (rest := []) rfl (nb rfl) rfl d_Model_mayDo_5 (fun r2 _ hr2 => ?_)
    obtain rfl := hr2
    refine j_ws (ws' := [(ma 46, .inl (y 0, 108, .inl g46)), (ma 47, .inl (y 0, 12, .inl g47)), (ma 62, .inl (y 0, 63, .inl g62)), MB mo ma (nI t1) i2 i3 i4 i5 i6 i7 i8 i42 i49 i51 i53 i54 i59 i61 i64 i66 (nI t67) i76 i78, (ma 43, .inl (y 0, 8, .inl g43))]) rfl ?_
    by_cases c3 : (gt.s 4) ≤ 0
    · refine j_if_leT (pc := 8) C (tgt := 36) d_Model_mayDo_8 (by decide) (show nI (gt.s 4) ≤ nI 0 from nI_le (by omega) (by omega)) ?_
      refine j_iconst (pc := 36) C (v := 0) d_Model_mayDo_36 (by decide) ?_
      exact j_iret (pc := 37) C hr (by decide) () (Or.inr ⟨rfl, by omega⟩) [3, 4, 0, 1, 2] rfl (by decide) (by decide) (by decide) d_Model_mayDo_37
    · refine j_if_leF (pc := 8) C (tgt := 36) d_Model_mayDo_8 (by decide) (show ¬ nI (gt.s 4) ≤ nI 0 from nI_ge (by omega) (by omega)) ?_
      refine j_aload_n (pc := 11) C d_Model_mayDo_11 rfl 0 rfl ?_
      refine j_iload_n (pc := 12) C d_Model_mayDo_12 rfl 1 rfl ?_
      refine j_iload_n (pc := 13) C d_Model_mayDo_13 rfl 2 rfl ?_
      refine j_aload_n (pc := 14) C d_Model_mayDo_14 rfl 0 rfl ?_
      refine j_get (pc := 15) C gf_Model_130 3 rfl rfl d_Model_mayDo_15 ?_
      refine j_bipush (pc := 18) C (v := 6) d_Model_mayDo_18 (by decide) ?_
      refine j_aload_n (pc := 20) C d_Model_mayDo_20 rfl 0 rfl ?_
      refine j_callVi (pc := 21) C (c_mtodays l D y mo ma t1 i2 i3 i4 i5 i6 i7 i8 i42 i49 i51 i53 i54 i59 i61 i64 i66 t67 i76 i78 g43 g62 dy wa la bd fl st wo ly se su gt hnw hs_many hdy) kw_Model_451 kv_Model_todays 0 10 rfl rfl ⟨by decide, by decide⟩ ⟨by decide, by decide⟩ (wr := [(ma 46, .inl (y 0, 108, .inl g46)), (ma 47, .inl (y 0, 12, .inl g47))]) [3, 4, 2] [0, 1] rfl rfl (by decide) (by decide) (by decide) (As := []) (rest := [.int 6, .ref (ma 47), .int (nI aq), .int (nI lw), .ref mo]) rfl (nb rfl) rfl d_Model_mayDo_21 (fun r4 _ hr4 => ?_)
      refine j_ws (ws' := [(ma 46, .inl (y 0, 108, .inl g46)), (ma 47, .inl (y 0, 12, .inl g47)), MB mo ma (nI t1) i2 i3 i4 i5 i6 i7 i8 i42 i49 i51 i53 i54 i59 i61 i64 i66 (nI t67) i76 i78, (ma 43, .inl (y 0, 8, .inl g43)), (ma 62, .inl (y 0, 63, .inl g62))]) rfl ?_
      rcases hr4 with ⟨rfl, xh6⟩ | ⟨rfl, xh7⟩
      · exact absurd xh6 (by omega)
      · have hvq : dy % gt.s 4 < gt.s 4 := Nat.mod_lt _ (by omega)
        refine j_iadd (pc := 24) C (v := nI (6 + (dy % gt.s 4))) d_Model_mayDo_24 (nI_add _ _) ?_
        have xh8 : gt.r 8 (dy % gt.s 4) < gt.s 9 := (hs_gateOf (dy % gt.s 4) (by omega)).2
        refine j_iald (pc := 25) C 1 rfl (v := nI (gt.r 8 (dy % gt.s 4))) (vp_in_nI (by omega) (by decide)) (by rw [nI_clamp (by omega)]; exact (hs_gateOf (dy % gt.s 4) (by omega)).1) d_Model_mayDo_25 ?_
        refine j_callVi (pc := 26) C (c_misAllowed l D y mo ma t1 i2 i3 i4 i5 i6 i7 i8 i42 i49 i51 i53 i54 i59 i61 i64 i66 t67 i76 i78 g46 g62 lw aq (gt.r 8 (dy % gt.s 4)) gt dy wa la bd fl st wo ly se su hto hnw hs_gates (by omega) (by omega) hbd ha hl hla) kw_Model_457 kv_Model_isAllowed 0 10 rfl rfl ⟨by decide, by decide⟩ ⟨by decide, by decide⟩ (wr := [(ma 47, .inl (y 0, 12, .inl g47)), (ma 43, .inl (y 0, 8, .inl g43))]) [2, 0, 4] [1, 3] rfl rfl (by decide) (by decide) (by decide) (As := [.int (nI lw), .int (nI aq), .int (nI (gt.r 8 (dy % gt.s 4)))]) (rest := []) rfl (nb rfl) rfl d_Model_mayDo_26 (fun r9 _ hr9 => ?_)
        refine j_ws (ws' := [(ma 47, .inl (y 0, 12, .inl g47)), (ma 43, .inl (y 0, 8, .inl g43)), MB mo ma (nI t1) i2 i3 i4 i5 i6 i7 i8 i42 i49 i51 i53 i54 i59 i61 i64 i66 (nI t67) i76 i78, (ma 46, .inl (y 0, 108, .inl g46)), (ma 62, .inl (y 0, 63, .inl g62))]) rfl ?_
        rcases hr9 with ⟨rfl, xh11⟩ | ⟨rfl, xh12⟩
        · refine j_if_eqF (pc := 29) C (tgt := 36) d_Model_mayDo_29 (by decide) (by decide) ?_
          refine j_iconst (pc := 32) C (v := 1) d_Model_mayDo_32 (by decide) ?_
          refine j_goto (pc := 33) C (tgt := 37) d_Model_mayDo_33 (by decide) ?_
          exact j_iret (pc := 37) C hr (by decide) () (Or.inl ⟨rfl, by omega⟩) [2, 1, 3, 0, 4] rfl (by decide) (by decide) (by decide) d_Model_mayDo_37
        · refine j_if_eqT (pc := 29) C (tgt := 36) d_Model_mayDo_29 (by decide) (by decide) ?_
          refine j_iconst (pc := 36) C (v := 0) d_Model_mayDo_36 (by decide) ?_
          exact j_iret (pc := 37) C hr (by decide) () (Or.inr ⟨rfl, by omega⟩) [2, 1, 3, 0, 4] rfl (by decide) (by decide) (by decide) d_Model_mayDo_37
