theorem min_fl {t : LA_} {b : Nat → Nat} {l d w g z : Nat} (h : z = leftT t b l d w g) : min z (fullT t g (b g) l d) = flowT t b l d w g := by
  rw [h]
  rfl
theorem mn_1 {a b : Nat} (h : a < b) : a = min b a := by omega
theorem mn_2 {a b : Nat} (h : ¬ a < b) : b = min b a := by omega
theorem wo_t {t : LA_} {w f a b : Nat} (h1 : (w / t.s 1 < t.s 5 ∧ a = t.s 6) ∨ (¬ w / t.s 1 < t.s 5 ∧ a = 0)) (h2 : (f = 1 ∧ b = t.s 8) ∨ (¬ f = 1 ∧ b = 0)) : a + b = woL t w f := by
  unfold woL
  rcases h1 with ⟨c, rfl⟩ | ⟨c, rfl⟩ <;> rcases h2 with ⟨d, rfl⟩ | ⟨d, rfl⟩
  · rw [if_pos c, if_pos d]
  · rw [if_pos c, if_neg d]
  · rw [if_neg c, if_pos d]
  · rw [if_neg c, if_neg d]
theorem lo_1 {t : LA_} {S : ST_} {m : Nat} (h : t.s 7 < wdT t S m / t.s 1) : woL t (w2T t S m) 1 = loT t S m := by
  unfold woL loT
  rw [if_pos rfl, if_pos h]
theorem lo_0 {t : LA_} {S : ST_} {m : Nat} (h : ¬ t.s 7 < wdT t S m / t.s 1) : woL t (w2T t S m) 0 = loT t S m := by
  unfold woL loT
  rw [if_neg (show ¬ (0 : Nat) = 1 by decide), if_neg h]
set_option maxHeartbeats 4000000 in
set_option maxRecDepth 100000 in
theorem c_mflowOf (l : Launch) (D : va_G) (y : Nat → ClassId) (mo : Nat) (ma : Nat → Nat) (t1 : Nat) (i2 : Int32) (i3 : Int32) (i4 : Int32) (i5 : Int32) (i6 : Int32) (i7 : Int32) (i8 : Int32) (i42 : Int32) (i49 : Int32) (i51 : Int32) (i53 : Int32) (i54 : Int32) (i59 : Int32) (i61 : Int32) (i64 : Int32) (i66 : Int32) (t67 : Nat) (i76 : Int64) (i78 : Int32) (g46 : Nat → Int32) (g62 : Nat → Int32) (gq : Nat) (lq : Nat) (wq : Nat) (gt : LA_) (dy : Nat) (wa : Nat) (la : Nat) (bd : Nat → Nat) (fl : Nat → Nat) (st : Nat → Nat) (wo : Nat → Int) (ly : Nat → Int) (se : Nat → Nat) (su : Nat → Nat) (hto : TOQ gt) (hnw : NW g62 0 dy wa la bd fl st wo ly se su) (hs_gates : GR gt (fun j => g46 (54 + j))) (hg : gq < gt.s 9) (h9 : gt.s 9 ≤ 9) (hbd : BN (gt.s 9) bd 20) (hdy : dy ≤ 2000) (hl : lq ≤ 9999) (hw : wq ≤ 9999) : CT l D y ⟨"NineBoardsModel", "flowOf", "(III)I"⟩ prog_13_method_62_code 7 (some .int) ({ frames := 1, cells := 0, slots := 0, locals := 25 } : Room) [.ref mo, .int (nI gq), .int (nI lq), .int (nI wq)] [MB mo ma (nI t1) i2 i3 i4 i5 i6 i7 i8 i42 i49 i51 i53 i54 i59 i61 i64 i66 (nI t67) i76 i78, (ma 46, .inl (y 0, 108, .inl g46)), (ma 62, .inl (y 0, 63, .inl g62))] (QI D [MB mo ma (nI t1) i2 i3 i4 i5 i6 i7 i8 i42 i49 i51 i53 i54 i59 i61 i64 i66 (nI t67) i76 i78, (ma 46, .inl (y 0, 108, .inl g46)), (ma 62, .inl (y 0, 63, .inl g62))] (fun (r : Int32) (u : Unit) => r = nI (min wq (fullT gt gq (bd gq) lq dy))) (fun _ => [MB mo ma (nI t1) i2 i3 i4 i5 i6 i7 i8 i42 i49 i51 i53 i54 i59 i61 i64 i66 (nI t67) i76 i78, (ma 46, .inl (y 0, 108, .inl g46)), (ma 62, .inl (y 0, 63, .inl g62))])) := by
  refine CT.of (by decide) (nb rfl) ?_
  intro p e s m args below meth c C hr
  refine j_lv (lv' := [(0, .ref mo), (1, .int (nI gq)), (2, .int (nI lq)), (3, .int (nI wq))]) rfl ?_
  obtain ⟨b1, b1x, b2, b2x, b3, b5, b6, b7, b8⟩ := to_n hto
  obtain ⟨kb, fb, fb1, fb2, tb, _, _, wb_⟩ := to_g hto gq hg
  have kd4 : gt.r 1 gq = 0 ∨ gt.r 1 gq = 1 ∨ gt.r 1 gq = 2 ∨ gt.r 1 gq = 3 := by omega
  have hfb := full_b (t := gt) (g := gq) (b := bd gq) (l := lq) (d := dy) (to_g hto gq hg) hl
  have hbq := hbd gq hg
  refine j_bipush (pc := 0) C (v := 54) d_Model_flowOf_0 (by decide) ?_
  refine j_bipush (pc := 2) C (v := 6) d_Model_flowOf_2 (by decide) ?_
  refine j_iload_n (pc := 4) C d_Model_flowOf_4 rfl 1 rfl ?_
  refine j_imul (pc := 5) C (v := nI (6 * gq)) d_Model_flowOf_5 (pk_mul _ _) ?_
  refine j_iadd (pc := 6) C (v := nI (54 + (6 * gq))) d_Model_flowOf_6 (nI_add _ _) ?_
  refine j_istore (pc := 7) C (lv' := [(4, .int (nI (54 + (6 * gq)))), (0, .ref mo), (1, .int (nI gq)), (2, .int (nI lq)), (3, .int (nI wq))]) d_Model_flowOf_7 (by decide) rfl ?_
  refine j_iload_n (pc := 9) C d_Model_flowOf_9 rfl 3 rfl ?_
  refine j_aload_n (pc := 10) C d_Model_flowOf_10 rfl 1 rfl ?_
  refine j_iload_n (pc := 11) C d_Model_flowOf_11 rfl 2 rfl ?_
  refine j_callVi (pc := 12) C (c_mboards l D y mo ma t1 i2 i3 i4 i5 i6 i7 i8 i42 i49 i51 i53 i54 i59 i61 i64 i66 t67 i76 i78 g62 gq dy wa la bd fl st wo ly se su hnw (by omega)) kw_Model_421 kv_Model_boards 0 10 rfl rfl ⟨by decide, by decide⟩ ⟨by decide, by decide⟩ (wr := [(ma 46, .inl (y 0, 108, .inl g46))]) [0, 2] [1] rfl rfl (by decide) (by decide) (by decide) (As := [.int (nI gq)]) (rest := [.int (nI lq)]) rfl (nb rfl) rfl d_Model_flowOf_12 (fun r1 _ hr1 => ?_)
  obtain rfl := hr1
  refine j_ws (ws' := [(ma 46, .inl (y 0, 108, .inl g46)), MB mo ma (nI t1) i2 i3 i4 i5 i6 i7 i8 i42 i49 i51 i53 i54 i59 i61 i64 i66 (nI t67) i76 i78, (ma 62, .inl (y 0, 63, .inl g62))]) rfl ?_
  by_cases c2 : lq ≤ (bd gq)
  · refine j_icmp_leT (pc := 15) C (tgt := 28) d_Model_flowOf_15 (by decide) (show nI lq ≤ nI (bd gq) from nI_le (by omega) (by omega)) ?_
    refine j_iconst (pc := 28) C (v := 0) d_Model_flowOf_28 (by decide) ?_
    refine j_st (st' := [.int (nI (lq - bd gq))]) (by rw [show (0 : Int32) = nI (lq - bd gq) from (congrArg nI (show 0 = lq - bd gq by omega))]) ?_
    refine j_istore (pc := 29) C (lv' := [(5, .int (nI (lq - bd gq))), (4, .int (nI (54 + (6 * gq)))), (0, .ref mo), (1, .int (nI gq)), (2, .int (nI lq)), (3, .int (nI wq))]) d_Model_flowOf_29 (by decide) rfl ?_
    rcases kd4 with ke | ke | ke | ke
    · refine j_iload (pc := 31) C d_Model_flowOf_31 0 rfl ?_
      refine j_aload_n (pc := 33) C d_Model_flowOf_33 rfl 2 rfl ?_
      refine j_get (pc := 34) C gf_Model_127 1 rfl rfl d_Model_flowOf_34 ?_
      refine j_iload (pc := 37) C d_Model_flowOf_37 1 rfl ?_
      refine j_iconst (pc := 39) C (v := 4) d_Model_flowOf_39 (by decide) ?_
      refine j_iadd (pc := 40) C (v := nI ((54 + (6 * gq)) + 4)) d_Model_flowOf_40 (nI_add _ _) ?_
      refine j_iald (pc := 41) C 0 rfl (v := nI (gt.r 5 gq)) (vp_in_nI (by omega) (by decide)) (by rw [nI_clamp (by omega)]; exact (gt_ix4 (G := g46) (j := gq)).trans (hs_gates gq (by omega)).2.2.2.2.1) d_Model_flowOf_41 ?_
      refine j_imul (pc := 42) C (v := nI ((lq - bd gq) * (gt.r 5 gq))) d_Model_flowOf_42 (pk_mul _ _) ?_
      refine j_istore (pc := 43) C (lv' := [(6, .int (nI ((lq - bd gq) * (gt.r 5 gq)))), (5, .int (nI (lq - bd gq))), (4, .int (nI (54 + (6 * gq)))), (0, .ref mo), (1, .int (nI gq)), (2, .int (nI lq)), (3, .int (nI wq))]) d_Model_flowOf_43 (by decide) rfl ?_
      refine j_aload_n (pc := 45) C d_Model_flowOf_45 rfl 3 rfl ?_
      refine j_get (pc := 46) C gf_Model_127 1 rfl rfl d_Model_flowOf_46 ?_
      refine j_iload (pc := 49) C d_Model_flowOf_49 2 rfl ?_
      refine j_iald (pc := 51) C 0 rfl (v := nI (gt.r 1 gq)) (vp_in_nI (by omega) (by decide)) (by rw [nI_clamp (by omega)]; exact (gt_ix0 (G := g46) (j := gq)).trans (hs_gates gq (by omega)).1) d_Model_flowOf_51 ?_
      refine j_iconst (pc := 52) C (v := 1) d_Model_flowOf_52 (by decide) ?_
      refine j_icmp_neT (pc := 53) C (tgt := 82) d_Model_flowOf_53 (by decide) (fun e => absurd ((nI_eq (by omega) (by omega)).mp (show nI (gt.r 1 gq) = nI 1 from e)) (by omega)) ?_
      refine j_aload_n (pc := 82) C d_Model_flowOf_82 rfl 3 rfl ?_
      refine j_get (pc := 83) C gf_Model_127 1 rfl rfl d_Model_flowOf_83 ?_
      refine j_iload (pc := 86) C d_Model_flowOf_86 2 rfl ?_
      refine j_iald (pc := 88) C 0 rfl (v := nI (gt.r 1 gq)) (vp_in_nI (by omega) (by decide)) (by rw [nI_clamp (by omega)]; exact (gt_ix0 (G := g46) (j := gq)).trans (hs_gates gq (by omega)).1) d_Model_flowOf_88 ?_
      refine j_iconst (pc := 89) C (v := 2) d_Model_flowOf_89 (by decide) ?_
      refine j_icmp_neT (pc := 90) C (tgt := 127) d_Model_flowOf_90 (by decide) (fun e => absurd ((nI_eq (by omega) (by omega)).mp (show nI (gt.r 1 gq) = nI 2 from e)) (by omega)) ?_
      refine j_aload_n (pc := 127) C d_Model_flowOf_127 rfl 3 rfl ?_
      refine j_get (pc := 128) C gf_Model_127 1 rfl rfl d_Model_flowOf_128 ?_
      refine j_iload (pc := 131) C d_Model_flowOf_131 2 rfl ?_
      refine j_iald (pc := 133) C 0 rfl (v := nI (gt.r 1 gq)) (vp_in_nI (by omega) (by decide)) (by rw [nI_clamp (by omega)]; exact (gt_ix0 (G := g46) (j := gq)).trans (hs_gates gq (by omega)).1) d_Model_flowOf_133 ?_
      refine j_iconst (pc := 134) C (v := 3) d_Model_flowOf_134 (by decide) ?_
      refine j_icmp_neT (pc := 135) C (tgt := 174) d_Model_flowOf_135 (by decide) (fun e => absurd ((nI_eq (by omega) (by omega)).mp (show nI (gt.r 1 gq) = nI 3 from e)) (by omega)) ?_
      have hfu : ((lq - bd gq) * (gt.r 5 gq)) = fullT gt gq (bd gq) lq dy := (full_0 ke).symm
      refine j_lv (lv' := [(6, .int (nI (fullT gt gq (bd gq) lq dy))), (5, .int (nI (lq - bd gq))), (4, .int (nI (54 + (6 * gq)))), (0, .ref mo), (1, .int (nI gq)), (2, .int (nI lq)), (3, .int (nI wq))]) (by rw [show nI ((lq - bd gq) * (gt.r 5 gq)) = nI (fullT gt gq (bd gq) lq dy) from congrArg nI hfu]) ?_
      refine j_iload (pc := 174) C d_Model_flowOf_174 0 rfl ?_
      refine j_iload_n (pc := 176) C d_Model_flowOf_176 rfl 6 rfl ?_
      by_cases c3 : wq ≤ (fullT gt gq (bd gq) lq dy)
      · refine j_icmp_geT (pc := 177) C (tgt := 185) d_Model_flowOf_177 (by decide) (show nI wq ≤ nI (fullT gt gq (bd gq) lq dy) from nI_le (by omega) (by omega)) ?_
        refine j_iload_n (pc := 185) C d_Model_flowOf_185 rfl 6 rfl ?_
        exact j_iret (pc := 186) C hr rfl () (congrArg nI (mn_2 (by omega))) [1, 0, 2] rfl (by decide) (by decide) (by decide) d_Model_flowOf_186
      · refine j_icmp_geF (pc := 177) C (tgt := 185) d_Model_flowOf_177 (by decide) (show ¬ nI wq ≤ nI (fullT gt gq (bd gq) lq dy) from nI_ge (by omega) (by omega)) ?_
        refine j_iload (pc := 180) C d_Model_flowOf_180 0 rfl ?_
        refine j_goto (pc := 182) C (tgt := 186) d_Model_flowOf_182 (by decide) ?_
        exact j_iret (pc := 186) C hr rfl () (congrArg nI (mn_1 (by omega))) [1, 0, 2] rfl (by decide) (by decide) (by decide) d_Model_flowOf_186
    · refine j_iload (pc := 31) C d_Model_flowOf_31 0 rfl ?_
      refine j_aload_n (pc := 33) C d_Model_flowOf_33 rfl 2 rfl ?_
      refine j_get (pc := 34) C gf_Model_127 1 rfl rfl d_Model_flowOf_34 ?_
      refine j_iload (pc := 37) C d_Model_flowOf_37 1 rfl ?_
      refine j_iconst (pc := 39) C (v := 4) d_Model_flowOf_39 (by decide) ?_
      refine j_iadd (pc := 40) C (v := nI ((54 + (6 * gq)) + 4)) d_Model_flowOf_40 (nI_add _ _) ?_
      refine j_iald (pc := 41) C 0 rfl (v := nI (gt.r 5 gq)) (vp_in_nI (by omega) (by decide)) (by rw [nI_clamp (by omega)]; exact (gt_ix4 (G := g46) (j := gq)).trans (hs_gates gq (by omega)).2.2.2.2.1) d_Model_flowOf_41 ?_
      refine j_imul (pc := 42) C (v := nI ((lq - bd gq) * (gt.r 5 gq))) d_Model_flowOf_42 (pk_mul _ _) ?_
      refine j_istore (pc := 43) C (lv' := [(6, .int (nI ((lq - bd gq) * (gt.r 5 gq)))), (5, .int (nI (lq - bd gq))), (4, .int (nI (54 + (6 * gq)))), (0, .ref mo), (1, .int (nI gq)), (2, .int (nI lq)), (3, .int (nI wq))]) d_Model_flowOf_43 (by decide) rfl ?_
      refine j_aload_n (pc := 45) C d_Model_flowOf_45 rfl 3 rfl ?_
      refine j_get (pc := 46) C gf_Model_127 1 rfl rfl d_Model_flowOf_46 ?_
      refine j_iload (pc := 49) C d_Model_flowOf_49 2 rfl ?_
      refine j_iald (pc := 51) C 0 rfl (v := nI (gt.r 1 gq)) (vp_in_nI (by omega) (by decide)) (by rw [nI_clamp (by omega)]; exact (gt_ix0 (G := g46) (j := gq)).trans (hs_gates gq (by omega)).1) d_Model_flowOf_51 ?_
      refine j_iconst (pc := 52) C (v := 1) d_Model_flowOf_52 (by decide) ?_
      refine j_icmp_neF (pc := 53) C (tgt := 82) d_Model_flowOf_53 (by decide) (show nI (gt.r 1 gq) = nI 1 by rw [ke]) ?_
      refine j_aload_n (pc := 56) C d_Model_flowOf_56 rfl 3 rfl ?_
      refine j_iload_n (pc := 57) C d_Model_flowOf_57 rfl 4 rfl ?_
      refine j_callVi (pc := 58) C (c_mboards l D y mo ma t1 i2 i3 i4 i5 i6 i7 i8 i42 i49 i51 i53 i54 i59 i61 i64 i66 t67 i76 i78 g62 gq dy wa la bd fl st wo ly se su hnw (by omega)) kw_Model_421 kv_Model_boards 0 10 rfl rfl ⟨by decide, by decide⟩ ⟨by decide, by decide⟩ (wr := [(ma 46, .inl (y 0, 108, .inl g46))]) [1, 2] [0] rfl rfl (by decide) (by decide) (by decide) (As := [.int (nI gq)]) (rest := []) rfl (nb rfl) rfl d_Model_flowOf_58 (fun r4 _ hr4 => ?_)
      obtain rfl := hr4
      refine j_ws (ws' := [(ma 46, .inl (y 0, 108, .inl g46)), MB mo ma (nI t1) i2 i3 i4 i5 i6 i7 i8 i42 i49 i51 i53 i54 i59 i61 i64 i66 (nI t67) i76 i78, (ma 62, .inl (y 0, 63, .inl g62))]) rfl ?_
      by_cases c5 : (bd gq) ≤ 0
      · refine j_if_leT (pc := 61) C (tgt := 82) d_Model_flowOf_61 (by decide) (show nI (bd gq) ≤ nI 0 from nI_le (by omega) (by omega)) ?_
        refine j_aload_n (pc := 82) C d_Model_flowOf_82 rfl 3 rfl ?_
        refine j_get (pc := 83) C gf_Model_127 1 rfl rfl d_Model_flowOf_83 ?_
        refine j_iload (pc := 86) C d_Model_flowOf_86 2 rfl ?_
        refine j_iald (pc := 88) C 0 rfl (v := nI (gt.r 1 gq)) (vp_in_nI (by omega) (by decide)) (by rw [nI_clamp (by omega)]; exact (gt_ix0 (G := g46) (j := gq)).trans (hs_gates gq (by omega)).1) d_Model_flowOf_88 ?_
        refine j_iconst (pc := 89) C (v := 2) d_Model_flowOf_89 (by decide) ?_
        refine j_icmp_neT (pc := 90) C (tgt := 127) d_Model_flowOf_90 (by decide) (fun e => absurd ((nI_eq (by omega) (by omega)).mp (show nI (gt.r 1 gq) = nI 2 from e)) (by omega)) ?_
        refine j_aload_n (pc := 127) C d_Model_flowOf_127 rfl 3 rfl ?_
        refine j_get (pc := 128) C gf_Model_127 1 rfl rfl d_Model_flowOf_128 ?_
        refine j_iload (pc := 131) C d_Model_flowOf_131 2 rfl ?_
        refine j_iald (pc := 133) C 0 rfl (v := nI (gt.r 1 gq)) (vp_in_nI (by omega) (by decide)) (by rw [nI_clamp (by omega)]; exact (gt_ix0 (G := g46) (j := gq)).trans (hs_gates gq (by omega)).1) d_Model_flowOf_133 ?_
        refine j_iconst (pc := 134) C (v := 3) d_Model_flowOf_134 (by decide) ?_
        refine j_icmp_neT (pc := 135) C (tgt := 174) d_Model_flowOf_135 (by decide) (fun e => absurd ((nI_eq (by omega) (by omega)).mp (show nI (gt.r 1 gq) = nI 3 from e)) (by omega)) ?_
        have hfu : ((lq - bd gq) * (gt.r 5 gq)) = fullT gt gq (bd gq) lq dy := (full_1b ke (by omega)).symm
        refine j_lv (lv' := [(6, .int (nI (fullT gt gq (bd gq) lq dy))), (5, .int (nI (lq - bd gq))), (4, .int (nI (54 + (6 * gq)))), (0, .ref mo), (1, .int (nI gq)), (2, .int (nI lq)), (3, .int (nI wq))]) (by rw [show nI ((lq - bd gq) * (gt.r 5 gq)) = nI (fullT gt gq (bd gq) lq dy) from congrArg nI hfu]) ?_
        refine j_iload (pc := 174) C d_Model_flowOf_174 0 rfl ?_
        refine j_iload_n (pc := 176) C d_Model_flowOf_176 rfl 6 rfl ?_
        by_cases c6 : wq ≤ (fullT gt gq (bd gq) lq dy)
        · refine j_icmp_geT (pc := 177) C (tgt := 185) d_Model_flowOf_177 (by decide) (show nI wq ≤ nI (fullT gt gq (bd gq) lq dy) from nI_le (by omega) (by omega)) ?_
          refine j_iload_n (pc := 185) C d_Model_flowOf_185 rfl 6 rfl ?_
          exact j_iret (pc := 186) C hr rfl () (congrArg nI (mn_2 (by omega))) [1, 0, 2] rfl (by decide) (by decide) (by decide) d_Model_flowOf_186
        · refine j_icmp_geF (pc := 177) C (tgt := 185) d_Model_flowOf_177 (by decide) (show ¬ nI wq ≤ nI (fullT gt gq (bd gq) lq dy) from nI_ge (by omega) (by omega)) ?_
          refine j_iload (pc := 180) C d_Model_flowOf_180 0 rfl ?_
          refine j_goto (pc := 182) C (tgt := 186) d_Model_flowOf_182 (by decide) ?_
          exact j_iret (pc := 186) C hr rfl () (congrArg nI (mn_1 (by omega))) [1, 0, 2] rfl (by decide) (by decide) (by decide) d_Model_flowOf_186
      · refine j_if_leF (pc := 61) C (tgt := 82) d_Model_flowOf_61 (by decide) (show ¬ nI (bd gq) ≤ nI 0 from nI_ge (by omega) (by omega)) ?_
        refine j_iload_n (pc := 64) C d_Model_flowOf_64 rfl 5 rfl ?_
        by_cases c7 : lq ≤ 0
        · refine j_if_leT (pc := 65) C (tgt := 82) d_Model_flowOf_65 (by decide) (show nI lq ≤ nI 0 from nI_le (by omega) (by omega)) ?_
          refine j_aload_n (pc := 82) C d_Model_flowOf_82 rfl 3 rfl ?_
          refine j_get (pc := 83) C gf_Model_127 1 rfl rfl d_Model_flowOf_83 ?_
          refine j_iload (pc := 86) C d_Model_flowOf_86 2 rfl ?_
          refine j_iald (pc := 88) C 0 rfl (v := nI (gt.r 1 gq)) (vp_in_nI (by omega) (by decide)) (by rw [nI_clamp (by omega)]; exact (gt_ix0 (G := g46) (j := gq)).trans (hs_gates gq (by omega)).1) d_Model_flowOf_88 ?_
          refine j_iconst (pc := 89) C (v := 2) d_Model_flowOf_89 (by decide) ?_
          refine j_icmp_neT (pc := 90) C (tgt := 127) d_Model_flowOf_90 (by decide) (fun e => absurd ((nI_eq (by omega) (by omega)).mp (show nI (gt.r 1 gq) = nI 2 from e)) (by omega)) ?_
          refine j_aload_n (pc := 127) C d_Model_flowOf_127 rfl 3 rfl ?_
          refine j_get (pc := 128) C gf_Model_127 1 rfl rfl d_Model_flowOf_128 ?_
          refine j_iload (pc := 131) C d_Model_flowOf_131 2 rfl ?_
          refine j_iald (pc := 133) C 0 rfl (v := nI (gt.r 1 gq)) (vp_in_nI (by omega) (by decide)) (by rw [nI_clamp (by omega)]; exact (gt_ix0 (G := g46) (j := gq)).trans (hs_gates gq (by omega)).1) d_Model_flowOf_133 ?_
          refine j_iconst (pc := 134) C (v := 3) d_Model_flowOf_134 (by decide) ?_
          refine j_icmp_neT (pc := 135) C (tgt := 174) d_Model_flowOf_135 (by decide) (fun e => absurd ((nI_eq (by omega) (by omega)).mp (show nI (gt.r 1 gq) = nI 3 from e)) (by omega)) ?_
          have hfu : ((lq - bd gq) * (gt.r 5 gq)) = fullT gt gq (bd gq) lq dy := (full_1b ke (by omega)).symm
          refine j_lv (lv' := [(6, .int (nI (fullT gt gq (bd gq) lq dy))), (5, .int (nI (lq - bd gq))), (4, .int (nI (54 + (6 * gq)))), (0, .ref mo), (1, .int (nI gq)), (2, .int (nI lq)), (3, .int (nI wq))]) (by rw [show nI ((lq - bd gq) * (gt.r 5 gq)) = nI (fullT gt gq (bd gq) lq dy) from congrArg nI hfu]) ?_
          refine j_iload (pc := 174) C d_Model_flowOf_174 0 rfl ?_
          refine j_iload_n (pc := 176) C d_Model_flowOf_176 rfl 6 rfl ?_
          by_cases c8 : wq ≤ (fullT gt gq (bd gq) lq dy)
          · refine j_icmp_geT (pc := 177) C (tgt := 185) d_Model_flowOf_177 (by decide) (show nI wq ≤ nI (fullT gt gq (bd gq) lq dy) from nI_le (by omega) (by omega)) ?_
            refine j_iload_n (pc := 185) C d_Model_flowOf_185 rfl 6 rfl ?_
            exact j_iret (pc := 186) C hr rfl () (congrArg nI (mn_2 (by omega))) [1, 0, 2] rfl (by decide) (by decide) (by decide) d_Model_flowOf_186
          · refine j_icmp_geF (pc := 177) C (tgt := 185) d_Model_flowOf_177 (by decide) (show ¬ nI wq ≤ nI (fullT gt gq (bd gq) lq dy) from nI_ge (by omega) (by omega)) ?_
            refine j_iload (pc := 180) C d_Model_flowOf_180 0 rfl ?_
            refine j_goto (pc := 182) C (tgt := 186) d_Model_flowOf_182 (by decide) ?_
            exact j_iret (pc := 186) C hr rfl () (congrArg nI (mn_1 (by omega))) [1, 0, 2] rfl (by decide) (by decide) (by decide) d_Model_flowOf_186
        · refine j_if_leF (pc := 65) C (tgt := 82) d_Model_flowOf_65 (by decide) (show ¬ nI lq ≤ nI 0 from nI_ge (by omega) (by omega)) ?_
          refine j_iload (pc := 68) C d_Model_flowOf_68 0 rfl ?_
          refine j_aload_n (pc := 70) C d_Model_flowOf_70 rfl 3 rfl ?_
          refine j_get (pc := 71) C gf_Model_127 1 rfl rfl d_Model_flowOf_71 ?_
          refine j_iload (pc := 74) C d_Model_flowOf_74 2 rfl ?_
          refine j_iconst (pc := 76) C (v := 1) d_Model_flowOf_76 (by decide) ?_
          refine j_iadd (pc := 77) C (v := nI ((54 + (6 * gq)) + 1)) d_Model_flowOf_77 (nI_add _ _) ?_
          refine j_iald (pc := 78) C 0 rfl (v := nI (gt.r 2 gq)) (vp_in_nI (by omega) (by decide)) (by rw [nI_clamp (by omega)]; exact (gt_ix1 (G := g46) (j := gq)).trans (hs_gates gq (by omega)).2.1) d_Model_flowOf_78 ?_
          refine j_iadd (pc := 79) C (v := nI (((lq - bd gq) * (gt.r 5 gq)) + (gt.r 2 gq))) d_Model_flowOf_79 (nI_add _ _) ?_
          refine j_istore (pc := 80) C (lv' := [(6, .int (nI (((lq - bd gq) * (gt.r 5 gq)) + (gt.r 2 gq)))), (5, .int (nI (lq - bd gq))), (4, .int (nI (54 + (6 * gq)))), (0, .ref mo), (1, .int (nI gq)), (2, .int (nI lq)), (3, .int (nI wq))]) d_Model_flowOf_80 (by decide) rfl ?_
          refine j_aload_n (pc := 82) C d_Model_flowOf_82 rfl 3 rfl ?_
          refine j_get (pc := 83) C gf_Model_127 1 rfl rfl d_Model_flowOf_83 ?_
          refine j_iload (pc := 86) C d_Model_flowOf_86 2 rfl ?_
          refine j_iald (pc := 88) C 0 rfl (v := nI (gt.r 1 gq)) (vp_in_nI (by omega) (by decide)) (by rw [nI_clamp (by omega)]; exact (gt_ix0 (G := g46) (j := gq)).trans (hs_gates gq (by omega)).1) d_Model_flowOf_88 ?_
          refine j_iconst (pc := 89) C (v := 2) d_Model_flowOf_89 (by decide) ?_
          refine j_icmp_neT (pc := 90) C (tgt := 127) d_Model_flowOf_90 (by decide) (fun e => absurd ((nI_eq (by omega) (by omega)).mp (show nI (gt.r 1 gq) = nI 2 from e)) (by omega)) ?_
          refine j_aload_n (pc := 127) C d_Model_flowOf_127 rfl 3 rfl ?_
          refine j_get (pc := 128) C gf_Model_127 1 rfl rfl d_Model_flowOf_128 ?_
          refine j_iload (pc := 131) C d_Model_flowOf_131 2 rfl ?_
          refine j_iald (pc := 133) C 0 rfl (v := nI (gt.r 1 gq)) (vp_in_nI (by omega) (by decide)) (by rw [nI_clamp (by omega)]; exact (gt_ix0 (G := g46) (j := gq)).trans (hs_gates gq (by omega)).1) d_Model_flowOf_133 ?_
          refine j_iconst (pc := 134) C (v := 3) d_Model_flowOf_134 (by decide) ?_
          refine j_icmp_neT (pc := 135) C (tgt := 174) d_Model_flowOf_135 (by decide) (fun e => absurd ((nI_eq (by omega) (by omega)).mp (show nI (gt.r 1 gq) = nI 3 from e)) (by omega)) ?_
          have hfu : (((lq - bd gq) * (gt.r 5 gq)) + (gt.r 2 gq)) = fullT gt gq (bd gq) lq dy := (full_1a ke (by omega)).symm
          refine j_lv (lv' := [(6, .int (nI (fullT gt gq (bd gq) lq dy))), (5, .int (nI (lq - bd gq))), (4, .int (nI (54 + (6 * gq)))), (0, .ref mo), (1, .int (nI gq)), (2, .int (nI lq)), (3, .int (nI wq))]) (by rw [show nI (((lq - bd gq) * (gt.r 5 gq)) + (gt.r 2 gq)) = nI (fullT gt gq (bd gq) lq dy) from congrArg nI hfu]) ?_
          refine j_iload (pc := 174) C d_Model_flowOf_174 0 rfl ?_
          refine j_iload_n (pc := 176) C d_Model_flowOf_176 rfl 6 rfl ?_
          by_cases c9 : wq ≤ (fullT gt gq (bd gq) lq dy)
          · refine j_icmp_geT (pc := 177) C (tgt := 185) d_Model_flowOf_177 (by decide) (show nI wq ≤ nI (fullT gt gq (bd gq) lq dy) from nI_le (by omega) (by omega)) ?_
            refine j_iload_n (pc := 185) C d_Model_flowOf_185 rfl 6 rfl ?_
            exact j_iret (pc := 186) C hr rfl () (congrArg nI (mn_2 (by omega))) [1, 0, 2] rfl (by decide) (by decide) (by decide) d_Model_flowOf_186
          · refine j_icmp_geF (pc := 177) C (tgt := 185) d_Model_flowOf_177 (by decide) (show ¬ nI wq ≤ nI (fullT gt gq (bd gq) lq dy) from nI_ge (by omega) (by omega)) ?_
            refine j_iload (pc := 180) C d_Model_flowOf_180 0 rfl ?_
            refine j_goto (pc := 182) C (tgt := 186) d_Model_flowOf_182 (by decide) ?_
            exact j_iret (pc := 186) C hr rfl () (congrArg nI (mn_1 (by omega))) [1, 0, 2] rfl (by decide) (by decide) (by decide) d_Model_flowOf_186
    · refine j_iload (pc := 31) C d_Model_flowOf_31 0 rfl ?_
      refine j_aload_n (pc := 33) C d_Model_flowOf_33 rfl 2 rfl ?_
      refine j_get (pc := 34) C gf_Model_127 1 rfl rfl d_Model_flowOf_34 ?_
      refine j_iload (pc := 37) C d_Model_flowOf_37 1 rfl ?_
      refine j_iconst (pc := 39) C (v := 4) d_Model_flowOf_39 (by decide) ?_
      refine j_iadd (pc := 40) C (v := nI ((54 + (6 * gq)) + 4)) d_Model_flowOf_40 (nI_add _ _) ?_
      refine j_iald (pc := 41) C 0 rfl (v := nI (gt.r 5 gq)) (vp_in_nI (by omega) (by decide)) (by rw [nI_clamp (by omega)]; exact (gt_ix4 (G := g46) (j := gq)).trans (hs_gates gq (by omega)).2.2.2.2.1) d_Model_flowOf_41 ?_
      refine j_imul (pc := 42) C (v := nI ((lq - bd gq) * (gt.r 5 gq))) d_Model_flowOf_42 (pk_mul _ _) ?_
      refine j_istore (pc := 43) C (lv' := [(6, .int (nI ((lq - bd gq) * (gt.r 5 gq)))), (5, .int (nI (lq - bd gq))), (4, .int (nI (54 + (6 * gq)))), (0, .ref mo), (1, .int (nI gq)), (2, .int (nI lq)), (3, .int (nI wq))]) d_Model_flowOf_43 (by decide) rfl ?_
      refine j_aload_n (pc := 45) C d_Model_flowOf_45 rfl 3 rfl ?_
      refine j_get (pc := 46) C gf_Model_127 1 rfl rfl d_Model_flowOf_46 ?_
      refine j_iload (pc := 49) C d_Model_flowOf_49 2 rfl ?_
      refine j_iald (pc := 51) C 0 rfl (v := nI (gt.r 1 gq)) (vp_in_nI (by omega) (by decide)) (by rw [nI_clamp (by omega)]; exact (gt_ix0 (G := g46) (j := gq)).trans (hs_gates gq (by omega)).1) d_Model_flowOf_51 ?_
      refine j_iconst (pc := 52) C (v := 1) d_Model_flowOf_52 (by decide) ?_
      refine j_icmp_neT (pc := 53) C (tgt := 82) d_Model_flowOf_53 (by decide) (fun e => absurd ((nI_eq (by omega) (by omega)).mp (show nI (gt.r 1 gq) = nI 1 from e)) (by omega)) ?_
      refine j_aload_n (pc := 82) C d_Model_flowOf_82 rfl 3 rfl ?_
      refine j_get (pc := 83) C gf_Model_127 1 rfl rfl d_Model_flowOf_83 ?_
      refine j_iload (pc := 86) C d_Model_flowOf_86 2 rfl ?_
      refine j_iald (pc := 88) C 0 rfl (v := nI (gt.r 1 gq)) (vp_in_nI (by omega) (by decide)) (by rw [nI_clamp (by omega)]; exact (gt_ix0 (G := g46) (j := gq)).trans (hs_gates gq (by omega)).1) d_Model_flowOf_88 ?_
      refine j_iconst (pc := 89) C (v := 2) d_Model_flowOf_89 (by decide) ?_
      refine j_icmp_neF (pc := 90) C (tgt := 127) d_Model_flowOf_90 (by decide) (show nI (gt.r 1 gq) = nI 2 by rw [ke]) ?_
      refine j_iload (pc := 93) C d_Model_flowOf_93 1 rfl ?_
      refine j_aload_n (pc := 95) C d_Model_flowOf_95 rfl 3 rfl ?_
      refine j_get (pc := 96) C gf_Model_127 1 rfl rfl d_Model_flowOf_96 ?_
      refine j_iload (pc := 99) C d_Model_flowOf_99 2 rfl ?_
      refine j_iconst (pc := 101) C (v := 1) d_Model_flowOf_101 (by decide) ?_
      refine j_iadd (pc := 102) C (v := nI ((54 + (6 * gq)) + 1)) d_Model_flowOf_102 (nI_add _ _) ?_
      refine j_iald (pc := 103) C 0 rfl (v := nI (gt.r 2 gq)) (vp_in_nI (by omega) (by decide)) (by rw [nI_clamp (by omega)]; exact (gt_ix1 (G := g46) (j := gq)).trans (hs_gates gq (by omega)).2.1) d_Model_flowOf_103 ?_
      refine j_idiv (pc := 104) C (v := nI ((lq - bd gq) / (gt.r 2 gq))) d_Model_flowOf_104 (nI_ne0 (by omega) (by omega)) (pk_div (by omega) (by omega) (by omega)) ?_
      refine j_aload_n (pc := 105) C d_Model_flowOf_105 rfl 3 rfl ?_
      refine j_get (pc := 106) C gf_Model_127 1 rfl rfl d_Model_flowOf_106 ?_
      refine j_iload (pc := 109) C d_Model_flowOf_109 2 rfl ?_
      refine j_iconst (pc := 111) C (v := 1) d_Model_flowOf_111 (by decide) ?_
      refine j_iadd (pc := 112) C (v := nI ((54 + (6 * gq)) + 1)) d_Model_flowOf_112 (nI_add _ _) ?_
      refine j_iald (pc := 113) C 0 rfl (v := nI (gt.r 2 gq)) (vp_in_nI (by omega) (by decide)) (by rw [nI_clamp (by omega)]; exact (gt_ix1 (G := g46) (j := gq)).trans (hs_gates gq (by omega)).2.1) d_Model_flowOf_113 ?_
      refine j_imul (pc := 114) C (v := nI (((lq - bd gq) / (gt.r 2 gq)) * (gt.r 2 gq))) d_Model_flowOf_114 (pk_mul _ _) ?_
      refine j_aload_n (pc := 115) C d_Model_flowOf_115 rfl 3 rfl ?_
      refine j_get (pc := 116) C gf_Model_127 1 rfl rfl d_Model_flowOf_116 ?_
      refine j_iload (pc := 119) C d_Model_flowOf_119 2 rfl ?_
      refine j_iconst (pc := 121) C (v := 4) d_Model_flowOf_121 (by decide) ?_
      refine j_iadd (pc := 122) C (v := nI ((54 + (6 * gq)) + 4)) d_Model_flowOf_122 (nI_add _ _) ?_
      refine j_iald (pc := 123) C 0 rfl (v := nI (gt.r 5 gq)) (vp_in_nI (by omega) (by decide)) (by rw [nI_clamp (by omega)]; exact (gt_ix4 (G := g46) (j := gq)).trans (hs_gates gq (by omega)).2.2.2.2.1) d_Model_flowOf_123 ?_
      refine j_imul (pc := 124) C (v := nI ((((lq - bd gq) / (gt.r 2 gq)) * (gt.r 2 gq)) * (gt.r 5 gq))) d_Model_flowOf_124 (pk_mul _ _) ?_
      refine j_istore (pc := 125) C (lv' := [(6, .int (nI ((((lq - bd gq) / (gt.r 2 gq)) * (gt.r 2 gq)) * (gt.r 5 gq)))), (5, .int (nI (lq - bd gq))), (4, .int (nI (54 + (6 * gq)))), (0, .ref mo), (1, .int (nI gq)), (2, .int (nI lq)), (3, .int (nI wq))]) d_Model_flowOf_125 (by decide) rfl ?_
      refine j_aload_n (pc := 127) C d_Model_flowOf_127 rfl 3 rfl ?_
      refine j_get (pc := 128) C gf_Model_127 1 rfl rfl d_Model_flowOf_128 ?_
      refine j_iload (pc := 131) C d_Model_flowOf_131 2 rfl ?_
      refine j_iald (pc := 133) C 0 rfl (v := nI (gt.r 1 gq)) (vp_in_nI (by omega) (by decide)) (by rw [nI_clamp (by omega)]; exact (gt_ix0 (G := g46) (j := gq)).trans (hs_gates gq (by omega)).1) d_Model_flowOf_133 ?_
      refine j_iconst (pc := 134) C (v := 3) d_Model_flowOf_134 (by decide) ?_
      refine j_icmp_neT (pc := 135) C (tgt := 174) d_Model_flowOf_135 (by decide) (fun e => absurd ((nI_eq (by omega) (by omega)).mp (show nI (gt.r 1 gq) = nI 3 from e)) (by omega)) ?_
      have hfu : ((((lq - bd gq) / (gt.r 2 gq)) * (gt.r 2 gq)) * (gt.r 5 gq)) = fullT gt gq (bd gq) lq dy := (full_2 ke).symm
      refine j_lv (lv' := [(6, .int (nI (fullT gt gq (bd gq) lq dy))), (5, .int (nI (lq - bd gq))), (4, .int (nI (54 + (6 * gq)))), (0, .ref mo), (1, .int (nI gq)), (2, .int (nI lq)), (3, .int (nI wq))]) (by rw [show nI ((((lq - bd gq) / (gt.r 2 gq)) * (gt.r 2 gq)) * (gt.r 5 gq)) = nI (fullT gt gq (bd gq) lq dy) from congrArg nI hfu]) ?_
      refine j_iload (pc := 174) C d_Model_flowOf_174 0 rfl ?_
      refine j_iload_n (pc := 176) C d_Model_flowOf_176 rfl 6 rfl ?_
      by_cases c10 : wq ≤ (fullT gt gq (bd gq) lq dy)
      · refine j_icmp_geT (pc := 177) C (tgt := 185) d_Model_flowOf_177 (by decide) (show nI wq ≤ nI (fullT gt gq (bd gq) lq dy) from nI_le (by omega) (by omega)) ?_
        refine j_iload_n (pc := 185) C d_Model_flowOf_185 rfl 6 rfl ?_
        exact j_iret (pc := 186) C hr rfl () (congrArg nI (mn_2 (by omega))) [1, 0, 2] rfl (by decide) (by decide) (by decide) d_Model_flowOf_186
      · refine j_icmp_geF (pc := 177) C (tgt := 185) d_Model_flowOf_177 (by decide) (show ¬ nI wq ≤ nI (fullT gt gq (bd gq) lq dy) from nI_ge (by omega) (by omega)) ?_
        refine j_iload (pc := 180) C d_Model_flowOf_180 0 rfl ?_
        refine j_goto (pc := 182) C (tgt := 186) d_Model_flowOf_182 (by decide) ?_
        exact j_iret (pc := 186) C hr rfl () (congrArg nI (mn_1 (by omega))) [1, 0, 2] rfl (by decide) (by decide) (by decide) d_Model_flowOf_186
    · refine j_iload (pc := 31) C d_Model_flowOf_31 0 rfl ?_
      refine j_aload_n (pc := 33) C d_Model_flowOf_33 rfl 2 rfl ?_
      refine j_get (pc := 34) C gf_Model_127 1 rfl rfl d_Model_flowOf_34 ?_
      refine j_iload (pc := 37) C d_Model_flowOf_37 1 rfl ?_
      refine j_iconst (pc := 39) C (v := 4) d_Model_flowOf_39 (by decide) ?_
      refine j_iadd (pc := 40) C (v := nI ((54 + (6 * gq)) + 4)) d_Model_flowOf_40 (nI_add _ _) ?_
      refine j_iald (pc := 41) C 0 rfl (v := nI (gt.r 5 gq)) (vp_in_nI (by omega) (by decide)) (by rw [nI_clamp (by omega)]; exact (gt_ix4 (G := g46) (j := gq)).trans (hs_gates gq (by omega)).2.2.2.2.1) d_Model_flowOf_41 ?_
      refine j_imul (pc := 42) C (v := nI ((lq - bd gq) * (gt.r 5 gq))) d_Model_flowOf_42 (pk_mul _ _) ?_
      refine j_istore (pc := 43) C (lv' := [(6, .int (nI ((lq - bd gq) * (gt.r 5 gq)))), (5, .int (nI (lq - bd gq))), (4, .int (nI (54 + (6 * gq)))), (0, .ref mo), (1, .int (nI gq)), (2, .int (nI lq)), (3, .int (nI wq))]) d_Model_flowOf_43 (by decide) rfl ?_
      refine j_aload_n (pc := 45) C d_Model_flowOf_45 rfl 3 rfl ?_
      refine j_get (pc := 46) C gf_Model_127 1 rfl rfl d_Model_flowOf_46 ?_
      refine j_iload (pc := 49) C d_Model_flowOf_49 2 rfl ?_
      refine j_iald (pc := 51) C 0 rfl (v := nI (gt.r 1 gq)) (vp_in_nI (by omega) (by decide)) (by rw [nI_clamp (by omega)]; exact (gt_ix0 (G := g46) (j := gq)).trans (hs_gates gq (by omega)).1) d_Model_flowOf_51 ?_
      refine j_iconst (pc := 52) C (v := 1) d_Model_flowOf_52 (by decide) ?_
      refine j_icmp_neT (pc := 53) C (tgt := 82) d_Model_flowOf_53 (by decide) (fun e => absurd ((nI_eq (by omega) (by omega)).mp (show nI (gt.r 1 gq) = nI 1 from e)) (by omega)) ?_
      refine j_aload_n (pc := 82) C d_Model_flowOf_82 rfl 3 rfl ?_
      refine j_get (pc := 83) C gf_Model_127 1 rfl rfl d_Model_flowOf_83 ?_
      refine j_iload (pc := 86) C d_Model_flowOf_86 2 rfl ?_
      refine j_iald (pc := 88) C 0 rfl (v := nI (gt.r 1 gq)) (vp_in_nI (by omega) (by decide)) (by rw [nI_clamp (by omega)]; exact (gt_ix0 (G := g46) (j := gq)).trans (hs_gates gq (by omega)).1) d_Model_flowOf_88 ?_
      refine j_iconst (pc := 89) C (v := 2) d_Model_flowOf_89 (by decide) ?_
      refine j_icmp_neT (pc := 90) C (tgt := 127) d_Model_flowOf_90 (by decide) (fun e => absurd ((nI_eq (by omega) (by omega)).mp (show nI (gt.r 1 gq) = nI 2 from e)) (by omega)) ?_
      refine j_aload_n (pc := 127) C d_Model_flowOf_127 rfl 3 rfl ?_
      refine j_get (pc := 128) C gf_Model_127 1 rfl rfl d_Model_flowOf_128 ?_
      refine j_iload (pc := 131) C d_Model_flowOf_131 2 rfl ?_
      refine j_iald (pc := 133) C 0 rfl (v := nI (gt.r 1 gq)) (vp_in_nI (by omega) (by decide)) (by rw [nI_clamp (by omega)]; exact (gt_ix0 (G := g46) (j := gq)).trans (hs_gates gq (by omega)).1) d_Model_flowOf_133 ?_
      refine j_iconst (pc := 134) C (v := 3) d_Model_flowOf_134 (by decide) ?_
      refine j_icmp_neF (pc := 135) C (tgt := 174) d_Model_flowOf_135 (by decide) (show nI (gt.r 1 gq) = nI 3 by rw [ke]) ?_
      refine j_aload_n (pc := 138) C d_Model_flowOf_138 rfl 3 rfl ?_
      refine j_get (pc := 139) C gf_Model_158 1 rfl rfl d_Model_flowOf_139 ?_
      refine j_iconst (pc := 142) C (v := 0) d_Model_flowOf_142 (by decide) ?_
      refine j_iald (pc := 143) C 2 rfl (v := nI dy) (vin (by decide)) (nw_dy hnw) d_Model_flowOf_143 ?_
      refine j_i2l (pc := 144) C (v := nL dy) d_Model_flowOf_144 (nId_L (by omega)) ?_
      refine j_aload_n (pc := 145) C d_Model_flowOf_145 rfl 3 rfl ?_
      refine j_get (pc := 146) C gf_Model_127 1 rfl rfl d_Model_flowOf_146 ?_
      refine j_iload (pc := 149) C d_Model_flowOf_149 2 rfl ?_
      refine j_iconst (pc := 151) C (v := 1) d_Model_flowOf_151 (by decide) ?_
      refine j_iadd (pc := 152) C (v := nI ((54 + (6 * gq)) + 1)) d_Model_flowOf_152 (nI_add _ _) ?_
      refine j_iald (pc := 153) C 0 rfl (v := nI (gt.r 2 gq)) (vp_in_nI (by omega) (by decide)) (by rw [nI_clamp (by omega)]; exact (gt_ix1 (G := g46) (j := gq)).trans (hs_gates gq (by omega)).2.1) d_Model_flowOf_153 ?_
      refine j_i2l (pc := 154) C (v := nL (gt.r 2 gq)) d_Model_flowOf_154 (nId_L (by omega)) ?_
      refine j_aload_n (pc := 155) C d_Model_flowOf_155 rfl 3 rfl ?_
      refine j_get (pc := 156) C gf_Model_127 1 rfl rfl d_Model_flowOf_156 ?_
      refine j_iload (pc := 159) C d_Model_flowOf_159 2 rfl ?_
      refine j_iconst (pc := 161) C (v := 2) d_Model_flowOf_161 (by decide) ?_
      refine j_iadd (pc := 162) C (v := nI ((54 + (6 * gq)) + 2)) d_Model_flowOf_162 (nI_add _ _) ?_
      refine j_iald (pc := 163) C 0 rfl (v := nI (gt.r 3 gq)) (vp_in_nI (by omega) (by decide)) (by rw [nI_clamp (by omega)]; exact (gt_ix2 (G := g46) (j := gq)).trans (hs_gates gq (by omega)).2.2.1) d_Model_flowOf_163 ?_
      refine j_i2l (pc := 164) C (v := nL (gt.r 3 gq)) d_Model_flowOf_164 (nId_L (by omega)) ?_
      refine j_callSi (pc := 165) C (c_misInN l D y dy (gt.r 2 gq) (gt.r 3 gq) (by omega) (by omega) (by omega)) kw_Model_240 ks_Model_isIn ⟨by decide, by decide⟩ ⟨by decide, by decide⟩ (wr := [(ma 46, .inl (y 0, 108, .inl g46)), MB mo ma (nI t1) i2 i3 i4 i5 i6 i7 i8 i42 i49 i51 i53 i54 i59 i61 i64 i66 (nI t67) i76 i78, (ma 62, .inl (y 0, 63, .inl g62))]) [] [0, 1, 2] rfl rfl (by decide) (by decide) (by decide) (As := [.long (nL dy), .long (nL (gt.r 2 gq)), .long (nL (gt.r 3 gq))]) (rest := []) rfl (nb rfl) rfl d_Model_flowOf_165 (fun r11 _ hr11 => ?_)
      refine j_ws (ws' := [(ma 46, .inl (y 0, 108, .inl g46)), MB mo ma (nI t1) i2 i3 i4 i5 i6 i7 i8 i42 i49 i51 i53 i54 i59 i61 i64 i66 (nI t67) i76 i78, (ma 62, .inl (y 0, 63, .inl g62))]) rfl ?_
      rcases hr11 with ⟨rfl, xh13⟩ | ⟨rfl, xh14⟩
      · refine j_if_eqF (pc := 168) C (tgt := 174) d_Model_flowOf_168 (by decide) (by decide) ?_
        refine j_iconst (pc := 171) C (v := 0) d_Model_flowOf_171 (by decide) ?_
        refine j_istore (pc := 172) C (lv' := [(6, .int 0), (5, .int (nI (lq - bd gq))), (4, .int (nI (54 + (6 * gq)))), (0, .ref mo), (1, .int (nI gq)), (2, .int (nI lq)), (3, .int (nI wq))]) d_Model_flowOf_172 (by decide) rfl ?_
        have hfu : 0 = fullT gt gq (bd gq) lq dy := (full_3a ke (by omega)).symm
        refine j_lv (lv' := [(6, .int (nI (fullT gt gq (bd gq) lq dy))), (5, .int (nI (lq - bd gq))), (4, .int (nI (54 + (6 * gq)))), (0, .ref mo), (1, .int (nI gq)), (2, .int (nI lq)), (3, .int (nI wq))]) (by rw [show (0 : Int32) = nI (fullT gt gq (bd gq) lq dy) from congrArg nI hfu]) ?_
        refine j_iload (pc := 174) C d_Model_flowOf_174 0 rfl ?_
        refine j_iload_n (pc := 176) C d_Model_flowOf_176 rfl 6 rfl ?_
        by_cases c15 : wq ≤ (fullT gt gq (bd gq) lq dy)
        · refine j_icmp_geT (pc := 177) C (tgt := 185) d_Model_flowOf_177 (by decide) (show nI wq ≤ nI (fullT gt gq (bd gq) lq dy) from nI_le (by omega) (by omega)) ?_
          refine j_iload_n (pc := 185) C d_Model_flowOf_185 rfl 6 rfl ?_
          exact j_iret (pc := 186) C hr rfl () (congrArg nI (mn_2 (by omega))) [1, 0, 2] rfl (by decide) (by decide) (by decide) d_Model_flowOf_186
        · refine j_icmp_geF (pc := 177) C (tgt := 185) d_Model_flowOf_177 (by decide) (show ¬ nI wq ≤ nI (fullT gt gq (bd gq) lq dy) from nI_ge (by omega) (by omega)) ?_
          refine j_iload (pc := 180) C d_Model_flowOf_180 0 rfl ?_
          refine j_goto (pc := 182) C (tgt := 186) d_Model_flowOf_182 (by decide) ?_
          exact j_iret (pc := 186) C hr rfl () (congrArg nI (mn_1 (by omega))) [1, 0, 2] rfl (by decide) (by decide) (by decide) d_Model_flowOf_186
      · refine j_if_eqT (pc := 168) C (tgt := 174) d_Model_flowOf_168 (by decide) (by decide) ?_
        have hfu : ((lq - bd gq) * (gt.r 5 gq)) = fullT gt gq (bd gq) lq dy := (full_3b ke (by omega)).symm
        refine j_lv (lv' := [(6, .int (nI (fullT gt gq (bd gq) lq dy))), (5, .int (nI (lq - bd gq))), (4, .int (nI (54 + (6 * gq)))), (0, .ref mo), (1, .int (nI gq)), (2, .int (nI lq)), (3, .int (nI wq))]) (by rw [show nI ((lq - bd gq) * (gt.r 5 gq)) = nI (fullT gt gq (bd gq) lq dy) from congrArg nI hfu]) ?_
        refine j_iload (pc := 174) C d_Model_flowOf_174 0 rfl ?_
        refine j_iload_n (pc := 176) C d_Model_flowOf_176 rfl 6 rfl ?_
        by_cases c16 : wq ≤ (fullT gt gq (bd gq) lq dy)
        · refine j_icmp_geT (pc := 177) C (tgt := 185) d_Model_flowOf_177 (by decide) (show nI wq ≤ nI (fullT gt gq (bd gq) lq dy) from nI_le (by omega) (by omega)) ?_
          refine j_iload_n (pc := 185) C d_Model_flowOf_185 rfl 6 rfl ?_
          exact j_iret (pc := 186) C hr rfl () (congrArg nI (mn_2 (by omega))) [1, 0, 2] rfl (by decide) (by decide) (by decide) d_Model_flowOf_186
        · refine j_icmp_geF (pc := 177) C (tgt := 185) d_Model_flowOf_177 (by decide) (show ¬ nI wq ≤ nI (fullT gt gq (bd gq) lq dy) from nI_ge (by omega) (by omega)) ?_
          refine j_iload (pc := 180) C d_Model_flowOf_180 0 rfl ?_
          refine j_goto (pc := 182) C (tgt := 186) d_Model_flowOf_182 (by decide) ?_
          exact j_iret (pc := 186) C hr rfl () (congrArg nI (mn_1 (by omega))) [1, 0, 2] rfl (by decide) (by decide) (by decide) d_Model_flowOf_186
  · refine j_icmp_leF (pc := 15) C (tgt := 28) d_Model_flowOf_15 (by decide) (show ¬ nI lq ≤ nI (bd gq) from nI_ge (by omega) (by omega)) ?_
    refine j_iload_n (pc := 18) C d_Model_flowOf_18 rfl 3 rfl ?_
    refine j_aload_n (pc := 19) C d_Model_flowOf_19 rfl 1 rfl ?_
    refine j_iload_n (pc := 20) C d_Model_flowOf_20 rfl 2 rfl ?_
    refine j_callVi (pc := 21) C (c_mboards l D y mo ma t1 i2 i3 i4 i5 i6 i7 i8 i42 i49 i51 i53 i54 i59 i61 i64 i66 t67 i76 i78 g62 gq dy wa la bd fl st wo ly se su hnw (by omega)) kw_Model_421 kv_Model_boards 0 10 rfl rfl ⟨by decide, by decide⟩ ⟨by decide, by decide⟩ (wr := [(ma 46, .inl (y 0, 108, .inl g46))]) [1, 2] [0] rfl rfl (by decide) (by decide) (by decide) (As := [.int (nI gq)]) (rest := [.int (nI lq)]) rfl (nb rfl) rfl d_Model_flowOf_21 (fun r17 _ hr17 => ?_)
    obtain rfl := hr17
    refine j_ws (ws' := [(ma 46, .inl (y 0, 108, .inl g46)), MB mo ma (nI t1) i2 i3 i4 i5 i6 i7 i8 i42 i49 i51 i53 i54 i59 i61 i64 i66 (nI t67) i76 i78, (ma 62, .inl (y 0, 63, .inl g62))]) rfl ?_
    refine j_isub (pc := 24) C (v := nI (lq - (bd gq))) d_Model_flowOf_24 (pk_sub (by omega)) ?_
    refine j_goto (pc := 25) C (tgt := 29) d_Model_flowOf_25 (by decide) ?_
    refine j_st (st' := [.int (nI (lq - bd gq))]) (by rw [show nI (lq - (bd gq)) = nI (lq - bd gq) from (congrArg nI (show (lq - (bd gq)) = lq - bd gq by omega))]) ?_
    refine j_istore (pc := 29) C (lv' := [(5, .int (nI (lq - bd gq))), (4, .int (nI (54 + (6 * gq)))), (0, .ref mo), (1, .int (nI gq)), (2, .int (nI lq)), (3, .int (nI wq))]) d_Model_flowOf_29 (by decide) rfl ?_
    rcases kd4 with ke | ke | ke | ke
    · refine j_iload (pc := 31) C d_Model_flowOf_31 0 rfl ?_
      refine j_aload_n (pc := 33) C d_Model_flowOf_33 rfl 2 rfl ?_
      refine j_get (pc := 34) C gf_Model_127 1 rfl rfl d_Model_flowOf_34 ?_
      refine j_iload (pc := 37) C d_Model_flowOf_37 1 rfl ?_
      refine j_iconst (pc := 39) C (v := 4) d_Model_flowOf_39 (by decide) ?_
      refine j_iadd (pc := 40) C (v := nI ((54 + (6 * gq)) + 4)) d_Model_flowOf_40 (nI_add _ _) ?_
      refine j_iald (pc := 41) C 0 rfl (v := nI (gt.r 5 gq)) (vp_in_nI (by omega) (by decide)) (by rw [nI_clamp (by omega)]; exact (gt_ix4 (G := g46) (j := gq)).trans (hs_gates gq (by omega)).2.2.2.2.1) d_Model_flowOf_41 ?_
      refine j_imul (pc := 42) C (v := nI ((lq - bd gq) * (gt.r 5 gq))) d_Model_flowOf_42 (pk_mul _ _) ?_
      refine j_istore (pc := 43) C (lv' := [(6, .int (nI ((lq - bd gq) * (gt.r 5 gq)))), (5, .int (nI (lq - bd gq))), (4, .int (nI (54 + (6 * gq)))), (0, .ref mo), (1, .int (nI gq)), (2, .int (nI lq)), (3, .int (nI wq))]) d_Model_flowOf_43 (by decide) rfl ?_
      refine j_aload_n (pc := 45) C d_Model_flowOf_45 rfl 3 rfl ?_
      refine j_get (pc := 46) C gf_Model_127 1 rfl rfl d_Model_flowOf_46 ?_
      refine j_iload (pc := 49) C d_Model_flowOf_49 2 rfl ?_
      refine j_iald (pc := 51) C 0 rfl (v := nI (gt.r 1 gq)) (vp_in_nI (by omega) (by decide)) (by rw [nI_clamp (by omega)]; exact (gt_ix0 (G := g46) (j := gq)).trans (hs_gates gq (by omega)).1) d_Model_flowOf_51 ?_
      refine j_iconst (pc := 52) C (v := 1) d_Model_flowOf_52 (by decide) ?_
      refine j_icmp_neT (pc := 53) C (tgt := 82) d_Model_flowOf_53 (by decide) (fun e => absurd ((nI_eq (by omega) (by omega)).mp (show nI (gt.r 1 gq) = nI 1 from e)) (by omega)) ?_
      refine j_aload_n (pc := 82) C d_Model_flowOf_82 rfl 3 rfl ?_
      refine j_get (pc := 83) C gf_Model_127 1 rfl rfl d_Model_flowOf_83 ?_
      refine j_iload (pc := 86) C d_Model_flowOf_86 2 rfl ?_
      refine j_iald (pc := 88) C 0 rfl (v := nI (gt.r 1 gq)) (vp_in_nI (by omega) (by decide)) (by rw [nI_clamp (by omega)]; exact (gt_ix0 (G := g46) (j := gq)).trans (hs_gates gq (by omega)).1) d_Model_flowOf_88 ?_
      refine j_iconst (pc := 89) C (v := 2) d_Model_flowOf_89 (by decide) ?_
      refine j_icmp_neT (pc := 90) C (tgt := 127) d_Model_flowOf_90 (by decide) (fun e => absurd ((nI_eq (by omega) (by omega)).mp (show nI (gt.r 1 gq) = nI 2 from e)) (by omega)) ?_
      refine j_aload_n (pc := 127) C d_Model_flowOf_127 rfl 3 rfl ?_
      refine j_get (pc := 128) C gf_Model_127 1 rfl rfl d_Model_flowOf_128 ?_
      refine j_iload (pc := 131) C d_Model_flowOf_131 2 rfl ?_
      refine j_iald (pc := 133) C 0 rfl (v := nI (gt.r 1 gq)) (vp_in_nI (by omega) (by decide)) (by rw [nI_clamp (by omega)]; exact (gt_ix0 (G := g46) (j := gq)).trans (hs_gates gq (by omega)).1) d_Model_flowOf_133 ?_
      refine j_iconst (pc := 134) C (v := 3) d_Model_flowOf_134 (by decide) ?_
      refine j_icmp_neT (pc := 135) C (tgt := 174) d_Model_flowOf_135 (by decide) (fun e => absurd ((nI_eq (by omega) (by omega)).mp (show nI (gt.r 1 gq) = nI 3 from e)) (by omega)) ?_
      have hfu : ((lq - bd gq) * (gt.r 5 gq)) = fullT gt gq (bd gq) lq dy := (full_0 ke).symm
      refine j_lv (lv' := [(6, .int (nI (fullT gt gq (bd gq) lq dy))), (5, .int (nI (lq - bd gq))), (4, .int (nI (54 + (6 * gq)))), (0, .ref mo), (1, .int (nI gq)), (2, .int (nI lq)), (3, .int (nI wq))]) (by rw [show nI ((lq - bd gq) * (gt.r 5 gq)) = nI (fullT gt gq (bd gq) lq dy) from congrArg nI hfu]) ?_
      refine j_iload (pc := 174) C d_Model_flowOf_174 0 rfl ?_
      refine j_iload_n (pc := 176) C d_Model_flowOf_176 rfl 6 rfl ?_
      by_cases c18 : wq ≤ (fullT gt gq (bd gq) lq dy)
      · refine j_icmp_geT (pc := 177) C (tgt := 185) d_Model_flowOf_177 (by decide) (show nI wq ≤ nI (fullT gt gq (bd gq) lq dy) from nI_le (by omega) (by omega)) ?_
        refine j_iload_n (pc := 185) C d_Model_flowOf_185 rfl 6 rfl ?_
        exact j_iret (pc := 186) C hr rfl () (congrArg nI (mn_2 (by omega))) [1, 0, 2] rfl (by decide) (by decide) (by decide) d_Model_flowOf_186
      · refine j_icmp_geF (pc := 177) C (tgt := 185) d_Model_flowOf_177 (by decide) (show ¬ nI wq ≤ nI (fullT gt gq (bd gq) lq dy) from nI_ge (by omega) (by omega)) ?_
        refine j_iload (pc := 180) C d_Model_flowOf_180 0 rfl ?_
        refine j_goto (pc := 182) C (tgt := 186) d_Model_flowOf_182 (by decide) ?_
        exact j_iret (pc := 186) C hr rfl () (congrArg nI (mn_1 (by omega))) [1, 0, 2] rfl (by decide) (by decide) (by decide) d_Model_flowOf_186
    · refine j_iload (pc := 31) C d_Model_flowOf_31 0 rfl ?_
      refine j_aload_n (pc := 33) C d_Model_flowOf_33 rfl 2 rfl ?_
      refine j_get (pc := 34) C gf_Model_127 1 rfl rfl d_Model_flowOf_34 ?_
      refine j_iload (pc := 37) C d_Model_flowOf_37 1 rfl ?_
      refine j_iconst (pc := 39) C (v := 4) d_Model_flowOf_39 (by decide) ?_
      refine j_iadd (pc := 40) C (v := nI ((54 + (6 * gq)) + 4)) d_Model_flowOf_40 (nI_add _ _) ?_
      refine j_iald (pc := 41) C 0 rfl (v := nI (gt.r 5 gq)) (vp_in_nI (by omega) (by decide)) (by rw [nI_clamp (by omega)]; exact (gt_ix4 (G := g46) (j := gq)).trans (hs_gates gq (by omega)).2.2.2.2.1) d_Model_flowOf_41 ?_
      refine j_imul (pc := 42) C (v := nI ((lq - bd gq) * (gt.r 5 gq))) d_Model_flowOf_42 (pk_mul _ _) ?_
      refine j_istore (pc := 43) C (lv' := [(6, .int (nI ((lq - bd gq) * (gt.r 5 gq)))), (5, .int (nI (lq - bd gq))), (4, .int (nI (54 + (6 * gq)))), (0, .ref mo), (1, .int (nI gq)), (2, .int (nI lq)), (3, .int (nI wq))]) d_Model_flowOf_43 (by decide) rfl ?_
      refine j_aload_n (pc := 45) C d_Model_flowOf_45 rfl 3 rfl ?_
      refine j_get (pc := 46) C gf_Model_127 1 rfl rfl d_Model_flowOf_46 ?_
      refine j_iload (pc := 49) C d_Model_flowOf_49 2 rfl ?_
      refine j_iald (pc := 51) C 0 rfl (v := nI (gt.r 1 gq)) (vp_in_nI (by omega) (by decide)) (by rw [nI_clamp (by omega)]; exact (gt_ix0 (G := g46) (j := gq)).trans (hs_gates gq (by omega)).1) d_Model_flowOf_51 ?_
      refine j_iconst (pc := 52) C (v := 1) d_Model_flowOf_52 (by decide) ?_
      refine j_icmp_neF (pc := 53) C (tgt := 82) d_Model_flowOf_53 (by decide) (show nI (gt.r 1 gq) = nI 1 by rw [ke]) ?_
      refine j_aload_n (pc := 56) C d_Model_flowOf_56 rfl 3 rfl ?_
      refine j_iload_n (pc := 57) C d_Model_flowOf_57 rfl 4 rfl ?_
      refine j_callVi (pc := 58) C (c_mboards l D y mo ma t1 i2 i3 i4 i5 i6 i7 i8 i42 i49 i51 i53 i54 i59 i61 i64 i66 t67 i76 i78 g62 gq dy wa la bd fl st wo ly se su hnw (by omega)) kw_Model_421 kv_Model_boards 0 10 rfl rfl ⟨by decide, by decide⟩ ⟨by decide, by decide⟩ (wr := [(ma 46, .inl (y 0, 108, .inl g46))]) [1, 2] [0] rfl rfl (by decide) (by decide) (by decide) (As := [.int (nI gq)]) (rest := []) rfl (nb rfl) rfl d_Model_flowOf_58 (fun r19 _ hr19 => ?_)
      obtain rfl := hr19
      refine j_ws (ws' := [(ma 46, .inl (y 0, 108, .inl g46)), MB mo ma (nI t1) i2 i3 i4 i5 i6 i7 i8 i42 i49 i51 i53 i54 i59 i61 i64 i66 (nI t67) i76 i78, (ma 62, .inl (y 0, 63, .inl g62))]) rfl ?_
      by_cases c20 : (bd gq) ≤ 0
      · refine j_if_leT (pc := 61) C (tgt := 82) d_Model_flowOf_61 (by decide) (show nI (bd gq) ≤ nI 0 from nI_le (by omega) (by omega)) ?_
        refine j_aload_n (pc := 82) C d_Model_flowOf_82 rfl 3 rfl ?_
        refine j_get (pc := 83) C gf_Model_127 1 rfl rfl d_Model_flowOf_83 ?_
        refine j_iload (pc := 86) C d_Model_flowOf_86 2 rfl ?_
        refine j_iald (pc := 88) C 0 rfl (v := nI (gt.r 1 gq)) (vp_in_nI (by omega) (by decide)) (by rw [nI_clamp (by omega)]; exact (gt_ix0 (G := g46) (j := gq)).trans (hs_gates gq (by omega)).1) d_Model_flowOf_88 ?_
        refine j_iconst (pc := 89) C (v := 2) d_Model_flowOf_89 (by decide) ?_
        refine j_icmp_neT (pc := 90) C (tgt := 127) d_Model_flowOf_90 (by decide) (fun e => absurd ((nI_eq (by omega) (by omega)).mp (show nI (gt.r 1 gq) = nI 2 from e)) (by omega)) ?_
        refine j_aload_n (pc := 127) C d_Model_flowOf_127 rfl 3 rfl ?_
        refine j_get (pc := 128) C gf_Model_127 1 rfl rfl d_Model_flowOf_128 ?_
        refine j_iload (pc := 131) C d_Model_flowOf_131 2 rfl ?_
        refine j_iald (pc := 133) C 0 rfl (v := nI (gt.r 1 gq)) (vp_in_nI (by omega) (by decide)) (by rw [nI_clamp (by omega)]; exact (gt_ix0 (G := g46) (j := gq)).trans (hs_gates gq (by omega)).1) d_Model_flowOf_133 ?_
        refine j_iconst (pc := 134) C (v := 3) d_Model_flowOf_134 (by decide) ?_
        refine j_icmp_neT (pc := 135) C (tgt := 174) d_Model_flowOf_135 (by decide) (fun e => absurd ((nI_eq (by omega) (by omega)).mp (show nI (gt.r 1 gq) = nI 3 from e)) (by omega)) ?_
        have hfu : ((lq - bd gq) * (gt.r 5 gq)) = fullT gt gq (bd gq) lq dy := (full_1b ke (by omega)).symm
        refine j_lv (lv' := [(6, .int (nI (fullT gt gq (bd gq) lq dy))), (5, .int (nI (lq - bd gq))), (4, .int (nI (54 + (6 * gq)))), (0, .ref mo), (1, .int (nI gq)), (2, .int (nI lq)), (3, .int (nI wq))]) (by rw [show nI ((lq - bd gq) * (gt.r 5 gq)) = nI (fullT gt gq (bd gq) lq dy) from congrArg nI hfu]) ?_
        refine j_iload (pc := 174) C d_Model_flowOf_174 0 rfl ?_
        refine j_iload_n (pc := 176) C d_Model_flowOf_176 rfl 6 rfl ?_
        by_cases c21 : wq ≤ (fullT gt gq (bd gq) lq dy)
        · refine j_icmp_geT (pc := 177) C (tgt := 185) d_Model_flowOf_177 (by decide) (show nI wq ≤ nI (fullT gt gq (bd gq) lq dy) from nI_le (by omega) (by omega)) ?_
          refine j_iload_n (pc := 185) C d_Model_flowOf_185 rfl 6 rfl ?_
          exact j_iret (pc := 186) C hr rfl () (congrArg nI (mn_2 (by omega))) [1, 0, 2] rfl (by decide) (by decide) (by decide) d_Model_flowOf_186
        · refine j_icmp_geF (pc := 177) C (tgt := 185) d_Model_flowOf_177 (by decide) (show ¬ nI wq ≤ nI (fullT gt gq (bd gq) lq dy) from nI_ge (by omega) (by omega)) ?_
          refine j_iload (pc := 180) C d_Model_flowOf_180 0 rfl ?_
          refine j_goto (pc := 182) C (tgt := 186) d_Model_flowOf_182 (by decide) ?_
          exact j_iret (pc := 186) C hr rfl () (congrArg nI (mn_1 (by omega))) [1, 0, 2] rfl (by decide) (by decide) (by decide) d_Model_flowOf_186
      · refine j_if_leF (pc := 61) C (tgt := 82) d_Model_flowOf_61 (by decide) (show ¬ nI (bd gq) ≤ nI 0 from nI_ge (by omega) (by omega)) ?_
        refine j_iload_n (pc := 64) C d_Model_flowOf_64 rfl 5 rfl ?_
        by_cases c22 : lq ≤ 0
        · refine j_if_leT (pc := 65) C (tgt := 82) d_Model_flowOf_65 (by decide) (show nI lq ≤ nI 0 from nI_le (by omega) (by omega)) ?_
          refine j_aload_n (pc := 82) C d_Model_flowOf_82 rfl 3 rfl ?_
          refine j_get (pc := 83) C gf_Model_127 1 rfl rfl d_Model_flowOf_83 ?_
          refine j_iload (pc := 86) C d_Model_flowOf_86 2 rfl ?_
          refine j_iald (pc := 88) C 0 rfl (v := nI (gt.r 1 gq)) (vp_in_nI (by omega) (by decide)) (by rw [nI_clamp (by omega)]; exact (gt_ix0 (G := g46) (j := gq)).trans (hs_gates gq (by omega)).1) d_Model_flowOf_88 ?_
          refine j_iconst (pc := 89) C (v := 2) d_Model_flowOf_89 (by decide) ?_
          refine j_icmp_neT (pc := 90) C (tgt := 127) d_Model_flowOf_90 (by decide) (fun e => absurd ((nI_eq (by omega) (by omega)).mp (show nI (gt.r 1 gq) = nI 2 from e)) (by omega)) ?_
          refine j_aload_n (pc := 127) C d_Model_flowOf_127 rfl 3 rfl ?_
          refine j_get (pc := 128) C gf_Model_127 1 rfl rfl d_Model_flowOf_128 ?_
          refine j_iload (pc := 131) C d_Model_flowOf_131 2 rfl ?_
          refine j_iald (pc := 133) C 0 rfl (v := nI (gt.r 1 gq)) (vp_in_nI (by omega) (by decide)) (by rw [nI_clamp (by omega)]; exact (gt_ix0 (G := g46) (j := gq)).trans (hs_gates gq (by omega)).1) d_Model_flowOf_133 ?_
          refine j_iconst (pc := 134) C (v := 3) d_Model_flowOf_134 (by decide) ?_
          refine j_icmp_neT (pc := 135) C (tgt := 174) d_Model_flowOf_135 (by decide) (fun e => absurd ((nI_eq (by omega) (by omega)).mp (show nI (gt.r 1 gq) = nI 3 from e)) (by omega)) ?_
          have hfu : ((lq - bd gq) * (gt.r 5 gq)) = fullT gt gq (bd gq) lq dy := (full_1b ke (by omega)).symm
          refine j_lv (lv' := [(6, .int (nI (fullT gt gq (bd gq) lq dy))), (5, .int (nI (lq - bd gq))), (4, .int (nI (54 + (6 * gq)))), (0, .ref mo), (1, .int (nI gq)), (2, .int (nI lq)), (3, .int (nI wq))]) (by rw [show nI ((lq - bd gq) * (gt.r 5 gq)) = nI (fullT gt gq (bd gq) lq dy) from congrArg nI hfu]) ?_
          refine j_iload (pc := 174) C d_Model_flowOf_174 0 rfl ?_
          refine j_iload_n (pc := 176) C d_Model_flowOf_176 rfl 6 rfl ?_
          by_cases c23 : wq ≤ (fullT gt gq (bd gq) lq dy)
          · refine j_icmp_geT (pc := 177) C (tgt := 185) d_Model_flowOf_177 (by decide) (show nI wq ≤ nI (fullT gt gq (bd gq) lq dy) from nI_le (by omega) (by omega)) ?_
            refine j_iload_n (pc := 185) C d_Model_flowOf_185 rfl 6 rfl ?_
            exact j_iret (pc := 186) C hr rfl () (congrArg nI (mn_2 (by omega))) [1, 0, 2] rfl (by decide) (by decide) (by decide) d_Model_flowOf_186
          · refine j_icmp_geF (pc := 177) C (tgt := 185) d_Model_flowOf_177 (by decide) (show ¬ nI wq ≤ nI (fullT gt gq (bd gq) lq dy) from nI_ge (by omega) (by omega)) ?_
            refine j_iload (pc := 180) C d_Model_flowOf_180 0 rfl ?_
            refine j_goto (pc := 182) C (tgt := 186) d_Model_flowOf_182 (by decide) ?_
            exact j_iret (pc := 186) C hr rfl () (congrArg nI (mn_1 (by omega))) [1, 0, 2] rfl (by decide) (by decide) (by decide) d_Model_flowOf_186
        · refine j_if_leF (pc := 65) C (tgt := 82) d_Model_flowOf_65 (by decide) (show ¬ nI lq ≤ nI 0 from nI_ge (by omega) (by omega)) ?_
          refine j_iload (pc := 68) C d_Model_flowOf_68 0 rfl ?_
          refine j_aload_n (pc := 70) C d_Model_flowOf_70 rfl 3 rfl ?_
          refine j_get (pc := 71) C gf_Model_127 1 rfl rfl d_Model_flowOf_71 ?_
          refine j_iload (pc := 74) C d_Model_flowOf_74 2 rfl ?_
          refine j_iconst (pc := 76) C (v := 1) d_Model_flowOf_76 (by decide) ?_
          refine j_iadd (pc := 77) C (v := nI ((54 + (6 * gq)) + 1)) d_Model_flowOf_77 (nI_add _ _) ?_
          refine j_iald (pc := 78) C 0 rfl (v := nI (gt.r 2 gq)) (vp_in_nI (by omega) (by decide)) (by rw [nI_clamp (by omega)]; exact (gt_ix1 (G := g46) (j := gq)).trans (hs_gates gq (by omega)).2.1) d_Model_flowOf_78 ?_
          refine j_iadd (pc := 79) C (v := nI (((lq - bd gq) * (gt.r 5 gq)) + (gt.r 2 gq))) d_Model_flowOf_79 (nI_add _ _) ?_
          refine j_istore (pc := 80) C (lv' := [(6, .int (nI (((lq - bd gq) * (gt.r 5 gq)) + (gt.r 2 gq)))), (5, .int (nI (lq - bd gq))), (4, .int (nI (54 + (6 * gq)))), (0, .ref mo), (1, .int (nI gq)), (2, .int (nI lq)), (3, .int (nI wq))]) d_Model_flowOf_80 (by decide) rfl ?_
          refine j_aload_n (pc := 82) C d_Model_flowOf_82 rfl 3 rfl ?_
          refine j_get (pc := 83) C gf_Model_127 1 rfl rfl d_Model_flowOf_83 ?_
          refine j_iload (pc := 86) C d_Model_flowOf_86 2 rfl ?_
          refine j_iald (pc := 88) C 0 rfl (v := nI (gt.r 1 gq)) (vp_in_nI (by omega) (by decide)) (by rw [nI_clamp (by omega)]; exact (gt_ix0 (G := g46) (j := gq)).trans (hs_gates gq (by omega)).1) d_Model_flowOf_88 ?_
          refine j_iconst (pc := 89) C (v := 2) d_Model_flowOf_89 (by decide) ?_
          refine j_icmp_neT (pc := 90) C (tgt := 127) d_Model_flowOf_90 (by decide) (fun e => absurd ((nI_eq (by omega) (by omega)).mp (show nI (gt.r 1 gq) = nI 2 from e)) (by omega)) ?_
          refine j_aload_n (pc := 127) C d_Model_flowOf_127 rfl 3 rfl ?_
          refine j_get (pc := 128) C gf_Model_127 1 rfl rfl d_Model_flowOf_128 ?_
          refine j_iload (pc := 131) C d_Model_flowOf_131 2 rfl ?_
          refine j_iald (pc := 133) C 0 rfl (v := nI (gt.r 1 gq)) (vp_in_nI (by omega) (by decide)) (by rw [nI_clamp (by omega)]; exact (gt_ix0 (G := g46) (j := gq)).trans (hs_gates gq (by omega)).1) d_Model_flowOf_133 ?_
          refine j_iconst (pc := 134) C (v := 3) d_Model_flowOf_134 (by decide) ?_
          refine j_icmp_neT (pc := 135) C (tgt := 174) d_Model_flowOf_135 (by decide) (fun e => absurd ((nI_eq (by omega) (by omega)).mp (show nI (gt.r 1 gq) = nI 3 from e)) (by omega)) ?_
          have hfu : (((lq - bd gq) * (gt.r 5 gq)) + (gt.r 2 gq)) = fullT gt gq (bd gq) lq dy := (full_1a ke (by omega)).symm
          refine j_lv (lv' := [(6, .int (nI (fullT gt gq (bd gq) lq dy))), (5, .int (nI (lq - bd gq))), (4, .int (nI (54 + (6 * gq)))), (0, .ref mo), (1, .int (nI gq)), (2, .int (nI lq)), (3, .int (nI wq))]) (by rw [show nI (((lq - bd gq) * (gt.r 5 gq)) + (gt.r 2 gq)) = nI (fullT gt gq (bd gq) lq dy) from congrArg nI hfu]) ?_
          refine j_iload (pc := 174) C d_Model_flowOf_174 0 rfl ?_
          refine j_iload_n (pc := 176) C d_Model_flowOf_176 rfl 6 rfl ?_
          by_cases c24 : wq ≤ (fullT gt gq (bd gq) lq dy)
          · refine j_icmp_geT (pc := 177) C (tgt := 185) d_Model_flowOf_177 (by decide) (show nI wq ≤ nI (fullT gt gq (bd gq) lq dy) from nI_le (by omega) (by omega)) ?_
            refine j_iload_n (pc := 185) C d_Model_flowOf_185 rfl 6 rfl ?_
            exact j_iret (pc := 186) C hr rfl () (congrArg nI (mn_2 (by omega))) [1, 0, 2] rfl (by decide) (by decide) (by decide) d_Model_flowOf_186
          · refine j_icmp_geF (pc := 177) C (tgt := 185) d_Model_flowOf_177 (by decide) (show ¬ nI wq ≤ nI (fullT gt gq (bd gq) lq dy) from nI_ge (by omega) (by omega)) ?_
            refine j_iload (pc := 180) C d_Model_flowOf_180 0 rfl ?_
            refine j_goto (pc := 182) C (tgt := 186) d_Model_flowOf_182 (by decide) ?_
            exact j_iret (pc := 186) C hr rfl () (congrArg nI (mn_1 (by omega))) [1, 0, 2] rfl (by decide) (by decide) (by decide) d_Model_flowOf_186
    · refine j_iload (pc := 31) C d_Model_flowOf_31 0 rfl ?_
      refine j_aload_n (pc := 33) C d_Model_flowOf_33 rfl 2 rfl ?_
      refine j_get (pc := 34) C gf_Model_127 1 rfl rfl d_Model_flowOf_34 ?_
      refine j_iload (pc := 37) C d_Model_flowOf_37 1 rfl ?_
      refine j_iconst (pc := 39) C (v := 4) d_Model_flowOf_39 (by decide) ?_
      refine j_iadd (pc := 40) C (v := nI ((54 + (6 * gq)) + 4)) d_Model_flowOf_40 (nI_add _ _) ?_
      refine j_iald (pc := 41) C 0 rfl (v := nI (gt.r 5 gq)) (vp_in_nI (by omega) (by decide)) (by rw [nI_clamp (by omega)]; exact (gt_ix4 (G := g46) (j := gq)).trans (hs_gates gq (by omega)).2.2.2.2.1) d_Model_flowOf_41 ?_
      refine j_imul (pc := 42) C (v := nI ((lq - bd gq) * (gt.r 5 gq))) d_Model_flowOf_42 (pk_mul _ _) ?_
      refine j_istore (pc := 43) C (lv' := [(6, .int (nI ((lq - bd gq) * (gt.r 5 gq)))), (5, .int (nI (lq - bd gq))), (4, .int (nI (54 + (6 * gq)))), (0, .ref mo), (1, .int (nI gq)), (2, .int (nI lq)), (3, .int (nI wq))]) d_Model_flowOf_43 (by decide) rfl ?_
      refine j_aload_n (pc := 45) C d_Model_flowOf_45 rfl 3 rfl ?_
      refine j_get (pc := 46) C gf_Model_127 1 rfl rfl d_Model_flowOf_46 ?_
      refine j_iload (pc := 49) C d_Model_flowOf_49 2 rfl ?_
      refine j_iald (pc := 51) C 0 rfl (v := nI (gt.r 1 gq)) (vp_in_nI (by omega) (by decide)) (by rw [nI_clamp (by omega)]; exact (gt_ix0 (G := g46) (j := gq)).trans (hs_gates gq (by omega)).1) d_Model_flowOf_51 ?_
      refine j_iconst (pc := 52) C (v := 1) d_Model_flowOf_52 (by decide) ?_
      refine j_icmp_neT (pc := 53) C (tgt := 82) d_Model_flowOf_53 (by decide) (fun e => absurd ((nI_eq (by omega) (by omega)).mp (show nI (gt.r 1 gq) = nI 1 from e)) (by omega)) ?_
      refine j_aload_n (pc := 82) C d_Model_flowOf_82 rfl 3 rfl ?_
      refine j_get (pc := 83) C gf_Model_127 1 rfl rfl d_Model_flowOf_83 ?_
      refine j_iload (pc := 86) C d_Model_flowOf_86 2 rfl ?_
      refine j_iald (pc := 88) C 0 rfl (v := nI (gt.r 1 gq)) (vp_in_nI (by omega) (by decide)) (by rw [nI_clamp (by omega)]; exact (gt_ix0 (G := g46) (j := gq)).trans (hs_gates gq (by omega)).1) d_Model_flowOf_88 ?_
      refine j_iconst (pc := 89) C (v := 2) d_Model_flowOf_89 (by decide) ?_
      refine j_icmp_neF (pc := 90) C (tgt := 127) d_Model_flowOf_90 (by decide) (show nI (gt.r 1 gq) = nI 2 by rw [ke]) ?_
      refine j_iload (pc := 93) C d_Model_flowOf_93 1 rfl ?_
      refine j_aload_n (pc := 95) C d_Model_flowOf_95 rfl 3 rfl ?_
      refine j_get (pc := 96) C gf_Model_127 1 rfl rfl d_Model_flowOf_96 ?_
      refine j_iload (pc := 99) C d_Model_flowOf_99 2 rfl ?_
      refine j_iconst (pc := 101) C (v := 1) d_Model_flowOf_101 (by decide) ?_
      refine j_iadd (pc := 102) C (v := nI ((54 + (6 * gq)) + 1)) d_Model_flowOf_102 (nI_add _ _) ?_
      refine j_iald (pc := 103) C 0 rfl (v := nI (gt.r 2 gq)) (vp_in_nI (by omega) (by decide)) (by rw [nI_clamp (by omega)]; exact (gt_ix1 (G := g46) (j := gq)).trans (hs_gates gq (by omega)).2.1) d_Model_flowOf_103 ?_
      refine j_idiv (pc := 104) C (v := nI ((lq - bd gq) / (gt.r 2 gq))) d_Model_flowOf_104 (nI_ne0 (by omega) (by omega)) (pk_div (by omega) (by omega) (by omega)) ?_
      refine j_aload_n (pc := 105) C d_Model_flowOf_105 rfl 3 rfl ?_
      refine j_get (pc := 106) C gf_Model_127 1 rfl rfl d_Model_flowOf_106 ?_
      refine j_iload (pc := 109) C d_Model_flowOf_109 2 rfl ?_
      refine j_iconst (pc := 111) C (v := 1) d_Model_flowOf_111 (by decide) ?_
      refine j_iadd (pc := 112) C (v := nI ((54 + (6 * gq)) + 1)) d_Model_flowOf_112 (nI_add _ _) ?_
      refine j_iald (pc := 113) C 0 rfl (v := nI (gt.r 2 gq)) (vp_in_nI (by omega) (by decide)) (by rw [nI_clamp (by omega)]; exact (gt_ix1 (G := g46) (j := gq)).trans (hs_gates gq (by omega)).2.1) d_Model_flowOf_113 ?_
      refine j_imul (pc := 114) C (v := nI (((lq - bd gq) / (gt.r 2 gq)) * (gt.r 2 gq))) d_Model_flowOf_114 (pk_mul _ _) ?_
      refine j_aload_n (pc := 115) C d_Model_flowOf_115 rfl 3 rfl ?_
      refine j_get (pc := 116) C gf_Model_127 1 rfl rfl d_Model_flowOf_116 ?_
      refine j_iload (pc := 119) C d_Model_flowOf_119 2 rfl ?_
      refine j_iconst (pc := 121) C (v := 4) d_Model_flowOf_121 (by decide) ?_
      refine j_iadd (pc := 122) C (v := nI ((54 + (6 * gq)) + 4)) d_Model_flowOf_122 (nI_add _ _) ?_
      refine j_iald (pc := 123) C 0 rfl (v := nI (gt.r 5 gq)) (vp_in_nI (by omega) (by decide)) (by rw [nI_clamp (by omega)]; exact (gt_ix4 (G := g46) (j := gq)).trans (hs_gates gq (by omega)).2.2.2.2.1) d_Model_flowOf_123 ?_
      refine j_imul (pc := 124) C (v := nI ((((lq - bd gq) / (gt.r 2 gq)) * (gt.r 2 gq)) * (gt.r 5 gq))) d_Model_flowOf_124 (pk_mul _ _) ?_
      refine j_istore (pc := 125) C (lv' := [(6, .int (nI ((((lq - bd gq) / (gt.r 2 gq)) * (gt.r 2 gq)) * (gt.r 5 gq)))), (5, .int (nI (lq - bd gq))), (4, .int (nI (54 + (6 * gq)))), (0, .ref mo), (1, .int (nI gq)), (2, .int (nI lq)), (3, .int (nI wq))]) d_Model_flowOf_125 (by decide) rfl ?_
      refine j_aload_n (pc := 127) C d_Model_flowOf_127 rfl 3 rfl ?_
      refine j_get (pc := 128) C gf_Model_127 1 rfl rfl d_Model_flowOf_128 ?_
      refine j_iload (pc := 131) C d_Model_flowOf_131 2 rfl ?_
      refine j_iald (pc := 133) C 0 rfl (v := nI (gt.r 1 gq)) (vp_in_nI (by omega) (by decide)) (by rw [nI_clamp (by omega)]; exact (gt_ix0 (G := g46) (j := gq)).trans (hs_gates gq (by omega)).1) d_Model_flowOf_133 ?_
      refine j_iconst (pc := 134) C (v := 3) d_Model_flowOf_134 (by decide) ?_
      refine j_icmp_neT (pc := 135) C (tgt := 174) d_Model_flowOf_135 (by decide) (fun e => absurd ((nI_eq (by omega) (by omega)).mp (show nI (gt.r 1 gq) = nI 3 from e)) (by omega)) ?_
      have hfu : ((((lq - bd gq) / (gt.r 2 gq)) * (gt.r 2 gq)) * (gt.r 5 gq)) = fullT gt gq (bd gq) lq dy := (full_2 ke).symm
      refine j_lv (lv' := [(6, .int (nI (fullT gt gq (bd gq) lq dy))), (5, .int (nI (lq - bd gq))), (4, .int (nI (54 + (6 * gq)))), (0, .ref mo), (1, .int (nI gq)), (2, .int (nI lq)), (3, .int (nI wq))]) (by rw [show nI ((((lq - bd gq) / (gt.r 2 gq)) * (gt.r 2 gq)) * (gt.r 5 gq)) = nI (fullT gt gq (bd gq) lq dy) from congrArg nI hfu]) ?_
      refine j_iload (pc := 174) C d_Model_flowOf_174 0 rfl ?_
      refine j_iload_n (pc := 176) C d_Model_flowOf_176 rfl 6 rfl ?_
      by_cases c25 : wq ≤ (fullT gt gq (bd gq) lq dy)
      · refine j_icmp_geT (pc := 177) C (tgt := 185) d_Model_flowOf_177 (by decide) (show nI wq ≤ nI (fullT gt gq (bd gq) lq dy) from nI_le (by omega) (by omega)) ?_
        refine j_iload_n (pc := 185) C d_Model_flowOf_185 rfl 6 rfl ?_
        exact j_iret (pc := 186) C hr rfl () (congrArg nI (mn_2 (by omega))) [1, 0, 2] rfl (by decide) (by decide) (by decide) d_Model_flowOf_186
      · refine j_icmp_geF (pc := 177) C (tgt := 185) d_Model_flowOf_177 (by decide) (show ¬ nI wq ≤ nI (fullT gt gq (bd gq) lq dy) from nI_ge (by omega) (by omega)) ?_
        refine j_iload (pc := 180) C d_Model_flowOf_180 0 rfl ?_
        refine j_goto (pc := 182) C (tgt := 186) d_Model_flowOf_182 (by decide) ?_
        exact j_iret (pc := 186) C hr rfl () (congrArg nI (mn_1 (by omega))) [1, 0, 2] rfl (by decide) (by decide) (by decide) d_Model_flowOf_186
    · refine j_iload (pc := 31) C d_Model_flowOf_31 0 rfl ?_
      refine j_aload_n (pc := 33) C d_Model_flowOf_33 rfl 2 rfl ?_
      refine j_get (pc := 34) C gf_Model_127 1 rfl rfl d_Model_flowOf_34 ?_
      refine j_iload (pc := 37) C d_Model_flowOf_37 1 rfl ?_
      refine j_iconst (pc := 39) C (v := 4) d_Model_flowOf_39 (by decide) ?_
      refine j_iadd (pc := 40) C (v := nI ((54 + (6 * gq)) + 4)) d_Model_flowOf_40 (nI_add _ _) ?_
      refine j_iald (pc := 41) C 0 rfl (v := nI (gt.r 5 gq)) (vp_in_nI (by omega) (by decide)) (by rw [nI_clamp (by omega)]; exact (gt_ix4 (G := g46) (j := gq)).trans (hs_gates gq (by omega)).2.2.2.2.1) d_Model_flowOf_41 ?_
      refine j_imul (pc := 42) C (v := nI ((lq - bd gq) * (gt.r 5 gq))) d_Model_flowOf_42 (pk_mul _ _) ?_
      refine j_istore (pc := 43) C (lv' := [(6, .int (nI ((lq - bd gq) * (gt.r 5 gq)))), (5, .int (nI (lq - bd gq))), (4, .int (nI (54 + (6 * gq)))), (0, .ref mo), (1, .int (nI gq)), (2, .int (nI lq)), (3, .int (nI wq))]) d_Model_flowOf_43 (by decide) rfl ?_
      refine j_aload_n (pc := 45) C d_Model_flowOf_45 rfl 3 rfl ?_
      refine j_get (pc := 46) C gf_Model_127 1 rfl rfl d_Model_flowOf_46 ?_
      refine j_iload (pc := 49) C d_Model_flowOf_49 2 rfl ?_
      refine j_iald (pc := 51) C 0 rfl (v := nI (gt.r 1 gq)) (vp_in_nI (by omega) (by decide)) (by rw [nI_clamp (by omega)]; exact (gt_ix0 (G := g46) (j := gq)).trans (hs_gates gq (by omega)).1) d_Model_flowOf_51 ?_
      refine j_iconst (pc := 52) C (v := 1) d_Model_flowOf_52 (by decide) ?_
      refine j_icmp_neT (pc := 53) C (tgt := 82) d_Model_flowOf_53 (by decide) (fun e => absurd ((nI_eq (by omega) (by omega)).mp (show nI (gt.r 1 gq) = nI 1 from e)) (by omega)) ?_
      refine j_aload_n (pc := 82) C d_Model_flowOf_82 rfl 3 rfl ?_
      refine j_get (pc := 83) C gf_Model_127 1 rfl rfl d_Model_flowOf_83 ?_
      refine j_iload (pc := 86) C d_Model_flowOf_86 2 rfl ?_
      refine j_iald (pc := 88) C 0 rfl (v := nI (gt.r 1 gq)) (vp_in_nI (by omega) (by decide)) (by rw [nI_clamp (by omega)]; exact (gt_ix0 (G := g46) (j := gq)).trans (hs_gates gq (by omega)).1) d_Model_flowOf_88 ?_
      refine j_iconst (pc := 89) C (v := 2) d_Model_flowOf_89 (by decide) ?_
      refine j_icmp_neT (pc := 90) C (tgt := 127) d_Model_flowOf_90 (by decide) (fun e => absurd ((nI_eq (by omega) (by omega)).mp (show nI (gt.r 1 gq) = nI 2 from e)) (by omega)) ?_
      refine j_aload_n (pc := 127) C d_Model_flowOf_127 rfl 3 rfl ?_
      refine j_get (pc := 128) C gf_Model_127 1 rfl rfl d_Model_flowOf_128 ?_
      refine j_iload (pc := 131) C d_Model_flowOf_131 2 rfl ?_
      refine j_iald (pc := 133) C 0 rfl (v := nI (gt.r 1 gq)) (vp_in_nI (by omega) (by decide)) (by rw [nI_clamp (by omega)]; exact (gt_ix0 (G := g46) (j := gq)).trans (hs_gates gq (by omega)).1) d_Model_flowOf_133 ?_
      refine j_iconst (pc := 134) C (v := 3) d_Model_flowOf_134 (by decide) ?_
      refine j_icmp_neF (pc := 135) C (tgt := 174) d_Model_flowOf_135 (by decide) (show nI (gt.r 1 gq) = nI 3 by rw [ke]) ?_
      refine j_aload_n (pc := 138) C d_Model_flowOf_138 rfl 3 rfl ?_
      refine j_get (pc := 139) C gf_Model_158 1 rfl rfl d_Model_flowOf_139 ?_
      refine j_iconst (pc := 142) C (v := 0) d_Model_flowOf_142 (by decide) ?_
      refine j_iald (pc := 143) C 2 rfl (v := nI dy) (vin (by decide)) (nw_dy hnw) d_Model_flowOf_143 ?_
      refine j_i2l (pc := 144) C (v := nL dy) d_Model_flowOf_144 (nId_L (by omega)) ?_
      refine j_aload_n (pc := 145) C d_Model_flowOf_145 rfl 3 rfl ?_
      refine j_get (pc := 146) C gf_Model_127 1 rfl rfl d_Model_flowOf_146 ?_
      refine j_iload (pc := 149) C d_Model_flowOf_149 2 rfl ?_
      refine j_iconst (pc := 151) C (v := 1) d_Model_flowOf_151 (by decide) ?_
      refine j_iadd (pc := 152) C (v := nI ((54 + (6 * gq)) + 1)) d_Model_flowOf_152 (nI_add _ _) ?_
      refine j_iald (pc := 153) C 0 rfl (v := nI (gt.r 2 gq)) (vp_in_nI (by omega) (by decide)) (by rw [nI_clamp (by omega)]; exact (gt_ix1 (G := g46) (j := gq)).trans (hs_gates gq (by omega)).2.1) d_Model_flowOf_153 ?_
      refine j_i2l (pc := 154) C (v := nL (gt.r 2 gq)) d_Model_flowOf_154 (nId_L (by omega)) ?_
      refine j_aload_n (pc := 155) C d_Model_flowOf_155 rfl 3 rfl ?_
      refine j_get (pc := 156) C gf_Model_127 1 rfl rfl d_Model_flowOf_156 ?_
      refine j_iload (pc := 159) C d_Model_flowOf_159 2 rfl ?_
      refine j_iconst (pc := 161) C (v := 2) d_Model_flowOf_161 (by decide) ?_
      refine j_iadd (pc := 162) C (v := nI ((54 + (6 * gq)) + 2)) d_Model_flowOf_162 (nI_add _ _) ?_
      refine j_iald (pc := 163) C 0 rfl (v := nI (gt.r 3 gq)) (vp_in_nI (by omega) (by decide)) (by rw [nI_clamp (by omega)]; exact (gt_ix2 (G := g46) (j := gq)).trans (hs_gates gq (by omega)).2.2.1) d_Model_flowOf_163 ?_
      refine j_i2l (pc := 164) C (v := nL (gt.r 3 gq)) d_Model_flowOf_164 (nId_L (by omega)) ?_
      refine j_callSi (pc := 165) C (c_misInN l D y dy (gt.r 2 gq) (gt.r 3 gq) (by omega) (by omega) (by omega)) kw_Model_240 ks_Model_isIn ⟨by decide, by decide⟩ ⟨by decide, by decide⟩ (wr := [(ma 46, .inl (y 0, 108, .inl g46)), MB mo ma (nI t1) i2 i3 i4 i5 i6 i7 i8 i42 i49 i51 i53 i54 i59 i61 i64 i66 (nI t67) i76 i78, (ma 62, .inl (y 0, 63, .inl g62))]) [] [0, 1, 2] rfl rfl (by decide) (by decide) (by decide) (As := [.long (nL dy), .long (nL (gt.r 2 gq)), .long (nL (gt.r 3 gq))]) (rest := []) rfl (nb rfl) rfl d_Model_flowOf_165 (fun r26 _ hr26 => ?_)
      refine j_ws (ws' := [(ma 46, .inl (y 0, 108, .inl g46)), MB mo ma (nI t1) i2 i3 i4 i5 i6 i7 i8 i42 i49 i51 i53 i54 i59 i61 i64 i66 (nI t67) i76 i78, (ma 62, .inl (y 0, 63, .inl g62))]) rfl ?_
      rcases hr26 with ⟨rfl, xh28⟩ | ⟨rfl, xh29⟩
      · refine j_if_eqF (pc := 168) C (tgt := 174) d_Model_flowOf_168 (by decide) (by decide) ?_
        refine j_iconst (pc := 171) C (v := 0) d_Model_flowOf_171 (by decide) ?_
        refine j_istore (pc := 172) C (lv' := [(6, .int 0), (5, .int (nI (lq - bd gq))), (4, .int (nI (54 + (6 * gq)))), (0, .ref mo), (1, .int (nI gq)), (2, .int (nI lq)), (3, .int (nI wq))]) d_Model_flowOf_172 (by decide) rfl ?_
        have hfu : 0 = fullT gt gq (bd gq) lq dy := (full_3a ke (by omega)).symm
        refine j_lv (lv' := [(6, .int (nI (fullT gt gq (bd gq) lq dy))), (5, .int (nI (lq - bd gq))), (4, .int (nI (54 + (6 * gq)))), (0, .ref mo), (1, .int (nI gq)), (2, .int (nI lq)), (3, .int (nI wq))]) (by rw [show (0 : Int32) = nI (fullT gt gq (bd gq) lq dy) from congrArg nI hfu]) ?_
        refine j_iload (pc := 174) C d_Model_flowOf_174 0 rfl ?_
        refine j_iload_n (pc := 176) C d_Model_flowOf_176 rfl 6 rfl ?_
        by_cases c30 : wq ≤ (fullT gt gq (bd gq) lq dy)
        · refine j_icmp_geT (pc := 177) C (tgt := 185) d_Model_flowOf_177 (by decide) (show nI wq ≤ nI (fullT gt gq (bd gq) lq dy) from nI_le (by omega) (by omega)) ?_
          refine j_iload_n (pc := 185) C d_Model_flowOf_185 rfl 6 rfl ?_
          exact j_iret (pc := 186) C hr rfl () (congrArg nI (mn_2 (by omega))) [1, 0, 2] rfl (by decide) (by decide) (by decide) d_Model_flowOf_186
        · refine j_icmp_geF (pc := 177) C (tgt := 185) d_Model_flowOf_177 (by decide) (show ¬ nI wq ≤ nI (fullT gt gq (bd gq) lq dy) from nI_ge (by omega) (by omega)) ?_
          refine j_iload (pc := 180) C d_Model_flowOf_180 0 rfl ?_
          refine j_goto (pc := 182) C (tgt := 186) d_Model_flowOf_182 (by decide) ?_
          exact j_iret (pc := 186) C hr rfl () (congrArg nI (mn_1 (by omega))) [1, 0, 2] rfl (by decide) (by decide) (by decide) d_Model_flowOf_186
      · refine j_if_eqT (pc := 168) C (tgt := 174) d_Model_flowOf_168 (by decide) (by decide) ?_
        have hfu : ((lq - bd gq) * (gt.r 5 gq)) = fullT gt gq (bd gq) lq dy := (full_3b ke (by omega)).symm
        refine j_lv (lv' := [(6, .int (nI (fullT gt gq (bd gq) lq dy))), (5, .int (nI (lq - bd gq))), (4, .int (nI (54 + (6 * gq)))), (0, .ref mo), (1, .int (nI gq)), (2, .int (nI lq)), (3, .int (nI wq))]) (by rw [show nI ((lq - bd gq) * (gt.r 5 gq)) = nI (fullT gt gq (bd gq) lq dy) from congrArg nI hfu]) ?_
        refine j_iload (pc := 174) C d_Model_flowOf_174 0 rfl ?_
        refine j_iload_n (pc := 176) C d_Model_flowOf_176 rfl 6 rfl ?_
        by_cases c31 : wq ≤ (fullT gt gq (bd gq) lq dy)
        · refine j_icmp_geT (pc := 177) C (tgt := 185) d_Model_flowOf_177 (by decide) (show nI wq ≤ nI (fullT gt gq (bd gq) lq dy) from nI_le (by omega) (by omega)) ?_
          refine j_iload_n (pc := 185) C d_Model_flowOf_185 rfl 6 rfl ?_
          exact j_iret (pc := 186) C hr rfl () (congrArg nI (mn_2 (by omega))) [1, 0, 2] rfl (by decide) (by decide) (by decide) d_Model_flowOf_186
        · refine j_icmp_geF (pc := 177) C (tgt := 185) d_Model_flowOf_177 (by decide) (show ¬ nI wq ≤ nI (fullT gt gq (bd gq) lq dy) from nI_ge (by omega) (by omega)) ?_
          refine j_iload (pc := 180) C d_Model_flowOf_180 0 rfl ?_
          refine j_goto (pc := 182) C (tgt := 186) d_Model_flowOf_182 (by decide) ?_
          exact j_iret (pc := 186) C hr rfl () (congrArg nI (mn_1 (by omega))) [1, 0, 2] rfl (by decide) (by decide) (by decide) d_Model_flowOf_186
set_option maxHeartbeats 4000000 in
set_option maxRecDepth 100000 in
theorem c_mflowsNow (l : Launch) (D : va_G) (y : Nat → ClassId) (mo : Nat) (ma : Nat → Nat) (t1 : Nat) (i2 : Int32) (i3 : Int32) (i4 : Int32) (i5 : Int32) (i6 : Int32) (i7 : Int32) (i8 : Int32) (i42 : Int32) (i49 : Int32) (i51 : Int32) (i53 : Int32) (i54 : Int32) (i59 : Int32) (i61 : Int32) (i64 : Int32) (i66 : Int32) (t67 : Nat) (i76 : Int64) (i78 : Int32) (g43 : Nat → Int32) (g45 : Nat → Int32) (g46 : Nat → Int32) (g62 : Nat → Int32) (g63 : Nat → Int32) (gt : LA_) (dy : Nat) (wa : Nat) (la : Nat) (bd : Nat → Nat) (fl : Nat → Nat) (st : Nat → Nat) (wo : Nat → Int) (ly : Nat → Int) (se : Nat → Nat) (su : Nat → Nat) (hto : TOQ gt) (hnw : NW g62 0 dy wa la bd fl st wo ly se su) (hs_many : MC gt (fun j => g43 (4 + j))) (hs_lake : LR gt (fun j => g45 (7 + j))) (hs_gates : GR gt (fun j => g46 (54 + j))) (hbd : BN (gt.s 9) bd 20) (hdy : dy ≤ 2000) (hwa : wa ≤ 9999) : CT l D y ⟨"NineBoardsModel", "flowsNow", "()I"⟩ prog_13_method_63_code 4 (some .int) ({ frames := 2, cells := 0, slots := 0, locals := 51 } : Room) [.ref mo] [MB mo ma (nI t1) i2 i3 i4 i5 i6 i7 i8 i42 i49 i51 i53 i54 i59 i61 i64 i66 (nI t67) i76 i78, (ma 43, .inl (y 0, 8, .inl g43)), (ma 45, .inl (y 0, 14, .inl g45)), (ma 46, .inl (y 0, 108, .inl g46)), (ma 62, .inl (y 0, 63, .inl g62)), (ma 63, .inl (y 0, 9, .inl g63))] (QI D [MB mo ma (nI t1) i2 i3 i4 i5 i6 i7 i8 i42 i49 i51 i53 i54 i59 i61 i64 i66 (nI t67) i76 i78, (ma 43, .inl (y 0, 8, .inl g43)), (ma 45, .inl (y 0, 14, .inl g45)), (ma 46, .inl (y 0, 108, .inl g46)), (ma 62, .inl (y 0, 63, .inl g62)), (ma 63, .inl (y 0, 9, .inl g63))] (fun (r : Int32) (u : Nat → Int32) => r = nI (leftT gt bd (wa / gt.s 1) dy wa (gt.s 9)) ∧ XW (gt.s 9) u (flowT gt bd (wa / gt.s 1) dy wa)) (fun u => [MB mo ma (nI t1) i2 i3 i4 i5 i6 i7 i8 i42 i49 i51 i53 i54 i59 i61 i64 i66 (nI t67) i76 i78, (ma 43, .inl (y 0, 8, .inl g43)), (ma 45, .inl (y 0, 14, .inl g45)), (ma 46, .inl (y 0, 108, .inl g46)), (ma 62, .inl (y 0, 63, .inl g62)), (ma 63, .inl (y 0, 9, .inl u))])) := by
  refine CT.of (by decide) (nb rfl) ?_
  intro p e s m args below meth c C hr
  refine j_lv (lv' := [(0, .ref mo)]) rfl ?_
  obtain ⟨_, _, _, _, b9, b4, b10, b11⟩ := id hs_many
  obtain ⟨b1, b1x, b2, b2x, b3, b5, b6, b7, b8⟩ := to_n hto
  have hlv : wa / gt.s 1 ≤ 9999 := Nat.le_trans (Nat.div_le_self _ _) hwa
  refine j_aload_n (pc := 0) C d_Model_flowsNow_0 rfl 0 rfl ?_
  refine j_callVi (pc := 1) C (c_mlevel l D y mo ma t1 i2 i3 i4 i5 i6 i7 i8 i42 i49 i51 i53 i54 i59 i61 i64 i66 t67 i76 i78 g45 g62 gt dy wa la bd fl st wo ly se su hto hnw hs_lake hwa) kw_Model_427 kv_Model_level 0 10 rfl rfl ⟨by decide, by decide⟩ ⟨by decide, by decide⟩ (wr := [(ma 43, .inl (y 0, 8, .inl g43)), (ma 46, .inl (y 0, 108, .inl g46)), (ma 63, .inl (y 0, 9, .inl g63))]) [0, 2, 4] [1, 3, 5] rfl rfl (by decide +kernel) (by decide +kernel) (by decide +kernel) (As := []) (rest := []) rfl (nb rfl) rfl d_Model_flowsNow_1 (fun r1 _ hr1 => ?_)
  obtain rfl := hr1
  refine j_ws (ws' := [(ma 43, .inl (y 0, 8, .inl g43)), (ma 46, .inl (y 0, 108, .inl g46)), (ma 63, .inl (y 0, 9, .inl g63)), MB mo ma (nI t1) i2 i3 i4 i5 i6 i7 i8 i42 i49 i51 i53 i54 i59 i61 i64 i66 (nI t67) i76 i78, (ma 45, .inl (y 0, 14, .inl g45)), (ma 62, .inl (y 0, 63, .inl g62))]) rfl ?_
  refine j_istore_n (pc := 4) C (lv' := [(1, .int (nI (wa / gt.s 1))), (0, .ref mo)]) d_Model_flowsNow_4 rfl (by decide) rfl ?_
  refine j_aload_n (pc := 5) C d_Model_flowsNow_5 rfl 1 rfl ?_
  refine j_get (pc := 6) C gf_Model_158 3 rfl rfl d_Model_flowsNow_6 ?_
  refine j_iconst (pc := 9) C (v := 1) d_Model_flowsNow_9 (by decide) ?_
  refine j_iald (pc := 10) C 5 rfl (v := nI wa) (vin (by decide)) (nw_wa hnw) d_Model_flowsNow_10 ?_
  refine j_istore_n (pc := 11) C (lv' := [(2, .int (nI wa)), (1, .int (nI (wa / gt.s 1))), (0, .ref mo)]) d_Model_flowsNow_11 rfl (by decide) rfl ?_
  refine j_iconst (pc := 12) C (v := 0) d_Model_flowsNow_12 (by decide) ?_
  refine j_istore_n (pc := 13) C (lv' := [(3, .int 0), (2, .int (nI wa)), (1, .int (nI (wa / gt.s 1))), (0, .ref mo)]) d_Model_flowsNow_13 rfl (by decide) rfl ?_
  refine j_loop (α := Nat × Nat × (Nat → Int32)) (fun a => gt.s 9 - a.1) (fun a => (a.1 ≤ gt.s 9) ∧ (a.2.1 = leftT gt bd (wa / gt.s 1) dy wa a.1) ∧ ((∀ j, j < a.1 → a.2.2 j = nI ((flowT gt bd (wa / gt.s 1) dy wa) j)))) (fun a => [(ma 43, .inl (y 0, 8, .inl g43)), (ma 46, .inl (y 0, 108, .inl g46)), (ma 63, .inl (y 0, 9, .inl a.2.2)), MB mo ma (nI t1) i2 i3 i4 i5 i6 i7 i8 i42 i49 i51 i53 i54 i59 i61 i64 i66 (nI t67) i76 i78, (ma 45, .inl (y 0, 14, .inl g45)), (ma 62, .inl (y 0, 63, .inl g62))]) (fun a => [(3, .int (nI a.1)), (2, .int (nI a.2.1)), (1, .int (nI (wa / gt.s 1))), (0, .ref mo)]) (0, wa, g63) rfl rfl ⟨(show 0 ≤ gt.s 9 by omega), (show wa = leftT gt bd (wa / gt.s 1) dy wa 0 from rfl), (fun j hj => absurd hj (Nat.not_lt_zero _))⟩ ?_
  rintro ⟨iz, lz, fz⟩ hP5 ih6
  obtain ⟨hi__, hl__, hf__⟩ := hP5
  have hi_ : iz ≤ gt.s 9 := hi__
  have hl_ : lz = leftT gt bd (wa / gt.s 1) dy wa iz := hl__
  have hf_ : (∀ j, j < iz → fz j = nI ((flowT gt bd (wa / gt.s 1) dy wa) j)) := hf__
  refine j_ws (ws' := [(ma 43, .inl (y 0, 8, .inl g43)), (ma 46, .inl (y 0, 108, .inl g46)), (ma 63, .inl (y 0, 9, .inl fz)), MB mo ma (nI t1) i2 i3 i4 i5 i6 i7 i8 i42 i49 i51 i53 i54 i59 i61 i64 i66 (nI t67) i76 i78, (ma 45, .inl (y 0, 14, .inl g45)), (ma 62, .inl (y 0, 63, .inl g62))]) rfl ?_
  refine j_lv (lv' := [(3, .int (nI iz)), (2, .int (nI lz)), (1, .int (nI (wa / gt.s 1))), (0, .ref mo)]) rfl ?_
  have hlz : lz ≤ wa := by rw [hl_]; exact left_le
  refine j_iload_n (pc := 14) C d_Model_flowsNow_14 rfl 0 rfl ?_
  refine j_aload_n (pc := 15) C d_Model_flowsNow_15 rfl 3 rfl ?_
  refine j_callVi (pc := 16) C (c_mgateMany l D y mo ma t1 i2 i3 i4 i5 i6 i7 i8 i42 i49 i51 i53 i54 i59 i61 i64 i66 t67 i76 i78 g43 gt hs_many) kw_Model_341 kv_Model_gateMany 0 10 rfl rfl ⟨by decide, by decide⟩ ⟨by decide, by decide⟩ (wr := [(ma 46, .inl (y 0, 108, .inl g46)), (ma 63, .inl (y 0, 9, .inl fz)), (ma 45, .inl (y 0, 14, .inl g45)), (ma 62, .inl (y 0, 63, .inl g62))]) [3, 0] [1, 2, 4, 5] rfl rfl (by decide +kernel) (by decide +kernel) (by decide +kernel) (As := []) (rest := [.int (nI iz)]) rfl (nb rfl) rfl d_Model_flowsNow_16 (fun r7 _ hr7 => ?_)
  obtain rfl := hr7
  refine j_ws (ws' := [(ma 46, .inl (y 0, 108, .inl g46)), (ma 63, .inl (y 0, 9, .inl fz)), (ma 45, .inl (y 0, 14, .inl g45)), (ma 62, .inl (y 0, 63, .inl g62)), MB mo ma (nI t1) i2 i3 i4 i5 i6 i7 i8 i42 i49 i51 i53 i54 i59 i61 i64 i66 (nI t67) i76 i78, (ma 43, .inl (y 0, 8, .inl g43))]) rfl ?_
  by_cases c8 : (gt.s 9) ≤ iz
  · refine j_icmp_geT (pc := 19) C (tgt := 50) d_Model_flowsNow_19 (by decide) (show nI (gt.s 9) ≤ nI iz from nI_le (by omega) (by omega)) ?_
    refine j_iload_n (pc := 50) C d_Model_flowsNow_50 rfl 1 rfl ?_
    exact j_iret (pc := 51) C hr rfl fz ⟨congrArg nI (hl_.trans (by rw [show iz = gt.s 9 by omega])), fun j hj => hf_ j (by omega)⟩ [4, 5, 2, 0, 3, 1] rfl (by decide) (by decide) (by decide) d_Model_flowsNow_51
  · refine j_icmp_geF (pc := 19) C (tgt := 50) d_Model_flowsNow_19 (by decide) (show ¬ nI (gt.s 9) ≤ nI iz from nI_ge (by omega) (by omega)) ?_
    refine j_aload_n (pc := 22) C d_Model_flowsNow_22 rfl 3 rfl ?_
    refine j_get (pc := 23) C gf_Model_161 4 rfl rfl d_Model_flowsNow_23 ?_
    refine j_iload_n (pc := 26) C d_Model_flowsNow_26 rfl 0 rfl ?_
    refine j_aload_n (pc := 27) C d_Model_flowsNow_27 rfl 3 rfl ?_
    refine j_iload_n (pc := 28) C d_Model_flowsNow_28 rfl 0 rfl ?_
    refine j_iload_n (pc := 29) C d_Model_flowsNow_29 rfl 2 rfl ?_
    refine j_iload_n (pc := 30) C d_Model_flowsNow_30 rfl 1 rfl ?_
    refine j_callVi (pc := 31) C (c_mflowOf l D y mo ma t1 i2 i3 i4 i5 i6 i7 i8 i42 i49 i51 i53 i54 i59 i61 i64 i66 t67 i76 i78 g46 g62 iz (wa / gt.s 1) lz gt dy wa la bd fl st wo ly se su hto hnw hs_gates (by omega) (by omega) hbd hdy (by omega) (by omega)) kw_Model_430 kv_Model_flowOf 0 10 rfl rfl ⟨by decide, by decide⟩ ⟨by decide, by decide⟩ (wr := [(ma 63, .inl (y 0, 9, .inl fz)), (ma 45, .inl (y 0, 14, .inl g45)), (ma 43, .inl (y 0, 8, .inl g43))]) [4, 0, 3] [1, 2, 5] rfl rfl (by decide +kernel) (by decide +kernel) (by decide +kernel) (As := [.int (nI iz), .int (nI (wa / gt.s 1)), .int (nI lz)]) (rest := [.int (nI iz), .ref (ma 63)]) rfl (nb rfl) rfl d_Model_flowsNow_31 (fun r9 _ hr9 => ?_)
    obtain rfl := hr9
    refine j_ws (ws' := [(ma 63, .inl (y 0, 9, .inl fz)), (ma 45, .inl (y 0, 14, .inl g45)), (ma 43, .inl (y 0, 8, .inl g43)), MB mo ma (nI t1) i2 i3 i4 i5 i6 i7 i8 i42 i49 i51 i53 i54 i59 i61 i64 i66 (nI t67) i76 i78, (ma 46, .inl (y 0, 108, .inl g46)), (ma 62, .inl (y 0, 63, .inl g62))]) rfl ?_
    refine j_iast (pc := 34) C 0 rfl (ws' := [(ma 63, .inl (y 0, 9, .inl (upd fz iz (nI (min lz (fullT gt iz (bd iz) (wa / gt.s 1) dy)))))), (ma 45, .inl (y 0, 14, .inl g45)), (ma 43, .inl (y 0, 8, .inl g43)), MB mo ma (nI t1) i2 i3 i4 i5 i6 i7 i8 i42 i49 i51 i53 i54 i59 i61 i64 i66 (nI t67) i76 i78, (ma 46, .inl (y 0, 108, .inl g46)), (ma 62, .inl (y 0, 63, .inl g62))]) (vp_in_nI (by omega) (by decide)) (by rw [nI_clamp (by omega)]; rfl) d_Model_flowsNow_34 ?_
    refine j_iload_n (pc := 35) C d_Model_flowsNow_35 rfl 1 rfl ?_
    refine j_aload_n (pc := 36) C d_Model_flowsNow_36 rfl 3 rfl ?_
    refine j_get (pc := 37) C gf_Model_161 3 rfl rfl d_Model_flowsNow_37 ?_
    refine j_iload_n (pc := 40) C d_Model_flowsNow_40 rfl 0 rfl ?_
    refine j_iald (pc := 41) C 0 rfl (v := nI (min lz (fullT gt iz (bd iz) (wa / gt.s 1) dy))) (vp_in_nI (by omega) (by decide)) (by rw [nI_clamp (by omega)]; exact pk_us) d_Model_flowsNow_41 ?_
    refine j_isub (pc := 42) C (v := nI (lz - (min lz (fullT gt iz (bd iz) (wa / gt.s 1) dy)))) d_Model_flowsNow_42 (pk_sub (by omega)) ?_
    refine j_istore_n (pc := 43) C (lv' := [(2, .int (nI (lz - (min lz (fullT gt iz (bd iz) (wa / gt.s 1) dy))))), (3, .int (nI iz)), (1, .int (nI (wa / gt.s 1))), (0, .ref mo)]) d_Model_flowsNow_43 rfl (by decide) rfl ?_
    refine j_iinc (pc := 44) C (v := nI (iz + 1)) (lv' := [(3, .int (nI (iz + 1))), (2, .int (nI (lz - (min lz (fullT gt iz (bd iz) (wa / gt.s 1) dy))))), (1, .int (nI (wa / gt.s 1))), (0, .ref mo)]) d_Model_flowsNow_44 1 rfl (nI_add _ _) (by decide) rfl ?_
    refine j_goto (pc := 47) C (tgt := 14) d_Model_flowsNow_47 (by decide) ?_
    refine j_sub (ws' := [(ma 43, .inl (y 0, 8, .inl g43)), (ma 46, .inl (y 0, 108, .inl g46)), (ma 63, .inl (y 0, 9, .inl (upd fz iz (nI (min lz (fullT gt iz (bd iz) (wa / gt.s 1) dy)))))), MB mo ma (nI t1) i2 i3 i4 i5 i6 i7 i8 i42 i49 i51 i53 i54 i59 i61 i64 i66 (nI t67) i76 i78, (ma 45, .inl (y 0, 14, .inl g45)), (ma 62, .inl (y 0, 63, .inl g62))]) [2, 4, 0, 3, 1, 5] rfl (by decide +kernel) ?_
    exact ih6 ((iz + 1), (lz - (min lz (fullT gt iz (bd iz) (wa / gt.s 1) dy))), (upd fz iz (nI (min lz (fullT gt iz (bd iz) (wa / gt.s 1) dy))))) ⟨(show (iz + 1) ≤ gt.s 9 by omega), (show (lz - (min lz (fullT gt iz (bd iz) (wa / gt.s 1) dy))) = leftT gt bd (wa / gt.s 1) dy wa (iz + 1) by rw [hl_]; rfl), (show (∀ j, j < (iz + 1) → (upd fz iz (nI (min lz (fullT gt iz (bd iz) (wa / gt.s 1) dy)))) j = nI ((flowT gt bd (wa / gt.s 1) dy wa) j)) from fun j hj => by
      by_cases e : j = iz
      · rw [e, pk_us, min_fl hl_]
      · rw [pk_un e]; exact hf_ j (by omega))⟩ (show gt.s 9 - (iz + 1) < gt.s 9 - iz by omega)
set_option maxHeartbeats 4000000 in
set_option maxRecDepth 100000 in
theorem c_mworths (l : Launch) (D : va_G) (y : Nat → ClassId) (mo : Nat) (ma : Nat → Nat) (t1 : Nat) (i2 : Int32) (i3 : Int32) (i4 : Int32) (i5 : Int32) (i6 : Int32) (i7 : Int32) (i8 : Int32) (i42 : Int32) (i49 : Int32) (i51 : Int32) (i53 : Int32) (i54 : Int32) (i59 : Int32) (i61 : Int32) (i64 : Int32) (i66 : Int32) (t67 : Nat) (i76 : Int64) (i78 : Int32) (g43 : Nat → Int32) (g45 : Nat → Int32) (g48 : Nat → Int32) (g62 : Nat → Int32) (g63 : Nat → Int32) (iq : Nat) (gt : LA_) (dy : Nat) (wa : Nat) (la : Nat) (bd : Nat → Nat) (fl : Nat → Nat) (st : Nat → Nat) (wo : Nat → Int) (ly : Nat → Int) (se : Nat → Nat) (su : Nat → Nat) (fw : Nat → Nat) (hto : TOQ gt) (hnw : NW g62 0 dy wa la bd fl st wo ly se su) (hs_many : MC gt (fun j => g43 (4 + j))) (hs_lake : LR gt (fun j => g45 (7 + j))) (hs_things : TR gt (fun j => g48 (112 + j))) (hdy : dy ≤ 2000) (hwa : wa ≤ 9999) (hq : iq ≤ 1) (xf : XW (gt.s 9) g63 fw) (bf : BN (gt.s 9) fw 9999) : CT l D y ⟨"NineBoardsModel", "worths", "(Z)V"⟩ prog_13_method_65_code 5 none ({ frames := 1, cells := 0, slots := 0, locals := 25 } : Room) [.ref mo, .int (nI iq)] [MB mo ma (nI t1) i2 i3 i4 i5 i6 i7 i8 i42 i49 i51 i53 i54 i59 i61 i64 i66 (nI t67) i76 i78, (ma 43, .inl (y 0, 8, .inl g43)), (ma 45, .inl (y 0, 14, .inl g45)), (ma 48, .inl (y 0, 224, .inl g48)), (ma 62, .inl (y 0, 63, .inl g62)), (ma 63, .inl (y 0, 9, .inl g63))] (QV D [MB mo ma (nI t1) i2 i3 i4 i5 i6 i7 i8 i42 i49 i51 i53 i54 i59 i61 i64 i66 (nI t67) i76 i78, (ma 43, .inl (y 0, 8, .inl g43)), (ma 45, .inl (y 0, 14, .inl g45)), (ma 48, .inl (y 0, 224, .inl g48)), (ma 62, .inl (y 0, 63, .inl g62)), (ma 63, .inl (y 0, 9, .inl g63))] (fun (u : Nat → Int32) => NW u 0 dy wa la bd fl st (woT (gt.s 4) wo (lyT gt dy fw (woL gt wa iq) ly (gt.s 10))) (lyT gt dy fw (woL gt wa iq) ly (gt.s 10)) (seT gt dy fw se (gt.s 10)) su) (fun u => [MB mo ma (nI t1) i2 i3 i4 i5 i6 i7 i8 i42 i49 i51 i53 i54 i59 i61 i64 i66 (nI t67) i76 i78, (ma 43, .inl (y 0, 8, .inl g43)), (ma 45, .inl (y 0, 14, .inl g45)), (ma 48, .inl (y 0, 224, .inl g48)), (ma 62, .inl (y 0, 63, .inl u)), (ma 63, .inl (y 0, 9, .inl g63))])) := by
  refine CT.of (by decide) (nb rfl) ?_
  intro p e s m args below meth c C hr
  refine j_lv (lv' := [(0, .ref mo), (1, .int (nI iq))]) rfl ?_
  obtain ⟨_, _, _, _, b9, b4, b10, b11⟩ := id hs_many
  obtain ⟨b1, b1x, b2, b2x, b3, b5, b6, b7, b8⟩ := to_n hto
  have hlv : wa / gt.s 1 ≤ 9999 := Nat.le_trans (Nat.div_le_self _ _) hwa
  refine j_aload_n (pc := 0) C d_Model_worths_0 rfl 0 rfl ?_
  refine j_callVi (pc := 1) C (c_mlevel l D y mo ma t1 i2 i3 i4 i5 i6 i7 i8 i42 i49 i51 i53 i54 i59 i61 i64 i66 t67 i76 i78 g45 g62 gt dy wa la bd fl st wo ly se su hto hnw hs_lake hwa) kw_Model_427 kv_Model_level 0 10 rfl rfl ⟨by decide, by decide⟩ ⟨by decide, by decide⟩ (wr := [(ma 43, .inl (y 0, 8, .inl g43)), (ma 48, .inl (y 0, 224, .inl g48)), (ma 63, .inl (y 0, 9, .inl g63))]) [0, 2, 4] [1, 3, 5] rfl rfl (by decide +kernel) (by decide +kernel) (by decide +kernel) (As := []) (rest := []) rfl (nb rfl) rfl d_Model_worths_1 (fun r1 _ hr1 => ?_)
  obtain rfl := hr1
  refine j_ws (ws' := [(ma 43, .inl (y 0, 8, .inl g43)), (ma 48, .inl (y 0, 224, .inl g48)), (ma 63, .inl (y 0, 9, .inl g63)), MB mo ma (nI t1) i2 i3 i4 i5 i6 i7 i8 i42 i49 i51 i53 i54 i59 i61 i64 i66 (nI t67) i76 i78, (ma 45, .inl (y 0, 14, .inl g45)), (ma 62, .inl (y 0, 63, .inl g62))]) rfl ?_
  refine j_aload_n (pc := 4) C d_Model_worths_4 rfl 0 rfl ?_
  refine j_get (pc := 5) C gf_Model_124 3 rfl rfl d_Model_worths_5 ?_
  refine j_bipush (pc := 8) C (v := 10) d_Model_worths_8 (by decide) ?_
  refine j_iald (pc := 10) C 4 rfl (v := nI (gt.s 5)) (vin (by decide)) (hs_lake.2.2.2.1) d_Model_worths_10 ?_
  by_cases c2 : (gt.s 5) ≤ (wa / gt.s 1)
  · refine j_icmp_geT (pc := 11) C (tgt := 24) d_Model_worths_11 (by decide) (show nI (gt.s 5) ≤ nI (wa / gt.s 1) from nI_le (by omega) (by omega)) ?_
    refine j_iconst (pc := 24) C (v := 0) d_Model_worths_24 (by decide) ?_
    refine j_iload_n (pc := 25) C d_Model_worths_25 rfl 1 rfl ?_
    by_cases c3 : iq = 0
    · refine j_if_eqT (pc := 26) C (tgt := 39) d_Model_worths_26 (by decide) (show nI iq = nI 0 from (nI_eq (by omega) (by omega)).mpr (by omega)) ?_
      refine j_iconst (pc := 39) C (v := 0) d_Model_worths_39 (by decide) ?_
      refine j_iadd (pc := 40) C (v := 0) d_Model_worths_40 (by decide) ?_
      have hlo0 : 0 + 0 = woL gt wa iq := wo_t (Or.inr ⟨Nat.not_lt.mpr c2, rfl⟩) (Or.inr ⟨by omega, rfl⟩)
      obtain ⟨lo, hlx⟩ : ∃ q, q = 0 + 0 := ⟨_, rfl⟩
      have hlo : lo = woL gt wa iq := hlx.trans hlo0
      refine j_st (st' := [.int (nI lo)]) (by rw [show (0 : Int32) = nI lo from (show (0 : Int32) = nI lo by rw [hlx]; first | done | rfl)]) ?_
      have hlob : lo ≤ 198 := by omega
      clear hlo0
      refine j_istore_n (pc := 41) C (lv' := [(2, .int (nI lo)), (0, .ref mo), (1, .int (nI iq))]) d_Model_worths_41 rfl (by decide) rfl ?_
      refine j_iconst (pc := 42) C (v := 0) d_Model_worths_42 (by decide) ?_
      refine j_istore_n (pc := 43) C (lv' := [(3, .int 0), (2, .int (nI lo)), (0, .ref mo), (1, .int (nI iq))]) d_Model_worths_43 rfl (by decide) rfl ?_
      refine j_loop (α := Nat × (Nat → Int32)) (fun a => gt.s 4 - a.1) (fun a => (a.1 ≤ gt.s 4) ∧ (NW a.2 0 dy wa la bd fl st wo (laT a.1 (-((lo : Nat) : Int)) ly) se su)) (fun a => [(ma 43, .inl (y 0, 8, .inl g43)), (ma 48, .inl (y 0, 224, .inl g48)), (ma 63, .inl (y 0, 9, .inl g63)), MB mo ma (nI t1) i2 i3 i4 i5 i6 i7 i8 i42 i49 i51 i53 i54 i59 i61 i64 i66 (nI t67) i76 i78, (ma 45, .inl (y 0, 14, .inl g45)), (ma 62, .inl (y 0, 63, .inl a.2))]) (fun a => [(3, .int (nI a.1)), (2, .int (nI lo)), (0, .ref mo), (1, .int (nI iq))]) (0, g62) rfl rfl ⟨(show 0 ≤ gt.s 4 by omega), (nw_e hnw (fun _ _ => rfl) (fun _ _ => rfl) (fun _ _ => rfl) (fun _ _ => rfl) (fun j _ => la_0.symm) (fun _ _ => rfl) (fun _ _ => rfl))⟩ ?_
      rintro ⟨iz, nz⟩ hP53 ih54
      obtain ⟨hi__, h1__⟩ := hP53
      have hi_ : iz ≤ gt.s 4 := hi__
      have h1_ : NW nz 0 dy wa la bd fl st wo (laT iz (-((lo : Nat) : Int)) ly) se su := h1__
      refine j_ws (ws' := [(ma 43, .inl (y 0, 8, .inl g43)), (ma 48, .inl (y 0, 224, .inl g48)), (ma 63, .inl (y 0, 9, .inl g63)), MB mo ma (nI t1) i2 i3 i4 i5 i6 i7 i8 i42 i49 i51 i53 i54 i59 i61 i64 i66 (nI t67) i76 i78, (ma 45, .inl (y 0, 14, .inl g45)), (ma 62, .inl (y 0, 63, .inl nz))]) rfl ?_
      refine j_lv (lv' := [(3, .int (nI iz)), (2, .int (nI lo)), (0, .ref mo), (1, .int (nI iq))]) rfl ?_
      refine j_iload_n (pc := 44) C d_Model_worths_44 rfl 0 rfl ?_
      refine j_aload_n (pc := 45) C d_Model_worths_45 rfl 2 rfl ?_
      refine j_callVi (pc := 46) C (c_mvillages l D y mo ma t1 i2 i3 i4 i5 i6 i7 i8 i42 i49 i51 i53 i54 i59 i61 i64 i66 t67 i76 i78 g43 gt hs_many) kw_Model_448 kv_Model_villages 0 10 rfl rfl ⟨by decide, by decide⟩ ⟨by decide, by decide⟩ (wr := [(ma 48, .inl (y 0, 224, .inl g48)), (ma 63, .inl (y 0, 9, .inl g63)), (ma 45, .inl (y 0, 14, .inl g45)), (ma 62, .inl (y 0, 63, .inl nz))]) [3, 0] [1, 2, 4, 5] rfl rfl (by decide +kernel) (by decide +kernel) (by decide +kernel) (As := []) (rest := [.int (nI iz)]) rfl (nb rfl) rfl d_Model_worths_46 (fun r55 _ hr55 => ?_)
      obtain rfl := hr55
      refine j_ws (ws' := [(ma 48, .inl (y 0, 224, .inl g48)), (ma 63, .inl (y 0, 9, .inl g63)), (ma 45, .inl (y 0, 14, .inl g45)), (ma 62, .inl (y 0, 63, .inl nz)), MB mo ma (nI t1) i2 i3 i4 i5 i6 i7 i8 i42 i49 i51 i53 i54 i59 i61 i64 i66 (nI t67) i76 i78, (ma 43, .inl (y 0, 8, .inl g43))]) rfl ?_
      by_cases c56 : (gt.s 4) ≤ iz
      · refine j_icmp_geT (pc := 49) C (tgt := 69) d_Model_worths_49 (by decide) (show nI (gt.s 4) ≤ nI iz from nI_le (by omega) (by omega)) ?_
        refine j_iconst (pc := 69) C (v := 0) d_Model_worths_69 (by decide) ?_
        refine j_istore_n (pc := 70) C (lv' := [(3, .int 0), (2, .int (nI lo)), (0, .ref mo), (1, .int (nI iq))]) d_Model_worths_70 rfl (by decide) rfl ?_
        refine j_loop (α := Nat × (Nat → Int32)) (fun a => gt.s 10 - a.1) (fun a => (a.1 ≤ gt.s 10) ∧ (NW a.2 0 dy wa la bd fl st wo (lyT gt dy fw (woL gt wa iq) ly a.1) (seT gt dy fw se a.1) su)) (fun a => [(ma 48, .inl (y 0, 224, .inl g48)), (ma 63, .inl (y 0, 9, .inl g63)), (ma 45, .inl (y 0, 14, .inl g45)), (ma 62, .inl (y 0, 63, .inl a.2)), MB mo ma (nI t1) i2 i3 i4 i5 i6 i7 i8 i42 i49 i51 i53 i54 i59 i61 i64 i66 (nI t67) i76 i78, (ma 43, .inl (y 0, 8, .inl g43))]) (fun a => [(3, .int (nI a.1)), (2, .int (nI lo)), (0, .ref mo), (1, .int (nI iq))]) (0, nz) rfl rfl ⟨(show 0 ≤ gt.s 10 by omega), (nw_e h1_ (fun _ _ => rfl) (fun _ _ => rfl) (fun _ _ => rfl) (fun _ _ => rfl) (fun j _ => by rw [show iz = gt.s 4 by omega, hlo]; exact ly_0 j) (fun j _ => se_0.symm) (fun _ _ => rfl))⟩ ?_
        rintro ⟨kz, mz⟩ hP79 ih80
        obtain ⟨hk__, h2__⟩ := hP79
        have hk_ : kz ≤ gt.s 10 := hk__
        have h2_ : NW mz 0 dy wa la bd fl st wo (lyT gt dy fw (woL gt wa iq) ly kz) (seT gt dy fw se kz) su := h2__
        refine j_ws (ws' := [(ma 48, .inl (y 0, 224, .inl g48)), (ma 63, .inl (y 0, 9, .inl g63)), (ma 45, .inl (y 0, 14, .inl g45)), (ma 62, .inl (y 0, 63, .inl mz)), MB mo ma (nI t1) i2 i3 i4 i5 i6 i7 i8 i42 i49 i51 i53 i54 i59 i61 i64 i66 (nI t67) i76 i78, (ma 43, .inl (y 0, 8, .inl g43))]) rfl ?_
        refine j_lv (lv' := [(3, .int (nI kz)), (2, .int (nI lo)), (0, .ref mo), (1, .int (nI iq))]) rfl ?_
        refine j_iload_n (pc := 71) C d_Model_worths_71 rfl 0 rfl ?_
        refine j_aload_n (pc := 72) C d_Model_worths_72 rfl 2 rfl ?_
        refine j_get (pc := 73) C gf_Model_117 4 rfl rfl d_Model_worths_73 ?_
        refine j_bipush (pc := 76) C (v := 6) d_Model_worths_76 (by decide) ?_
        refine j_iald (pc := 78) C 5 rfl (v := nI (gt.s 10)) (vin (by decide)) (hs_many.2.2.1) d_Model_worths_78 ?_
        by_cases c81 : (gt.s 10) ≤ kz
        · refine j_icmp_geT (pc := 79) C (tgt := 215) d_Model_worths_79 (by decide) (show nI (gt.s 10) ≤ nI kz from nI_le (by omega) (by omega)) ?_
          refine j_iconst (pc := 215) C (v := 0) d_Model_worths_215 (by decide) ?_
          refine j_istore_n (pc := 216) C (lv' := [(3, .int 0), (2, .int (nI lo)), (0, .ref mo), (1, .int (nI iq))]) d_Model_worths_216 rfl (by decide) rfl ?_
          refine j_loop (α := Nat × (Nat → Int32)) (fun a => gt.s 4 - a.1) (fun a => (a.1 ≤ gt.s 4) ∧ (NW a.2 0 dy wa la bd fl st (woT a.1 wo (lyT gt dy fw (woL gt wa iq) ly (gt.s 10))) (lyT gt dy fw (woL gt wa iq) ly (gt.s 10)) (seT gt dy fw se (gt.s 10)) su)) (fun a => [(ma 48, .inl (y 0, 224, .inl g48)), (ma 63, .inl (y 0, 9, .inl g63)), (ma 45, .inl (y 0, 14, .inl g45)), (ma 62, .inl (y 0, 63, .inl a.2)), MB mo ma (nI t1) i2 i3 i4 i5 i6 i7 i8 i42 i49 i51 i53 i54 i59 i61 i64 i66 (nI t67) i76 i78, (ma 43, .inl (y 0, 8, .inl g43))]) (fun a => [(3, .int (nI a.1)), (2, .int (nI lo)), (0, .ref mo), (1, .int (nI iq))]) (0, mz) rfl rfl ⟨(show 0 ≤ gt.s 4 by omega), (nw_e (show NW mz 0 dy wa la bd fl st wo (lyT gt dy fw (woL gt wa iq) ly (gt.s 10)) (seT gt dy fw se (gt.s 10)) su by rw [show gt.s 10 = kz by omega]; exact h2_) (fun _ _ => rfl) (fun _ _ => rfl) (fun _ _ => rfl) (fun j _ => wo_0.symm) (fun _ _ => rfl) (fun _ _ => rfl) (fun _ _ => rfl))⟩ ?_
          rintro ⟨jz, oz⟩ hP85 ih86
          obtain ⟨hj__, h3__⟩ := hP85
          have hj_ : jz ≤ gt.s 4 := hj__
          have h3_ : NW oz 0 dy wa la bd fl st (woT jz wo (lyT gt dy fw (woL gt wa iq) ly (gt.s 10))) (lyT gt dy fw (woL gt wa iq) ly (gt.s 10)) (seT gt dy fw se (gt.s 10)) su := h3__
          refine j_ws (ws' := [(ma 48, .inl (y 0, 224, .inl g48)), (ma 63, .inl (y 0, 9, .inl g63)), (ma 45, .inl (y 0, 14, .inl g45)), (ma 62, .inl (y 0, 63, .inl oz)), MB mo ma (nI t1) i2 i3 i4 i5 i6 i7 i8 i42 i49 i51 i53 i54 i59 i61 i64 i66 (nI t67) i76 i78, (ma 43, .inl (y 0, 8, .inl g43))]) rfl ?_
          refine j_lv (lv' := [(3, .int (nI jz)), (2, .int (nI lo)), (0, .ref mo), (1, .int (nI iq))]) rfl ?_
          refine j_iload_n (pc := 217) C d_Model_worths_217 rfl 0 rfl ?_
          refine j_aload_n (pc := 218) C d_Model_worths_218 rfl 2 rfl ?_
          refine j_callVi (pc := 219) C (c_mvillages l D y mo ma t1 i2 i3 i4 i5 i6 i7 i8 i42 i49 i51 i53 i54 i59 i61 i64 i66 t67 i76 i78 g43 gt hs_many) kw_Model_448 kv_Model_villages 0 10 rfl rfl ⟨by decide, by decide⟩ ⟨by decide, by decide⟩ (wr := [(ma 48, .inl (y 0, 224, .inl g48)), (ma 63, .inl (y 0, 9, .inl g63)), (ma 45, .inl (y 0, 14, .inl g45)), (ma 62, .inl (y 0, 63, .inl oz))]) [4, 5] [0, 1, 2, 3] rfl rfl (by decide +kernel) (by decide +kernel) (by decide +kernel) (As := []) (rest := [.int (nI jz)]) rfl (nb rfl) rfl d_Model_worths_219 (fun r87 _ hr87 => ?_)
          obtain rfl := hr87
          refine j_ws (ws' := [(ma 48, .inl (y 0, 224, .inl g48)), (ma 63, .inl (y 0, 9, .inl g63)), (ma 45, .inl (y 0, 14, .inl g45)), (ma 62, .inl (y 0, 63, .inl oz)), MB mo ma (nI t1) i2 i3 i4 i5 i6 i7 i8 i42 i49 i51 i53 i54 i59 i61 i64 i66 (nI t67) i76 i78, (ma 43, .inl (y 0, 8, .inl g43))]) rfl ?_
          by_cases c88 : (gt.s 4) ≤ jz
          · refine j_icmp_geT (pc := 222) C (tgt := 252) d_Model_worths_222 (by decide) (show nI (gt.s 4) ≤ nI jz from nI_le (by omega) (by omega)) ?_
            obtain rfl : jz = gt.s 4 := by omega
            exact j_vret (pc := 252) C hr oz h3_ [4, 5, 2, 0, 3, 1] rfl (by decide) (by decide) (by decide) d_Model_worths_252
          · refine j_icmp_geF (pc := 222) C (tgt := 252) d_Model_worths_222 (by decide) (show ¬ nI (gt.s 4) ≤ nI jz from nI_ge (by omega) (by omega)) ?_
            refine j_aload_n (pc := 225) C d_Model_worths_225 rfl 2 rfl ?_
            refine j_get (pc := 226) C gf_Model_158 4 rfl rfl d_Model_worths_226 ?_
            refine j_bipush (pc := 229) C (v := 35) d_Model_worths_229 (by decide) ?_
            refine j_iload_n (pc := 231) C d_Model_worths_231 rfl 0 rfl ?_
            refine j_iadd (pc := 232) C (v := nI (35 + jz)) d_Model_worths_232 (nI_add _ _) ?_
            refine j_dup2 (pc := 233) C d_Model_worths_233 rfl rfl ?_
            refine j_iald (pc := 234) C 3 rfl (v := zI ((woT jz wo (lyT gt dy fw (woL gt wa iq) ly (gt.s 10))) jz)) (vp_in_nI (by omega) (by decide)) (by rw [nI_clamp (by omega)]; exact (nw_wo h3_ jz (by omega))) d_Model_worths_234 ?_
            refine j_aload_n (pc := 235) C d_Model_worths_235 rfl 2 rfl ?_
            refine j_get (pc := 236) C gf_Model_158 4 rfl rfl d_Model_worths_236 ?_
            refine j_bipush (pc := 239) C (v := 41) d_Model_worths_239 (by decide) ?_
            refine j_iload_n (pc := 241) C d_Model_worths_241 rfl 0 rfl ?_
            refine j_iadd (pc := 242) C (v := nI (41 + jz)) d_Model_worths_242 (nI_add _ _) ?_
            refine j_iald (pc := 243) C 3 rfl (v := zI ((lyT gt dy fw (woL gt wa iq) ly (gt.s 10)) jz)) (vp_in_nI (by omega) (by decide)) (by rw [nI_clamp (by omega)]; exact (nw_ly h3_ jz (by omega))) d_Model_worths_243 ?_
            refine j_iadd (pc := 244) C (v := zI (((woT jz wo (lyT gt dy fw (woL gt wa iq) ly (gt.s 10))) jz) + ((lyT gt dy fw (woL gt wa iq) ly (gt.s 10)) jz))) d_Model_worths_244 (zI_add ((woT jz wo (lyT gt dy fw (woL gt wa iq) ly (gt.s 10))) jz) ((lyT gt dy fw (woL gt wa iq) ly (gt.s 10)) jz)) ?_
            refine j_iast (pc := 245) C 3 rfl (ws' := [(ma 48, .inl (y 0, 224, .inl g48)), (ma 63, .inl (y 0, 9, .inl g63)), (ma 45, .inl (y 0, 14, .inl g45)), (ma 62, .inl (y 0, 63, .inl (upd oz (35 + jz) (zI (((woT jz wo (lyT gt dy fw (woL gt wa iq) ly (gt.s 10))) jz) + ((lyT gt dy fw (woL gt wa iq) ly (gt.s 10)) jz)))))), MB mo ma (nI t1) i2 i3 i4 i5 i6 i7 i8 i42 i49 i51 i53 i54 i59 i61 i64 i66 (nI t67) i76 i78, (ma 43, .inl (y 0, 8, .inl g43))]) (vp_in_nI (by omega) (by decide)) (by rw [nI_clamp (by omega)]; rfl) d_Model_worths_245 ?_
            have xh89 : NW (upd oz (35 + jz) (zI (((woT jz wo (lyT gt dy fw (woL gt wa iq) ly (gt.s 10))) jz) + ((lyT gt dy fw (woL gt wa iq) ly (gt.s 10)) jz)))) 0 dy wa la bd fl st (upZ (woT jz wo (lyT gt dy fw (woL gt wa iq) ly (gt.s 10))) jz (((woT jz wo (lyT gt dy fw (woL gt wa iq) ly (gt.s 10))) jz) + ((lyT gt dy fw (woL gt wa iq) ly (gt.s 10)) jz))) (lyT gt dy fw (woL gt wa iq) ly (gt.s 10)) (seT gt dy fw se (gt.s 10)) su := nu_wo (k := jz) h3_ (by omega)
            refine j_iinc (pc := 246) C (v := nI (jz + 1)) (lv' := [(3, .int (nI (jz + 1))), (2, .int (nI lo)), (0, .ref mo), (1, .int (nI iq))]) d_Model_worths_246 0 rfl (nI_add _ _) (by decide) rfl ?_
            refine j_goto (pc := 249) C (tgt := 217) d_Model_worths_249 (by decide) ?_
            exact ih86 ((jz + 1), (upd oz (35 + jz) (zI (((woT jz wo (lyT gt dy fw (woL gt wa iq) ly (gt.s 10))) jz) + ((lyT gt dy fw (woL gt wa iq) ly (gt.s 10)) jz))))) ⟨(show (jz + 1) ≤ gt.s 4 by omega), (nw_e xh89 (fun _ _ => rfl) (fun _ _ => rfl) (fun _ _ => rfl) (fun j _ => wo_up j) (fun _ _ => rfl) (fun _ _ => rfl) (fun _ _ => rfl))⟩ (show gt.s 4 - (jz + 1) < gt.s 4 - jz by omega)
        · refine j_icmp_geF (pc := 79) C (tgt := 215) d_Model_worths_79 (by decide) (show ¬ nI (gt.s 10) ≤ nI kz from nI_ge (by omega) (by omega)) ?_
          obtain ⟨v11, v12, v13, v14, v15⟩ := to_t hto kz (by omega)
          refine j_bipush (pc := 82) C (v := 112) d_Model_worths_82 (by decide) ?_
          refine j_bipush (pc := 84) C (v := 7) d_Model_worths_84 (by decide) ?_
          refine j_iload_n (pc := 86) C d_Model_worths_86 rfl 0 rfl ?_
          refine j_imul (pc := 87) C (v := nI (7 * kz)) d_Model_worths_87 (pk_mul _ _) ?_
          refine j_iadd (pc := 88) C (v := nI (112 + (7 * kz))) d_Model_worths_88 (nI_add _ _) ?_
          refine j_istore (pc := 89) C (lv' := [(4, .int (nI (112 + (7 * kz)))), (3, .int (nI kz)), (2, .int (nI lo)), (0, .ref mo), (1, .int (nI iq))]) d_Model_worths_89 (by decide) rfl ?_
          refine j_aload_n (pc := 91) C d_Model_worths_91 rfl 3 rfl ?_
          refine j_get (pc := 92) C gf_Model_158 4 rfl rfl d_Model_worths_92 ?_
          refine j_iconst (pc := 95) C (v := 0) d_Model_worths_95 (by decide) ?_
          refine j_iald (pc := 96) C 3 rfl (v := nI dy) (vin (by decide)) (nw_dy h2_) d_Model_worths_96 ?_
          refine j_i2l (pc := 97) C (v := nL dy) d_Model_worths_97 (nId_L (by omega)) ?_
          refine j_aload_n (pc := 98) C d_Model_worths_98 rfl 3 rfl ?_
          refine j_get (pc := 99) C gf_Model_133 4 rfl rfl d_Model_worths_99 ?_
          refine j_iload (pc := 102) C d_Model_worths_102 0 rfl ?_
          refine j_iconst (pc := 104) C (v := 4) d_Model_worths_104 (by decide) ?_
          refine j_iadd (pc := 105) C (v := nI ((112 + (7 * kz)) + 4)) d_Model_worths_105 (nI_add _ _) ?_
          refine j_iald (pc := 106) C 0 rfl (v := nI (gt.r 13 kz)) (vp_in_nI (by omega) (by decide)) (by rw [nI_clamp (by omega)]; exact (th_ix4 (G := g48) (j := kz)).trans (hs_things kz (by omega)).2.2.2.2.1) d_Model_worths_106 ?_
          refine j_i2l (pc := 107) C (v := nL (gt.r 13 kz)) d_Model_worths_107 (nId_L (by omega)) ?_
          refine j_aload_n (pc := 108) C d_Model_worths_108 rfl 3 rfl ?_
          refine j_get (pc := 109) C gf_Model_133 4 rfl rfl d_Model_worths_109 ?_
          refine j_iload (pc := 112) C d_Model_worths_112 0 rfl ?_
          refine j_iconst (pc := 114) C (v := 5) d_Model_worths_114 (by decide) ?_
          refine j_iadd (pc := 115) C (v := nI ((112 + (7 * kz)) + 5)) d_Model_worths_115 (nI_add _ _) ?_
          refine j_iald (pc := 116) C 0 rfl (v := nI (gt.r 14 kz)) (vp_in_nI (by omega) (by decide)) (by rw [nI_clamp (by omega)]; exact (th_ix5 (G := g48) (j := kz)).trans (hs_things kz (by omega)).2.2.2.2.2.1) d_Model_worths_116 ?_
          refine j_i2l (pc := 117) C (v := nL (gt.r 14 kz)) d_Model_worths_117 (nId_L (by omega)) ?_
          refine j_callSi (pc := 118) C (c_misInN l D y dy (gt.r 13 kz) (gt.r 14 kz) (by omega) (by omega) (by omega)) kw_Model_240 ks_Model_isIn ⟨by decide, by decide⟩ ⟨by decide, by decide⟩ (wr := [(ma 48, .inl (y 0, 224, .inl g48)), (ma 63, .inl (y 0, 9, .inl g63)), (ma 45, .inl (y 0, 14, .inl g45)), (ma 62, .inl (y 0, 63, .inl mz)), MB mo ma (nI t1) i2 i3 i4 i5 i6 i7 i8 i42 i49 i51 i53 i54 i59 i61 i64 i66 (nI t67) i76 i78, (ma 43, .inl (y 0, 8, .inl g43))]) [] [0, 1, 2, 3, 4, 5] rfl rfl (by decide +kernel) (by decide +kernel) (by decide +kernel) (As := [.long (nL dy), .long (nL (gt.r 13 kz)), .long (nL (gt.r 14 kz))]) (rest := []) rfl (nb rfl) rfl d_Model_worths_118 (fun r90 _ hr90 => ?_)
          refine j_ws (ws' := [(ma 48, .inl (y 0, 224, .inl g48)), (ma 63, .inl (y 0, 9, .inl g63)), (ma 45, .inl (y 0, 14, .inl g45)), (ma 62, .inl (y 0, 63, .inl mz)), MB mo ma (nI t1) i2 i3 i4 i5 i6 i7 i8 i42 i49 i51 i53 i54 i59 i61 i64 i66 (nI t67) i76 i78, (ma 43, .inl (y 0, 8, .inl g43))]) rfl ?_
          rcases hr90 with ⟨rfl, xh92⟩ | ⟨rfl, xh93⟩
          · refine j_if_eqF (pc := 121) C (tgt := 209) d_Model_worths_121 (by decide) (by decide) ?_
            refine j_aload_n (pc := 124) C d_Model_worths_124 rfl 3 rfl ?_
            refine j_get (pc := 125) C gf_Model_161 4 rfl rfl d_Model_worths_125 ?_
            refine j_aload_n (pc := 128) C d_Model_worths_128 rfl 3 rfl ?_
            refine j_get (pc := 129) C gf_Model_133 4 rfl rfl d_Model_worths_129 ?_
            refine j_iload (pc := 132) C d_Model_worths_132 0 rfl ?_
            refine j_iconst (pc := 134) C (v := 1) d_Model_worths_134 (by decide) ?_
            refine j_iadd (pc := 135) C (v := nI ((112 + (7 * kz)) + 1)) d_Model_worths_135 (nI_add _ _) ?_
            have xh94 : gt.r 10 kz < gt.s 9 := (hs_things kz (by omega)).2.2.2.2.2.2.2.2
            refine j_iald (pc := 136) C 0 rfl (v := nI (gt.r 10 kz)) (vp_in_nI (by omega) (by decide)) (by rw [nI_clamp (by omega)]; exact (th_ix1 (G := g48) (j := kz)).trans (hs_things kz (by omega)).2.1) d_Model_worths_136 ?_
            have xh95 : fw (gt.r 10 kz) ≤ 9999 := bf (gt.r 10 kz) (by omega)
            refine j_iald (pc := 137) C 1 rfl (v := nI (fw (gt.r 10 kz))) (vp_in_nI (by omega) (by decide)) (by rw [nI_clamp (by omega)]; exact (xf (gt.r 10 kz) (by omega))) d_Model_worths_137 ?_
            refine j_i2l (pc := 138) C (v := nL (fw (gt.r 10 kz))) d_Model_worths_138 (nId_L (by omega)) ?_
            refine j_aload_n (pc := 139) C d_Model_worths_139 rfl 3 rfl ?_
            refine j_get (pc := 140) C gf_Model_133 4 rfl rfl d_Model_worths_140 ?_
            refine j_iload (pc := 143) C d_Model_worths_143 0 rfl ?_
            refine j_iconst (pc := 145) C (v := 2) d_Model_worths_145 (by decide) ?_
            refine j_iadd (pc := 146) C (v := nI ((112 + (7 * kz)) + 2)) d_Model_worths_146 (nI_add _ _) ?_
            refine j_iald (pc := 147) C 0 rfl (v := nI (gt.r 11 kz)) (vp_in_nI (by omega) (by decide)) (by rw [nI_clamp (by omega)]; exact (th_ix2 (G := g48) (j := kz)).trans (hs_things kz (by omega)).2.2.1) d_Model_worths_147 ?_
            refine j_i2l (pc := 148) C (v := nL (gt.r 11 kz)) d_Model_worths_148 (nId_L (by omega)) ?_
            refine j_aload_n (pc := 149) C d_Model_worths_149 rfl 3 rfl ?_
            refine j_get (pc := 150) C gf_Model_133 4 rfl rfl d_Model_worths_150 ?_
            refine j_iload (pc := 153) C d_Model_worths_153 0 rfl ?_
            refine j_iconst (pc := 155) C (v := 3) d_Model_worths_155 (by decide) ?_
            refine j_iadd (pc := 156) C (v := nI ((112 + (7 * kz)) + 3)) d_Model_worths_156 (nI_add _ _) ?_
            refine j_iald (pc := 157) C 0 rfl (v := nI (gt.r 12 kz)) (vp_in_nI (by omega) (by decide)) (by rw [nI_clamp (by omega)]; exact (th_ix3 (G := g48) (j := kz)).trans (hs_things kz (by omega)).2.2.2.1) d_Model_worths_157 ?_
            refine j_i2l (pc := 158) C (v := nL (gt.r 12 kz)) d_Model_worths_158 (nId_L (by omega)) ?_
            refine j_callSi (pc := 159) C (c_misInN l D y (fw (gt.r 10 kz)) (gt.r 11 kz) (gt.r 12 kz) (by omega) (by omega) (by omega)) kw_Model_240 ks_Model_isIn ⟨by decide, by decide⟩ ⟨by decide, by decide⟩ (wr := [(ma 48, .inl (y 0, 224, .inl g48)), (ma 63, .inl (y 0, 9, .inl g63)), (ma 45, .inl (y 0, 14, .inl g45)), (ma 62, .inl (y 0, 63, .inl mz)), MB mo ma (nI t1) i2 i3 i4 i5 i6 i7 i8 i42 i49 i51 i53 i54 i59 i61 i64 i66 (nI t67) i76 i78, (ma 43, .inl (y 0, 8, .inl g43))]) [] [0, 1, 2, 3, 4, 5] rfl rfl (by decide +kernel) (by decide +kernel) (by decide +kernel) (As := [.long (nL (fw (gt.r 10 kz))), .long (nL (gt.r 11 kz)), .long (nL (gt.r 12 kz))]) (rest := []) rfl (nb rfl) rfl d_Model_worths_159 (fun r96 _ hr96 => ?_)
            refine j_ws (ws' := [(ma 48, .inl (y 0, 224, .inl g48)), (ma 63, .inl (y 0, 9, .inl g63)), (ma 45, .inl (y 0, 14, .inl g45)), (ma 62, .inl (y 0, 63, .inl mz)), MB mo ma (nI t1) i2 i3 i4 i5 i6 i7 i8 i42 i49 i51 i53 i54 i59 i61 i64 i66 (nI t67) i76 i78, (ma 43, .inl (y 0, 8, .inl g43))]) rfl ?_
            rcases hr96 with ⟨rfl, xh98⟩ | ⟨rfl, xh99⟩
            · refine j_if_neT (pc := 162) C (tgt := 168) d_Model_worths_162 (by decide) (by decide) ?_
              refine j_aload_n (pc := 168) C d_Model_worths_168 rfl 3 rfl ?_
              refine j_get (pc := 169) C gf_Model_158 4 rfl rfl d_Model_worths_169 ?_
              refine j_bipush (pc := 172) C (v := 47) d_Model_worths_172 (by decide) ?_
              refine j_iload_n (pc := 174) C d_Model_worths_174 rfl 1 rfl ?_
              refine j_iadd (pc := 175) C (v := nI (47 + kz)) d_Model_worths_175 (nI_add _ _) ?_
              refine j_dup2 (pc := 176) C d_Model_worths_176 rfl rfl ?_
              refine j_iald (pc := 177) C 3 rfl (v := nI ((seT gt dy fw se kz) kz)) (vp_in_nI (by omega) (by decide)) (by rw [nI_clamp (by omega)]; exact (nw_se h2_ kz (by omega))) d_Model_worths_177 ?_
              refine j_iconst (pc := 178) C (v := 1) d_Model_worths_178 (by decide) ?_
              refine j_iadd (pc := 179) C (v := nI (((seT gt dy fw se kz) kz) + 1)) d_Model_worths_179 (nI_add _ _) ?_
              refine j_iast (pc := 180) C 3 rfl (ws' := [(ma 48, .inl (y 0, 224, .inl g48)), (ma 63, .inl (y 0, 9, .inl g63)), (ma 45, .inl (y 0, 14, .inl g45)), (ma 62, .inl (y 0, 63, .inl (upd mz (47 + kz) (nI (((seT gt dy fw se kz) kz) + 1))))), MB mo ma (nI t1) i2 i3 i4 i5 i6 i7 i8 i42 i49 i51 i53 i54 i59 i61 i64 i66 (nI t67) i76 i78, (ma 43, .inl (y 0, 8, .inl g43))]) (vp_in_nI (by omega) (by decide)) (by rw [nI_clamp (by omega)]; rfl) d_Model_worths_180 ?_
              have xh100 : NW (upd mz (47 + kz) (nI (((seT gt dy fw se kz) kz) + 1))) 0 dy wa la bd fl st wo (lyT gt dy fw (woL gt wa iq) ly kz) (upN (seT gt dy fw se kz) kz (((seT gt dy fw se kz) kz) + 1)) su := nu_se (k := kz) h2_ (by omega)
              refine j_aload_n (pc := 181) C d_Model_worths_181 rfl 3 rfl ?_
              refine j_get (pc := 182) C gf_Model_158 4 rfl rfl d_Model_worths_182 ?_
              refine j_bipush (pc := 185) C (v := 41) d_Model_worths_185 (by decide) ?_
              refine j_aload_n (pc := 187) C d_Model_worths_187 rfl 3 rfl ?_
              refine j_get (pc := 188) C gf_Model_133 4 rfl rfl d_Model_worths_188 ?_
              refine j_iload (pc := 191) C d_Model_worths_191 0 rfl ?_
              have xh101 : gt.r 9 kz < gt.s 4 := (hs_things kz (by omega)).2.2.2.2.2.2.2.1
              refine j_iald (pc := 193) C 0 rfl (v := nI (gt.r 9 kz)) (vp_in_nI (by omega) (by decide)) (by rw [nI_clamp (by omega)]; exact (th_ix0 (G := g48) (j := kz)).trans (hs_things kz (by omega)).1) d_Model_worths_193 ?_
              refine j_iadd (pc := 194) C (v := nI (41 + (gt.r 9 kz))) d_Model_worths_194 (nI_add _ _) ?_
              refine j_dup2 (pc := 195) C d_Model_worths_195 rfl rfl ?_
              refine j_iald (pc := 196) C 3 rfl (v := zI ((lyT gt dy fw (woL gt wa iq) ly kz) (gt.r 9 kz))) (vp_in_nI (by omega) (by decide)) (by rw [nI_clamp (by omega)]; exact (nw_ly xh100 (gt.r 9 kz) (by omega))) d_Model_worths_196 ?_
              refine j_aload_n (pc := 197) C d_Model_worths_197 rfl 3 rfl ?_
              refine j_get (pc := 198) C gf_Model_133 4 rfl rfl d_Model_worths_198 ?_
              refine j_iload (pc := 201) C d_Model_worths_201 0 rfl ?_
              refine j_bipush (pc := 203) C (v := 6) d_Model_worths_203 (by decide) ?_
              refine j_iadd (pc := 205) C (v := nI ((112 + (7 * kz)) + 6)) d_Model_worths_205 (nI_add _ _) ?_
              refine j_iald (pc := 206) C 0 rfl (v := nI (gt.r 15 kz)) (vp_in_nI (by omega) (by decide)) (by rw [nI_clamp (by omega)]; exact (th_ix6 (G := g48) (j := kz)).trans (hs_things kz (by omega)).2.2.2.2.2.2.1) d_Model_worths_206 ?_
              refine j_iadd (pc := 207) C (v := zI (((lyT gt dy fw (woL gt wa iq) ly kz) (gt.r 9 kz)) + (((gt.r 15 kz) : Nat) : Int))) d_Model_worths_207 (zI_add ((lyT gt dy fw (woL gt wa iq) ly kz) (gt.r 9 kz)) (((gt.r 15 kz) : Nat) : Int)) ?_
              refine j_iast (pc := 208) C 3 rfl (ws' := [(ma 48, .inl (y 0, 224, .inl g48)), (ma 63, .inl (y 0, 9, .inl g63)), (ma 45, .inl (y 0, 14, .inl g45)), (ma 62, .inl (y 0, 63, .inl (upd (upd mz (47 + kz) (nI (((seT gt dy fw se kz) kz) + 1))) (41 + (gt.r 9 kz)) (zI (((lyT gt dy fw (woL gt wa iq) ly kz) (gt.r 9 kz)) + (((gt.r 15 kz) : Nat) : Int)))))), MB mo ma (nI t1) i2 i3 i4 i5 i6 i7 i8 i42 i49 i51 i53 i54 i59 i61 i64 i66 (nI t67) i76 i78, (ma 43, .inl (y 0, 8, .inl g43))]) (vp_in_nI (by omega) (by decide)) (by rw [nI_clamp (by omega)]; rfl) d_Model_worths_208 ?_
              have xh102 : NW (upd (upd mz (47 + kz) (nI (((seT gt dy fw se kz) kz) + 1))) (41 + (gt.r 9 kz)) (zI (((lyT gt dy fw (woL gt wa iq) ly kz) (gt.r 9 kz)) + (((gt.r 15 kz) : Nat) : Int)))) 0 dy wa la bd fl st wo (upZ (lyT gt dy fw (woL gt wa iq) ly kz) (gt.r 9 kz) (((lyT gt dy fw (woL gt wa iq) ly kz) (gt.r 9 kz)) + (((gt.r 15 kz) : Nat) : Int))) (upN (seT gt dy fw se kz) kz (((seT gt dy fw se kz) kz) + 1)) su := nu_ly (k := (gt.r 9 kz)) xh100 (by omega)
              refine j_iinc (pc := 209) C (v := nI (kz + 1)) (lv' := [(3, .int (nI (kz + 1))), (4, .int (nI (112 + (7 * kz)))), (2, .int (nI lo)), (0, .ref mo), (1, .int (nI iq))]) d_Model_worths_209 1 rfl (nI_add _ _) (by decide) rfl ?_
              refine j_goto (pc := 212) C (tgt := 71) d_Model_worths_212 (by decide) ?_
              refine j_locs (lv' := [(3, .int (nI (kz + 1))), (2, .int (nI lo)), (0, .ref mo), (1, .int (nI iq))]) [0, 2, 3, 4] rfl ?_
              exact ih80 ((kz + 1), (upd (upd mz (47 + kz) (nI (((seT gt dy fw se kz) kz) + 1))) (41 + (gt.r 9 kz)) (zI (((lyT gt dy fw (woL gt wa iq) ly kz) (gt.r 9 kz)) + (((gt.r 15 kz) : Nat) : Int))))) ⟨(show (kz + 1) ≤ gt.s 10 by omega), (nw_e xh102 (fun _ _ => rfl) (fun _ _ => rfl) (fun _ _ => rfl) (fun _ _ => rfl) (fun j _ => ly_y ⟨xh92, xh98⟩ j) (fun j _ => se_y ⟨xh92, xh98⟩ j) (fun _ _ => rfl))⟩ (show gt.s 10 - (kz + 1) < gt.s 10 - kz by omega)
            · refine j_if_neF (pc := 162) C (tgt := 168) d_Model_worths_162 (by decide) (by decide) ?_
              refine j_goto (pc := 165) C (tgt := 209) d_Model_worths_165 (by decide) ?_
              refine j_iinc (pc := 209) C (v := nI (kz + 1)) (lv' := [(3, .int (nI (kz + 1))), (4, .int (nI (112 + (7 * kz)))), (2, .int (nI lo)), (0, .ref mo), (1, .int (nI iq))]) d_Model_worths_209 1 rfl (nI_add _ _) (by decide) rfl ?_
              refine j_goto (pc := 212) C (tgt := 71) d_Model_worths_212 (by decide) ?_
              refine j_locs (lv' := [(3, .int (nI (kz + 1))), (2, .int (nI lo)), (0, .ref mo), (1, .int (nI iq))]) [0, 2, 3, 4] rfl ?_
              exact ih80 ((kz + 1), mz) ⟨(show (kz + 1) ≤ gt.s 10 by omega), (nw_e h2_ (fun _ _ => rfl) (fun _ _ => rfl) (fun _ _ => rfl) (fun _ _ => rfl) (fun j _ => ly_n (fun q => xh99 q.2) j) (fun j _ => se_n (fun q => xh99 q.2) j) (fun _ _ => rfl))⟩ (show gt.s 10 - (kz + 1) < gt.s 10 - kz by omega)
          · refine j_if_eqT (pc := 121) C (tgt := 209) d_Model_worths_121 (by decide) (by decide) ?_
            refine j_iinc (pc := 209) C (v := nI (kz + 1)) (lv' := [(3, .int (nI (kz + 1))), (4, .int (nI (112 + (7 * kz)))), (2, .int (nI lo)), (0, .ref mo), (1, .int (nI iq))]) d_Model_worths_209 1 rfl (nI_add _ _) (by decide) rfl ?_
            refine j_goto (pc := 212) C (tgt := 71) d_Model_worths_212 (by decide) ?_
            refine j_locs (lv' := [(3, .int (nI (kz + 1))), (2, .int (nI lo)), (0, .ref mo), (1, .int (nI iq))]) [0, 2, 3, 4] rfl ?_
            exact ih80 ((kz + 1), mz) ⟨(show (kz + 1) ≤ gt.s 10 by omega), (nw_e h2_ (fun _ _ => rfl) (fun _ _ => rfl) (fun _ _ => rfl) (fun _ _ => rfl) (fun j _ => ly_n (fun q => xh93 q.1) j) (fun j _ => se_n (fun q => xh93 q.1) j) (fun _ _ => rfl))⟩ (show gt.s 10 - (kz + 1) < gt.s 10 - kz by omega)
      · refine j_icmp_geF (pc := 49) C (tgt := 69) d_Model_worths_49 (by decide) (show ¬ nI (gt.s 4) ≤ nI iz from nI_ge (by omega) (by omega)) ?_
        refine j_aload_n (pc := 52) C d_Model_worths_52 rfl 2 rfl ?_
        refine j_get (pc := 53) C gf_Model_158 4 rfl rfl d_Model_worths_53 ?_
        refine j_bipush (pc := 56) C (v := 41) d_Model_worths_56 (by decide) ?_
        refine j_iload_n (pc := 58) C d_Model_worths_58 rfl 0 rfl ?_
        refine j_iadd (pc := 59) C (v := nI (41 + iz)) d_Model_worths_59 (nI_add _ _) ?_
        refine j_iload_n (pc := 60) C d_Model_worths_60 rfl 1 rfl ?_
        refine j_ineg (pc := 61) C (v := zI (-((lo : Nat) : Int))) d_Model_worths_61 (zI_neg ((lo : Nat) : Int)) ?_
        refine j_iast (pc := 62) C 3 rfl (ws' := [(ma 48, .inl (y 0, 224, .inl g48)), (ma 63, .inl (y 0, 9, .inl g63)), (ma 45, .inl (y 0, 14, .inl g45)), (ma 62, .inl (y 0, 63, .inl (upd nz (41 + iz) (zI (-((lo : Nat) : Int)))))), MB mo ma (nI t1) i2 i3 i4 i5 i6 i7 i8 i42 i49 i51 i53 i54 i59 i61 i64 i66 (nI t67) i76 i78, (ma 43, .inl (y 0, 8, .inl g43))]) (vp_in_nI (by omega) (by decide)) (by rw [nI_clamp (by omega)]; rfl) d_Model_worths_62 ?_
        have xh103 : NW (upd nz (41 + iz) (zI (-((lo : Nat) : Int)))) 0 dy wa la bd fl st wo (upZ (laT iz (-((lo : Nat) : Int)) ly) iz (-((lo : Nat) : Int))) se su := nu_ly (k := iz) h1_ (by omega)
        refine j_iinc (pc := 63) C (v := nI (iz + 1)) (lv' := [(3, .int (nI (iz + 1))), (2, .int (nI lo)), (0, .ref mo), (1, .int (nI iq))]) d_Model_worths_63 0 rfl (nI_add _ _) (by decide) rfl ?_
        refine j_goto (pc := 66) C (tgt := 44) d_Model_worths_66 (by decide) ?_
        refine j_sub (ws' := [(ma 43, .inl (y 0, 8, .inl g43)), (ma 48, .inl (y 0, 224, .inl g48)), (ma 63, .inl (y 0, 9, .inl g63)), MB mo ma (nI t1) i2 i3 i4 i5 i6 i7 i8 i42 i49 i51 i53 i54 i59 i61 i64 i66 (nI t67) i76 i78, (ma 45, .inl (y 0, 14, .inl g45)), (ma 62, .inl (y 0, 63, .inl (upd nz (41 + iz) (zI (-((lo : Nat) : Int))))))]) [5, 0, 1, 4, 2, 3] rfl (by decide +kernel) ?_
        exact ih54 ((iz + 1), (upd nz (41 + iz) (zI (-((lo : Nat) : Int))))) ⟨(show (iz + 1) ≤ gt.s 4 by omega), (nw_e xh103 (fun _ _ => rfl) (fun _ _ => rfl) (fun _ _ => rfl) (fun _ _ => rfl) (fun j _ => la_up j) (fun _ _ => rfl) (fun _ _ => rfl))⟩ (show gt.s 4 - (iz + 1) < gt.s 4 - iz by omega)
    · refine j_if_eqF (pc := 26) C (tgt := 39) d_Model_worths_26 (by decide) (show ¬ nI iq = nI 0 from fun e => absurd ((nI_eq (by omega) (by omega)).mp e) (by omega)) ?_
      refine j_aload_n (pc := 29) C d_Model_worths_29 rfl 0 rfl ?_
      refine j_get (pc := 30) C gf_Model_124 3 rfl rfl d_Model_worths_30 ?_
      refine j_bipush (pc := 33) C (v := 13) d_Model_worths_33 (by decide) ?_
      refine j_iald (pc := 35) C 4 rfl (v := nI (gt.s 8)) (vin (by decide)) (hs_lake.2.2.2.2.2.2) d_Model_worths_35 ?_
      refine j_goto (pc := 36) C (tgt := 40) d_Model_worths_36 (by decide) ?_
      refine j_iadd (pc := 40) C (v := nI (0 + (gt.s 8))) d_Model_worths_40 (nI_add _ _) ?_
      have hlo0 : 0 + gt.s 8 = woL gt wa iq := wo_t (Or.inr ⟨Nat.not_lt.mpr c2, rfl⟩) (Or.inl ⟨by omega, rfl⟩)
      obtain ⟨lo, hlx⟩ : ∃ q, q = 0 + gt.s 8 := ⟨_, rfl⟩
      have hlo : lo = woL gt wa iq := hlx.trans hlo0
      refine j_st (st' := [.int (nI lo)]) (by rw [show nI (0 + (gt.s 8)) = nI lo from (show nI (0 + (gt.s 8)) = nI lo by rw [hlx]; first | done | rfl)]) ?_
      have hlob : lo ≤ 198 := by omega
      clear hlo0
      refine j_istore_n (pc := 41) C (lv' := [(2, .int (nI lo)), (0, .ref mo), (1, .int (nI iq))]) d_Model_worths_41 rfl (by decide) rfl ?_
      refine j_iconst (pc := 42) C (v := 0) d_Model_worths_42 (by decide) ?_
      refine j_istore_n (pc := 43) C (lv' := [(3, .int 0), (2, .int (nI lo)), (0, .ref mo), (1, .int (nI iq))]) d_Model_worths_43 rfl (by decide) rfl ?_
      refine j_loop (α := Nat × (Nat → Int32)) (fun a => gt.s 4 - a.1) (fun a => (a.1 ≤ gt.s 4) ∧ (NW a.2 0 dy wa la bd fl st wo (laT a.1 (-((lo : Nat) : Int)) ly) se su)) (fun a => [(ma 43, .inl (y 0, 8, .inl g43)), (ma 48, .inl (y 0, 224, .inl g48)), (ma 63, .inl (y 0, 9, .inl g63)), MB mo ma (nI t1) i2 i3 i4 i5 i6 i7 i8 i42 i49 i51 i53 i54 i59 i61 i64 i66 (nI t67) i76 i78, (ma 45, .inl (y 0, 14, .inl g45)), (ma 62, .inl (y 0, 63, .inl a.2))]) (fun a => [(3, .int (nI a.1)), (2, .int (nI lo)), (0, .ref mo), (1, .int (nI iq))]) (0, g62) rfl rfl ⟨(show 0 ≤ gt.s 4 by omega), (nw_e hnw (fun _ _ => rfl) (fun _ _ => rfl) (fun _ _ => rfl) (fun _ _ => rfl) (fun j _ => la_0.symm) (fun _ _ => rfl) (fun _ _ => rfl))⟩ ?_
      rintro ⟨iz, nz⟩ hP153 ih154
      obtain ⟨hi__, h1__⟩ := hP153
      have hi_ : iz ≤ gt.s 4 := hi__
      have h1_ : NW nz 0 dy wa la bd fl st wo (laT iz (-((lo : Nat) : Int)) ly) se su := h1__
      refine j_ws (ws' := [(ma 43, .inl (y 0, 8, .inl g43)), (ma 48, .inl (y 0, 224, .inl g48)), (ma 63, .inl (y 0, 9, .inl g63)), MB mo ma (nI t1) i2 i3 i4 i5 i6 i7 i8 i42 i49 i51 i53 i54 i59 i61 i64 i66 (nI t67) i76 i78, (ma 45, .inl (y 0, 14, .inl g45)), (ma 62, .inl (y 0, 63, .inl nz))]) rfl ?_
      refine j_lv (lv' := [(3, .int (nI iz)), (2, .int (nI lo)), (0, .ref mo), (1, .int (nI iq))]) rfl ?_
      refine j_iload_n (pc := 44) C d_Model_worths_44 rfl 0 rfl ?_
      refine j_aload_n (pc := 45) C d_Model_worths_45 rfl 2 rfl ?_
      refine j_callVi (pc := 46) C (c_mvillages l D y mo ma t1 i2 i3 i4 i5 i6 i7 i8 i42 i49 i51 i53 i54 i59 i61 i64 i66 t67 i76 i78 g43 gt hs_many) kw_Model_448 kv_Model_villages 0 10 rfl rfl ⟨by decide, by decide⟩ ⟨by decide, by decide⟩ (wr := [(ma 48, .inl (y 0, 224, .inl g48)), (ma 63, .inl (y 0, 9, .inl g63)), (ma 45, .inl (y 0, 14, .inl g45)), (ma 62, .inl (y 0, 63, .inl nz))]) [3, 0] [1, 2, 4, 5] rfl rfl (by decide +kernel) (by decide +kernel) (by decide +kernel) (As := []) (rest := [.int (nI iz)]) rfl (nb rfl) rfl d_Model_worths_46 (fun r155 _ hr155 => ?_)
      obtain rfl := hr155
      refine j_ws (ws' := [(ma 48, .inl (y 0, 224, .inl g48)), (ma 63, .inl (y 0, 9, .inl g63)), (ma 45, .inl (y 0, 14, .inl g45)), (ma 62, .inl (y 0, 63, .inl nz)), MB mo ma (nI t1) i2 i3 i4 i5 i6 i7 i8 i42 i49 i51 i53 i54 i59 i61 i64 i66 (nI t67) i76 i78, (ma 43, .inl (y 0, 8, .inl g43))]) rfl ?_
      by_cases c156 : (gt.s 4) ≤ iz
      · refine j_icmp_geT (pc := 49) C (tgt := 69) d_Model_worths_49 (by decide) (show nI (gt.s 4) ≤ nI iz from nI_le (by omega) (by omega)) ?_
        refine j_iconst (pc := 69) C (v := 0) d_Model_worths_69 (by decide) ?_
        refine j_istore_n (pc := 70) C (lv' := [(3, .int 0), (2, .int (nI lo)), (0, .ref mo), (1, .int (nI iq))]) d_Model_worths_70 rfl (by decide) rfl ?_
        refine j_loop (α := Nat × (Nat → Int32)) (fun a => gt.s 10 - a.1) (fun a => (a.1 ≤ gt.s 10) ∧ (NW a.2 0 dy wa la bd fl st wo (lyT gt dy fw (woL gt wa iq) ly a.1) (seT gt dy fw se a.1) su)) (fun a => [(ma 48, .inl (y 0, 224, .inl g48)), (ma 63, .inl (y 0, 9, .inl g63)), (ma 45, .inl (y 0, 14, .inl g45)), (ma 62, .inl (y 0, 63, .inl a.2)), MB mo ma (nI t1) i2 i3 i4 i5 i6 i7 i8 i42 i49 i51 i53 i54 i59 i61 i64 i66 (nI t67) i76 i78, (ma 43, .inl (y 0, 8, .inl g43))]) (fun a => [(3, .int (nI a.1)), (2, .int (nI lo)), (0, .ref mo), (1, .int (nI iq))]) (0, nz) rfl rfl ⟨(show 0 ≤ gt.s 10 by omega), (nw_e h1_ (fun _ _ => rfl) (fun _ _ => rfl) (fun _ _ => rfl) (fun _ _ => rfl) (fun j _ => by rw [show iz = gt.s 4 by omega, hlo]; exact ly_0 j) (fun j _ => se_0.symm) (fun _ _ => rfl))⟩ ?_
        rintro ⟨kz, mz⟩ hP179 ih180
        obtain ⟨hk__, h2__⟩ := hP179
        have hk_ : kz ≤ gt.s 10 := hk__
        have h2_ : NW mz 0 dy wa la bd fl st wo (lyT gt dy fw (woL gt wa iq) ly kz) (seT gt dy fw se kz) su := h2__
        refine j_ws (ws' := [(ma 48, .inl (y 0, 224, .inl g48)), (ma 63, .inl (y 0, 9, .inl g63)), (ma 45, .inl (y 0, 14, .inl g45)), (ma 62, .inl (y 0, 63, .inl mz)), MB mo ma (nI t1) i2 i3 i4 i5 i6 i7 i8 i42 i49 i51 i53 i54 i59 i61 i64 i66 (nI t67) i76 i78, (ma 43, .inl (y 0, 8, .inl g43))]) rfl ?_
        refine j_lv (lv' := [(3, .int (nI kz)), (2, .int (nI lo)), (0, .ref mo), (1, .int (nI iq))]) rfl ?_
        refine j_iload_n (pc := 71) C d_Model_worths_71 rfl 0 rfl ?_
        refine j_aload_n (pc := 72) C d_Model_worths_72 rfl 2 rfl ?_
        refine j_get (pc := 73) C gf_Model_117 4 rfl rfl d_Model_worths_73 ?_
        refine j_bipush (pc := 76) C (v := 6) d_Model_worths_76 (by decide) ?_
        refine j_iald (pc := 78) C 5 rfl (v := nI (gt.s 10)) (vin (by decide)) (hs_many.2.2.1) d_Model_worths_78 ?_
        by_cases c181 : (gt.s 10) ≤ kz
        · refine j_icmp_geT (pc := 79) C (tgt := 215) d_Model_worths_79 (by decide) (show nI (gt.s 10) ≤ nI kz from nI_le (by omega) (by omega)) ?_
          refine j_iconst (pc := 215) C (v := 0) d_Model_worths_215 (by decide) ?_
          refine j_istore_n (pc := 216) C (lv' := [(3, .int 0), (2, .int (nI lo)), (0, .ref mo), (1, .int (nI iq))]) d_Model_worths_216 rfl (by decide) rfl ?_
          refine j_loop (α := Nat × (Nat → Int32)) (fun a => gt.s 4 - a.1) (fun a => (a.1 ≤ gt.s 4) ∧ (NW a.2 0 dy wa la bd fl st (woT a.1 wo (lyT gt dy fw (woL gt wa iq) ly (gt.s 10))) (lyT gt dy fw (woL gt wa iq) ly (gt.s 10)) (seT gt dy fw se (gt.s 10)) su)) (fun a => [(ma 48, .inl (y 0, 224, .inl g48)), (ma 63, .inl (y 0, 9, .inl g63)), (ma 45, .inl (y 0, 14, .inl g45)), (ma 62, .inl (y 0, 63, .inl a.2)), MB mo ma (nI t1) i2 i3 i4 i5 i6 i7 i8 i42 i49 i51 i53 i54 i59 i61 i64 i66 (nI t67) i76 i78, (ma 43, .inl (y 0, 8, .inl g43))]) (fun a => [(3, .int (nI a.1)), (2, .int (nI lo)), (0, .ref mo), (1, .int (nI iq))]) (0, mz) rfl rfl ⟨(show 0 ≤ gt.s 4 by omega), (nw_e (show NW mz 0 dy wa la bd fl st wo (lyT gt dy fw (woL gt wa iq) ly (gt.s 10)) (seT gt dy fw se (gt.s 10)) su by rw [show gt.s 10 = kz by omega]; exact h2_) (fun _ _ => rfl) (fun _ _ => rfl) (fun _ _ => rfl) (fun j _ => wo_0.symm) (fun _ _ => rfl) (fun _ _ => rfl) (fun _ _ => rfl))⟩ ?_
          rintro ⟨jz, oz⟩ hP185 ih186
          obtain ⟨hj__, h3__⟩ := hP185
          have hj_ : jz ≤ gt.s 4 := hj__
          have h3_ : NW oz 0 dy wa la bd fl st (woT jz wo (lyT gt dy fw (woL gt wa iq) ly (gt.s 10))) (lyT gt dy fw (woL gt wa iq) ly (gt.s 10)) (seT gt dy fw se (gt.s 10)) su := h3__
          refine j_ws (ws' := [(ma 48, .inl (y 0, 224, .inl g48)), (ma 63, .inl (y 0, 9, .inl g63)), (ma 45, .inl (y 0, 14, .inl g45)), (ma 62, .inl (y 0, 63, .inl oz)), MB mo ma (nI t1) i2 i3 i4 i5 i6 i7 i8 i42 i49 i51 i53 i54 i59 i61 i64 i66 (nI t67) i76 i78, (ma 43, .inl (y 0, 8, .inl g43))]) rfl ?_
          refine j_lv (lv' := [(3, .int (nI jz)), (2, .int (nI lo)), (0, .ref mo), (1, .int (nI iq))]) rfl ?_
          refine j_iload_n (pc := 217) C d_Model_worths_217 rfl 0 rfl ?_
          refine j_aload_n (pc := 218) C d_Model_worths_218 rfl 2 rfl ?_
          refine j_callVi (pc := 219) C (c_mvillages l D y mo ma t1 i2 i3 i4 i5 i6 i7 i8 i42 i49 i51 i53 i54 i59 i61 i64 i66 t67 i76 i78 g43 gt hs_many) kw_Model_448 kv_Model_villages 0 10 rfl rfl ⟨by decide, by decide⟩ ⟨by decide, by decide⟩ (wr := [(ma 48, .inl (y 0, 224, .inl g48)), (ma 63, .inl (y 0, 9, .inl g63)), (ma 45, .inl (y 0, 14, .inl g45)), (ma 62, .inl (y 0, 63, .inl oz))]) [4, 5] [0, 1, 2, 3] rfl rfl (by decide +kernel) (by decide +kernel) (by decide +kernel) (As := []) (rest := [.int (nI jz)]) rfl (nb rfl) rfl d_Model_worths_219 (fun r187 _ hr187 => ?_)
          obtain rfl := hr187
          refine j_ws (ws' := [(ma 48, .inl (y 0, 224, .inl g48)), (ma 63, .inl (y 0, 9, .inl g63)), (ma 45, .inl (y 0, 14, .inl g45)), (ma 62, .inl (y 0, 63, .inl oz)), MB mo ma (nI t1) i2 i3 i4 i5 i6 i7 i8 i42 i49 i51 i53 i54 i59 i61 i64 i66 (nI t67) i76 i78, (ma 43, .inl (y 0, 8, .inl g43))]) rfl ?_
          by_cases c188 : (gt.s 4) ≤ jz
          · refine j_icmp_geT (pc := 222) C (tgt := 252) d_Model_worths_222 (by decide) (show nI (gt.s 4) ≤ nI jz from nI_le (by omega) (by omega)) ?_
            obtain rfl : jz = gt.s 4 := by omega
            exact j_vret (pc := 252) C hr oz h3_ [4, 5, 2, 0, 3, 1] rfl (by decide) (by decide) (by decide) d_Model_worths_252
          · refine j_icmp_geF (pc := 222) C (tgt := 252) d_Model_worths_222 (by decide) (show ¬ nI (gt.s 4) ≤ nI jz from nI_ge (by omega) (by omega)) ?_
            refine j_aload_n (pc := 225) C d_Model_worths_225 rfl 2 rfl ?_
            refine j_get (pc := 226) C gf_Model_158 4 rfl rfl d_Model_worths_226 ?_
            refine j_bipush (pc := 229) C (v := 35) d_Model_worths_229 (by decide) ?_
            refine j_iload_n (pc := 231) C d_Model_worths_231 rfl 0 rfl ?_
            refine j_iadd (pc := 232) C (v := nI (35 + jz)) d_Model_worths_232 (nI_add _ _) ?_
            refine j_dup2 (pc := 233) C d_Model_worths_233 rfl rfl ?_
            refine j_iald (pc := 234) C 3 rfl (v := zI ((woT jz wo (lyT gt dy fw (woL gt wa iq) ly (gt.s 10))) jz)) (vp_in_nI (by omega) (by decide)) (by rw [nI_clamp (by omega)]; exact (nw_wo h3_ jz (by omega))) d_Model_worths_234 ?_
            refine j_aload_n (pc := 235) C d_Model_worths_235 rfl 2 rfl ?_
            refine j_get (pc := 236) C gf_Model_158 4 rfl rfl d_Model_worths_236 ?_
            refine j_bipush (pc := 239) C (v := 41) d_Model_worths_239 (by decide) ?_
            refine j_iload_n (pc := 241) C d_Model_worths_241 rfl 0 rfl ?_
            refine j_iadd (pc := 242) C (v := nI (41 + jz)) d_Model_worths_242 (nI_add _ _) ?_
            refine j_iald (pc := 243) C 3 rfl (v := zI ((lyT gt dy fw (woL gt wa iq) ly (gt.s 10)) jz)) (vp_in_nI (by omega) (by decide)) (by rw [nI_clamp (by omega)]; exact (nw_ly h3_ jz (by omega))) d_Model_worths_243 ?_
            refine j_iadd (pc := 244) C (v := zI (((woT jz wo (lyT gt dy fw (woL gt wa iq) ly (gt.s 10))) jz) + ((lyT gt dy fw (woL gt wa iq) ly (gt.s 10)) jz))) d_Model_worths_244 (zI_add ((woT jz wo (lyT gt dy fw (woL gt wa iq) ly (gt.s 10))) jz) ((lyT gt dy fw (woL gt wa iq) ly (gt.s 10)) jz)) ?_
            refine j_iast (pc := 245) C 3 rfl (ws' := [(ma 48, .inl (y 0, 224, .inl g48)), (ma 63, .inl (y 0, 9, .inl g63)), (ma 45, .inl (y 0, 14, .inl g45)), (ma 62, .inl (y 0, 63, .inl (upd oz (35 + jz) (zI (((woT jz wo (lyT gt dy fw (woL gt wa iq) ly (gt.s 10))) jz) + ((lyT gt dy fw (woL gt wa iq) ly (gt.s 10)) jz)))))), MB mo ma (nI t1) i2 i3 i4 i5 i6 i7 i8 i42 i49 i51 i53 i54 i59 i61 i64 i66 (nI t67) i76 i78, (ma 43, .inl (y 0, 8, .inl g43))]) (vp_in_nI (by omega) (by decide)) (by rw [nI_clamp (by omega)]; rfl) d_Model_worths_245 ?_
            have xh189 : NW (upd oz (35 + jz) (zI (((woT jz wo (lyT gt dy fw (woL gt wa iq) ly (gt.s 10))) jz) + ((lyT gt dy fw (woL gt wa iq) ly (gt.s 10)) jz)))) 0 dy wa la bd fl st (upZ (woT jz wo (lyT gt dy fw (woL gt wa iq) ly (gt.s 10))) jz (((woT jz wo (lyT gt dy fw (woL gt wa iq) ly (gt.s 10))) jz) + ((lyT gt dy fw (woL gt wa iq) ly (gt.s 10)) jz))) (lyT gt dy fw (woL gt wa iq) ly (gt.s 10)) (seT gt dy fw se (gt.s 10)) su := nu_wo (k := jz) h3_ (by omega)
            refine j_iinc (pc := 246) C (v := nI (jz + 1)) (lv' := [(3, .int (nI (jz + 1))), (2, .int (nI lo)), (0, .ref mo), (1, .int (nI iq))]) d_Model_worths_246 0 rfl (nI_add _ _) (by decide) rfl ?_
            refine j_goto (pc := 249) C (tgt := 217) d_Model_worths_249 (by decide) ?_
            exact ih186 ((jz + 1), (upd oz (35 + jz) (zI (((woT jz wo (lyT gt dy fw (woL gt wa iq) ly (gt.s 10))) jz) + ((lyT gt dy fw (woL gt wa iq) ly (gt.s 10)) jz))))) ⟨(show (jz + 1) ≤ gt.s 4 by omega), (nw_e xh189 (fun _ _ => rfl) (fun _ _ => rfl) (fun _ _ => rfl) (fun j _ => wo_up j) (fun _ _ => rfl) (fun _ _ => rfl) (fun _ _ => rfl))⟩ (show gt.s 4 - (jz + 1) < gt.s 4 - jz by omega)
        · refine j_icmp_geF (pc := 79) C (tgt := 215) d_Model_worths_79 (by decide) (show ¬ nI (gt.s 10) ≤ nI kz from nI_ge (by omega) (by omega)) ?_
          obtain ⟨v11, v12, v13, v14, v15⟩ := to_t hto kz (by omega)
          refine j_bipush (pc := 82) C (v := 112) d_Model_worths_82 (by decide) ?_
          refine j_bipush (pc := 84) C (v := 7) d_Model_worths_84 (by decide) ?_
          refine j_iload_n (pc := 86) C d_Model_worths_86 rfl 0 rfl ?_
          refine j_imul (pc := 87) C (v := nI (7 * kz)) d_Model_worths_87 (pk_mul _ _) ?_
          refine j_iadd (pc := 88) C (v := nI (112 + (7 * kz))) d_Model_worths_88 (nI_add _ _) ?_
          refine j_istore (pc := 89) C (lv' := [(4, .int (nI (112 + (7 * kz)))), (3, .int (nI kz)), (2, .int (nI lo)), (0, .ref mo), (1, .int (nI iq))]) d_Model_worths_89 (by decide) rfl ?_
          refine j_aload_n (pc := 91) C d_Model_worths_91 rfl 3 rfl ?_
          refine j_get (pc := 92) C gf_Model_158 4 rfl rfl d_Model_worths_92 ?_
          refine j_iconst (pc := 95) C (v := 0) d_Model_worths_95 (by decide) ?_
          refine j_iald (pc := 96) C 3 rfl (v := nI dy) (vin (by decide)) (nw_dy h2_) d_Model_worths_96 ?_
          refine j_i2l (pc := 97) C (v := nL dy) d_Model_worths_97 (nId_L (by omega)) ?_
          refine j_aload_n (pc := 98) C d_Model_worths_98 rfl 3 rfl ?_
          refine j_get (pc := 99) C gf_Model_133 4 rfl rfl d_Model_worths_99 ?_
          refine j_iload (pc := 102) C d_Model_worths_102 0 rfl ?_
          refine j_iconst (pc := 104) C (v := 4) d_Model_worths_104 (by decide) ?_
          refine j_iadd (pc := 105) C (v := nI ((112 + (7 * kz)) + 4)) d_Model_worths_105 (nI_add _ _) ?_
          refine j_iald (pc := 106) C 0 rfl (v := nI (gt.r 13 kz)) (vp_in_nI (by omega) (by decide)) (by rw [nI_clamp (by omega)]; exact (th_ix4 (G := g48) (j := kz)).trans (hs_things kz (by omega)).2.2.2.2.1) d_Model_worths_106 ?_
          refine j_i2l (pc := 107) C (v := nL (gt.r 13 kz)) d_Model_worths_107 (nId_L (by omega)) ?_
          refine j_aload_n (pc := 108) C d_Model_worths_108 rfl 3 rfl ?_
          refine j_get (pc := 109) C gf_Model_133 4 rfl rfl d_Model_worths_109 ?_
          refine j_iload (pc := 112) C d_Model_worths_112 0 rfl ?_
          refine j_iconst (pc := 114) C (v := 5) d_Model_worths_114 (by decide) ?_
          refine j_iadd (pc := 115) C (v := nI ((112 + (7 * kz)) + 5)) d_Model_worths_115 (nI_add _ _) ?_
          refine j_iald (pc := 116) C 0 rfl (v := nI (gt.r 14 kz)) (vp_in_nI (by omega) (by decide)) (by rw [nI_clamp (by omega)]; exact (th_ix5 (G := g48) (j := kz)).trans (hs_things kz (by omega)).2.2.2.2.2.1) d_Model_worths_116 ?_
          refine j_i2l (pc := 117) C (v := nL (gt.r 14 kz)) d_Model_worths_117 (nId_L (by omega)) ?_
          refine j_callSi (pc := 118) C (c_misInN l D y dy (gt.r 13 kz) (gt.r 14 kz) (by omega) (by omega) (by omega)) kw_Model_240 ks_Model_isIn ⟨by decide, by decide⟩ ⟨by decide, by decide⟩ (wr := [(ma 48, .inl (y 0, 224, .inl g48)), (ma 63, .inl (y 0, 9, .inl g63)), (ma 45, .inl (y 0, 14, .inl g45)), (ma 62, .inl (y 0, 63, .inl mz)), MB mo ma (nI t1) i2 i3 i4 i5 i6 i7 i8 i42 i49 i51 i53 i54 i59 i61 i64 i66 (nI t67) i76 i78, (ma 43, .inl (y 0, 8, .inl g43))]) [] [0, 1, 2, 3, 4, 5] rfl rfl (by decide +kernel) (by decide +kernel) (by decide +kernel) (As := [.long (nL dy), .long (nL (gt.r 13 kz)), .long (nL (gt.r 14 kz))]) (rest := []) rfl (nb rfl) rfl d_Model_worths_118 (fun r190 _ hr190 => ?_)
          refine j_ws (ws' := [(ma 48, .inl (y 0, 224, .inl g48)), (ma 63, .inl (y 0, 9, .inl g63)), (ma 45, .inl (y 0, 14, .inl g45)), (ma 62, .inl (y 0, 63, .inl mz)), MB mo ma (nI t1) i2 i3 i4 i5 i6 i7 i8 i42 i49 i51 i53 i54 i59 i61 i64 i66 (nI t67) i76 i78, (ma 43, .inl (y 0, 8, .inl g43))]) rfl ?_
          rcases hr190 with ⟨rfl, xh192⟩ | ⟨rfl, xh193⟩
          · refine j_if_eqF (pc := 121) C (tgt := 209) d_Model_worths_121 (by decide) (by decide) ?_
            refine j_aload_n (pc := 124) C d_Model_worths_124 rfl 3 rfl ?_
            refine j_get (pc := 125) C gf_Model_161 4 rfl rfl d_Model_worths_125 ?_
            refine j_aload_n (pc := 128) C d_Model_worths_128 rfl 3 rfl ?_
            refine j_get (pc := 129) C gf_Model_133 4 rfl rfl d_Model_worths_129 ?_
            refine j_iload (pc := 132) C d_Model_worths_132 0 rfl ?_
            refine j_iconst (pc := 134) C (v := 1) d_Model_worths_134 (by decide) ?_
            refine j_iadd (pc := 135) C (v := nI ((112 + (7 * kz)) + 1)) d_Model_worths_135 (nI_add _ _) ?_
            have xh194 : gt.r 10 kz < gt.s 9 := (hs_things kz (by omega)).2.2.2.2.2.2.2.2
            refine j_iald (pc := 136) C 0 rfl (v := nI (gt.r 10 kz)) (vp_in_nI (by omega) (by decide)) (by rw [nI_clamp (by omega)]; exact (th_ix1 (G := g48) (j := kz)).trans (hs_things kz (by omega)).2.1) d_Model_worths_136 ?_
            have xh195 : fw (gt.r 10 kz) ≤ 9999 := bf (gt.r 10 kz) (by omega)
            refine j_iald (pc := 137) C 1 rfl (v := nI (fw (gt.r 10 kz))) (vp_in_nI (by omega) (by decide)) (by rw [nI_clamp (by omega)]; exact (xf (gt.r 10 kz) (by omega))) d_Model_worths_137 ?_
            refine j_i2l (pc := 138) C (v := nL (fw (gt.r 10 kz))) d_Model_worths_138 (nId_L (by omega)) ?_
            refine j_aload_n (pc := 139) C d_Model_worths_139 rfl 3 rfl ?_
            refine j_get (pc := 140) C gf_Model_133 4 rfl rfl d_Model_worths_140 ?_
            refine j_iload (pc := 143) C d_Model_worths_143 0 rfl ?_
            refine j_iconst (pc := 145) C (v := 2) d_Model_worths_145 (by decide) ?_
            refine j_iadd (pc := 146) C (v := nI ((112 + (7 * kz)) + 2)) d_Model_worths_146 (nI_add _ _) ?_
            refine j_iald (pc := 147) C 0 rfl (v := nI (gt.r 11 kz)) (vp_in_nI (by omega) (by decide)) (by rw [nI_clamp (by omega)]; exact (th_ix2 (G := g48) (j := kz)).trans (hs_things kz (by omega)).2.2.1) d_Model_worths_147 ?_
            refine j_i2l (pc := 148) C (v := nL (gt.r 11 kz)) d_Model_worths_148 (nId_L (by omega)) ?_
            refine j_aload_n (pc := 149) C d_Model_worths_149 rfl 3 rfl ?_
            refine j_get (pc := 150) C gf_Model_133 4 rfl rfl d_Model_worths_150 ?_
            refine j_iload (pc := 153) C d_Model_worths_153 0 rfl ?_
            refine j_iconst (pc := 155) C (v := 3) d_Model_worths_155 (by decide) ?_
            refine j_iadd (pc := 156) C (v := nI ((112 + (7 * kz)) + 3)) d_Model_worths_156 (nI_add _ _) ?_
            refine j_iald (pc := 157) C 0 rfl (v := nI (gt.r 12 kz)) (vp_in_nI (by omega) (by decide)) (by rw [nI_clamp (by omega)]; exact (th_ix3 (G := g48) (j := kz)).trans (hs_things kz (by omega)).2.2.2.1) d_Model_worths_157 ?_
            refine j_i2l (pc := 158) C (v := nL (gt.r 12 kz)) d_Model_worths_158 (nId_L (by omega)) ?_
            refine j_callSi (pc := 159) C (c_misInN l D y (fw (gt.r 10 kz)) (gt.r 11 kz) (gt.r 12 kz) (by omega) (by omega) (by omega)) kw_Model_240 ks_Model_isIn ⟨by decide, by decide⟩ ⟨by decide, by decide⟩ (wr := [(ma 48, .inl (y 0, 224, .inl g48)), (ma 63, .inl (y 0, 9, .inl g63)), (ma 45, .inl (y 0, 14, .inl g45)), (ma 62, .inl (y 0, 63, .inl mz)), MB mo ma (nI t1) i2 i3 i4 i5 i6 i7 i8 i42 i49 i51 i53 i54 i59 i61 i64 i66 (nI t67) i76 i78, (ma 43, .inl (y 0, 8, .inl g43))]) [] [0, 1, 2, 3, 4, 5] rfl rfl (by decide +kernel) (by decide +kernel) (by decide +kernel) (As := [.long (nL (fw (gt.r 10 kz))), .long (nL (gt.r 11 kz)), .long (nL (gt.r 12 kz))]) (rest := []) rfl (nb rfl) rfl d_Model_worths_159 (fun r196 _ hr196 => ?_)
            refine j_ws (ws' := [(ma 48, .inl (y 0, 224, .inl g48)), (ma 63, .inl (y 0, 9, .inl g63)), (ma 45, .inl (y 0, 14, .inl g45)), (ma 62, .inl (y 0, 63, .inl mz)), MB mo ma (nI t1) i2 i3 i4 i5 i6 i7 i8 i42 i49 i51 i53 i54 i59 i61 i64 i66 (nI t67) i76 i78, (ma 43, .inl (y 0, 8, .inl g43))]) rfl ?_
            rcases hr196 with ⟨rfl, xh198⟩ | ⟨rfl, xh199⟩
            · refine j_if_neT (pc := 162) C (tgt := 168) d_Model_worths_162 (by decide) (by decide) ?_
              refine j_aload_n (pc := 168) C d_Model_worths_168 rfl 3 rfl ?_
              refine j_get (pc := 169) C gf_Model_158 4 rfl rfl d_Model_worths_169 ?_
              refine j_bipush (pc := 172) C (v := 47) d_Model_worths_172 (by decide) ?_
              refine j_iload_n (pc := 174) C d_Model_worths_174 rfl 1 rfl ?_
              refine j_iadd (pc := 175) C (v := nI (47 + kz)) d_Model_worths_175 (nI_add _ _) ?_
              refine j_dup2 (pc := 176) C d_Model_worths_176 rfl rfl ?_
              refine j_iald (pc := 177) C 3 rfl (v := nI ((seT gt dy fw se kz) kz)) (vp_in_nI (by omega) (by decide)) (by rw [nI_clamp (by omega)]; exact (nw_se h2_ kz (by omega))) d_Model_worths_177 ?_
              refine j_iconst (pc := 178) C (v := 1) d_Model_worths_178 (by decide) ?_
              refine j_iadd (pc := 179) C (v := nI (((seT gt dy fw se kz) kz) + 1)) d_Model_worths_179 (nI_add _ _) ?_
              refine j_iast (pc := 180) C 3 rfl (ws' := [(ma 48, .inl (y 0, 224, .inl g48)), (ma 63, .inl (y 0, 9, .inl g63)), (ma 45, .inl (y 0, 14, .inl g45)), (ma 62, .inl (y 0, 63, .inl (upd mz (47 + kz) (nI (((seT gt dy fw se kz) kz) + 1))))), MB mo ma (nI t1) i2 i3 i4 i5 i6 i7 i8 i42 i49 i51 i53 i54 i59 i61 i64 i66 (nI t67) i76 i78, (ma 43, .inl (y 0, 8, .inl g43))]) (vp_in_nI (by omega) (by decide)) (by rw [nI_clamp (by omega)]; rfl) d_Model_worths_180 ?_
              have xh200 : NW (upd mz (47 + kz) (nI (((seT gt dy fw se kz) kz) + 1))) 0 dy wa la bd fl st wo (lyT gt dy fw (woL gt wa iq) ly kz) (upN (seT gt dy fw se kz) kz (((seT gt dy fw se kz) kz) + 1)) su := nu_se (k := kz) h2_ (by omega)
              refine j_aload_n (pc := 181) C d_Model_worths_181 rfl 3 rfl ?_
              refine j_get (pc := 182) C gf_Model_158 4 rfl rfl d_Model_worths_182 ?_
              refine j_bipush (pc := 185) C (v := 41) d_Model_worths_185 (by decide) ?_
              refine j_aload_n (pc := 187) C d_Model_worths_187 rfl 3 rfl ?_
              refine j_get (pc := 188) C gf_Model_133 4 rfl rfl d_Model_worths_188 ?_
              refine j_iload (pc := 191) C d_Model_worths_191 0 rfl ?_
              have xh201 : gt.r 9 kz < gt.s 4 := (hs_things kz (by omega)).2.2.2.2.2.2.2.1
              refine j_iald (pc := 193) C 0 rfl (v := nI (gt.r 9 kz)) (vp_in_nI (by omega) (by decide)) (by rw [nI_clamp (by omega)]; exact (th_ix0 (G := g48) (j := kz)).trans (hs_things kz (by omega)).1) d_Model_worths_193 ?_
              refine j_iadd (pc := 194) C (v := nI (41 + (gt.r 9 kz))) d_Model_worths_194 (nI_add _ _) ?_
              refine j_dup2 (pc := 195) C d_Model_worths_195 rfl rfl ?_
              refine j_iald (pc := 196) C 3 rfl (v := zI ((lyT gt dy fw (woL gt wa iq) ly kz) (gt.r 9 kz))) (vp_in_nI (by omega) (by decide)) (by rw [nI_clamp (by omega)]; exact (nw_ly xh200 (gt.r 9 kz) (by omega))) d_Model_worths_196 ?_
              refine j_aload_n (pc := 197) C d_Model_worths_197 rfl 3 rfl ?_
              refine j_get (pc := 198) C gf_Model_133 4 rfl rfl d_Model_worths_198 ?_
              refine j_iload (pc := 201) C d_Model_worths_201 0 rfl ?_
              refine j_bipush (pc := 203) C (v := 6) d_Model_worths_203 (by decide) ?_
              refine j_iadd (pc := 205) C (v := nI ((112 + (7 * kz)) + 6)) d_Model_worths_205 (nI_add _ _) ?_
              refine j_iald (pc := 206) C 0 rfl (v := nI (gt.r 15 kz)) (vp_in_nI (by omega) (by decide)) (by rw [nI_clamp (by omega)]; exact (th_ix6 (G := g48) (j := kz)).trans (hs_things kz (by omega)).2.2.2.2.2.2.1) d_Model_worths_206 ?_
              refine j_iadd (pc := 207) C (v := zI (((lyT gt dy fw (woL gt wa iq) ly kz) (gt.r 9 kz)) + (((gt.r 15 kz) : Nat) : Int))) d_Model_worths_207 (zI_add ((lyT gt dy fw (woL gt wa iq) ly kz) (gt.r 9 kz)) (((gt.r 15 kz) : Nat) : Int)) ?_
              refine j_iast (pc := 208) C 3 rfl (ws' := [(ma 48, .inl (y 0, 224, .inl g48)), (ma 63, .inl (y 0, 9, .inl g63)), (ma 45, .inl (y 0, 14, .inl g45)), (ma 62, .inl (y 0, 63, .inl (upd (upd mz (47 + kz) (nI (((seT gt dy fw se kz) kz) + 1))) (41 + (gt.r 9 kz)) (zI (((lyT gt dy fw (woL gt wa iq) ly kz) (gt.r 9 kz)) + (((gt.r 15 kz) : Nat) : Int)))))), MB mo ma (nI t1) i2 i3 i4 i5 i6 i7 i8 i42 i49 i51 i53 i54 i59 i61 i64 i66 (nI t67) i76 i78, (ma 43, .inl (y 0, 8, .inl g43))]) (vp_in_nI (by omega) (by decide)) (by rw [nI_clamp (by omega)]; rfl) d_Model_worths_208 ?_
              have xh202 : NW (upd (upd mz (47 + kz) (nI (((seT gt dy fw se kz) kz) + 1))) (41 + (gt.r 9 kz)) (zI (((lyT gt dy fw (woL gt wa iq) ly kz) (gt.r 9 kz)) + (((gt.r 15 kz) : Nat) : Int)))) 0 dy wa la bd fl st wo (upZ (lyT gt dy fw (woL gt wa iq) ly kz) (gt.r 9 kz) (((lyT gt dy fw (woL gt wa iq) ly kz) (gt.r 9 kz)) + (((gt.r 15 kz) : Nat) : Int))) (upN (seT gt dy fw se kz) kz (((seT gt dy fw se kz) kz) + 1)) su := nu_ly (k := (gt.r 9 kz)) xh200 (by omega)
              refine j_iinc (pc := 209) C (v := nI (kz + 1)) (lv' := [(3, .int (nI (kz + 1))), (4, .int (nI (112 + (7 * kz)))), (2, .int (nI lo)), (0, .ref mo), (1, .int (nI iq))]) d_Model_worths_209 1 rfl (nI_add _ _) (by decide) rfl ?_
              refine j_goto (pc := 212) C (tgt := 71) d_Model_worths_212 (by decide) ?_
              refine j_locs (lv' := [(3, .int (nI (kz + 1))), (2, .int (nI lo)), (0, .ref mo), (1, .int (nI iq))]) [0, 2, 3, 4] rfl ?_
              exact ih180 ((kz + 1), (upd (upd mz (47 + kz) (nI (((seT gt dy fw se kz) kz) + 1))) (41 + (gt.r 9 kz)) (zI (((lyT gt dy fw (woL gt wa iq) ly kz) (gt.r 9 kz)) + (((gt.r 15 kz) : Nat) : Int))))) ⟨(show (kz + 1) ≤ gt.s 10 by omega), (nw_e xh202 (fun _ _ => rfl) (fun _ _ => rfl) (fun _ _ => rfl) (fun _ _ => rfl) (fun j _ => ly_y ⟨xh192, xh198⟩ j) (fun j _ => se_y ⟨xh192, xh198⟩ j) (fun _ _ => rfl))⟩ (show gt.s 10 - (kz + 1) < gt.s 10 - kz by omega)
            · refine j_if_neF (pc := 162) C (tgt := 168) d_Model_worths_162 (by decide) (by decide) ?_
              refine j_goto (pc := 165) C (tgt := 209) d_Model_worths_165 (by decide) ?_
              refine j_iinc (pc := 209) C (v := nI (kz + 1)) (lv' := [(3, .int (nI (kz + 1))), (4, .int (nI (112 + (7 * kz)))), (2, .int (nI lo)), (0, .ref mo), (1, .int (nI iq))]) d_Model_worths_209 1 rfl (nI_add _ _) (by decide) rfl ?_
              refine j_goto (pc := 212) C (tgt := 71) d_Model_worths_212 (by decide) ?_
              refine j_locs (lv' := [(3, .int (nI (kz + 1))), (2, .int (nI lo)), (0, .ref mo), (1, .int (nI iq))]) [0, 2, 3, 4] rfl ?_
              exact ih180 ((kz + 1), mz) ⟨(show (kz + 1) ≤ gt.s 10 by omega), (nw_e h2_ (fun _ _ => rfl) (fun _ _ => rfl) (fun _ _ => rfl) (fun _ _ => rfl) (fun j _ => ly_n (fun q => xh199 q.2) j) (fun j _ => se_n (fun q => xh199 q.2) j) (fun _ _ => rfl))⟩ (show gt.s 10 - (kz + 1) < gt.s 10 - kz by omega)
          · refine j_if_eqT (pc := 121) C (tgt := 209) d_Model_worths_121 (by decide) (by decide) ?_
            refine j_iinc (pc := 209) C (v := nI (kz + 1)) (lv' := [(3, .int (nI (kz + 1))), (4, .int (nI (112 + (7 * kz)))), (2, .int (nI lo)), (0, .ref mo), (1, .int (nI iq))]) d_Model_worths_209 1 rfl (nI_add _ _) (by decide) rfl ?_
            refine j_goto (pc := 212) C (tgt := 71) d_Model_worths_212 (by decide) ?_
            refine j_locs (lv' := [(3, .int (nI (kz + 1))), (2, .int (nI lo)), (0, .ref mo), (1, .int (nI iq))]) [0, 2, 3, 4] rfl ?_
            exact ih180 ((kz + 1), mz) ⟨(show (kz + 1) ≤ gt.s 10 by omega), (nw_e h2_ (fun _ _ => rfl) (fun _ _ => rfl) (fun _ _ => rfl) (fun _ _ => rfl) (fun j _ => ly_n (fun q => xh193 q.1) j) (fun j _ => se_n (fun q => xh193 q.1) j) (fun _ _ => rfl))⟩ (show gt.s 10 - (kz + 1) < gt.s 10 - kz by omega)
      · refine j_icmp_geF (pc := 49) C (tgt := 69) d_Model_worths_49 (by decide) (show ¬ nI (gt.s 4) ≤ nI iz from nI_ge (by omega) (by omega)) ?_
        refine j_aload_n (pc := 52) C d_Model_worths_52 rfl 2 rfl ?_
        refine j_get (pc := 53) C gf_Model_158 4 rfl rfl d_Model_worths_53 ?_
        refine j_bipush (pc := 56) C (v := 41) d_Model_worths_56 (by decide) ?_
        refine j_iload_n (pc := 58) C d_Model_worths_58 rfl 0 rfl ?_
        refine j_iadd (pc := 59) C (v := nI (41 + iz)) d_Model_worths_59 (nI_add _ _) ?_
        refine j_iload_n (pc := 60) C d_Model_worths_60 rfl 1 rfl ?_
        refine j_ineg (pc := 61) C (v := zI (-((lo : Nat) : Int))) d_Model_worths_61 (zI_neg ((lo : Nat) : Int)) ?_
        refine j_iast (pc := 62) C 3 rfl (ws' := [(ma 48, .inl (y 0, 224, .inl g48)), (ma 63, .inl (y 0, 9, .inl g63)), (ma 45, .inl (y 0, 14, .inl g45)), (ma 62, .inl (y 0, 63, .inl (upd nz (41 + iz) (zI (-((lo : Nat) : Int)))))), MB mo ma (nI t1) i2 i3 i4 i5 i6 i7 i8 i42 i49 i51 i53 i54 i59 i61 i64 i66 (nI t67) i76 i78, (ma 43, .inl (y 0, 8, .inl g43))]) (vp_in_nI (by omega) (by decide)) (by rw [nI_clamp (by omega)]; rfl) d_Model_worths_62 ?_
        have xh203 : NW (upd nz (41 + iz) (zI (-((lo : Nat) : Int)))) 0 dy wa la bd fl st wo (upZ (laT iz (-((lo : Nat) : Int)) ly) iz (-((lo : Nat) : Int))) se su := nu_ly (k := iz) h1_ (by omega)
        refine j_iinc (pc := 63) C (v := nI (iz + 1)) (lv' := [(3, .int (nI (iz + 1))), (2, .int (nI lo)), (0, .ref mo), (1, .int (nI iq))]) d_Model_worths_63 0 rfl (nI_add _ _) (by decide) rfl ?_
        refine j_goto (pc := 66) C (tgt := 44) d_Model_worths_66 (by decide) ?_
        refine j_sub (ws' := [(ma 43, .inl (y 0, 8, .inl g43)), (ma 48, .inl (y 0, 224, .inl g48)), (ma 63, .inl (y 0, 9, .inl g63)), MB mo ma (nI t1) i2 i3 i4 i5 i6 i7 i8 i42 i49 i51 i53 i54 i59 i61 i64 i66 (nI t67) i76 i78, (ma 45, .inl (y 0, 14, .inl g45)), (ma 62, .inl (y 0, 63, .inl (upd nz (41 + iz) (zI (-((lo : Nat) : Int))))))]) [5, 0, 1, 4, 2, 3] rfl (by decide +kernel) ?_
        exact ih154 ((iz + 1), (upd nz (41 + iz) (zI (-((lo : Nat) : Int))))) ⟨(show (iz + 1) ≤ gt.s 4 by omega), (nw_e xh203 (fun _ _ => rfl) (fun _ _ => rfl) (fun _ _ => rfl) (fun _ _ => rfl) (fun j _ => la_up j) (fun _ _ => rfl) (fun _ _ => rfl))⟩ (show gt.s 4 - (iz + 1) < gt.s 4 - iz by omega)
  · refine j_icmp_geF (pc := 11) C (tgt := 24) d_Model_worths_11 (by decide) (show ¬ nI (gt.s 5) ≤ nI (wa / gt.s 1) from nI_ge (by omega) (by omega)) ?_
    refine j_aload_n (pc := 14) C d_Model_worths_14 rfl 0 rfl ?_
    refine j_get (pc := 15) C gf_Model_124 3 rfl rfl d_Model_worths_15 ?_
    refine j_bipush (pc := 18) C (v := 11) d_Model_worths_18 (by decide) ?_
    refine j_iald (pc := 20) C 4 rfl (v := nI (gt.s 6)) (vin (by decide)) (hs_lake.2.2.2.2.1) d_Model_worths_20 ?_
    refine j_goto (pc := 21) C (tgt := 25) d_Model_worths_21 (by decide) ?_
    refine j_iload_n (pc := 25) C d_Model_worths_25 rfl 1 rfl ?_
    by_cases c204 : iq = 0
    · refine j_if_eqT (pc := 26) C (tgt := 39) d_Model_worths_26 (by decide) (show nI iq = nI 0 from (nI_eq (by omega) (by omega)).mpr (by omega)) ?_
      refine j_iconst (pc := 39) C (v := 0) d_Model_worths_39 (by decide) ?_
      refine j_iadd (pc := 40) C (v := nI ((gt.s 6) + 0)) d_Model_worths_40 (nI_add _ _) ?_
      have hlo0 : gt.s 6 + 0 = woL gt wa iq := wo_t (Or.inl ⟨Nat.not_le.mp c2, rfl⟩) (Or.inr ⟨by omega, rfl⟩)
      obtain ⟨lo, hlx⟩ : ∃ q, q = gt.s 6 + 0 := ⟨_, rfl⟩
      have hlo : lo = woL gt wa iq := hlx.trans hlo0
      refine j_st (st' := [.int (nI lo)]) (by rw [show nI ((gt.s 6) + 0) = nI lo from (show nI ((gt.s 6) + 0) = nI lo by rw [hlx]; first | done | rfl)]) ?_
      have hlob : lo ≤ 198 := by omega
      clear hlo0
      refine j_istore_n (pc := 41) C (lv' := [(2, .int (nI lo)), (0, .ref mo), (1, .int (nI iq))]) d_Model_worths_41 rfl (by decide) rfl ?_
      refine j_iconst (pc := 42) C (v := 0) d_Model_worths_42 (by decide) ?_
      refine j_istore_n (pc := 43) C (lv' := [(3, .int 0), (2, .int (nI lo)), (0, .ref mo), (1, .int (nI iq))]) d_Model_worths_43 rfl (by decide) rfl ?_
      refine j_loop (α := Nat × (Nat → Int32)) (fun a => gt.s 4 - a.1) (fun a => (a.1 ≤ gt.s 4) ∧ (NW a.2 0 dy wa la bd fl st wo (laT a.1 (-((lo : Nat) : Int)) ly) se su)) (fun a => [(ma 43, .inl (y 0, 8, .inl g43)), (ma 48, .inl (y 0, 224, .inl g48)), (ma 63, .inl (y 0, 9, .inl g63)), MB mo ma (nI t1) i2 i3 i4 i5 i6 i7 i8 i42 i49 i51 i53 i54 i59 i61 i64 i66 (nI t67) i76 i78, (ma 45, .inl (y 0, 14, .inl g45)), (ma 62, .inl (y 0, 63, .inl a.2))]) (fun a => [(3, .int (nI a.1)), (2, .int (nI lo)), (0, .ref mo), (1, .int (nI iq))]) (0, g62) rfl rfl ⟨(show 0 ≤ gt.s 4 by omega), (nw_e hnw (fun _ _ => rfl) (fun _ _ => rfl) (fun _ _ => rfl) (fun _ _ => rfl) (fun j _ => la_0.symm) (fun _ _ => rfl) (fun _ _ => rfl))⟩ ?_
      rintro ⟨iz, nz⟩ hP254 ih255
      obtain ⟨hi__, h1__⟩ := hP254
      have hi_ : iz ≤ gt.s 4 := hi__
      have h1_ : NW nz 0 dy wa la bd fl st wo (laT iz (-((lo : Nat) : Int)) ly) se su := h1__
      refine j_ws (ws' := [(ma 43, .inl (y 0, 8, .inl g43)), (ma 48, .inl (y 0, 224, .inl g48)), (ma 63, .inl (y 0, 9, .inl g63)), MB mo ma (nI t1) i2 i3 i4 i5 i6 i7 i8 i42 i49 i51 i53 i54 i59 i61 i64 i66 (nI t67) i76 i78, (ma 45, .inl (y 0, 14, .inl g45)), (ma 62, .inl (y 0, 63, .inl nz))]) rfl ?_
      refine j_lv (lv' := [(3, .int (nI iz)), (2, .int (nI lo)), (0, .ref mo), (1, .int (nI iq))]) rfl ?_
      refine j_iload_n (pc := 44) C d_Model_worths_44 rfl 0 rfl ?_
      refine j_aload_n (pc := 45) C d_Model_worths_45 rfl 2 rfl ?_
      refine j_callVi (pc := 46) C (c_mvillages l D y mo ma t1 i2 i3 i4 i5 i6 i7 i8 i42 i49 i51 i53 i54 i59 i61 i64 i66 t67 i76 i78 g43 gt hs_many) kw_Model_448 kv_Model_villages 0 10 rfl rfl ⟨by decide, by decide⟩ ⟨by decide, by decide⟩ (wr := [(ma 48, .inl (y 0, 224, .inl g48)), (ma 63, .inl (y 0, 9, .inl g63)), (ma 45, .inl (y 0, 14, .inl g45)), (ma 62, .inl (y 0, 63, .inl nz))]) [3, 0] [1, 2, 4, 5] rfl rfl (by decide +kernel) (by decide +kernel) (by decide +kernel) (As := []) (rest := [.int (nI iz)]) rfl (nb rfl) rfl d_Model_worths_46 (fun r256 _ hr256 => ?_)
      obtain rfl := hr256
      refine j_ws (ws' := [(ma 48, .inl (y 0, 224, .inl g48)), (ma 63, .inl (y 0, 9, .inl g63)), (ma 45, .inl (y 0, 14, .inl g45)), (ma 62, .inl (y 0, 63, .inl nz)), MB mo ma (nI t1) i2 i3 i4 i5 i6 i7 i8 i42 i49 i51 i53 i54 i59 i61 i64 i66 (nI t67) i76 i78, (ma 43, .inl (y 0, 8, .inl g43))]) rfl ?_
      by_cases c257 : (gt.s 4) ≤ iz
      · refine j_icmp_geT (pc := 49) C (tgt := 69) d_Model_worths_49 (by decide) (show nI (gt.s 4) ≤ nI iz from nI_le (by omega) (by omega)) ?_
        refine j_iconst (pc := 69) C (v := 0) d_Model_worths_69 (by decide) ?_
        refine j_istore_n (pc := 70) C (lv' := [(3, .int 0), (2, .int (nI lo)), (0, .ref mo), (1, .int (nI iq))]) d_Model_worths_70 rfl (by decide) rfl ?_
        refine j_loop (α := Nat × (Nat → Int32)) (fun a => gt.s 10 - a.1) (fun a => (a.1 ≤ gt.s 10) ∧ (NW a.2 0 dy wa la bd fl st wo (lyT gt dy fw (woL gt wa iq) ly a.1) (seT gt dy fw se a.1) su)) (fun a => [(ma 48, .inl (y 0, 224, .inl g48)), (ma 63, .inl (y 0, 9, .inl g63)), (ma 45, .inl (y 0, 14, .inl g45)), (ma 62, .inl (y 0, 63, .inl a.2)), MB mo ma (nI t1) i2 i3 i4 i5 i6 i7 i8 i42 i49 i51 i53 i54 i59 i61 i64 i66 (nI t67) i76 i78, (ma 43, .inl (y 0, 8, .inl g43))]) (fun a => [(3, .int (nI a.1)), (2, .int (nI lo)), (0, .ref mo), (1, .int (nI iq))]) (0, nz) rfl rfl ⟨(show 0 ≤ gt.s 10 by omega), (nw_e h1_ (fun _ _ => rfl) (fun _ _ => rfl) (fun _ _ => rfl) (fun _ _ => rfl) (fun j _ => by rw [show iz = gt.s 4 by omega, hlo]; exact ly_0 j) (fun j _ => se_0.symm) (fun _ _ => rfl))⟩ ?_
        rintro ⟨kz, mz⟩ hP280 ih281
        obtain ⟨hk__, h2__⟩ := hP280
        have hk_ : kz ≤ gt.s 10 := hk__
        have h2_ : NW mz 0 dy wa la bd fl st wo (lyT gt dy fw (woL gt wa iq) ly kz) (seT gt dy fw se kz) su := h2__
        refine j_ws (ws' := [(ma 48, .inl (y 0, 224, .inl g48)), (ma 63, .inl (y 0, 9, .inl g63)), (ma 45, .inl (y 0, 14, .inl g45)), (ma 62, .inl (y 0, 63, .inl mz)), MB mo ma (nI t1) i2 i3 i4 i5 i6 i7 i8 i42 i49 i51 i53 i54 i59 i61 i64 i66 (nI t67) i76 i78, (ma 43, .inl (y 0, 8, .inl g43))]) rfl ?_
        refine j_lv (lv' := [(3, .int (nI kz)), (2, .int (nI lo)), (0, .ref mo), (1, .int (nI iq))]) rfl ?_
        refine j_iload_n (pc := 71) C d_Model_worths_71 rfl 0 rfl ?_
        refine j_aload_n (pc := 72) C d_Model_worths_72 rfl 2 rfl ?_
        refine j_get (pc := 73) C gf_Model_117 4 rfl rfl d_Model_worths_73 ?_
        refine j_bipush (pc := 76) C (v := 6) d_Model_worths_76 (by decide) ?_
        refine j_iald (pc := 78) C 5 rfl (v := nI (gt.s 10)) (vin (by decide)) (hs_many.2.2.1) d_Model_worths_78 ?_
        by_cases c282 : (gt.s 10) ≤ kz
        · refine j_icmp_geT (pc := 79) C (tgt := 215) d_Model_worths_79 (by decide) (show nI (gt.s 10) ≤ nI kz from nI_le (by omega) (by omega)) ?_
          refine j_iconst (pc := 215) C (v := 0) d_Model_worths_215 (by decide) ?_
          refine j_istore_n (pc := 216) C (lv' := [(3, .int 0), (2, .int (nI lo)), (0, .ref mo), (1, .int (nI iq))]) d_Model_worths_216 rfl (by decide) rfl ?_
          refine j_loop (α := Nat × (Nat → Int32)) (fun a => gt.s 4 - a.1) (fun a => (a.1 ≤ gt.s 4) ∧ (NW a.2 0 dy wa la bd fl st (woT a.1 wo (lyT gt dy fw (woL gt wa iq) ly (gt.s 10))) (lyT gt dy fw (woL gt wa iq) ly (gt.s 10)) (seT gt dy fw se (gt.s 10)) su)) (fun a => [(ma 48, .inl (y 0, 224, .inl g48)), (ma 63, .inl (y 0, 9, .inl g63)), (ma 45, .inl (y 0, 14, .inl g45)), (ma 62, .inl (y 0, 63, .inl a.2)), MB mo ma (nI t1) i2 i3 i4 i5 i6 i7 i8 i42 i49 i51 i53 i54 i59 i61 i64 i66 (nI t67) i76 i78, (ma 43, .inl (y 0, 8, .inl g43))]) (fun a => [(3, .int (nI a.1)), (2, .int (nI lo)), (0, .ref mo), (1, .int (nI iq))]) (0, mz) rfl rfl ⟨(show 0 ≤ gt.s 4 by omega), (nw_e (show NW mz 0 dy wa la bd fl st wo (lyT gt dy fw (woL gt wa iq) ly (gt.s 10)) (seT gt dy fw se (gt.s 10)) su by rw [show gt.s 10 = kz by omega]; exact h2_) (fun _ _ => rfl) (fun _ _ => rfl) (fun _ _ => rfl) (fun j _ => wo_0.symm) (fun _ _ => rfl) (fun _ _ => rfl) (fun _ _ => rfl))⟩ ?_
          rintro ⟨jz, oz⟩ hP286 ih287
          obtain ⟨hj__, h3__⟩ := hP286
          have hj_ : jz ≤ gt.s 4 := hj__
          have h3_ : NW oz 0 dy wa la bd fl st (woT jz wo (lyT gt dy fw (woL gt wa iq) ly (gt.s 10))) (lyT gt dy fw (woL gt wa iq) ly (gt.s 10)) (seT gt dy fw se (gt.s 10)) su := h3__
          refine j_ws (ws' := [(ma 48, .inl (y 0, 224, .inl g48)), (ma 63, .inl (y 0, 9, .inl g63)), (ma 45, .inl (y 0, 14, .inl g45)), (ma 62, .inl (y 0, 63, .inl oz)), MB mo ma (nI t1) i2 i3 i4 i5 i6 i7 i8 i42 i49 i51 i53 i54 i59 i61 i64 i66 (nI t67) i76 i78, (ma 43, .inl (y 0, 8, .inl g43))]) rfl ?_
          refine j_lv (lv' := [(3, .int (nI jz)), (2, .int (nI lo)), (0, .ref mo), (1, .int (nI iq))]) rfl ?_
          refine j_iload_n (pc := 217) C d_Model_worths_217 rfl 0 rfl ?_
          refine j_aload_n (pc := 218) C d_Model_worths_218 rfl 2 rfl ?_
          refine j_callVi (pc := 219) C (c_mvillages l D y mo ma t1 i2 i3 i4 i5 i6 i7 i8 i42 i49 i51 i53 i54 i59 i61 i64 i66 t67 i76 i78 g43 gt hs_many) kw_Model_448 kv_Model_villages 0 10 rfl rfl ⟨by decide, by decide⟩ ⟨by decide, by decide⟩ (wr := [(ma 48, .inl (y 0, 224, .inl g48)), (ma 63, .inl (y 0, 9, .inl g63)), (ma 45, .inl (y 0, 14, .inl g45)), (ma 62, .inl (y 0, 63, .inl oz))]) [4, 5] [0, 1, 2, 3] rfl rfl (by decide +kernel) (by decide +kernel) (by decide +kernel) (As := []) (rest := [.int (nI jz)]) rfl (nb rfl) rfl d_Model_worths_219 (fun r288 _ hr288 => ?_)
          obtain rfl := hr288
          refine j_ws (ws' := [(ma 48, .inl (y 0, 224, .inl g48)), (ma 63, .inl (y 0, 9, .inl g63)), (ma 45, .inl (y 0, 14, .inl g45)), (ma 62, .inl (y 0, 63, .inl oz)), MB mo ma (nI t1) i2 i3 i4 i5 i6 i7 i8 i42 i49 i51 i53 i54 i59 i61 i64 i66 (nI t67) i76 i78, (ma 43, .inl (y 0, 8, .inl g43))]) rfl ?_
          by_cases c289 : (gt.s 4) ≤ jz
          · refine j_icmp_geT (pc := 222) C (tgt := 252) d_Model_worths_222 (by decide) (show nI (gt.s 4) ≤ nI jz from nI_le (by omega) (by omega)) ?_
            obtain rfl : jz = gt.s 4 := by omega
            exact j_vret (pc := 252) C hr oz h3_ [4, 5, 2, 0, 3, 1] rfl (by decide) (by decide) (by decide) d_Model_worths_252
          · refine j_icmp_geF (pc := 222) C (tgt := 252) d_Model_worths_222 (by decide) (show ¬ nI (gt.s 4) ≤ nI jz from nI_ge (by omega) (by omega)) ?_
            refine j_aload_n (pc := 225) C d_Model_worths_225 rfl 2 rfl ?_
            refine j_get (pc := 226) C gf_Model_158 4 rfl rfl d_Model_worths_226 ?_
            refine j_bipush (pc := 229) C (v := 35) d_Model_worths_229 (by decide) ?_
            refine j_iload_n (pc := 231) C d_Model_worths_231 rfl 0 rfl ?_
            refine j_iadd (pc := 232) C (v := nI (35 + jz)) d_Model_worths_232 (nI_add _ _) ?_
            refine j_dup2 (pc := 233) C d_Model_worths_233 rfl rfl ?_
            refine j_iald (pc := 234) C 3 rfl (v := zI ((woT jz wo (lyT gt dy fw (woL gt wa iq) ly (gt.s 10))) jz)) (vp_in_nI (by omega) (by decide)) (by rw [nI_clamp (by omega)]; exact (nw_wo h3_ jz (by omega))) d_Model_worths_234 ?_
            refine j_aload_n (pc := 235) C d_Model_worths_235 rfl 2 rfl ?_
            refine j_get (pc := 236) C gf_Model_158 4 rfl rfl d_Model_worths_236 ?_
            refine j_bipush (pc := 239) C (v := 41) d_Model_worths_239 (by decide) ?_
            refine j_iload_n (pc := 241) C d_Model_worths_241 rfl 0 rfl ?_
            refine j_iadd (pc := 242) C (v := nI (41 + jz)) d_Model_worths_242 (nI_add _ _) ?_
            refine j_iald (pc := 243) C 3 rfl (v := zI ((lyT gt dy fw (woL gt wa iq) ly (gt.s 10)) jz)) (vp_in_nI (by omega) (by decide)) (by rw [nI_clamp (by omega)]; exact (nw_ly h3_ jz (by omega))) d_Model_worths_243 ?_
            refine j_iadd (pc := 244) C (v := zI (((woT jz wo (lyT gt dy fw (woL gt wa iq) ly (gt.s 10))) jz) + ((lyT gt dy fw (woL gt wa iq) ly (gt.s 10)) jz))) d_Model_worths_244 (zI_add ((woT jz wo (lyT gt dy fw (woL gt wa iq) ly (gt.s 10))) jz) ((lyT gt dy fw (woL gt wa iq) ly (gt.s 10)) jz)) ?_
            refine j_iast (pc := 245) C 3 rfl (ws' := [(ma 48, .inl (y 0, 224, .inl g48)), (ma 63, .inl (y 0, 9, .inl g63)), (ma 45, .inl (y 0, 14, .inl g45)), (ma 62, .inl (y 0, 63, .inl (upd oz (35 + jz) (zI (((woT jz wo (lyT gt dy fw (woL gt wa iq) ly (gt.s 10))) jz) + ((lyT gt dy fw (woL gt wa iq) ly (gt.s 10)) jz)))))), MB mo ma (nI t1) i2 i3 i4 i5 i6 i7 i8 i42 i49 i51 i53 i54 i59 i61 i64 i66 (nI t67) i76 i78, (ma 43, .inl (y 0, 8, .inl g43))]) (vp_in_nI (by omega) (by decide)) (by rw [nI_clamp (by omega)]; rfl) d_Model_worths_245 ?_
            have xh290 : NW (upd oz (35 + jz) (zI (((woT jz wo (lyT gt dy fw (woL gt wa iq) ly (gt.s 10))) jz) + ((lyT gt dy fw (woL gt wa iq) ly (gt.s 10)) jz)))) 0 dy wa la bd fl st (upZ (woT jz wo (lyT gt dy fw (woL gt wa iq) ly (gt.s 10))) jz (((woT jz wo (lyT gt dy fw (woL gt wa iq) ly (gt.s 10))) jz) + ((lyT gt dy fw (woL gt wa iq) ly (gt.s 10)) jz))) (lyT gt dy fw (woL gt wa iq) ly (gt.s 10)) (seT gt dy fw se (gt.s 10)) su := nu_wo (k := jz) h3_ (by omega)
            refine j_iinc (pc := 246) C (v := nI (jz + 1)) (lv' := [(3, .int (nI (jz + 1))), (2, .int (nI lo)), (0, .ref mo), (1, .int (nI iq))]) d_Model_worths_246 0 rfl (nI_add _ _) (by decide) rfl ?_
            refine j_goto (pc := 249) C (tgt := 217) d_Model_worths_249 (by decide) ?_
            exact ih287 ((jz + 1), (upd oz (35 + jz) (zI (((woT jz wo (lyT gt dy fw (woL gt wa iq) ly (gt.s 10))) jz) + ((lyT gt dy fw (woL gt wa iq) ly (gt.s 10)) jz))))) ⟨(show (jz + 1) ≤ gt.s 4 by omega), (nw_e xh290 (fun _ _ => rfl) (fun _ _ => rfl) (fun _ _ => rfl) (fun j _ => wo_up j) (fun _ _ => rfl) (fun _ _ => rfl) (fun _ _ => rfl))⟩ (show gt.s 4 - (jz + 1) < gt.s 4 - jz by omega)
        · refine j_icmp_geF (pc := 79) C (tgt := 215) d_Model_worths_79 (by decide) (show ¬ nI (gt.s 10) ≤ nI kz from nI_ge (by omega) (by omega)) ?_
          obtain ⟨v11, v12, v13, v14, v15⟩ := to_t hto kz (by omega)
          refine j_bipush (pc := 82) C (v := 112) d_Model_worths_82 (by decide) ?_
          refine j_bipush (pc := 84) C (v := 7) d_Model_worths_84 (by decide) ?_
          refine j_iload_n (pc := 86) C d_Model_worths_86 rfl 0 rfl ?_
          refine j_imul (pc := 87) C (v := nI (7 * kz)) d_Model_worths_87 (pk_mul _ _) ?_
          refine j_iadd (pc := 88) C (v := nI (112 + (7 * kz))) d_Model_worths_88 (nI_add _ _) ?_
          refine j_istore (pc := 89) C (lv' := [(4, .int (nI (112 + (7 * kz)))), (3, .int (nI kz)), (2, .int (nI lo)), (0, .ref mo), (1, .int (nI iq))]) d_Model_worths_89 (by decide) rfl ?_
          refine j_aload_n (pc := 91) C d_Model_worths_91 rfl 3 rfl ?_
          refine j_get (pc := 92) C gf_Model_158 4 rfl rfl d_Model_worths_92 ?_
          refine j_iconst (pc := 95) C (v := 0) d_Model_worths_95 (by decide) ?_
          refine j_iald (pc := 96) C 3 rfl (v := nI dy) (vin (by decide)) (nw_dy h2_) d_Model_worths_96 ?_
          refine j_i2l (pc := 97) C (v := nL dy) d_Model_worths_97 (nId_L (by omega)) ?_
          refine j_aload_n (pc := 98) C d_Model_worths_98 rfl 3 rfl ?_
          refine j_get (pc := 99) C gf_Model_133 4 rfl rfl d_Model_worths_99 ?_
          refine j_iload (pc := 102) C d_Model_worths_102 0 rfl ?_
          refine j_iconst (pc := 104) C (v := 4) d_Model_worths_104 (by decide) ?_
          refine j_iadd (pc := 105) C (v := nI ((112 + (7 * kz)) + 4)) d_Model_worths_105 (nI_add _ _) ?_
          refine j_iald (pc := 106) C 0 rfl (v := nI (gt.r 13 kz)) (vp_in_nI (by omega) (by decide)) (by rw [nI_clamp (by omega)]; exact (th_ix4 (G := g48) (j := kz)).trans (hs_things kz (by omega)).2.2.2.2.1) d_Model_worths_106 ?_
          refine j_i2l (pc := 107) C (v := nL (gt.r 13 kz)) d_Model_worths_107 (nId_L (by omega)) ?_
          refine j_aload_n (pc := 108) C d_Model_worths_108 rfl 3 rfl ?_
          refine j_get (pc := 109) C gf_Model_133 4 rfl rfl d_Model_worths_109 ?_
          refine j_iload (pc := 112) C d_Model_worths_112 0 rfl ?_
          refine j_iconst (pc := 114) C (v := 5) d_Model_worths_114 (by decide) ?_
          refine j_iadd (pc := 115) C (v := nI ((112 + (7 * kz)) + 5)) d_Model_worths_115 (nI_add _ _) ?_
          refine j_iald (pc := 116) C 0 rfl (v := nI (gt.r 14 kz)) (vp_in_nI (by omega) (by decide)) (by rw [nI_clamp (by omega)]; exact (th_ix5 (G := g48) (j := kz)).trans (hs_things kz (by omega)).2.2.2.2.2.1) d_Model_worths_116 ?_
          refine j_i2l (pc := 117) C (v := nL (gt.r 14 kz)) d_Model_worths_117 (nId_L (by omega)) ?_
          refine j_callSi (pc := 118) C (c_misInN l D y dy (gt.r 13 kz) (gt.r 14 kz) (by omega) (by omega) (by omega)) kw_Model_240 ks_Model_isIn ⟨by decide, by decide⟩ ⟨by decide, by decide⟩ (wr := [(ma 48, .inl (y 0, 224, .inl g48)), (ma 63, .inl (y 0, 9, .inl g63)), (ma 45, .inl (y 0, 14, .inl g45)), (ma 62, .inl (y 0, 63, .inl mz)), MB mo ma (nI t1) i2 i3 i4 i5 i6 i7 i8 i42 i49 i51 i53 i54 i59 i61 i64 i66 (nI t67) i76 i78, (ma 43, .inl (y 0, 8, .inl g43))]) [] [0, 1, 2, 3, 4, 5] rfl rfl (by decide +kernel) (by decide +kernel) (by decide +kernel) (As := [.long (nL dy), .long (nL (gt.r 13 kz)), .long (nL (gt.r 14 kz))]) (rest := []) rfl (nb rfl) rfl d_Model_worths_118 (fun r291 _ hr291 => ?_)
          refine j_ws (ws' := [(ma 48, .inl (y 0, 224, .inl g48)), (ma 63, .inl (y 0, 9, .inl g63)), (ma 45, .inl (y 0, 14, .inl g45)), (ma 62, .inl (y 0, 63, .inl mz)), MB mo ma (nI t1) i2 i3 i4 i5 i6 i7 i8 i42 i49 i51 i53 i54 i59 i61 i64 i66 (nI t67) i76 i78, (ma 43, .inl (y 0, 8, .inl g43))]) rfl ?_
          rcases hr291 with ⟨rfl, xh293⟩ | ⟨rfl, xh294⟩
          · refine j_if_eqF (pc := 121) C (tgt := 209) d_Model_worths_121 (by decide) (by decide) ?_
            refine j_aload_n (pc := 124) C d_Model_worths_124 rfl 3 rfl ?_
            refine j_get (pc := 125) C gf_Model_161 4 rfl rfl d_Model_worths_125 ?_
            refine j_aload_n (pc := 128) C d_Model_worths_128 rfl 3 rfl ?_
            refine j_get (pc := 129) C gf_Model_133 4 rfl rfl d_Model_worths_129 ?_
            refine j_iload (pc := 132) C d_Model_worths_132 0 rfl ?_
            refine j_iconst (pc := 134) C (v := 1) d_Model_worths_134 (by decide) ?_
            refine j_iadd (pc := 135) C (v := nI ((112 + (7 * kz)) + 1)) d_Model_worths_135 (nI_add _ _) ?_
            have xh295 : gt.r 10 kz < gt.s 9 := (hs_things kz (by omega)).2.2.2.2.2.2.2.2
            refine j_iald (pc := 136) C 0 rfl (v := nI (gt.r 10 kz)) (vp_in_nI (by omega) (by decide)) (by rw [nI_clamp (by omega)]; exact (th_ix1 (G := g48) (j := kz)).trans (hs_things kz (by omega)).2.1) d_Model_worths_136 ?_
            have xh296 : fw (gt.r 10 kz) ≤ 9999 := bf (gt.r 10 kz) (by omega)
            refine j_iald (pc := 137) C 1 rfl (v := nI (fw (gt.r 10 kz))) (vp_in_nI (by omega) (by decide)) (by rw [nI_clamp (by omega)]; exact (xf (gt.r 10 kz) (by omega))) d_Model_worths_137 ?_
            refine j_i2l (pc := 138) C (v := nL (fw (gt.r 10 kz))) d_Model_worths_138 (nId_L (by omega)) ?_
            refine j_aload_n (pc := 139) C d_Model_worths_139 rfl 3 rfl ?_
            refine j_get (pc := 140) C gf_Model_133 4 rfl rfl d_Model_worths_140 ?_
            refine j_iload (pc := 143) C d_Model_worths_143 0 rfl ?_
            refine j_iconst (pc := 145) C (v := 2) d_Model_worths_145 (by decide) ?_
            refine j_iadd (pc := 146) C (v := nI ((112 + (7 * kz)) + 2)) d_Model_worths_146 (nI_add _ _) ?_
            refine j_iald (pc := 147) C 0 rfl (v := nI (gt.r 11 kz)) (vp_in_nI (by omega) (by decide)) (by rw [nI_clamp (by omega)]; exact (th_ix2 (G := g48) (j := kz)).trans (hs_things kz (by omega)).2.2.1) d_Model_worths_147 ?_
            refine j_i2l (pc := 148) C (v := nL (gt.r 11 kz)) d_Model_worths_148 (nId_L (by omega)) ?_
            refine j_aload_n (pc := 149) C d_Model_worths_149 rfl 3 rfl ?_
            refine j_get (pc := 150) C gf_Model_133 4 rfl rfl d_Model_worths_150 ?_
            refine j_iload (pc := 153) C d_Model_worths_153 0 rfl ?_
            refine j_iconst (pc := 155) C (v := 3) d_Model_worths_155 (by decide) ?_
            refine j_iadd (pc := 156) C (v := nI ((112 + (7 * kz)) + 3)) d_Model_worths_156 (nI_add _ _) ?_
            refine j_iald (pc := 157) C 0 rfl (v := nI (gt.r 12 kz)) (vp_in_nI (by omega) (by decide)) (by rw [nI_clamp (by omega)]; exact (th_ix3 (G := g48) (j := kz)).trans (hs_things kz (by omega)).2.2.2.1) d_Model_worths_157 ?_
            refine j_i2l (pc := 158) C (v := nL (gt.r 12 kz)) d_Model_worths_158 (nId_L (by omega)) ?_
            refine j_callSi (pc := 159) C (c_misInN l D y (fw (gt.r 10 kz)) (gt.r 11 kz) (gt.r 12 kz) (by omega) (by omega) (by omega)) kw_Model_240 ks_Model_isIn ⟨by decide, by decide⟩ ⟨by decide, by decide⟩ (wr := [(ma 48, .inl (y 0, 224, .inl g48)), (ma 63, .inl (y 0, 9, .inl g63)), (ma 45, .inl (y 0, 14, .inl g45)), (ma 62, .inl (y 0, 63, .inl mz)), MB mo ma (nI t1) i2 i3 i4 i5 i6 i7 i8 i42 i49 i51 i53 i54 i59 i61 i64 i66 (nI t67) i76 i78, (ma 43, .inl (y 0, 8, .inl g43))]) [] [0, 1, 2, 3, 4, 5] rfl rfl (by decide +kernel) (by decide +kernel) (by decide +kernel) (As := [.long (nL (fw (gt.r 10 kz))), .long (nL (gt.r 11 kz)), .long (nL (gt.r 12 kz))]) (rest := []) rfl (nb rfl) rfl d_Model_worths_159 (fun r297 _ hr297 => ?_)
            refine j_ws (ws' := [(ma 48, .inl (y 0, 224, .inl g48)), (ma 63, .inl (y 0, 9, .inl g63)), (ma 45, .inl (y 0, 14, .inl g45)), (ma 62, .inl (y 0, 63, .inl mz)), MB mo ma (nI t1) i2 i3 i4 i5 i6 i7 i8 i42 i49 i51 i53 i54 i59 i61 i64 i66 (nI t67) i76 i78, (ma 43, .inl (y 0, 8, .inl g43))]) rfl ?_
            rcases hr297 with ⟨rfl, xh299⟩ | ⟨rfl, xh300⟩
            · refine j_if_neT (pc := 162) C (tgt := 168) d_Model_worths_162 (by decide) (by decide) ?_
              refine j_aload_n (pc := 168) C d_Model_worths_168 rfl 3 rfl ?_
              refine j_get (pc := 169) C gf_Model_158 4 rfl rfl d_Model_worths_169 ?_
              refine j_bipush (pc := 172) C (v := 47) d_Model_worths_172 (by decide) ?_
              refine j_iload_n (pc := 174) C d_Model_worths_174 rfl 1 rfl ?_
              refine j_iadd (pc := 175) C (v := nI (47 + kz)) d_Model_worths_175 (nI_add _ _) ?_
              refine j_dup2 (pc := 176) C d_Model_worths_176 rfl rfl ?_
              refine j_iald (pc := 177) C 3 rfl (v := nI ((seT gt dy fw se kz) kz)) (vp_in_nI (by omega) (by decide)) (by rw [nI_clamp (by omega)]; exact (nw_se h2_ kz (by omega))) d_Model_worths_177 ?_
              refine j_iconst (pc := 178) C (v := 1) d_Model_worths_178 (by decide) ?_
              refine j_iadd (pc := 179) C (v := nI (((seT gt dy fw se kz) kz) + 1)) d_Model_worths_179 (nI_add _ _) ?_
              refine j_iast (pc := 180) C 3 rfl (ws' := [(ma 48, .inl (y 0, 224, .inl g48)), (ma 63, .inl (y 0, 9, .inl g63)), (ma 45, .inl (y 0, 14, .inl g45)), (ma 62, .inl (y 0, 63, .inl (upd mz (47 + kz) (nI (((seT gt dy fw se kz) kz) + 1))))), MB mo ma (nI t1) i2 i3 i4 i5 i6 i7 i8 i42 i49 i51 i53 i54 i59 i61 i64 i66 (nI t67) i76 i78, (ma 43, .inl (y 0, 8, .inl g43))]) (vp_in_nI (by omega) (by decide)) (by rw [nI_clamp (by omega)]; rfl) d_Model_worths_180 ?_
              have xh301 : NW (upd mz (47 + kz) (nI (((seT gt dy fw se kz) kz) + 1))) 0 dy wa la bd fl st wo (lyT gt dy fw (woL gt wa iq) ly kz) (upN (seT gt dy fw se kz) kz (((seT gt dy fw se kz) kz) + 1)) su := nu_se (k := kz) h2_ (by omega)
              refine j_aload_n (pc := 181) C d_Model_worths_181 rfl 3 rfl ?_
              refine j_get (pc := 182) C gf_Model_158 4 rfl rfl d_Model_worths_182 ?_
              refine j_bipush (pc := 185) C (v := 41) d_Model_worths_185 (by decide) ?_
              refine j_aload_n (pc := 187) C d_Model_worths_187 rfl 3 rfl ?_
              refine j_get (pc := 188) C gf_Model_133 4 rfl rfl d_Model_worths_188 ?_
              refine j_iload (pc := 191) C d_Model_worths_191 0 rfl ?_
              have xh302 : gt.r 9 kz < gt.s 4 := (hs_things kz (by omega)).2.2.2.2.2.2.2.1
              refine j_iald (pc := 193) C 0 rfl (v := nI (gt.r 9 kz)) (vp_in_nI (by omega) (by decide)) (by rw [nI_clamp (by omega)]; exact (th_ix0 (G := g48) (j := kz)).trans (hs_things kz (by omega)).1) d_Model_worths_193 ?_
              refine j_iadd (pc := 194) C (v := nI (41 + (gt.r 9 kz))) d_Model_worths_194 (nI_add _ _) ?_
              refine j_dup2 (pc := 195) C d_Model_worths_195 rfl rfl ?_
              refine j_iald (pc := 196) C 3 rfl (v := zI ((lyT gt dy fw (woL gt wa iq) ly kz) (gt.r 9 kz))) (vp_in_nI (by omega) (by decide)) (by rw [nI_clamp (by omega)]; exact (nw_ly xh301 (gt.r 9 kz) (by omega))) d_Model_worths_196 ?_
              refine j_aload_n (pc := 197) C d_Model_worths_197 rfl 3 rfl ?_
              refine j_get (pc := 198) C gf_Model_133 4 rfl rfl d_Model_worths_198 ?_
              refine j_iload (pc := 201) C d_Model_worths_201 0 rfl ?_
              refine j_bipush (pc := 203) C (v := 6) d_Model_worths_203 (by decide) ?_
              refine j_iadd (pc := 205) C (v := nI ((112 + (7 * kz)) + 6)) d_Model_worths_205 (nI_add _ _) ?_
              refine j_iald (pc := 206) C 0 rfl (v := nI (gt.r 15 kz)) (vp_in_nI (by omega) (by decide)) (by rw [nI_clamp (by omega)]; exact (th_ix6 (G := g48) (j := kz)).trans (hs_things kz (by omega)).2.2.2.2.2.2.1) d_Model_worths_206 ?_
              refine j_iadd (pc := 207) C (v := zI (((lyT gt dy fw (woL gt wa iq) ly kz) (gt.r 9 kz)) + (((gt.r 15 kz) : Nat) : Int))) d_Model_worths_207 (zI_add ((lyT gt dy fw (woL gt wa iq) ly kz) (gt.r 9 kz)) (((gt.r 15 kz) : Nat) : Int)) ?_
              refine j_iast (pc := 208) C 3 rfl (ws' := [(ma 48, .inl (y 0, 224, .inl g48)), (ma 63, .inl (y 0, 9, .inl g63)), (ma 45, .inl (y 0, 14, .inl g45)), (ma 62, .inl (y 0, 63, .inl (upd (upd mz (47 + kz) (nI (((seT gt dy fw se kz) kz) + 1))) (41 + (gt.r 9 kz)) (zI (((lyT gt dy fw (woL gt wa iq) ly kz) (gt.r 9 kz)) + (((gt.r 15 kz) : Nat) : Int)))))), MB mo ma (nI t1) i2 i3 i4 i5 i6 i7 i8 i42 i49 i51 i53 i54 i59 i61 i64 i66 (nI t67) i76 i78, (ma 43, .inl (y 0, 8, .inl g43))]) (vp_in_nI (by omega) (by decide)) (by rw [nI_clamp (by omega)]; rfl) d_Model_worths_208 ?_
              have xh303 : NW (upd (upd mz (47 + kz) (nI (((seT gt dy fw se kz) kz) + 1))) (41 + (gt.r 9 kz)) (zI (((lyT gt dy fw (woL gt wa iq) ly kz) (gt.r 9 kz)) + (((gt.r 15 kz) : Nat) : Int)))) 0 dy wa la bd fl st wo (upZ (lyT gt dy fw (woL gt wa iq) ly kz) (gt.r 9 kz) (((lyT gt dy fw (woL gt wa iq) ly kz) (gt.r 9 kz)) + (((gt.r 15 kz) : Nat) : Int))) (upN (seT gt dy fw se kz) kz (((seT gt dy fw se kz) kz) + 1)) su := nu_ly (k := (gt.r 9 kz)) xh301 (by omega)
              refine j_iinc (pc := 209) C (v := nI (kz + 1)) (lv' := [(3, .int (nI (kz + 1))), (4, .int (nI (112 + (7 * kz)))), (2, .int (nI lo)), (0, .ref mo), (1, .int (nI iq))]) d_Model_worths_209 1 rfl (nI_add _ _) (by decide) rfl ?_
              refine j_goto (pc := 212) C (tgt := 71) d_Model_worths_212 (by decide) ?_
              refine j_locs (lv' := [(3, .int (nI (kz + 1))), (2, .int (nI lo)), (0, .ref mo), (1, .int (nI iq))]) [0, 2, 3, 4] rfl ?_
              exact ih281 ((kz + 1), (upd (upd mz (47 + kz) (nI (((seT gt dy fw se kz) kz) + 1))) (41 + (gt.r 9 kz)) (zI (((lyT gt dy fw (woL gt wa iq) ly kz) (gt.r 9 kz)) + (((gt.r 15 kz) : Nat) : Int))))) ⟨(show (kz + 1) ≤ gt.s 10 by omega), (nw_e xh303 (fun _ _ => rfl) (fun _ _ => rfl) (fun _ _ => rfl) (fun _ _ => rfl) (fun j _ => ly_y ⟨xh293, xh299⟩ j) (fun j _ => se_y ⟨xh293, xh299⟩ j) (fun _ _ => rfl))⟩ (show gt.s 10 - (kz + 1) < gt.s 10 - kz by omega)
            · refine j_if_neF (pc := 162) C (tgt := 168) d_Model_worths_162 (by decide) (by decide) ?_
              refine j_goto (pc := 165) C (tgt := 209) d_Model_worths_165 (by decide) ?_
              refine j_iinc (pc := 209) C (v := nI (kz + 1)) (lv' := [(3, .int (nI (kz + 1))), (4, .int (nI (112 + (7 * kz)))), (2, .int (nI lo)), (0, .ref mo), (1, .int (nI iq))]) d_Model_worths_209 1 rfl (nI_add _ _) (by decide) rfl ?_
              refine j_goto (pc := 212) C (tgt := 71) d_Model_worths_212 (by decide) ?_
              refine j_locs (lv' := [(3, .int (nI (kz + 1))), (2, .int (nI lo)), (0, .ref mo), (1, .int (nI iq))]) [0, 2, 3, 4] rfl ?_
              exact ih281 ((kz + 1), mz) ⟨(show (kz + 1) ≤ gt.s 10 by omega), (nw_e h2_ (fun _ _ => rfl) (fun _ _ => rfl) (fun _ _ => rfl) (fun _ _ => rfl) (fun j _ => ly_n (fun q => xh300 q.2) j) (fun j _ => se_n (fun q => xh300 q.2) j) (fun _ _ => rfl))⟩ (show gt.s 10 - (kz + 1) < gt.s 10 - kz by omega)
          · refine j_if_eqT (pc := 121) C (tgt := 209) d_Model_worths_121 (by decide) (by decide) ?_
            refine j_iinc (pc := 209) C (v := nI (kz + 1)) (lv' := [(3, .int (nI (kz + 1))), (4, .int (nI (112 + (7 * kz)))), (2, .int (nI lo)), (0, .ref mo), (1, .int (nI iq))]) d_Model_worths_209 1 rfl (nI_add _ _) (by decide) rfl ?_
            refine j_goto (pc := 212) C (tgt := 71) d_Model_worths_212 (by decide) ?_
            refine j_locs (lv' := [(3, .int (nI (kz + 1))), (2, .int (nI lo)), (0, .ref mo), (1, .int (nI iq))]) [0, 2, 3, 4] rfl ?_
            exact ih281 ((kz + 1), mz) ⟨(show (kz + 1) ≤ gt.s 10 by omega), (nw_e h2_ (fun _ _ => rfl) (fun _ _ => rfl) (fun _ _ => rfl) (fun _ _ => rfl) (fun j _ => ly_n (fun q => xh294 q.1) j) (fun j _ => se_n (fun q => xh294 q.1) j) (fun _ _ => rfl))⟩ (show gt.s 10 - (kz + 1) < gt.s 10 - kz by omega)
      · refine j_icmp_geF (pc := 49) C (tgt := 69) d_Model_worths_49 (by decide) (show ¬ nI (gt.s 4) ≤ nI iz from nI_ge (by omega) (by omega)) ?_
        refine j_aload_n (pc := 52) C d_Model_worths_52 rfl 2 rfl ?_
        refine j_get (pc := 53) C gf_Model_158 4 rfl rfl d_Model_worths_53 ?_
        refine j_bipush (pc := 56) C (v := 41) d_Model_worths_56 (by decide) ?_
        refine j_iload_n (pc := 58) C d_Model_worths_58 rfl 0 rfl ?_
        refine j_iadd (pc := 59) C (v := nI (41 + iz)) d_Model_worths_59 (nI_add _ _) ?_
        refine j_iload_n (pc := 60) C d_Model_worths_60 rfl 1 rfl ?_
        refine j_ineg (pc := 61) C (v := zI (-((lo : Nat) : Int))) d_Model_worths_61 (zI_neg ((lo : Nat) : Int)) ?_
        refine j_iast (pc := 62) C 3 rfl (ws' := [(ma 48, .inl (y 0, 224, .inl g48)), (ma 63, .inl (y 0, 9, .inl g63)), (ma 45, .inl (y 0, 14, .inl g45)), (ma 62, .inl (y 0, 63, .inl (upd nz (41 + iz) (zI (-((lo : Nat) : Int)))))), MB mo ma (nI t1) i2 i3 i4 i5 i6 i7 i8 i42 i49 i51 i53 i54 i59 i61 i64 i66 (nI t67) i76 i78, (ma 43, .inl (y 0, 8, .inl g43))]) (vp_in_nI (by omega) (by decide)) (by rw [nI_clamp (by omega)]; rfl) d_Model_worths_62 ?_
        have xh304 : NW (upd nz (41 + iz) (zI (-((lo : Nat) : Int)))) 0 dy wa la bd fl st wo (upZ (laT iz (-((lo : Nat) : Int)) ly) iz (-((lo : Nat) : Int))) se su := nu_ly (k := iz) h1_ (by omega)
        refine j_iinc (pc := 63) C (v := nI (iz + 1)) (lv' := [(3, .int (nI (iz + 1))), (2, .int (nI lo)), (0, .ref mo), (1, .int (nI iq))]) d_Model_worths_63 0 rfl (nI_add _ _) (by decide) rfl ?_
        refine j_goto (pc := 66) C (tgt := 44) d_Model_worths_66 (by decide) ?_
        refine j_sub (ws' := [(ma 43, .inl (y 0, 8, .inl g43)), (ma 48, .inl (y 0, 224, .inl g48)), (ma 63, .inl (y 0, 9, .inl g63)), MB mo ma (nI t1) i2 i3 i4 i5 i6 i7 i8 i42 i49 i51 i53 i54 i59 i61 i64 i66 (nI t67) i76 i78, (ma 45, .inl (y 0, 14, .inl g45)), (ma 62, .inl (y 0, 63, .inl (upd nz (41 + iz) (zI (-((lo : Nat) : Int))))))]) [5, 0, 1, 4, 2, 3] rfl (by decide +kernel) ?_
        exact ih255 ((iz + 1), (upd nz (41 + iz) (zI (-((lo : Nat) : Int))))) ⟨(show (iz + 1) ≤ gt.s 4 by omega), (nw_e xh304 (fun _ _ => rfl) (fun _ _ => rfl) (fun _ _ => rfl) (fun _ _ => rfl) (fun j _ => la_up j) (fun _ _ => rfl) (fun _ _ => rfl))⟩ (show gt.s 4 - (iz + 1) < gt.s 4 - iz by omega)
    · refine j_if_eqF (pc := 26) C (tgt := 39) d_Model_worths_26 (by decide) (show ¬ nI iq = nI 0 from fun e => absurd ((nI_eq (by omega) (by omega)).mp e) (by omega)) ?_
      refine j_aload_n (pc := 29) C d_Model_worths_29 rfl 0 rfl ?_
      refine j_get (pc := 30) C gf_Model_124 3 rfl rfl d_Model_worths_30 ?_
      refine j_bipush (pc := 33) C (v := 13) d_Model_worths_33 (by decide) ?_
      refine j_iald (pc := 35) C 4 rfl (v := nI (gt.s 8)) (vin (by decide)) (hs_lake.2.2.2.2.2.2) d_Model_worths_35 ?_
      refine j_goto (pc := 36) C (tgt := 40) d_Model_worths_36 (by decide) ?_
      refine j_iadd (pc := 40) C (v := nI ((gt.s 6) + (gt.s 8))) d_Model_worths_40 (nI_add _ _) ?_
      have hlo0 : gt.s 6 + gt.s 8 = woL gt wa iq := wo_t (Or.inl ⟨Nat.not_le.mp c2, rfl⟩) (Or.inl ⟨by omega, rfl⟩)
      obtain ⟨lo, hlx⟩ : ∃ q, q = gt.s 6 + gt.s 8 := ⟨_, rfl⟩
      have hlo : lo = woL gt wa iq := hlx.trans hlo0
      refine j_st (st' := [.int (nI lo)]) (by rw [show nI ((gt.s 6) + (gt.s 8)) = nI lo from (show nI ((gt.s 6) + (gt.s 8)) = nI lo by rw [hlx]; first | done | rfl)]) ?_
      have hlob : lo ≤ 198 := by omega
      clear hlo0
      refine j_istore_n (pc := 41) C (lv' := [(2, .int (nI lo)), (0, .ref mo), (1, .int (nI iq))]) d_Model_worths_41 rfl (by decide) rfl ?_
      refine j_iconst (pc := 42) C (v := 0) d_Model_worths_42 (by decide) ?_
      refine j_istore_n (pc := 43) C (lv' := [(3, .int 0), (2, .int (nI lo)), (0, .ref mo), (1, .int (nI iq))]) d_Model_worths_43 rfl (by decide) rfl ?_
      refine j_loop (α := Nat × (Nat → Int32)) (fun a => gt.s 4 - a.1) (fun a => (a.1 ≤ gt.s 4) ∧ (NW a.2 0 dy wa la bd fl st wo (laT a.1 (-((lo : Nat) : Int)) ly) se su)) (fun a => [(ma 43, .inl (y 0, 8, .inl g43)), (ma 48, .inl (y 0, 224, .inl g48)), (ma 63, .inl (y 0, 9, .inl g63)), MB mo ma (nI t1) i2 i3 i4 i5 i6 i7 i8 i42 i49 i51 i53 i54 i59 i61 i64 i66 (nI t67) i76 i78, (ma 45, .inl (y 0, 14, .inl g45)), (ma 62, .inl (y 0, 63, .inl a.2))]) (fun a => [(3, .int (nI a.1)), (2, .int (nI lo)), (0, .ref mo), (1, .int (nI iq))]) (0, g62) rfl rfl ⟨(show 0 ≤ gt.s 4 by omega), (nw_e hnw (fun _ _ => rfl) (fun _ _ => rfl) (fun _ _ => rfl) (fun _ _ => rfl) (fun j _ => la_0.symm) (fun _ _ => rfl) (fun _ _ => rfl))⟩ ?_
      rintro ⟨iz, nz⟩ hP354 ih355
      obtain ⟨hi__, h1__⟩ := hP354
      have hi_ : iz ≤ gt.s 4 := hi__
      have h1_ : NW nz 0 dy wa la bd fl st wo (laT iz (-((lo : Nat) : Int)) ly) se su := h1__
      refine j_ws (ws' := [(ma 43, .inl (y 0, 8, .inl g43)), (ma 48, .inl (y 0, 224, .inl g48)), (ma 63, .inl (y 0, 9, .inl g63)), MB mo ma (nI t1) i2 i3 i4 i5 i6 i7 i8 i42 i49 i51 i53 i54 i59 i61 i64 i66 (nI t67) i76 i78, (ma 45, .inl (y 0, 14, .inl g45)), (ma 62, .inl (y 0, 63, .inl nz))]) rfl ?_
      refine j_lv (lv' := [(3, .int (nI iz)), (2, .int (nI lo)), (0, .ref mo), (1, .int (nI iq))]) rfl ?_
      refine j_iload_n (pc := 44) C d_Model_worths_44 rfl 0 rfl ?_
      refine j_aload_n (pc := 45) C d_Model_worths_45 rfl 2 rfl ?_
      refine j_callVi (pc := 46) C (c_mvillages l D y mo ma t1 i2 i3 i4 i5 i6 i7 i8 i42 i49 i51 i53 i54 i59 i61 i64 i66 t67 i76 i78 g43 gt hs_many) kw_Model_448 kv_Model_villages 0 10 rfl rfl ⟨by decide, by decide⟩ ⟨by decide, by decide⟩ (wr := [(ma 48, .inl (y 0, 224, .inl g48)), (ma 63, .inl (y 0, 9, .inl g63)), (ma 45, .inl (y 0, 14, .inl g45)), (ma 62, .inl (y 0, 63, .inl nz))]) [3, 0] [1, 2, 4, 5] rfl rfl (by decide +kernel) (by decide +kernel) (by decide +kernel) (As := []) (rest := [.int (nI iz)]) rfl (nb rfl) rfl d_Model_worths_46 (fun r356 _ hr356 => ?_)
      obtain rfl := hr356
      refine j_ws (ws' := [(ma 48, .inl (y 0, 224, .inl g48)), (ma 63, .inl (y 0, 9, .inl g63)), (ma 45, .inl (y 0, 14, .inl g45)), (ma 62, .inl (y 0, 63, .inl nz)), MB mo ma (nI t1) i2 i3 i4 i5 i6 i7 i8 i42 i49 i51 i53 i54 i59 i61 i64 i66 (nI t67) i76 i78, (ma 43, .inl (y 0, 8, .inl g43))]) rfl ?_
      by_cases c357 : (gt.s 4) ≤ iz
      · refine j_icmp_geT (pc := 49) C (tgt := 69) d_Model_worths_49 (by decide) (show nI (gt.s 4) ≤ nI iz from nI_le (by omega) (by omega)) ?_
        refine j_iconst (pc := 69) C (v := 0) d_Model_worths_69 (by decide) ?_
        refine j_istore_n (pc := 70) C (lv' := [(3, .int 0), (2, .int (nI lo)), (0, .ref mo), (1, .int (nI iq))]) d_Model_worths_70 rfl (by decide) rfl ?_
        refine j_loop (α := Nat × (Nat → Int32)) (fun a => gt.s 10 - a.1) (fun a => (a.1 ≤ gt.s 10) ∧ (NW a.2 0 dy wa la bd fl st wo (lyT gt dy fw (woL gt wa iq) ly a.1) (seT gt dy fw se a.1) su)) (fun a => [(ma 48, .inl (y 0, 224, .inl g48)), (ma 63, .inl (y 0, 9, .inl g63)), (ma 45, .inl (y 0, 14, .inl g45)), (ma 62, .inl (y 0, 63, .inl a.2)), MB mo ma (nI t1) i2 i3 i4 i5 i6 i7 i8 i42 i49 i51 i53 i54 i59 i61 i64 i66 (nI t67) i76 i78, (ma 43, .inl (y 0, 8, .inl g43))]) (fun a => [(3, .int (nI a.1)), (2, .int (nI lo)), (0, .ref mo), (1, .int (nI iq))]) (0, nz) rfl rfl ⟨(show 0 ≤ gt.s 10 by omega), (nw_e h1_ (fun _ _ => rfl) (fun _ _ => rfl) (fun _ _ => rfl) (fun _ _ => rfl) (fun j _ => by rw [show iz = gt.s 4 by omega, hlo]; exact ly_0 j) (fun j _ => se_0.symm) (fun _ _ => rfl))⟩ ?_
        rintro ⟨kz, mz⟩ hP380 ih381
        obtain ⟨hk__, h2__⟩ := hP380
        have hk_ : kz ≤ gt.s 10 := hk__
        have h2_ : NW mz 0 dy wa la bd fl st wo (lyT gt dy fw (woL gt wa iq) ly kz) (seT gt dy fw se kz) su := h2__
        refine j_ws (ws' := [(ma 48, .inl (y 0, 224, .inl g48)), (ma 63, .inl (y 0, 9, .inl g63)), (ma 45, .inl (y 0, 14, .inl g45)), (ma 62, .inl (y 0, 63, .inl mz)), MB mo ma (nI t1) i2 i3 i4 i5 i6 i7 i8 i42 i49 i51 i53 i54 i59 i61 i64 i66 (nI t67) i76 i78, (ma 43, .inl (y 0, 8, .inl g43))]) rfl ?_
        refine j_lv (lv' := [(3, .int (nI kz)), (2, .int (nI lo)), (0, .ref mo), (1, .int (nI iq))]) rfl ?_
        refine j_iload_n (pc := 71) C d_Model_worths_71 rfl 0 rfl ?_
        refine j_aload_n (pc := 72) C d_Model_worths_72 rfl 2 rfl ?_
        refine j_get (pc := 73) C gf_Model_117 4 rfl rfl d_Model_worths_73 ?_
        refine j_bipush (pc := 76) C (v := 6) d_Model_worths_76 (by decide) ?_
        refine j_iald (pc := 78) C 5 rfl (v := nI (gt.s 10)) (vin (by decide)) (hs_many.2.2.1) d_Model_worths_78 ?_
        by_cases c382 : (gt.s 10) ≤ kz
        · refine j_icmp_geT (pc := 79) C (tgt := 215) d_Model_worths_79 (by decide) (show nI (gt.s 10) ≤ nI kz from nI_le (by omega) (by omega)) ?_
          refine j_iconst (pc := 215) C (v := 0) d_Model_worths_215 (by decide) ?_
          refine j_istore_n (pc := 216) C (lv' := [(3, .int 0), (2, .int (nI lo)), (0, .ref mo), (1, .int (nI iq))]) d_Model_worths_216 rfl (by decide) rfl ?_
          refine j_loop (α := Nat × (Nat → Int32)) (fun a => gt.s 4 - a.1) (fun a => (a.1 ≤ gt.s 4) ∧ (NW a.2 0 dy wa la bd fl st (woT a.1 wo (lyT gt dy fw (woL gt wa iq) ly (gt.s 10))) (lyT gt dy fw (woL gt wa iq) ly (gt.s 10)) (seT gt dy fw se (gt.s 10)) su)) (fun a => [(ma 48, .inl (y 0, 224, .inl g48)), (ma 63, .inl (y 0, 9, .inl g63)), (ma 45, .inl (y 0, 14, .inl g45)), (ma 62, .inl (y 0, 63, .inl a.2)), MB mo ma (nI t1) i2 i3 i4 i5 i6 i7 i8 i42 i49 i51 i53 i54 i59 i61 i64 i66 (nI t67) i76 i78, (ma 43, .inl (y 0, 8, .inl g43))]) (fun a => [(3, .int (nI a.1)), (2, .int (nI lo)), (0, .ref mo), (1, .int (nI iq))]) (0, mz) rfl rfl ⟨(show 0 ≤ gt.s 4 by omega), (nw_e (show NW mz 0 dy wa la bd fl st wo (lyT gt dy fw (woL gt wa iq) ly (gt.s 10)) (seT gt dy fw se (gt.s 10)) su by rw [show gt.s 10 = kz by omega]; exact h2_) (fun _ _ => rfl) (fun _ _ => rfl) (fun _ _ => rfl) (fun j _ => wo_0.symm) (fun _ _ => rfl) (fun _ _ => rfl) (fun _ _ => rfl))⟩ ?_
          rintro ⟨jz, oz⟩ hP386 ih387
          obtain ⟨hj__, h3__⟩ := hP386
          have hj_ : jz ≤ gt.s 4 := hj__
          have h3_ : NW oz 0 dy wa la bd fl st (woT jz wo (lyT gt dy fw (woL gt wa iq) ly (gt.s 10))) (lyT gt dy fw (woL gt wa iq) ly (gt.s 10)) (seT gt dy fw se (gt.s 10)) su := h3__
          refine j_ws (ws' := [(ma 48, .inl (y 0, 224, .inl g48)), (ma 63, .inl (y 0, 9, .inl g63)), (ma 45, .inl (y 0, 14, .inl g45)), (ma 62, .inl (y 0, 63, .inl oz)), MB mo ma (nI t1) i2 i3 i4 i5 i6 i7 i8 i42 i49 i51 i53 i54 i59 i61 i64 i66 (nI t67) i76 i78, (ma 43, .inl (y 0, 8, .inl g43))]) rfl ?_
          refine j_lv (lv' := [(3, .int (nI jz)), (2, .int (nI lo)), (0, .ref mo), (1, .int (nI iq))]) rfl ?_
          refine j_iload_n (pc := 217) C d_Model_worths_217 rfl 0 rfl ?_
          refine j_aload_n (pc := 218) C d_Model_worths_218 rfl 2 rfl ?_
          refine j_callVi (pc := 219) C (c_mvillages l D y mo ma t1 i2 i3 i4 i5 i6 i7 i8 i42 i49 i51 i53 i54 i59 i61 i64 i66 t67 i76 i78 g43 gt hs_many) kw_Model_448 kv_Model_villages 0 10 rfl rfl ⟨by decide, by decide⟩ ⟨by decide, by decide⟩ (wr := [(ma 48, .inl (y 0, 224, .inl g48)), (ma 63, .inl (y 0, 9, .inl g63)), (ma 45, .inl (y 0, 14, .inl g45)), (ma 62, .inl (y 0, 63, .inl oz))]) [4, 5] [0, 1, 2, 3] rfl rfl (by decide +kernel) (by decide +kernel) (by decide +kernel) (As := []) (rest := [.int (nI jz)]) rfl (nb rfl) rfl d_Model_worths_219 (fun r388 _ hr388 => ?_)
          obtain rfl := hr388
          refine j_ws (ws' := [(ma 48, .inl (y 0, 224, .inl g48)), (ma 63, .inl (y 0, 9, .inl g63)), (ma 45, .inl (y 0, 14, .inl g45)), (ma 62, .inl (y 0, 63, .inl oz)), MB mo ma (nI t1) i2 i3 i4 i5 i6 i7 i8 i42 i49 i51 i53 i54 i59 i61 i64 i66 (nI t67) i76 i78, (ma 43, .inl (y 0, 8, .inl g43))]) rfl ?_
          by_cases c389 : (gt.s 4) ≤ jz
          · refine j_icmp_geT (pc := 222) C (tgt := 252) d_Model_worths_222 (by decide) (show nI (gt.s 4) ≤ nI jz from nI_le (by omega) (by omega)) ?_
            obtain rfl : jz = gt.s 4 := by omega
            exact j_vret (pc := 252) C hr oz h3_ [4, 5, 2, 0, 3, 1] rfl (by decide) (by decide) (by decide) d_Model_worths_252
          · refine j_icmp_geF (pc := 222) C (tgt := 252) d_Model_worths_222 (by decide) (show ¬ nI (gt.s 4) ≤ nI jz from nI_ge (by omega) (by omega)) ?_
            refine j_aload_n (pc := 225) C d_Model_worths_225 rfl 2 rfl ?_
            refine j_get (pc := 226) C gf_Model_158 4 rfl rfl d_Model_worths_226 ?_
            refine j_bipush (pc := 229) C (v := 35) d_Model_worths_229 (by decide) ?_
            refine j_iload_n (pc := 231) C d_Model_worths_231 rfl 0 rfl ?_
            refine j_iadd (pc := 232) C (v := nI (35 + jz)) d_Model_worths_232 (nI_add _ _) ?_
            refine j_dup2 (pc := 233) C d_Model_worths_233 rfl rfl ?_
            refine j_iald (pc := 234) C 3 rfl (v := zI ((woT jz wo (lyT gt dy fw (woL gt wa iq) ly (gt.s 10))) jz)) (vp_in_nI (by omega) (by decide)) (by rw [nI_clamp (by omega)]; exact (nw_wo h3_ jz (by omega))) d_Model_worths_234 ?_
            refine j_aload_n (pc := 235) C d_Model_worths_235 rfl 2 rfl ?_
            refine j_get (pc := 236) C gf_Model_158 4 rfl rfl d_Model_worths_236 ?_
            refine j_bipush (pc := 239) C (v := 41) d_Model_worths_239 (by decide) ?_
            refine j_iload_n (pc := 241) C d_Model_worths_241 rfl 0 rfl ?_
            refine j_iadd (pc := 242) C (v := nI (41 + jz)) d_Model_worths_242 (nI_add _ _) ?_
            refine j_iald (pc := 243) C 3 rfl (v := zI ((lyT gt dy fw (woL gt wa iq) ly (gt.s 10)) jz)) (vp_in_nI (by omega) (by decide)) (by rw [nI_clamp (by omega)]; exact (nw_ly h3_ jz (by omega))) d_Model_worths_243 ?_
            refine j_iadd (pc := 244) C (v := zI (((woT jz wo (lyT gt dy fw (woL gt wa iq) ly (gt.s 10))) jz) + ((lyT gt dy fw (woL gt wa iq) ly (gt.s 10)) jz))) d_Model_worths_244 (zI_add ((woT jz wo (lyT gt dy fw (woL gt wa iq) ly (gt.s 10))) jz) ((lyT gt dy fw (woL gt wa iq) ly (gt.s 10)) jz)) ?_
            refine j_iast (pc := 245) C 3 rfl (ws' := [(ma 48, .inl (y 0, 224, .inl g48)), (ma 63, .inl (y 0, 9, .inl g63)), (ma 45, .inl (y 0, 14, .inl g45)), (ma 62, .inl (y 0, 63, .inl (upd oz (35 + jz) (zI (((woT jz wo (lyT gt dy fw (woL gt wa iq) ly (gt.s 10))) jz) + ((lyT gt dy fw (woL gt wa iq) ly (gt.s 10)) jz)))))), MB mo ma (nI t1) i2 i3 i4 i5 i6 i7 i8 i42 i49 i51 i53 i54 i59 i61 i64 i66 (nI t67) i76 i78, (ma 43, .inl (y 0, 8, .inl g43))]) (vp_in_nI (by omega) (by decide)) (by rw [nI_clamp (by omega)]; rfl) d_Model_worths_245 ?_
            have xh390 : NW (upd oz (35 + jz) (zI (((woT jz wo (lyT gt dy fw (woL gt wa iq) ly (gt.s 10))) jz) + ((lyT gt dy fw (woL gt wa iq) ly (gt.s 10)) jz)))) 0 dy wa la bd fl st (upZ (woT jz wo (lyT gt dy fw (woL gt wa iq) ly (gt.s 10))) jz (((woT jz wo (lyT gt dy fw (woL gt wa iq) ly (gt.s 10))) jz) + ((lyT gt dy fw (woL gt wa iq) ly (gt.s 10)) jz))) (lyT gt dy fw (woL gt wa iq) ly (gt.s 10)) (seT gt dy fw se (gt.s 10)) su := nu_wo (k := jz) h3_ (by omega)
            refine j_iinc (pc := 246) C (v := nI (jz + 1)) (lv' := [(3, .int (nI (jz + 1))), (2, .int (nI lo)), (0, .ref mo), (1, .int (nI iq))]) d_Model_worths_246 0 rfl (nI_add _ _) (by decide) rfl ?_
            refine j_goto (pc := 249) C (tgt := 217) d_Model_worths_249 (by decide) ?_
            exact ih387 ((jz + 1), (upd oz (35 + jz) (zI (((woT jz wo (lyT gt dy fw (woL gt wa iq) ly (gt.s 10))) jz) + ((lyT gt dy fw (woL gt wa iq) ly (gt.s 10)) jz))))) ⟨(show (jz + 1) ≤ gt.s 4 by omega), (nw_e xh390 (fun _ _ => rfl) (fun _ _ => rfl) (fun _ _ => rfl) (fun j _ => wo_up j) (fun _ _ => rfl) (fun _ _ => rfl) (fun _ _ => rfl))⟩ (show gt.s 4 - (jz + 1) < gt.s 4 - jz by omega)
        · refine j_icmp_geF (pc := 79) C (tgt := 215) d_Model_worths_79 (by decide) (show ¬ nI (gt.s 10) ≤ nI kz from nI_ge (by omega) (by omega)) ?_
          obtain ⟨v11, v12, v13, v14, v15⟩ := to_t hto kz (by omega)
          refine j_bipush (pc := 82) C (v := 112) d_Model_worths_82 (by decide) ?_
          refine j_bipush (pc := 84) C (v := 7) d_Model_worths_84 (by decide) ?_
          refine j_iload_n (pc := 86) C d_Model_worths_86 rfl 0 rfl ?_
          refine j_imul (pc := 87) C (v := nI (7 * kz)) d_Model_worths_87 (pk_mul _ _) ?_
          refine j_iadd (pc := 88) C (v := nI (112 + (7 * kz))) d_Model_worths_88 (nI_add _ _) ?_
          refine j_istore (pc := 89) C (lv' := [(4, .int (nI (112 + (7 * kz)))), (3, .int (nI kz)), (2, .int (nI lo)), (0, .ref mo), (1, .int (nI iq))]) d_Model_worths_89 (by decide) rfl ?_
          refine j_aload_n (pc := 91) C d_Model_worths_91 rfl 3 rfl ?_
          refine j_get (pc := 92) C gf_Model_158 4 rfl rfl d_Model_worths_92 ?_
          refine j_iconst (pc := 95) C (v := 0) d_Model_worths_95 (by decide) ?_
          refine j_iald (pc := 96) C 3 rfl (v := nI dy) (vin (by decide)) (nw_dy h2_) d_Model_worths_96 ?_
          refine j_i2l (pc := 97) C (v := nL dy) d_Model_worths_97 (nId_L (by omega)) ?_
          refine j_aload_n (pc := 98) C d_Model_worths_98 rfl 3 rfl ?_
          refine j_get (pc := 99) C gf_Model_133 4 rfl rfl d_Model_worths_99 ?_
          refine j_iload (pc := 102) C d_Model_worths_102 0 rfl ?_
          refine j_iconst (pc := 104) C (v := 4) d_Model_worths_104 (by decide) ?_
          refine j_iadd (pc := 105) C (v := nI ((112 + (7 * kz)) + 4)) d_Model_worths_105 (nI_add _ _) ?_
          refine j_iald (pc := 106) C 0 rfl (v := nI (gt.r 13 kz)) (vp_in_nI (by omega) (by decide)) (by rw [nI_clamp (by omega)]; exact (th_ix4 (G := g48) (j := kz)).trans (hs_things kz (by omega)).2.2.2.2.1) d_Model_worths_106 ?_
          refine j_i2l (pc := 107) C (v := nL (gt.r 13 kz)) d_Model_worths_107 (nId_L (by omega)) ?_
          refine j_aload_n (pc := 108) C d_Model_worths_108 rfl 3 rfl ?_
          refine j_get (pc := 109) C gf_Model_133 4 rfl rfl d_Model_worths_109 ?_
          refine j_iload (pc := 112) C d_Model_worths_112 0 rfl ?_
          refine j_iconst (pc := 114) C (v := 5) d_Model_worths_114 (by decide) ?_
          refine j_iadd (pc := 115) C (v := nI ((112 + (7 * kz)) + 5)) d_Model_worths_115 (nI_add _ _) ?_
          refine j_iald (pc := 116) C 0 rfl (v := nI (gt.r 14 kz)) (vp_in_nI (by omega) (by decide)) (by rw [nI_clamp (by omega)]; exact (th_ix5 (G := g48) (j := kz)).trans (hs_things kz (by omega)).2.2.2.2.2.1) d_Model_worths_116 ?_
          refine j_i2l (pc := 117) C (v := nL (gt.r 14 kz)) d_Model_worths_117 (nId_L (by omega)) ?_
          refine j_callSi (pc := 118) C (c_misInN l D y dy (gt.r 13 kz) (gt.r 14 kz) (by omega) (by omega) (by omega)) kw_Model_240 ks_Model_isIn ⟨by decide, by decide⟩ ⟨by decide, by decide⟩ (wr := [(ma 48, .inl (y 0, 224, .inl g48)), (ma 63, .inl (y 0, 9, .inl g63)), (ma 45, .inl (y 0, 14, .inl g45)), (ma 62, .inl (y 0, 63, .inl mz)), MB mo ma (nI t1) i2 i3 i4 i5 i6 i7 i8 i42 i49 i51 i53 i54 i59 i61 i64 i66 (nI t67) i76 i78, (ma 43, .inl (y 0, 8, .inl g43))]) [] [0, 1, 2, 3, 4, 5] rfl rfl (by decide +kernel) (by decide +kernel) (by decide +kernel) (As := [.long (nL dy), .long (nL (gt.r 13 kz)), .long (nL (gt.r 14 kz))]) (rest := []) rfl (nb rfl) rfl d_Model_worths_118 (fun r391 _ hr391 => ?_)
          refine j_ws (ws' := [(ma 48, .inl (y 0, 224, .inl g48)), (ma 63, .inl (y 0, 9, .inl g63)), (ma 45, .inl (y 0, 14, .inl g45)), (ma 62, .inl (y 0, 63, .inl mz)), MB mo ma (nI t1) i2 i3 i4 i5 i6 i7 i8 i42 i49 i51 i53 i54 i59 i61 i64 i66 (nI t67) i76 i78, (ma 43, .inl (y 0, 8, .inl g43))]) rfl ?_
          rcases hr391 with ⟨rfl, xh393⟩ | ⟨rfl, xh394⟩
          · refine j_if_eqF (pc := 121) C (tgt := 209) d_Model_worths_121 (by decide) (by decide) ?_
            refine j_aload_n (pc := 124) C d_Model_worths_124 rfl 3 rfl ?_
            refine j_get (pc := 125) C gf_Model_161 4 rfl rfl d_Model_worths_125 ?_
            refine j_aload_n (pc := 128) C d_Model_worths_128 rfl 3 rfl ?_
            refine j_get (pc := 129) C gf_Model_133 4 rfl rfl d_Model_worths_129 ?_
            refine j_iload (pc := 132) C d_Model_worths_132 0 rfl ?_
            refine j_iconst (pc := 134) C (v := 1) d_Model_worths_134 (by decide) ?_
            refine j_iadd (pc := 135) C (v := nI ((112 + (7 * kz)) + 1)) d_Model_worths_135 (nI_add _ _) ?_
            have xh395 : gt.r 10 kz < gt.s 9 := (hs_things kz (by omega)).2.2.2.2.2.2.2.2
            refine j_iald (pc := 136) C 0 rfl (v := nI (gt.r 10 kz)) (vp_in_nI (by omega) (by decide)) (by rw [nI_clamp (by omega)]; exact (th_ix1 (G := g48) (j := kz)).trans (hs_things kz (by omega)).2.1) d_Model_worths_136 ?_
            have xh396 : fw (gt.r 10 kz) ≤ 9999 := bf (gt.r 10 kz) (by omega)
            refine j_iald (pc := 137) C 1 rfl (v := nI (fw (gt.r 10 kz))) (vp_in_nI (by omega) (by decide)) (by rw [nI_clamp (by omega)]; exact (xf (gt.r 10 kz) (by omega))) d_Model_worths_137 ?_
            refine j_i2l (pc := 138) C (v := nL (fw (gt.r 10 kz))) d_Model_worths_138 (nId_L (by omega)) ?_
            refine j_aload_n (pc := 139) C d_Model_worths_139 rfl 3 rfl ?_
            refine j_get (pc := 140) C gf_Model_133 4 rfl rfl d_Model_worths_140 ?_
            refine j_iload (pc := 143) C d_Model_worths_143 0 rfl ?_
            refine j_iconst (pc := 145) C (v := 2) d_Model_worths_145 (by decide) ?_
            refine j_iadd (pc := 146) C (v := nI ((112 + (7 * kz)) + 2)) d_Model_worths_146 (nI_add _ _) ?_
            refine j_iald (pc := 147) C 0 rfl (v := nI (gt.r 11 kz)) (vp_in_nI (by omega) (by decide)) (by rw [nI_clamp (by omega)]; exact (th_ix2 (G := g48) (j := kz)).trans (hs_things kz (by omega)).2.2.1) d_Model_worths_147 ?_
            refine j_i2l (pc := 148) C (v := nL (gt.r 11 kz)) d_Model_worths_148 (nId_L (by omega)) ?_
            refine j_aload_n (pc := 149) C d_Model_worths_149 rfl 3 rfl ?_
            refine j_get (pc := 150) C gf_Model_133 4 rfl rfl d_Model_worths_150 ?_
            refine j_iload (pc := 153) C d_Model_worths_153 0 rfl ?_
            refine j_iconst (pc := 155) C (v := 3) d_Model_worths_155 (by decide) ?_
            refine j_iadd (pc := 156) C (v := nI ((112 + (7 * kz)) + 3)) d_Model_worths_156 (nI_add _ _) ?_
            refine j_iald (pc := 157) C 0 rfl (v := nI (gt.r 12 kz)) (vp_in_nI (by omega) (by decide)) (by rw [nI_clamp (by omega)]; exact (th_ix3 (G := g48) (j := kz)).trans (hs_things kz (by omega)).2.2.2.1) d_Model_worths_157 ?_
            refine j_i2l (pc := 158) C (v := nL (gt.r 12 kz)) d_Model_worths_158 (nId_L (by omega)) ?_
            refine j_callSi (pc := 159) C (c_misInN l D y (fw (gt.r 10 kz)) (gt.r 11 kz) (gt.r 12 kz) (by omega) (by omega) (by omega)) kw_Model_240 ks_Model_isIn ⟨by decide, by decide⟩ ⟨by decide, by decide⟩ (wr := [(ma 48, .inl (y 0, 224, .inl g48)), (ma 63, .inl (y 0, 9, .inl g63)), (ma 45, .inl (y 0, 14, .inl g45)), (ma 62, .inl (y 0, 63, .inl mz)), MB mo ma (nI t1) i2 i3 i4 i5 i6 i7 i8 i42 i49 i51 i53 i54 i59 i61 i64 i66 (nI t67) i76 i78, (ma 43, .inl (y 0, 8, .inl g43))]) [] [0, 1, 2, 3, 4, 5] rfl rfl (by decide +kernel) (by decide +kernel) (by decide +kernel) (As := [.long (nL (fw (gt.r 10 kz))), .long (nL (gt.r 11 kz)), .long (nL (gt.r 12 kz))]) (rest := []) rfl (nb rfl) rfl d_Model_worths_159 (fun r397 _ hr397 => ?_)
            refine j_ws (ws' := [(ma 48, .inl (y 0, 224, .inl g48)), (ma 63, .inl (y 0, 9, .inl g63)), (ma 45, .inl (y 0, 14, .inl g45)), (ma 62, .inl (y 0, 63, .inl mz)), MB mo ma (nI t1) i2 i3 i4 i5 i6 i7 i8 i42 i49 i51 i53 i54 i59 i61 i64 i66 (nI t67) i76 i78, (ma 43, .inl (y 0, 8, .inl g43))]) rfl ?_
            rcases hr397 with ⟨rfl, xh399⟩ | ⟨rfl, xh400⟩
            · refine j_if_neT (pc := 162) C (tgt := 168) d_Model_worths_162 (by decide) (by decide) ?_
              refine j_aload_n (pc := 168) C d_Model_worths_168 rfl 3 rfl ?_
              refine j_get (pc := 169) C gf_Model_158 4 rfl rfl d_Model_worths_169 ?_
              refine j_bipush (pc := 172) C (v := 47) d_Model_worths_172 (by decide) ?_
              refine j_iload_n (pc := 174) C d_Model_worths_174 rfl 1 rfl ?_
              refine j_iadd (pc := 175) C (v := nI (47 + kz)) d_Model_worths_175 (nI_add _ _) ?_
              refine j_dup2 (pc := 176) C d_Model_worths_176 rfl rfl ?_
              refine j_iald (pc := 177) C 3 rfl (v := nI ((seT gt dy fw se kz) kz)) (vp_in_nI (by omega) (by decide)) (by rw [nI_clamp (by omega)]; exact (nw_se h2_ kz (by omega))) d_Model_worths_177 ?_
              refine j_iconst (pc := 178) C (v := 1) d_Model_worths_178 (by decide) ?_
              refine j_iadd (pc := 179) C (v := nI (((seT gt dy fw se kz) kz) + 1)) d_Model_worths_179 (nI_add _ _) ?_
              refine j_iast (pc := 180) C 3 rfl (ws' := [(ma 48, .inl (y 0, 224, .inl g48)), (ma 63, .inl (y 0, 9, .inl g63)), (ma 45, .inl (y 0, 14, .inl g45)), (ma 62, .inl (y 0, 63, .inl (upd mz (47 + kz) (nI (((seT gt dy fw se kz) kz) + 1))))), MB mo ma (nI t1) i2 i3 i4 i5 i6 i7 i8 i42 i49 i51 i53 i54 i59 i61 i64 i66 (nI t67) i76 i78, (ma 43, .inl (y 0, 8, .inl g43))]) (vp_in_nI (by omega) (by decide)) (by rw [nI_clamp (by omega)]; rfl) d_Model_worths_180 ?_
              have xh401 : NW (upd mz (47 + kz) (nI (((seT gt dy fw se kz) kz) + 1))) 0 dy wa la bd fl st wo (lyT gt dy fw (woL gt wa iq) ly kz) (upN (seT gt dy fw se kz) kz (((seT gt dy fw se kz) kz) + 1)) su := nu_se (k := kz) h2_ (by omega)
              refine j_aload_n (pc := 181) C d_Model_worths_181 rfl 3 rfl ?_
              refine j_get (pc := 182) C gf_Model_158 4 rfl rfl d_Model_worths_182 ?_
              refine j_bipush (pc := 185) C (v := 41) d_Model_worths_185 (by decide) ?_
              refine j_aload_n (pc := 187) C d_Model_worths_187 rfl 3 rfl ?_
              refine j_get (pc := 188) C gf_Model_133 4 rfl rfl d_Model_worths_188 ?_
              refine j_iload (pc := 191) C d_Model_worths_191 0 rfl ?_
              have xh402 : gt.r 9 kz < gt.s 4 := (hs_things kz (by omega)).2.2.2.2.2.2.2.1
              refine j_iald (pc := 193) C 0 rfl (v := nI (gt.r 9 kz)) (vp_in_nI (by omega) (by decide)) (by rw [nI_clamp (by omega)]; exact (th_ix0 (G := g48) (j := kz)).trans (hs_things kz (by omega)).1) d_Model_worths_193 ?_
              refine j_iadd (pc := 194) C (v := nI (41 + (gt.r 9 kz))) d_Model_worths_194 (nI_add _ _) ?_
              refine j_dup2 (pc := 195) C d_Model_worths_195 rfl rfl ?_
              refine j_iald (pc := 196) C 3 rfl (v := zI ((lyT gt dy fw (woL gt wa iq) ly kz) (gt.r 9 kz))) (vp_in_nI (by omega) (by decide)) (by rw [nI_clamp (by omega)]; exact (nw_ly xh401 (gt.r 9 kz) (by omega))) d_Model_worths_196 ?_
              refine j_aload_n (pc := 197) C d_Model_worths_197 rfl 3 rfl ?_
              refine j_get (pc := 198) C gf_Model_133 4 rfl rfl d_Model_worths_198 ?_
              refine j_iload (pc := 201) C d_Model_worths_201 0 rfl ?_
              refine j_bipush (pc := 203) C (v := 6) d_Model_worths_203 (by decide) ?_
              refine j_iadd (pc := 205) C (v := nI ((112 + (7 * kz)) + 6)) d_Model_worths_205 (nI_add _ _) ?_
              refine j_iald (pc := 206) C 0 rfl (v := nI (gt.r 15 kz)) (vp_in_nI (by omega) (by decide)) (by rw [nI_clamp (by omega)]; exact (th_ix6 (G := g48) (j := kz)).trans (hs_things kz (by omega)).2.2.2.2.2.2.1) d_Model_worths_206 ?_
              refine j_iadd (pc := 207) C (v := zI (((lyT gt dy fw (woL gt wa iq) ly kz) (gt.r 9 kz)) + (((gt.r 15 kz) : Nat) : Int))) d_Model_worths_207 (zI_add ((lyT gt dy fw (woL gt wa iq) ly kz) (gt.r 9 kz)) (((gt.r 15 kz) : Nat) : Int)) ?_
              refine j_iast (pc := 208) C 3 rfl (ws' := [(ma 48, .inl (y 0, 224, .inl g48)), (ma 63, .inl (y 0, 9, .inl g63)), (ma 45, .inl (y 0, 14, .inl g45)), (ma 62, .inl (y 0, 63, .inl (upd (upd mz (47 + kz) (nI (((seT gt dy fw se kz) kz) + 1))) (41 + (gt.r 9 kz)) (zI (((lyT gt dy fw (woL gt wa iq) ly kz) (gt.r 9 kz)) + (((gt.r 15 kz) : Nat) : Int)))))), MB mo ma (nI t1) i2 i3 i4 i5 i6 i7 i8 i42 i49 i51 i53 i54 i59 i61 i64 i66 (nI t67) i76 i78, (ma 43, .inl (y 0, 8, .inl g43))]) (vp_in_nI (by omega) (by decide)) (by rw [nI_clamp (by omega)]; rfl) d_Model_worths_208 ?_
              have xh403 : NW (upd (upd mz (47 + kz) (nI (((seT gt dy fw se kz) kz) + 1))) (41 + (gt.r 9 kz)) (zI (((lyT gt dy fw (woL gt wa iq) ly kz) (gt.r 9 kz)) + (((gt.r 15 kz) : Nat) : Int)))) 0 dy wa la bd fl st wo (upZ (lyT gt dy fw (woL gt wa iq) ly kz) (gt.r 9 kz) (((lyT gt dy fw (woL gt wa iq) ly kz) (gt.r 9 kz)) + (((gt.r 15 kz) : Nat) : Int))) (upN (seT gt dy fw se kz) kz (((seT gt dy fw se kz) kz) + 1)) su := nu_ly (k := (gt.r 9 kz)) xh401 (by omega)
              refine j_iinc (pc := 209) C (v := nI (kz + 1)) (lv' := [(3, .int (nI (kz + 1))), (4, .int (nI (112 + (7 * kz)))), (2, .int (nI lo)), (0, .ref mo), (1, .int (nI iq))]) d_Model_worths_209 1 rfl (nI_add _ _) (by decide) rfl ?_
              refine j_goto (pc := 212) C (tgt := 71) d_Model_worths_212 (by decide) ?_
              refine j_locs (lv' := [(3, .int (nI (kz + 1))), (2, .int (nI lo)), (0, .ref mo), (1, .int (nI iq))]) [0, 2, 3, 4] rfl ?_
              exact ih381 ((kz + 1), (upd (upd mz (47 + kz) (nI (((seT gt dy fw se kz) kz) + 1))) (41 + (gt.r 9 kz)) (zI (((lyT gt dy fw (woL gt wa iq) ly kz) (gt.r 9 kz)) + (((gt.r 15 kz) : Nat) : Int))))) ⟨(show (kz + 1) ≤ gt.s 10 by omega), (nw_e xh403 (fun _ _ => rfl) (fun _ _ => rfl) (fun _ _ => rfl) (fun _ _ => rfl) (fun j _ => ly_y ⟨xh393, xh399⟩ j) (fun j _ => se_y ⟨xh393, xh399⟩ j) (fun _ _ => rfl))⟩ (show gt.s 10 - (kz + 1) < gt.s 10 - kz by omega)
            · refine j_if_neF (pc := 162) C (tgt := 168) d_Model_worths_162 (by decide) (by decide) ?_
              refine j_goto (pc := 165) C (tgt := 209) d_Model_worths_165 (by decide) ?_
              refine j_iinc (pc := 209) C (v := nI (kz + 1)) (lv' := [(3, .int (nI (kz + 1))), (4, .int (nI (112 + (7 * kz)))), (2, .int (nI lo)), (0, .ref mo), (1, .int (nI iq))]) d_Model_worths_209 1 rfl (nI_add _ _) (by decide) rfl ?_
              refine j_goto (pc := 212) C (tgt := 71) d_Model_worths_212 (by decide) ?_
              refine j_locs (lv' := [(3, .int (nI (kz + 1))), (2, .int (nI lo)), (0, .ref mo), (1, .int (nI iq))]) [0, 2, 3, 4] rfl ?_
              exact ih381 ((kz + 1), mz) ⟨(show (kz + 1) ≤ gt.s 10 by omega), (nw_e h2_ (fun _ _ => rfl) (fun _ _ => rfl) (fun _ _ => rfl) (fun _ _ => rfl) (fun j _ => ly_n (fun q => xh400 q.2) j) (fun j _ => se_n (fun q => xh400 q.2) j) (fun _ _ => rfl))⟩ (show gt.s 10 - (kz + 1) < gt.s 10 - kz by omega)
          · refine j_if_eqT (pc := 121) C (tgt := 209) d_Model_worths_121 (by decide) (by decide) ?_
            refine j_iinc (pc := 209) C (v := nI (kz + 1)) (lv' := [(3, .int (nI (kz + 1))), (4, .int (nI (112 + (7 * kz)))), (2, .int (nI lo)), (0, .ref mo), (1, .int (nI iq))]) d_Model_worths_209 1 rfl (nI_add _ _) (by decide) rfl ?_
            refine j_goto (pc := 212) C (tgt := 71) d_Model_worths_212 (by decide) ?_
            refine j_locs (lv' := [(3, .int (nI (kz + 1))), (2, .int (nI lo)), (0, .ref mo), (1, .int (nI iq))]) [0, 2, 3, 4] rfl ?_
            exact ih381 ((kz + 1), mz) ⟨(show (kz + 1) ≤ gt.s 10 by omega), (nw_e h2_ (fun _ _ => rfl) (fun _ _ => rfl) (fun _ _ => rfl) (fun _ _ => rfl) (fun j _ => ly_n (fun q => xh394 q.1) j) (fun j _ => se_n (fun q => xh394 q.1) j) (fun _ _ => rfl))⟩ (show gt.s 10 - (kz + 1) < gt.s 10 - kz by omega)
      · refine j_icmp_geF (pc := 49) C (tgt := 69) d_Model_worths_49 (by decide) (show ¬ nI (gt.s 4) ≤ nI iz from nI_ge (by omega) (by omega)) ?_
        refine j_aload_n (pc := 52) C d_Model_worths_52 rfl 2 rfl ?_
        refine j_get (pc := 53) C gf_Model_158 4 rfl rfl d_Model_worths_53 ?_
        refine j_bipush (pc := 56) C (v := 41) d_Model_worths_56 (by decide) ?_
        refine j_iload_n (pc := 58) C d_Model_worths_58 rfl 0 rfl ?_
        refine j_iadd (pc := 59) C (v := nI (41 + iz)) d_Model_worths_59 (nI_add _ _) ?_
        refine j_iload_n (pc := 60) C d_Model_worths_60 rfl 1 rfl ?_
        refine j_ineg (pc := 61) C (v := zI (-((lo : Nat) : Int))) d_Model_worths_61 (zI_neg ((lo : Nat) : Int)) ?_
        refine j_iast (pc := 62) C 3 rfl (ws' := [(ma 48, .inl (y 0, 224, .inl g48)), (ma 63, .inl (y 0, 9, .inl g63)), (ma 45, .inl (y 0, 14, .inl g45)), (ma 62, .inl (y 0, 63, .inl (upd nz (41 + iz) (zI (-((lo : Nat) : Int)))))), MB mo ma (nI t1) i2 i3 i4 i5 i6 i7 i8 i42 i49 i51 i53 i54 i59 i61 i64 i66 (nI t67) i76 i78, (ma 43, .inl (y 0, 8, .inl g43))]) (vp_in_nI (by omega) (by decide)) (by rw [nI_clamp (by omega)]; rfl) d_Model_worths_62 ?_
        have xh404 : NW (upd nz (41 + iz) (zI (-((lo : Nat) : Int)))) 0 dy wa la bd fl st wo (upZ (laT iz (-((lo : Nat) : Int)) ly) iz (-((lo : Nat) : Int))) se su := nu_ly (k := iz) h1_ (by omega)
        refine j_iinc (pc := 63) C (v := nI (iz + 1)) (lv' := [(3, .int (nI (iz + 1))), (2, .int (nI lo)), (0, .ref mo), (1, .int (nI iq))]) d_Model_worths_63 0 rfl (nI_add _ _) (by decide) rfl ?_
        refine j_goto (pc := 66) C (tgt := 44) d_Model_worths_66 (by decide) ?_
        refine j_sub (ws' := [(ma 43, .inl (y 0, 8, .inl g43)), (ma 48, .inl (y 0, 224, .inl g48)), (ma 63, .inl (y 0, 9, .inl g63)), MB mo ma (nI t1) i2 i3 i4 i5 i6 i7 i8 i42 i49 i51 i53 i54 i59 i61 i64 i66 (nI t67) i76 i78, (ma 45, .inl (y 0, 14, .inl g45)), (ma 62, .inl (y 0, 63, .inl (upd nz (41 + iz) (zI (-((lo : Nat) : Int))))))]) [5, 0, 1, 4, 2, 3] rfl (by decide +kernel) ?_
        exact ih355 ((iz + 1), (upd nz (41 + iz) (zI (-((lo : Nat) : Int))))) ⟨(show (iz + 1) ≤ gt.s 4 by omega), (nw_e xh404 (fun _ _ => rfl) (fun _ _ => rfl) (fun _ _ => rfl) (fun _ _ => rfl) (fun j _ => la_up j) (fun _ _ => rfl) (fun _ _ => rfl))⟩ (show gt.s 4 - (iz + 1) < gt.s 4 - iz by omega)
