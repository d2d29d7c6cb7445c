set_option maxHeartbeats 4000000 in
set_option maxRecDepth 100000 in
theorem c_M_feed_x (l : Launch) (D : va_G) (y : Nat → ClassId) (mo : Nat) (ma : Nat → Nat) (t1 : Nat) (i2 : Int32) (i3 : Int32) (i4 : Int32) (i5 : Int32) (i6 : Int32) (i7 : Int32) (i8 : Int32) (i42 : Int32) (i49 : Int32) (i51 : Int32) (i53 : Int32) (i54 : Int32) (i59 : Int32) (i61 : Int32) (i64 : Int32) (i66 : Int32) (t67 : Nat) (i76 : Int64) (i78 : Int32) (tx : Nat → Nat) (v1 : Int32) (v2 : Int32) (v3 : Int32) (v4 : Int32) (v5 : Int32) (bt : t1 ≤ 1600) : CT l D y ⟨"NineBoardsModel", "feed", "(IIIII)I"⟩ prog_13_method_3_code 8 (some .int) ({ frames := 0, cells := 0, slots := 0, locals := 0 } : Room) [.ref mo, .int v1, .int v2, .int v3, .int v4, .int v5] [MB mo ma (nI t1) i2 i3 i4 i5 i6 i7 i8 i42 i49 i51 i53 i54 i59 i61 i64 i66 (nI t67) i76 i78, (ma 0, .inl (y 0, 1600, .inl (tby tx)))] (QI D [MB mo ma (nI t1) i2 i3 i4 i5 i6 i7 i8 i42 i49 i51 i53 i54 i59 i61 i64 i66 (nI t67) i76 i78, (ma 0, .inl (y 0, 1600, .inl (tby tx)))] (fun (r : Int32) (u : Nat × (Nat → Int32)) => u.1 ≤ 1600 ∧ ((r = -1 ∧ u.1 = t1 ∧ ¬ t1 + 20 ≤ 1600) ∨ (r = nI (t1 + 20) ∧ u.1 = t1 + 20 ∧ t1 + 20 ≤ 1600)) ∧ u.2 = tby (feedR tx t1 (vOf v1 v2 v3 v4 v5))) (fun u => [MB mo ma (nI u.1) i2 i3 i4 i5 i6 i7 i8 i42 i49 i51 i53 i54 i59 i61 i64 i66 (nI t67) i76 i78, (ma 0, .inl (y 0, 1600, .inl u.2))])) := by
  refine CT.of (by decide) (nb rfl) ?_
  intro p e s m args below meth c C hr
  refine j_lv (lv' := [(0, .ref mo), (1, .int v1), (2, .int v2), (3, .int v3), (4, .int v4), (5, .int v5)]) rfl ?_
  refine j_aload_n (pc := 0) C d_Model_feed_0 rfl 0 rfl ?_
  refine j_get (pc := 1) C gf_Model_198 0 rfl rfl d_Model_feed_1 ?_
  refine j_bipush (pc := 4) C (v := 20) d_Model_feed_4 (by decide) ?_
  refine j_iadd (pc := 6) C (v := nI (t1 + 20)) d_Model_feed_6 (nI_add _ _) ?_
  refine j_sipush (pc := 7) C (v := 1600) d_Model_feed_7 (by decide) ?_
  by_cases c1 : (t1 + 20) ≤ 1600
  · refine j_icmp_leT (pc := 10) C (tgt := 15) d_Model_feed_10 (by decide) (show nI (t1 + 20) ≤ nI 1600 from nI_le (by omega) (by omega)) ?_
    refine j_iconst (pc := 15) C (v := 0) d_Model_feed_15 (by decide) ?_
    refine j_istore (pc := 16) C (lv' := [(6, .int 0), (0, .ref mo), (1, .int v1), (2, .int v2), (3, .int v3), (4, .int v4), (5, .int v5)]) d_Model_feed_16 (by decide) rfl ?_
    refine j_loop (α := Nat × Nat × (Nat → Int32)) (fun a => 20 - a.1) (fun a => (a.1 ≤ 20) ∧ (a.2.1 = t1 + a.1) ∧ (a.2.2 = tby (feedT tx t1 a.1 (vOf v1 v2 v3 v4 v5)))) (fun a => [MB mo ma (nI a.2.1) i2 i3 i4 i5 i6 i7 i8 i42 i49 i51 i53 i54 i59 i61 i64 i66 (nI t67) i76 i78, (ma 0, .inl (y 0, 1600, .inl a.2.2))]) (fun a => [(6, .int (nI a.1)), (0, .ref mo), (1, .int v1), (2, .int v2), (3, .int v3), (4, .int v4), (5, .int v5)]) (0, t1, (tby tx)) rfl rfl ⟨(show 0 ≤ 20 by omega), (show t1 = t1 + 0 by omega), (show (tby tx) = tby (feedT tx t1 0 (vOf v1 v2 v3 v4 v5)) from by rw [feed_0])⟩ ?_
    rintro ⟨iz, uz, tz⟩ hP7 ih8
    obtain ⟨hi__, hu__, hT__⟩ := hP7
    have hi_ : iz ≤ 20 := hi__
    have hu_ : uz = t1 + iz := hu__
    have hT_ : tz = tby (feedT tx t1 iz (vOf v1 v2 v3 v4 v5)) := hT__
    refine j_ws (ws' := [MB mo ma (nI uz) i2 i3 i4 i5 i6 i7 i8 i42 i49 i51 i53 i54 i59 i61 i64 i66 (nI t67) i76 i78, (ma 0, .inl (y 0, 1600, .inl tz))]) rfl ?_
    refine j_lv (lv' := [(6, .int (nI iz)), (0, .ref mo), (1, .int v1), (2, .int v2), (3, .int v3), (4, .int v4), (5, .int v5)]) rfl ?_
    refine j_iload (pc := 18) C d_Model_feed_18 0 rfl ?_
    refine j_bipush (pc := 20) C (v := 20) d_Model_feed_20 (by decide) ?_
    by_cases c9 : 20 ≤ iz
    · refine j_icmp_geT (pc := 22) C (tgt := 114) d_Model_feed_22 (by decide) (show nI 20 ≤ nI iz from nI_le (by omega) (by omega)) ?_
      refine j_aload_n (pc := 114) C d_Model_feed_114 rfl 1 rfl ?_
      refine j_get (pc := 115) C gf_Model_198 0 rfl rfl d_Model_feed_115 ?_
      exact j_iret (pc := 118) C hr rfl (uz, tz) ⟨(show uz ≤ 1600 by omega), (Or.inr ⟨(show nI uz = nI (t1 + 20) from congrArg nI (by omega)), (show uz = t1 + 20 by omega), by omega⟩), (hT_.trans (by rw [show iz = 20 by omega]; exact feedR_y (by omega)))⟩ [0, 1] rfl (by decide) (by decide) (by decide) d_Model_feed_118
    · refine j_icmp_geF (pc := 22) C (tgt := 114) d_Model_feed_22 (by decide) (show ¬ nI 20 ≤ nI iz from nI_ge (by omega) (by omega)) ?_
      refine j_iload (pc := 25) C d_Model_feed_25 0 rfl ?_
      refine j_iconst (pc := 27) C (v := 4) d_Model_feed_27 (by decide) ?_
      by_cases c10 : 4 ≤ iz
      · refine j_icmp_geT (pc := 28) C (tgt := 35) d_Model_feed_28 (by decide) (show nI 4 ≤ nI iz from nI_le (by omega) (by omega)) ?_
        refine j_iload (pc := 35) C d_Model_feed_35 0 rfl ?_
        refine j_bipush (pc := 37) C (v := 8) d_Model_feed_37 (by decide) ?_
        by_cases c11 : 8 ≤ iz
        · refine j_icmp_geT (pc := 39) C (tgt := 46) d_Model_feed_39 (by decide) (show nI 8 ≤ nI iz from nI_le (by omega) (by omega)) ?_
          refine j_iload (pc := 46) C d_Model_feed_46 0 rfl ?_
          refine j_bipush (pc := 48) C (v := 12) d_Model_feed_48 (by decide) ?_
          by_cases c12 : 12 ≤ iz
          · refine j_icmp_geT (pc := 50) C (tgt := 57) d_Model_feed_50 (by decide) (show nI 12 ≤ nI iz from nI_le (by omega) (by omega)) ?_
            refine j_iload (pc := 57) C d_Model_feed_57 0 rfl ?_
            refine j_bipush (pc := 59) C (v := 16) d_Model_feed_59 (by decide) ?_
            by_cases c13 : 16 ≤ iz
            · refine j_icmp_geT (pc := 61) C (tgt := 69) d_Model_feed_61 (by decide) (show nI 16 ≤ nI iz from nI_le (by omega) (by omega)) ?_
              refine j_iload (pc := 69) C d_Model_feed_69 6 rfl ?_
              refine j_istore (pc := 71) C (lv' := [(7, .int v5), (6, .int (nI iz)), (0, .ref mo), (1, .int v1), (2, .int v2), (3, .int v3), (4, .int v4), (5, .int v5)]) d_Model_feed_71 (by decide) rfl ?_
              refine j_aload_n (pc := 73) C d_Model_feed_73 rfl 2 rfl ?_
              refine j_get (pc := 74) C gf_Model_7 0 rfl rfl d_Model_feed_74 ?_
              refine j_aload_n (pc := 77) C d_Model_feed_77 rfl 2 rfl ?_
              refine j_get (pc := 78) C gf_Model_198 0 rfl rfl d_Model_feed_78 ?_
              refine j_iload (pc := 81) C d_Model_feed_81 0 rfl ?_
              refine j_bipush (pc := 83) C (v := 8) d_Model_feed_83 (by decide) ?_
              refine j_iconst (pc := 85) C (v := 3) d_Model_feed_85 (by decide) ?_
              refine j_iload (pc := 86) C d_Model_feed_86 1 rfl ?_
              refine j_iconst (pc := 88) C (v := 4) d_Model_feed_88 (by decide) ?_
              refine j_irem (pc := 89) C (v := nI (iz % 4)) d_Model_feed_89 (by decide) (pk_rem (a := iz) (d := 4) (by omega) (by omega) (by omega)) ?_
              refine j_isub (pc := 90) C (v := nI (3 - (iz % 4))) d_Model_feed_90 (pk_sub (a := 3) (b := (iz % 4)) (by omega)) ?_
              refine j_imul (pc := 91) C (v := nI (8 * (3 - (iz % 4)))) d_Model_feed_91 (pk_mul _ _) ?_
              refine j_ishr (pc := 92) C (v := v5 >>> ((nI (8 * (3 - (iz % 4)))) &&& 31)) d_Model_feed_92 rfl ?_
              refine j_sipush (pc := 93) C (v := 255) d_Model_feed_93 (by decide) ?_
              refine j_iand (pc := 96) C (v := (v5 >>> ((nI (8 * (3 - (iz % 4)))) &&& 31)) &&& 255) d_Model_feed_96 rfl ?_
              refine j_iast (pc := 97) C 1 rfl (ws' := [MB mo ma (nI uz) i2 i3 i4 i5 i6 i7 i8 i42 i49 i51 i53 i54 i59 i61 i64 i66 (nI t67) i76 i78, (ma 0, .inl (y 0, 1600, .inl (upd tz uz ((v5 >>> ((nI (8 * (3 - (iz % 4)))) &&& 31)) &&& 255))))]) (vp_in_nI (by omega) (by decide)) (by rw [nI_clamp (by omega)]; rfl) d_Model_feed_97 ?_
              refine j_aload_n (pc := 98) C d_Model_feed_98 rfl 2 rfl ?_
              refine j_dup (pc := 99) C d_Model_feed_99 rfl ?_
              refine j_get (pc := 100) C gf_Model_198 0 rfl rfl d_Model_feed_100 ?_
              refine j_iconst (pc := 103) C (v := 1) d_Model_feed_103 (by decide) ?_
              refine j_iadd (pc := 104) C (v := nI (uz + 1)) d_Model_feed_104 (nI_add _ _) ?_
              refine j_put (pc := 105) C pf_Model_198 0 (ws' := [MB mo ma (nI (uz + 1)) i2 i3 i4 i5 i6 i7 i8 i42 i49 i51 i53 i54 i59 i61 i64 i66 (nI t67) i76 i78, (ma 0, .inl (y 0, 1600, .inl (upd tz uz ((v5 >>> ((nI (8 * (3 - (iz % 4)))) &&& 31)) &&& 255))))]) rfl rfl rfl (nl rfl) rfl d_Model_feed_105 ?_
              refine j_iinc (pc := 108) C (v := nI (iz + 1)) (lv' := [(6, .int (nI (iz + 1))), (7, .int v5), (0, .ref mo), (1, .int v1), (2, .int v2), (3, .int v3), (4, .int v4), (5, .int v5)]) d_Model_feed_108 1 rfl (nI_add _ _) (by decide) rfl ?_
              refine j_goto (pc := 111) C (tgt := 18) d_Model_feed_111 (by decide) ?_
              refine j_locs (lv' := [(6, .int (nI (iz + 1))), (0, .ref mo), (1, .int v1), (2, .int v2), (3, .int v3), (4, .int v4), (5, .int v5)]) [0, 2, 3, 4, 5, 6, 7] rfl ?_
              exact ih8 ((iz + 1), (uz + 1), (upd tz uz ((v5 >>> ((nI (8 * (3 - (iz % 4)))) &&& 31)) &&& 255))) ⟨(show (iz + 1) ≤ 20 by omega), (show (uz + 1) = t1 + (iz + 1) by omega), (show (upd tz uz ((v5 >>> ((nI (8 * (3 - (iz % 4)))) &&& 31)) &&& 255)) = tby (feedT tx t1 (iz + 1) (vOf v1 v2 v3 v4 v5)) from by rw [hT_, hu_]; exact feed_up (by rw [show vOf v1 v2 v3 v4 v5 iz = v5 by unfold vOf; (repeat' split) <;> first | rfl | omega]; exact b_ref (Nat.mod_lt _ (by decide))))⟩ (show 20 - (iz + 1) < 20 - iz by omega)
            · refine j_icmp_geF (pc := 61) C (tgt := 69) d_Model_feed_61 (by decide) (show ¬ nI 16 ≤ nI iz from nI_ge (by omega) (by omega)) ?_
              refine j_iload (pc := 64) C d_Model_feed_64 5 rfl ?_
              refine j_goto (pc := 66) C (tgt := 71) d_Model_feed_66 (by decide) ?_
              refine j_istore (pc := 71) C (lv' := [(7, .int v4), (6, .int (nI iz)), (0, .ref mo), (1, .int v1), (2, .int v2), (3, .int v3), (4, .int v4), (5, .int v5)]) d_Model_feed_71 (by decide) rfl ?_
              refine j_aload_n (pc := 73) C d_Model_feed_73 rfl 2 rfl ?_
              refine j_get (pc := 74) C gf_Model_7 0 rfl rfl d_Model_feed_74 ?_
              refine j_aload_n (pc := 77) C d_Model_feed_77 rfl 2 rfl ?_
              refine j_get (pc := 78) C gf_Model_198 0 rfl rfl d_Model_feed_78 ?_
              refine j_iload (pc := 81) C d_Model_feed_81 0 rfl ?_
              refine j_bipush (pc := 83) C (v := 8) d_Model_feed_83 (by decide) ?_
              refine j_iconst (pc := 85) C (v := 3) d_Model_feed_85 (by decide) ?_
              refine j_iload (pc := 86) C d_Model_feed_86 1 rfl ?_
              refine j_iconst (pc := 88) C (v := 4) d_Model_feed_88 (by decide) ?_
              refine j_irem (pc := 89) C (v := nI (iz % 4)) d_Model_feed_89 (by decide) (pk_rem (a := iz) (d := 4) (by omega) (by omega) (by omega)) ?_
              refine j_isub (pc := 90) C (v := nI (3 - (iz % 4))) d_Model_feed_90 (pk_sub (a := 3) (b := (iz % 4)) (by omega)) ?_
              refine j_imul (pc := 91) C (v := nI (8 * (3 - (iz % 4)))) d_Model_feed_91 (pk_mul _ _) ?_
              refine j_ishr (pc := 92) C (v := v4 >>> ((nI (8 * (3 - (iz % 4)))) &&& 31)) d_Model_feed_92 rfl ?_
              refine j_sipush (pc := 93) C (v := 255) d_Model_feed_93 (by decide) ?_
              refine j_iand (pc := 96) C (v := (v4 >>> ((nI (8 * (3 - (iz % 4)))) &&& 31)) &&& 255) d_Model_feed_96 rfl ?_
              refine j_iast (pc := 97) C 1 rfl (ws' := [MB mo ma (nI uz) i2 i3 i4 i5 i6 i7 i8 i42 i49 i51 i53 i54 i59 i61 i64 i66 (nI t67) i76 i78, (ma 0, .inl (y 0, 1600, .inl (upd tz uz ((v4 >>> ((nI (8 * (3 - (iz % 4)))) &&& 31)) &&& 255))))]) (vp_in_nI (by omega) (by decide)) (by rw [nI_clamp (by omega)]; rfl) d_Model_feed_97 ?_
              refine j_aload_n (pc := 98) C d_Model_feed_98 rfl 2 rfl ?_
              refine j_dup (pc := 99) C d_Model_feed_99 rfl ?_
              refine j_get (pc := 100) C gf_Model_198 0 rfl rfl d_Model_feed_100 ?_
              refine j_iconst (pc := 103) C (v := 1) d_Model_feed_103 (by decide) ?_
              refine j_iadd (pc := 104) C (v := nI (uz + 1)) d_Model_feed_104 (nI_add _ _) ?_
              refine j_put (pc := 105) C pf_Model_198 0 (ws' := [MB mo ma (nI (uz + 1)) i2 i3 i4 i5 i6 i7 i8 i42 i49 i51 i53 i54 i59 i61 i64 i66 (nI t67) i76 i78, (ma 0, .inl (y 0, 1600, .inl (upd tz uz ((v4 >>> ((nI (8 * (3 - (iz % 4)))) &&& 31)) &&& 255))))]) rfl rfl rfl (nl rfl) rfl d_Model_feed_105 ?_
              refine j_iinc (pc := 108) C (v := nI (iz + 1)) (lv' := [(6, .int (nI (iz + 1))), (7, .int v4), (0, .ref mo), (1, .int v1), (2, .int v2), (3, .int v3), (4, .int v4), (5, .int v5)]) d_Model_feed_108 1 rfl (nI_add _ _) (by decide) rfl ?_
              refine j_goto (pc := 111) C (tgt := 18) d_Model_feed_111 (by decide) ?_
              refine j_locs (lv' := [(6, .int (nI (iz + 1))), (0, .ref mo), (1, .int v1), (2, .int v2), (3, .int v3), (4, .int v4), (5, .int v5)]) [0, 2, 3, 4, 5, 6, 7] rfl ?_
              exact ih8 ((iz + 1), (uz + 1), (upd tz uz ((v4 >>> ((nI (8 * (3 - (iz % 4)))) &&& 31)) &&& 255))) ⟨(show (iz + 1) ≤ 20 by omega), (show (uz + 1) = t1 + (iz + 1) by omega), (show (upd tz uz ((v4 >>> ((nI (8 * (3 - (iz % 4)))) &&& 31)) &&& 255)) = tby (feedT tx t1 (iz + 1) (vOf v1 v2 v3 v4 v5)) from by rw [hT_, hu_]; exact feed_up (by rw [show vOf v1 v2 v3 v4 v5 iz = v4 by unfold vOf; (repeat' split) <;> first | rfl | omega]; exact b_ref (Nat.mod_lt _ (by decide))))⟩ (show 20 - (iz + 1) < 20 - iz by omega)
          · refine j_icmp_geF (pc := 50) C (tgt := 57) d_Model_feed_50 (by decide) (show ¬ nI 12 ≤ nI iz from nI_ge (by omega) (by omega)) ?_
            refine j_iload_n (pc := 53) C d_Model_feed_53 rfl 4 rfl ?_
            refine j_goto (pc := 54) C (tgt := 71) d_Model_feed_54 (by decide) ?_
            refine j_istore (pc := 71) C (lv' := [(7, .int v3), (6, .int (nI iz)), (0, .ref mo), (1, .int v1), (2, .int v2), (3, .int v3), (4, .int v4), (5, .int v5)]) d_Model_feed_71 (by decide) rfl ?_
            refine j_aload_n (pc := 73) C d_Model_feed_73 rfl 2 rfl ?_
            refine j_get (pc := 74) C gf_Model_7 0 rfl rfl d_Model_feed_74 ?_
            refine j_aload_n (pc := 77) C d_Model_feed_77 rfl 2 rfl ?_
            refine j_get (pc := 78) C gf_Model_198 0 rfl rfl d_Model_feed_78 ?_
            refine j_iload (pc := 81) C d_Model_feed_81 0 rfl ?_
            refine j_bipush (pc := 83) C (v := 8) d_Model_feed_83 (by decide) ?_
            refine j_iconst (pc := 85) C (v := 3) d_Model_feed_85 (by decide) ?_
            refine j_iload (pc := 86) C d_Model_feed_86 1 rfl ?_
            refine j_iconst (pc := 88) C (v := 4) d_Model_feed_88 (by decide) ?_
            refine j_irem (pc := 89) C (v := nI (iz % 4)) d_Model_feed_89 (by decide) (pk_rem (a := iz) (d := 4) (by omega) (by omega) (by omega)) ?_
            refine j_isub (pc := 90) C (v := nI (3 - (iz % 4))) d_Model_feed_90 (pk_sub (a := 3) (b := (iz % 4)) (by omega)) ?_
            refine j_imul (pc := 91) C (v := nI (8 * (3 - (iz % 4)))) d_Model_feed_91 (pk_mul _ _) ?_
            refine j_ishr (pc := 92) C (v := v3 >>> ((nI (8 * (3 - (iz % 4)))) &&& 31)) d_Model_feed_92 rfl ?_
            refine j_sipush (pc := 93) C (v := 255) d_Model_feed_93 (by decide) ?_
            refine j_iand (pc := 96) C (v := (v3 >>> ((nI (8 * (3 - (iz % 4)))) &&& 31)) &&& 255) d_Model_feed_96 rfl ?_
            refine j_iast (pc := 97) C 1 rfl (ws' := [MB mo ma (nI uz) i2 i3 i4 i5 i6 i7 i8 i42 i49 i51 i53 i54 i59 i61 i64 i66 (nI t67) i76 i78, (ma 0, .inl (y 0, 1600, .inl (upd tz uz ((v3 >>> ((nI (8 * (3 - (iz % 4)))) &&& 31)) &&& 255))))]) (vp_in_nI (by omega) (by decide)) (by rw [nI_clamp (by omega)]; rfl) d_Model_feed_97 ?_
            refine j_aload_n (pc := 98) C d_Model_feed_98 rfl 2 rfl ?_
            refine j_dup (pc := 99) C d_Model_feed_99 rfl ?_
            refine j_get (pc := 100) C gf_Model_198 0 rfl rfl d_Model_feed_100 ?_
            refine j_iconst (pc := 103) C (v := 1) d_Model_feed_103 (by decide) ?_
            refine j_iadd (pc := 104) C (v := nI (uz + 1)) d_Model_feed_104 (nI_add _ _) ?_
            refine j_put (pc := 105) C pf_Model_198 0 (ws' := [MB mo ma (nI (uz + 1)) i2 i3 i4 i5 i6 i7 i8 i42 i49 i51 i53 i54 i59 i61 i64 i66 (nI t67) i76 i78, (ma 0, .inl (y 0, 1600, .inl (upd tz uz ((v3 >>> ((nI (8 * (3 - (iz % 4)))) &&& 31)) &&& 255))))]) rfl rfl rfl (nl rfl) rfl d_Model_feed_105 ?_
            refine j_iinc (pc := 108) C (v := nI (iz + 1)) (lv' := [(6, .int (nI (iz + 1))), (7, .int v3), (0, .ref mo), (1, .int v1), (2, .int v2), (3, .int v3), (4, .int v4), (5, .int v5)]) d_Model_feed_108 1 rfl (nI_add _ _) (by decide) rfl ?_
            refine j_goto (pc := 111) C (tgt := 18) d_Model_feed_111 (by decide) ?_
            refine j_locs (lv' := [(6, .int (nI (iz + 1))), (0, .ref mo), (1, .int v1), (2, .int v2), (3, .int v3), (4, .int v4), (5, .int v5)]) [0, 2, 3, 4, 5, 6, 7] rfl ?_
            exact ih8 ((iz + 1), (uz + 1), (upd tz uz ((v3 >>> ((nI (8 * (3 - (iz % 4)))) &&& 31)) &&& 255))) ⟨(show (iz + 1) ≤ 20 by omega), (show (uz + 1) = t1 + (iz + 1) by omega), (show (upd tz uz ((v3 >>> ((nI (8 * (3 - (iz % 4)))) &&& 31)) &&& 255)) = tby (feedT tx t1 (iz + 1) (vOf v1 v2 v3 v4 v5)) from by rw [hT_, hu_]; exact feed_up (by rw [show vOf v1 v2 v3 v4 v5 iz = v3 by unfold vOf; (repeat' split) <;> first | rfl | omega]; exact b_ref (Nat.mod_lt _ (by decide))))⟩ (show 20 - (iz + 1) < 20 - iz by omega)
        · refine j_icmp_geF (pc := 39) C (tgt := 46) d_Model_feed_39 (by decide) (show ¬ nI 8 ≤ nI iz from nI_ge (by omega) (by omega)) ?_
          refine j_iload_n (pc := 42) C d_Model_feed_42 rfl 3 rfl ?_
          refine j_goto (pc := 43) C (tgt := 71) d_Model_feed_43 (by decide) ?_
          refine j_istore (pc := 71) C (lv' := [(7, .int v2), (6, .int (nI iz)), (0, .ref mo), (1, .int v1), (2, .int v2), (3, .int v3), (4, .int v4), (5, .int v5)]) d_Model_feed_71 (by decide) rfl ?_
          refine j_aload_n (pc := 73) C d_Model_feed_73 rfl 2 rfl ?_
          refine j_get (pc := 74) C gf_Model_7 0 rfl rfl d_Model_feed_74 ?_
          refine j_aload_n (pc := 77) C d_Model_feed_77 rfl 2 rfl ?_
          refine j_get (pc := 78) C gf_Model_198 0 rfl rfl d_Model_feed_78 ?_
          refine j_iload (pc := 81) C d_Model_feed_81 0 rfl ?_
          refine j_bipush (pc := 83) C (v := 8) d_Model_feed_83 (by decide) ?_
          refine j_iconst (pc := 85) C (v := 3) d_Model_feed_85 (by decide) ?_
          refine j_iload (pc := 86) C d_Model_feed_86 1 rfl ?_
          refine j_iconst (pc := 88) C (v := 4) d_Model_feed_88 (by decide) ?_
          refine j_irem (pc := 89) C (v := nI (iz % 4)) d_Model_feed_89 (by decide) (pk_rem (a := iz) (d := 4) (by omega) (by omega) (by omega)) ?_
          refine j_isub (pc := 90) C (v := nI (3 - (iz % 4))) d_Model_feed_90 (pk_sub (a := 3) (b := (iz % 4)) (by omega)) ?_
          refine j_imul (pc := 91) C (v := nI (8 * (3 - (iz % 4)))) d_Model_feed_91 (pk_mul _ _) ?_
          refine j_ishr (pc := 92) C (v := v2 >>> ((nI (8 * (3 - (iz % 4)))) &&& 31)) d_Model_feed_92 rfl ?_
          refine j_sipush (pc := 93) C (v := 255) d_Model_feed_93 (by decide) ?_
          refine j_iand (pc := 96) C (v := (v2 >>> ((nI (8 * (3 - (iz % 4)))) &&& 31)) &&& 255) d_Model_feed_96 rfl ?_
          refine j_iast (pc := 97) C 1 rfl (ws' := [MB mo ma (nI uz) i2 i3 i4 i5 i6 i7 i8 i42 i49 i51 i53 i54 i59 i61 i64 i66 (nI t67) i76 i78, (ma 0, .inl (y 0, 1600, .inl (upd tz uz ((v2 >>> ((nI (8 * (3 - (iz % 4)))) &&& 31)) &&& 255))))]) (vp_in_nI (by omega) (by decide)) (by rw [nI_clamp (by omega)]; rfl) d_Model_feed_97 ?_
          refine j_aload_n (pc := 98) C d_Model_feed_98 rfl 2 rfl ?_
          refine j_dup (pc := 99) C d_Model_feed_99 rfl ?_
          refine j_get (pc := 100) C gf_Model_198 0 rfl rfl d_Model_feed_100 ?_
          refine j_iconst (pc := 103) C (v := 1) d_Model_feed_103 (by decide) ?_
          refine j_iadd (pc := 104) C (v := nI (uz + 1)) d_Model_feed_104 (nI_add _ _) ?_
          refine j_put (pc := 105) C pf_Model_198 0 (ws' := [MB mo ma (nI (uz + 1)) i2 i3 i4 i5 i6 i7 i8 i42 i49 i51 i53 i54 i59 i61 i64 i66 (nI t67) i76 i78, (ma 0, .inl (y 0, 1600, .inl (upd tz uz ((v2 >>> ((nI (8 * (3 - (iz % 4)))) &&& 31)) &&& 255))))]) rfl rfl rfl (nl rfl) rfl d_Model_feed_105 ?_
          refine j_iinc (pc := 108) C (v := nI (iz + 1)) (lv' := [(6, .int (nI (iz + 1))), (7, .int v2), (0, .ref mo), (1, .int v1), (2, .int v2), (3, .int v3), (4, .int v4), (5, .int v5)]) d_Model_feed_108 1 rfl (nI_add _ _) (by decide) rfl ?_
          refine j_goto (pc := 111) C (tgt := 18) d_Model_feed_111 (by decide) ?_
          refine j_locs (lv' := [(6, .int (nI (iz + 1))), (0, .ref mo), (1, .int v1), (2, .int v2), (3, .int v3), (4, .int v4), (5, .int v5)]) [0, 2, 3, 4, 5, 6, 7] rfl ?_
          exact ih8 ((iz + 1), (uz + 1), (upd tz uz ((v2 >>> ((nI (8 * (3 - (iz % 4)))) &&& 31)) &&& 255))) ⟨(show (iz + 1) ≤ 20 by omega), (show (uz + 1) = t1 + (iz + 1) by omega), (show (upd tz uz ((v2 >>> ((nI (8 * (3 - (iz % 4)))) &&& 31)) &&& 255)) = tby (feedT tx t1 (iz + 1) (vOf v1 v2 v3 v4 v5)) from by rw [hT_, hu_]; exact feed_up (by rw [show vOf v1 v2 v3 v4 v5 iz = v2 by unfold vOf; (repeat' split) <;> first | rfl | omega]; exact b_ref (Nat.mod_lt _ (by decide))))⟩ (show 20 - (iz + 1) < 20 - iz by omega)
      · refine j_icmp_geF (pc := 28) C (tgt := 35) d_Model_feed_28 (by decide) (show ¬ nI 4 ≤ nI iz from nI_ge (by omega) (by omega)) ?_
        refine j_iload_n (pc := 31) C d_Model_feed_31 rfl 2 rfl ?_
        refine j_goto (pc := 32) C (tgt := 71) d_Model_feed_32 (by decide) ?_
        refine j_istore (pc := 71) C (lv' := [(7, .int v1), (6, .int (nI iz)), (0, .ref mo), (1, .int v1), (2, .int v2), (3, .int v3), (4, .int v4), (5, .int v5)]) d_Model_feed_71 (by decide) rfl ?_
        refine j_aload_n (pc := 73) C d_Model_feed_73 rfl 2 rfl ?_
        refine j_get (pc := 74) C gf_Model_7 0 rfl rfl d_Model_feed_74 ?_
        refine j_aload_n (pc := 77) C d_Model_feed_77 rfl 2 rfl ?_
        refine j_get (pc := 78) C gf_Model_198 0 rfl rfl d_Model_feed_78 ?_
        refine j_iload (pc := 81) C d_Model_feed_81 0 rfl ?_
        refine j_bipush (pc := 83) C (v := 8) d_Model_feed_83 (by decide) ?_
        refine j_iconst (pc := 85) C (v := 3) d_Model_feed_85 (by decide) ?_
        refine j_iload (pc := 86) C d_Model_feed_86 1 rfl ?_
        refine j_iconst (pc := 88) C (v := 4) d_Model_feed_88 (by decide) ?_
        refine j_irem (pc := 89) C (v := nI (iz % 4)) d_Model_feed_89 (by decide) (pk_rem (a := iz) (d := 4) (by omega) (by omega) (by omega)) ?_
        refine j_isub (pc := 90) C (v := nI (3 - (iz % 4))) d_Model_feed_90 (pk_sub (a := 3) (b := (iz % 4)) (by omega)) ?_
        refine j_imul (pc := 91) C (v := nI (8 * (3 - (iz % 4)))) d_Model_feed_91 (pk_mul _ _) ?_
        refine j_ishr (pc := 92) C (v := v1 >>> ((nI (8 * (3 - (iz % 4)))) &&& 31)) d_Model_feed_92 rfl ?_
        refine j_sipush (pc := 93) C (v := 255) d_Model_feed_93 (by decide) ?_
        refine j_iand (pc := 96) C (v := (v1 >>> ((nI (8 * (3 - (iz % 4)))) &&& 31)) &&& 255) d_Model_feed_96 rfl ?_
        refine j_iast (pc := 97) C 1 rfl (ws' := [MB mo ma (nI uz) i2 i3 i4 i5 i6 i7 i8 i42 i49 i51 i53 i54 i59 i61 i64 i66 (nI t67) i76 i78, (ma 0, .inl (y 0, 1600, .inl (upd tz uz ((v1 >>> ((nI (8 * (3 - (iz % 4)))) &&& 31)) &&& 255))))]) (vp_in_nI (by omega) (by decide)) (by rw [nI_clamp (by omega)]; rfl) d_Model_feed_97 ?_
        refine j_aload_n (pc := 98) C d_Model_feed_98 rfl 2 rfl ?_
        refine j_dup (pc := 99) C d_Model_feed_99 rfl ?_
        refine j_get (pc := 100) C gf_Model_198 0 rfl rfl d_Model_feed_100 ?_
        refine j_iconst (pc := 103) C (v := 1) d_Model_feed_103 (by decide) ?_
        refine j_iadd (pc := 104) C (v := nI (uz + 1)) d_Model_feed_104 (nI_add _ _) ?_
        refine j_put (pc := 105) C pf_Model_198 0 (ws' := [MB mo ma (nI (uz + 1)) i2 i3 i4 i5 i6 i7 i8 i42 i49 i51 i53 i54 i59 i61 i64 i66 (nI t67) i76 i78, (ma 0, .inl (y 0, 1600, .inl (upd tz uz ((v1 >>> ((nI (8 * (3 - (iz % 4)))) &&& 31)) &&& 255))))]) rfl rfl rfl (nl rfl) rfl d_Model_feed_105 ?_
        refine j_iinc (pc := 108) C (v := nI (iz + 1)) (lv' := [(6, .int (nI (iz + 1))), (7, .int v1), (0, .ref mo), (1, .int v1), (2, .int v2), (3, .int v3), (4, .int v4), (5, .int v5)]) d_Model_feed_108 1 rfl (nI_add _ _) (by decide) rfl ?_
        refine j_goto (pc := 111) C (tgt := 18) d_Model_feed_111 (by decide) ?_
        refine j_locs (lv' := [(6, .int (nI (iz + 1))), (0, .ref mo), (1, .int v1), (2, .int v2), (3, .int v3), (4, .int v4), (5, .int v5)]) [0, 2, 3, 4, 5, 6, 7] rfl ?_
        exact ih8 ((iz + 1), (uz + 1), (upd tz uz ((v1 >>> ((nI (8 * (3 - (iz % 4)))) &&& 31)) &&& 255))) ⟨(show (iz + 1) ≤ 20 by omega), (show (uz + 1) = t1 + (iz + 1) by omega), (show (upd tz uz ((v1 >>> ((nI (8 * (3 - (iz % 4)))) &&& 31)) &&& 255)) = tby (feedT tx t1 (iz + 1) (vOf v1 v2 v3 v4 v5)) from by rw [hT_, hu_]; exact feed_up (by rw [show vOf v1 v2 v3 v4 v5 iz = v1 by unfold vOf; (repeat' split) <;> first | rfl | omega]; exact b_ref (Nat.mod_lt _ (by decide))))⟩ (show 20 - (iz + 1) < 20 - iz by omega)
  · refine j_icmp_leF (pc := 10) C (tgt := 15) d_Model_feed_10 (by decide) (show ¬ nI (t1 + 20) ≤ nI 1600 from nI_ge (by omega) (by omega)) ?_
    refine j_iconst (pc := 13) C (v := (-1)) d_Model_feed_13 (by decide) ?_
    exact j_iret (pc := 14) C hr rfl (t1, (tby tx)) ⟨(show t1 ≤ 1600 by omega), (Or.inl ⟨rfl, (show t1 = t1 by omega), by omega⟩), (feedR_n (by omega))⟩ [0, 1] rfl (by decide) (by decide) (by decide) d_Model_feed_14
set_option maxHeartbeats 4000000 in
set_option maxRecDepth 100000 in
theorem c_M_fault_x (l : Launch) (D : va_G) (y : Nat → ClassId) (mo : Nat) (ma : Nat → Nat) (t1 : Nat) (i2 : Int32) (i3 : Int32) (i4 : Int32) (i5 : Int32) (i6 : Int32) (i7 : Int32) (i8 : Int32) (i42 : Int32) (i49 : Int32) (i51 : Int32) (i53 : Int32) (i54 : Int32) (i59 : Int32) (i61 : Int32) (i64 : Int32) (i66 : Int32) (t67 : Nat) (i76 : Int64) (i78 : Int32) (v : Int32)  : CT l D y ⟨"NineBoardsModel", "fault", "(I)I"⟩ prog_13_method_46_code 2 (some .int) ({ frames := 0, cells := 0, slots := 0, locals := 0 } : Room) [.ref mo, .int v] [MB mo ma (nI t1) i2 i3 i4 i5 i6 i7 i8 i42 i49 i51 i53 i54 i59 i61 i64 i66 (nI t67) i76 i78] (QI D [MB mo ma (nI t1) i2 i3 i4 i5 i6 i7 i8 i42 i49 i51 i53 i54 i59 i61 i64 i66 (nI t67) i76 i78] (fun (r : Int32) (u : Unit) => r = fltV v i7 i8) (fun _ => [MB mo ma (nI t1) i2 i3 i4 i5 i6 i7 i8 i42 i49 i51 i53 i54 i59 i61 i64 i66 (nI t67) i76 i78])) := by
  refine CT.of (by decide) (nb rfl) ?_
  intro p e s m args below meth c C hr
  refine j_lv (lv' := [(0, .ref mo), (1, .int v)]) rfl ?_
  refine j_iload_n (pc := 0) C d_Model_fault_0 rfl 1 rfl ?_
  refine j_if_ne (pc := 1) C (tgt := 11) d_Model_fault_1 (by decide) (fun c1 => ?_) (fun c1 => ?_)
  · refine j_iload_n (pc := 11) C d_Model_fault_11 rfl 1 rfl ?_
    refine j_iconst (pc := 12) C (v := 1) d_Model_fault_12 (by decide) ?_
    refine j_icmp_ne (pc := 13) C (tgt := 23) d_Model_fault_13 (by decide) (fun c2 => ?_) (fun c2 => ?_)
    · refine j_iconst (pc := 23) C (v := (-1)) d_Model_fault_23 (by decide) ?_
      exact j_iret (pc := 24) C hr rfl () ((if_neg c1).trans (if_neg c2)).symm [0] rfl (by decide) (by decide) (by decide) d_Model_fault_24
    · refine j_aload_n (pc := 16) C d_Model_fault_16 rfl 0 rfl ?_
      refine j_get (pc := 17) C gf_Model_13 0 rfl rfl d_Model_fault_17 ?_
      refine j_goto (pc := 20) C (tgt := 24) d_Model_fault_20 (by decide) ?_
      exact j_iret (pc := 24) C hr rfl () ((if_neg c1).trans (if_pos c2)).symm [0] rfl (by decide) (by decide) (by decide) d_Model_fault_24
  · refine j_aload_n (pc := 4) C d_Model_fault_4 rfl 0 rfl ?_
    refine j_get (pc := 5) C gf_Model_332 0 rfl rfl d_Model_fault_5 ?_
    refine j_goto (pc := 8) C (tgt := 24) d_Model_fault_8 (by decide) ?_
    exact j_iret (pc := 24) C hr rfl () (if_pos c1).symm [0] rfl (by decide) (by decide) (by decide) d_Model_fault_24
