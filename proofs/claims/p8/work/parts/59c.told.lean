set_option maxHeartbeats 4000000 in
set_option maxRecDepth 100000 in
theorem c_M_checkedx (l : Launch) (D : va_G) (y : Nat → ClassId) (ar : Nat) (tx : Nat → Nat) (N : Nat) (hN : N ≤ 1600) (hB : ∀ j, tx j < 256) : CT l D y ⟨"NineBoardsModel", "checked", "([II)I"⟩ prog_13_method_121_code 4 (some .int) ({ frames := 0, cells := 0, slots := 0, locals := 0 } : Room) [.ref ar, .int (nI N)] [(ar, .inl (y 0, 1600, .inl (tby tx)))] (QI D [(ar, .inl (y 0, 1600, .inl (tby tx)))] (fun (r : Int32) (u : Unit) => r = nI (ckF tx N)) (fun _ => [(ar, .inl (y 0, 1600, .inl (tby tx)))])) := by
  refine CT.of (by decide) (nb rfl) ?_
  intro p e s m args below meth c C hr
  refine j_lv (lv' := [(0, .ref ar), (1, .int (nI N))]) rfl ?_
  refine j_bipush (pc := 0) C (v := 67) d_Model_checked_0 (by decide) ?_
  refine j_istore_n (pc := 2) C (lv' := [(2, .int 67), (0, .ref ar), (1, .int (nI N))]) d_Model_checked_2 rfl (by decide) rfl ?_
  refine j_iconst (pc := 3) C (v := 0) d_Model_checked_3 (by decide) ?_
  refine j_istore_n (pc := 4) C (lv' := [(3, .int 0), (2, .int 67), (0, .ref ar), (1, .int (nI N))]) d_Model_checked_4 rfl (by decide) rfl ?_
  refine j_loop (α := Nat × Nat) (fun a => N - a.1) (fun a => (a.1 ≤ N) ∧ (a.2 = ckF tx a.1) ∧ (a.2 < 251)) (fun a => [(ar, .inl (y 0, 1600, .inl (tby tx)))]) (fun a => [(3, .int (nI a.1)), (2, .int (nI a.2)), (0, .ref ar), (1, .int (nI N))]) (0, 67) rfl rfl ⟨(show 0 ≤ N by omega), rfl, (show 67 < 251 by decide)⟩ ?_
  rintro ⟨iz, cz⟩ hP3 ih4
  obtain ⟨hi__, hc__, hb__⟩ := hP3
  have hi_ : iz ≤ N := hi__
  have hc_ : cz = ckF tx iz := hc__
  have hb_ : cz < 251 := hb__
  refine j_ws (ws' := [(ar, .inl (y 0, 1600, .inl (tby tx)))]) rfl ?_
  refine j_lv (lv' := [(3, .int (nI iz)), (2, .int (nI cz)), (0, .ref ar), (1, .int (nI N))]) rfl ?_
  refine j_iload_n (pc := 5) C d_Model_checked_5 rfl 0 rfl ?_
  refine j_iload_n (pc := 6) C d_Model_checked_6 rfl 3 rfl ?_
  by_cases c5 : N ≤ iz
  · refine j_icmp_geT (pc := 7) C (tgt := 28) d_Model_checked_7 (by decide) (show nI N ≤ nI iz from nI_le (by omega) (by omega)) ?_
    refine j_iload_n (pc := 28) C d_Model_checked_28 rfl 1 rfl ?_
    exact j_iret (pc := 29) C hr rfl () (congrArg nI (hc_.trans (by rw [show iz = N by omega]))) [0] rfl (by decide) (by decide) (by decide) d_Model_checked_29
  · refine j_icmp_geF (pc := 7) C (tgt := 28) d_Model_checked_7 (by decide) (show ¬ nI N ≤ nI iz from nI_ge (by omega) (by omega)) ?_
    refine j_iconst (pc := 10) C (v := 3) d_Model_checked_10 (by decide) ?_
    refine j_iload_n (pc := 11) C d_Model_checked_11 rfl 1 rfl ?_
    refine j_imul (pc := 12) C (v := nI (3 * cz)) d_Model_checked_12 (pk_mul _ _) ?_
    refine j_aload_n (pc := 13) C d_Model_checked_13 rfl 2 rfl ?_
    refine j_iload_n (pc := 14) C d_Model_checked_14 rfl 0 rfl ?_
    have hb6 : tx iz < 256 := hB iz
    refine j_iald (pc := 15) C 0 rfl (v := nI (tx iz)) (vp_in_nI (by omega) (by decide)) (by rw [nI_clamp (by omega)]; rfl) d_Model_checked_15 ?_
    refine j_iadd (pc := 16) C (v := nI ((3 * cz) + (tx iz))) d_Model_checked_16 (nI_add _ _) ?_
    refine j_sipush (pc := 17) C (v := 251) d_Model_checked_17 (by decide) ?_
    refine j_irem (pc := 20) C (v := nI (((3 * cz) + (tx iz)) % 251)) d_Model_checked_20 (by decide) (pk_rem (a := ((3 * cz) + (tx iz))) (d := 251) (by omega) (by omega) (by omega)) ?_
    refine j_istore_n (pc := 21) C (lv' := [(2, .int (nI (((3 * cz) + (tx iz)) % 251))), (3, .int (nI iz)), (0, .ref ar), (1, .int (nI N))]) d_Model_checked_21 rfl (by decide) rfl ?_
    refine j_iinc (pc := 22) C (v := nI (iz + 1)) (lv' := [(3, .int (nI (iz + 1))), (2, .int (nI (((3 * cz) + (tx iz)) % 251))), (0, .ref ar), (1, .int (nI N))]) d_Model_checked_22 1 rfl (nI_add _ _) (by decide) rfl ?_
    refine j_goto (pc := 25) C (tgt := 5) d_Model_checked_25 (by decide) ?_
    exact ih4 ((iz + 1), (((3 * cz) + (tx iz)) % 251)) ⟨(show (iz + 1) ≤ N by omega), (show (((3 * cz) + (tx iz)) % 251) = ckF tx (iz + 1) from ck_up hc_), (Nat.mod_lt _ (by decide))⟩ (show N - (iz + 1) < N - iz by omega)
set_option maxHeartbeats 4000000 in
set_option maxRecDepth 100000 in
theorem c_M_isTold_x (l : Launch) (D : va_G) (y : Nat → ClassId) (mo : Nat) (ma : Nat → Nat) (t1 : Nat) (i2 : Int32) (i3 : Int32) (i4 : Int32) (i5 : Int32) (i6 : Int32) (i7 : Int32) (i8 : Int32) (i42 : Int32) (i49 : Int32) (i51 : Int32) (i53 : Int32) (i54 : Int32) (i59 : Int32) (i61 : Int32) (i64 : Int32) (i66 : Int32) (t67 : Nat) (i76 : Int64) (i78 : Int32) (tx : Nat → Nat) (g43 : Nat → Int32) (g45 : Nat → Int32) (j : Nat) (c0 : Nat) (hm : Nat) (hc0 : g43 4 = nI c0) (bc0 : c0 ≤ 9) (hj : j ≤ 1600) (hB : ∀ j, tx j < 256) (hh8 : g45 8 = nI hm) (bh8 : hm ≤ 9999) : CT l D y ⟨"NineBoardsModel", "isTold", "(I)Z"⟩ prog_13_method_124_code 3 (some .boolean) ({ frames := 1, cells := 0, slots := 0, locals := 23 } : Room) [.ref mo, .int (nI j)] [MB mo ma (nI t1) i2 i3 i4 i5 i6 i7 i8 i42 i49 i51 i53 i54 i59 i61 i64 i66 (nI t67) i76 i78, (ma 0, .inl (y 0, 1600, .inl (tby tx))), (ma 43, .inl (y 0, 8, .inl g43)), (ma 45, .inl (y 0, 14, .inl g45))] (QI D [MB mo ma (nI t1) i2 i3 i4 i5 i6 i7 i8 i42 i49 i51 i53 i54 i59 i61 i64 i66 (nI t67) i76 i78, (ma 0, .inl (y 0, 1600, .inl (tby tx))), (ma 43, .inl (y 0, 8, .inl g43)), (ma 45, .inl (y 0, 14, .inl g45))] (fun (r : Int32) (u : Unit) => ((r = 1 ∧ onB tx j c0 hm) ∨ (r = 0 ∧ ¬ onB tx j c0 hm))) (fun _ => [MB mo ma (nI t1) i2 i3 i4 i5 i6 i7 i8 i42 i49 i51 i53 i54 i59 i61 i64 i66 (nI t67) i76 i78, (ma 0, .inl (y 0, 1600, .inl (tby tx))), (ma 43, .inl (y 0, 8, .inl g43)), (ma 45, .inl (y 0, 14, .inl g45))])) := by
  refine CT.of (by decide) (nb rfl) ?_
  intro p e s m args below meth c C hr
  refine j_lv (lv' := [(0, .ref mo), (1, .int (nI j))]) rfl ?_
  refine j_iload_n (pc := 0) C d_Model_isTold_0 rfl 1 rfl ?_
  refine j_bipush (pc := 1) C (v := 6) d_Model_isTold_1 (by decide) ?_
  refine j_aload_n (pc := 3) C d_Model_isTold_3 rfl 0 rfl ?_
  refine j_callVi (pc := 4) C (c_M_gateMany l D y mo ma t1 i2 i3 i4 i5 i6 i7 i8 i42 i49 i51 i53 i54 i59 i61 i64 i66 t67 i76 i78 g43 c0 hc0 bc0) kw_Model_341 kv_Model_gateMany 0 10 rfl rfl ⟨by decide, by decide⟩ ⟨by decide, by decide⟩ (wr := [(ma 0, .inl (y 0, 1600, .inl (tby tx))), (ma 45, .inl (y 0, 14, .inl g45))]) [0, 2] [1, 3] rfl rfl (by decide) (by decide) (by decide) (As := []) (rest := [.int 6, .int (nI j)]) rfl (nb rfl) rfl d_Model_isTold_4 (fun r1 _ hr1 => ?_)
  obtain rfl := hr1
  refine j_ws (ws' := [(ma 0, .inl (y 0, 1600, .inl (tby tx))), (ma 45, .inl (y 0, 14, .inl g45)), MB mo ma (nI t1) i2 i3 i4 i5 i6 i7 i8 i42 i49 i51 i53 i54 i59 i61 i64 i66 (nI t67) i76 i78, (ma 43, .inl (y 0, 8, .inl g43))]) rfl ?_
  refine j_iadd (pc := 7) C (v := nI (6 + c0)) d_Model_isTold_7 (nI_add _ _) ?_
  by_cases c2 : ¬ j = (6 + c0)
  · refine j_icmp_neT (pc := 8) C (tgt := 32) d_Model_isTold_8 (by decide) (show ¬ nI j = nI (6 + c0) from fun e => absurd ((nI_eq (by omega) (by omega)).mp e) (by omega)) ?_
    refine j_iconst (pc := 32) C (v := 0) d_Model_isTold_32 (by decide) ?_
    exact j_iret (pc := 33) C hr (by decide) () (Or.inr ⟨rfl, fun q => by have e1 := q.1; have e2 := q.2.1; have e3 := q.2.2.2; omega⟩) [2, 0, 3, 1] rfl (by decide) (by decide) (by decide) d_Model_isTold_33
  · refine j_icmp_neF (pc := 8) C (tgt := 32) d_Model_isTold_8 (by decide) (show nI j = nI (6 + c0) from (nI_eq (by omega) (by omega)).mpr (by omega)) ?_
    have hck : ckF tx (j - 1) < 251 := ck_lt
    refine j_aload_n (pc := 11) C d_Model_isTold_11 rfl 0 rfl ?_
    refine j_get (pc := 12) C gf_Model_7 2 rfl rfl d_Model_isTold_12 ?_
    refine j_iload_n (pc := 15) C d_Model_isTold_15 rfl 1 rfl ?_
    refine j_iconst (pc := 16) C (v := 1) d_Model_isTold_16 (by decide) ?_
    refine j_isub (pc := 17) C (v := nI (j - 1)) d_Model_isTold_17 (pk_sub (a := j) (b := 1) (by omega)) ?_
    have hb3 : tx (j - 1) < 256 := hB (j - 1)
    refine j_iald (pc := 18) C 0 rfl (v := nI (tx (j - 1))) (vp_in_nI (by omega) (by decide)) (by rw [nI_clamp (by omega)]; rfl) d_Model_isTold_18 ?_
    refine j_aload_n (pc := 19) C d_Model_isTold_19 rfl 0 rfl ?_
    refine j_get (pc := 20) C gf_Model_7 2 rfl rfl d_Model_isTold_20 ?_
    refine j_iload_n (pc := 23) C d_Model_isTold_23 rfl 1 rfl ?_
    refine j_iconst (pc := 24) C (v := 1) d_Model_isTold_24 (by decide) ?_
    refine j_isub (pc := 25) C (v := nI (j - 1)) d_Model_isTold_25 (pk_sub (a := j) (b := 1) (by omega)) ?_
    refine j_callSi (pc := 26) C (c_M_checkedx l D y (ma 0) tx (j - 1) (by omega) hB) kw_Model_588 ks_Model_checked ⟨by decide, by decide⟩ ⟨by decide, by decide⟩ (wr := [(ma 45, .inl (y 0, 14, .inl g45)), MB mo ma (nI t1) i2 i3 i4 i5 i6 i7 i8 i42 i49 i51 i53 i54 i59 i61 i64 i66 (nI t67) i76 i78, (ma 43, .inl (y 0, 8, .inl g43))]) [0] [1, 2, 3] rfl rfl (by decide) (by decide) (by decide) (As := [.ref (ma 0), .int (nI (j - 1))]) (rest := [.int (nI (tx (j - 1)))]) rfl (nb rfl) rfl d_Model_isTold_26 (fun r4 _ hr4 => ?_)
    obtain rfl := hr4
    refine j_ws (ws' := [(ma 45, .inl (y 0, 14, .inl g45)), MB mo ma (nI t1) i2 i3 i4 i5 i6 i7 i8 i42 i49 i51 i53 i54 i59 i61 i64 i66 (nI t67) i76 i78, (ma 43, .inl (y 0, 8, .inl g43)), (ma 0, .inl (y 0, 1600, .inl (tby tx)))]) rfl ?_
    by_cases c5 : (tx (j - 1)) = (ckF tx (j - 1))
    · refine j_icmp_eqT (pc := 29) C (tgt := 34) d_Model_isTold_29 (by decide) (show nI (tx (j - 1)) = nI (ckF tx (j - 1)) from (nI_eq (by omega) (by omega)).mpr (by omega)) ?_
      refine j_sipush (pc := 34) C (v := 256) d_Model_isTold_34 (by decide) ?_
      refine j_aload_n (pc := 37) C d_Model_isTold_37 rfl 0 rfl ?_
      refine j_get (pc := 38) C gf_Model_7 1 rfl rfl d_Model_isTold_38 ?_
      refine j_iconst (pc := 41) C (v := 0) d_Model_isTold_41 (by decide) ?_
      have hb6 : tx 0 < 256 := hB 0
      refine j_iald (pc := 42) C 3 rfl (v := nI (tx 0)) (vin (by decide)) rfl d_Model_isTold_42 ?_
      refine j_imul (pc := 43) C (v := nI (256 * (tx 0))) d_Model_isTold_43 (pk_mul _ _) ?_
      refine j_aload_n (pc := 44) C d_Model_isTold_44 rfl 0 rfl ?_
      refine j_get (pc := 45) C gf_Model_7 1 rfl rfl d_Model_isTold_45 ?_
      refine j_iconst (pc := 48) C (v := 1) d_Model_isTold_48 (by decide) ?_
      have hb7 : tx 1 < 256 := hB 1
      refine j_iald (pc := 49) C 3 rfl (v := nI (tx 1)) (vin (by decide)) rfl d_Model_isTold_49 ?_
      refine j_iadd (pc := 50) C (v := nI ((256 * (tx 0)) + (tx 1))) d_Model_isTold_50 (nI_add _ _) ?_
      refine j_sipush (pc := 51) C (v := 999) d_Model_isTold_51 (by decide) ?_
      by_cases c8 : 999 < ((256 * (tx 0)) + (tx 1))
      · refine j_icmp_gtT (pc := 54) C (tgt := 94) d_Model_isTold_54 (by decide) (show nI 999 < nI ((256 * (tx 0)) + (tx 1)) from nI_lt (by omega) (by omega)) ?_
        refine j_iconst (pc := 94) C (v := 0) d_Model_isTold_94 (by decide) ?_
        exact j_iret (pc := 95) C hr (by decide) () (Or.inr ⟨rfl, fun q => by have e1 := q.1; have e2 := q.2.1; have e3 := q.2.2.2; omega⟩) [1, 3, 2, 0] rfl (by decide) (by decide) (by decide) d_Model_isTold_95
      · refine j_icmp_gtF (pc := 54) C (tgt := 94) d_Model_isTold_54 (by decide) (show ¬ nI 999 < nI ((256 * (tx 0)) + (tx 1)) from nI_nlt (by omega) (by omega)) ?_
        refine j_sipush (pc := 57) C (v := 256) d_Model_isTold_57 (by decide) ?_
        refine j_aload_n (pc := 60) C d_Model_isTold_60 rfl 0 rfl ?_
        refine j_get (pc := 61) C gf_Model_7 1 rfl rfl d_Model_isTold_61 ?_
        refine j_iconst (pc := 64) C (v := 2) d_Model_isTold_64 (by decide) ?_
        have hb9 : tx 2 < 256 := hB 2
        refine j_iald (pc := 65) C 3 rfl (v := nI (tx 2)) (vin (by decide)) rfl d_Model_isTold_65 ?_
        refine j_imul (pc := 66) C (v := nI (256 * (tx 2))) d_Model_isTold_66 (pk_mul _ _) ?_
        refine j_aload_n (pc := 67) C d_Model_isTold_67 rfl 0 rfl ?_
        refine j_get (pc := 68) C gf_Model_7 1 rfl rfl d_Model_isTold_68 ?_
        refine j_iconst (pc := 71) C (v := 3) d_Model_isTold_71 (by decide) ?_
        have hb10 : tx 3 < 256 := hB 3
        refine j_iald (pc := 72) C 3 rfl (v := nI (tx 3)) (vin (by decide)) rfl d_Model_isTold_72 ?_
        refine j_iadd (pc := 73) C (v := nI ((256 * (tx 2)) + (tx 3))) d_Model_isTold_73 (nI_add _ _) ?_
        refine j_aload_n (pc := 74) C d_Model_isTold_74 rfl 0 rfl ?_
        refine j_get (pc := 75) C gf_Model_124 1 rfl rfl d_Model_isTold_75 ?_
        refine j_bipush (pc := 78) C (v := 8) d_Model_isTold_78 (by decide) ?_
        refine j_iald (pc := 80) C 0 rfl (v := nI hm) (vin (by decide)) (by exact hh8) d_Model_isTold_80 ?_
        by_cases c11 : hm < ((256 * (tx 2)) + (tx 3))
        · refine j_icmp_gtT (pc := 81) C (tgt := 94) d_Model_isTold_81 (by decide) (show nI hm < nI ((256 * (tx 2)) + (tx 3)) from nI_lt (by omega) (by omega)) ?_
          refine j_iconst (pc := 94) C (v := 0) d_Model_isTold_94 (by decide) ?_
          exact j_iret (pc := 95) C hr (by decide) () (Or.inr ⟨rfl, fun q => by have e1 := q.1; have e2 := q.2.1; have e3 := q.2.2.2; omega⟩) [1, 3, 2, 0] rfl (by decide) (by decide) (by decide) d_Model_isTold_95
        · refine j_icmp_gtF (pc := 81) C (tgt := 94) d_Model_isTold_81 (by decide) (show ¬ nI hm < nI ((256 * (tx 2)) + (tx 3)) from nI_nlt (by omega) (by omega)) ?_
          refine j_aload_n (pc := 84) C d_Model_isTold_84 rfl 0 rfl ?_
          refine j_get (pc := 85) C gf_Model_7 1 rfl rfl d_Model_isTold_85 ?_
          refine j_iconst (pc := 88) C (v := 4) d_Model_isTold_88 (by decide) ?_
          have hb12 : tx 4 < 256 := hB 4
          refine j_iald (pc := 89) C 3 rfl (v := nI (tx 4)) (vin (by decide)) rfl d_Model_isTold_89 ?_
          refine j_iconst (pc := 90) C (v := 2) d_Model_isTold_90 (by decide) ?_
          by_cases c13 : (tx 4) ≤ 2
          · refine j_icmp_leT (pc := 91) C (tgt := 96) d_Model_isTold_91 (by decide) (show nI (tx 4) ≤ nI 2 from nI_le (by omega) (by omega)) ?_
            refine j_iconst (pc := 96) C (v := 0) d_Model_isTold_96 (by decide) ?_
            refine j_istore_n (pc := 97) C (lv' := [(2, .int 0), (0, .ref mo), (1, .int (nI j))]) d_Model_isTold_97 rfl (by decide) rfl ?_
            refine j_loop (α := Nat) (fun a => c0 - a) (fun a => (a ≤ c0) ∧ ((∀ g, g < a → tx (5 + g) ≤ 20))) (fun a => [(ma 45, .inl (y 0, 14, .inl g45)), MB mo ma (nI t1) i2 i3 i4 i5 i6 i7 i8 i42 i49 i51 i53 i54 i59 i61 i64 i66 (nI t67) i76 i78, (ma 43, .inl (y 0, 8, .inl g43)), (ma 0, .inl (y 0, 1600, .inl (tby tx)))]) (fun a => [(2, .int (nI a)), (0, .ref mo), (1, .int (nI j))]) (0) rfl rfl ⟨(show 0 ≤ c0 by omega), (fun g hg => absurd hg (by omega))⟩ ?_
            rintro iz hP18 ih19
            obtain ⟨hi__, hg__⟩ := hP18
            have hi_ : iz ≤ c0 := hi__
            have hg_ : (∀ g, g < iz → tx (5 + g) ≤ 20) := hg__
            refine j_ws (ws' := [(ma 45, .inl (y 0, 14, .inl g45)), MB mo ma (nI t1) i2 i3 i4 i5 i6 i7 i8 i42 i49 i51 i53 i54 i59 i61 i64 i66 (nI t67) i76 i78, (ma 43, .inl (y 0, 8, .inl g43)), (ma 0, .inl (y 0, 1600, .inl (tby tx)))]) rfl ?_
            refine j_lv (lv' := [(2, .int (nI iz)), (0, .ref mo), (1, .int (nI j))]) rfl ?_
            refine j_iload_n (pc := 98) C d_Model_isTold_98 rfl 0 rfl ?_
            refine j_aload_n (pc := 99) C d_Model_isTold_99 rfl 1 rfl ?_
            refine j_callVi (pc := 100) C (c_M_gateMany l D y mo ma t1 i2 i3 i4 i5 i6 i7 i8 i42 i49 i51 i53 i54 i59 i61 i64 i66 t67 i76 i78 g43 c0 hc0 bc0) kw_Model_341 kv_Model_gateMany 0 10 rfl rfl ⟨by decide, by decide⟩ ⟨by decide, by decide⟩ (wr := [(ma 45, .inl (y 0, 14, .inl g45)), (ma 0, .inl (y 0, 1600, .inl (tby tx)))]) [1, 2] [0, 3] rfl rfl (by decide) (by decide) (by decide) (As := []) (rest := [.int (nI iz)]) rfl (nb rfl) rfl d_Model_isTold_100 (fun r20 _ hr20 => ?_)
            obtain rfl := hr20
            refine j_ws (ws' := [(ma 45, .inl (y 0, 14, .inl g45)), (ma 0, .inl (y 0, 1600, .inl (tby tx))), MB mo ma (nI t1) i2 i3 i4 i5 i6 i7 i8 i42 i49 i51 i53 i54 i59 i61 i64 i66 (nI t67) i76 i78, (ma 43, .inl (y 0, 8, .inl g43))]) rfl ?_
            by_cases c21 : c0 ≤ iz
            · refine j_icmp_geT (pc := 103) C (tgt := 127) d_Model_isTold_103 (by decide) (show nI c0 ≤ nI iz from nI_le (by omega) (by omega)) ?_
              refine j_iconst (pc := 127) C (v := 1) d_Model_isTold_127 (by decide) ?_
              exact j_iret (pc := 128) C hr (by decide) () (Or.inl ⟨rfl, by omega, by first | assumption | omega, fun g hg => hg_ g (by omega), by omega, by omega, by omega⟩) [2, 1, 3, 0] rfl (by decide) (by decide) (by decide) d_Model_isTold_128
            · refine j_icmp_geF (pc := 103) C (tgt := 127) d_Model_isTold_103 (by decide) (show ¬ nI c0 ≤ nI iz from nI_ge (by omega) (by omega)) ?_
              refine j_aload_n (pc := 106) C d_Model_isTold_106 rfl 1 rfl ?_
              refine j_get (pc := 107) C gf_Model_7 2 rfl rfl d_Model_isTold_107 ?_
              refine j_iconst (pc := 110) C (v := 5) d_Model_isTold_110 (by decide) ?_
              refine j_iload_n (pc := 111) C d_Model_isTold_111 rfl 0 rfl ?_
              refine j_iadd (pc := 112) C (v := nI (5 + iz)) d_Model_isTold_112 (nI_add _ _) ?_
              have hb22 : tx (5 + iz) < 256 := hB (5 + iz)
              refine j_iald (pc := 113) C 1 rfl (v := nI (tx (5 + iz))) (vp_in_nI (by omega) (by decide)) (by rw [nI_clamp (by omega)]; rfl) d_Model_isTold_113 ?_
              refine j_bipush (pc := 114) C (v := 20) d_Model_isTold_114 (by decide) ?_
              by_cases c23 : (tx (5 + iz)) ≤ 20
              · refine j_icmp_leT (pc := 116) C (tgt := 121) d_Model_isTold_116 (by decide) (show nI (tx (5 + iz)) ≤ nI 20 from nI_le (by omega) (by omega)) ?_
                refine j_iinc (pc := 121) C (v := nI (iz + 1)) (lv' := [(2, .int (nI (iz + 1))), (0, .ref mo), (1, .int (nI j))]) d_Model_isTold_121 0 rfl (nI_add _ _) (by decide) rfl ?_
                refine j_goto (pc := 124) C (tgt := 98) d_Model_isTold_124 (by decide) ?_
                refine j_sub (ws' := [(ma 45, .inl (y 0, 14, .inl g45)), MB mo ma (nI t1) i2 i3 i4 i5 i6 i7 i8 i42 i49 i51 i53 i54 i59 i61 i64 i66 (nI t67) i76 i78, (ma 43, .inl (y 0, 8, .inl g43)), (ma 0, .inl (y 0, 1600, .inl (tby tx)))]) [0, 2, 3, 1] rfl (by decide) ?_
                exact ih19 ((iz + 1)) ⟨(show (iz + 1) ≤ c0 by omega), (fun g hg => if e : g = iz then (by rw [e]; omega) else hg_ g (by omega))⟩ (show c0 - (iz + 1) < c0 - iz by omega)
              · refine j_icmp_leF (pc := 116) C (tgt := 121) d_Model_isTold_116 (by decide) (show ¬ nI (tx (5 + iz)) ≤ nI 20 from nI_ge (by omega) (by omega)) ?_
                refine j_iconst (pc := 119) C (v := 0) d_Model_isTold_119 (by decide) ?_
                exact j_iret (pc := 120) C hr (by decide) () (Or.inr ⟨rfl, fun q => by have e1 := q.1; have e2 := q.2.1; have e3 := q.2.2.2; have e4 := q.2.2.1 iz (by omega); omega⟩) [2, 1, 3, 0] rfl (by decide) (by decide) (by decide) d_Model_isTold_120
          · refine j_icmp_leF (pc := 91) C (tgt := 96) d_Model_isTold_91 (by decide) (show ¬ nI (tx 4) ≤ nI 2 from nI_ge (by omega) (by omega)) ?_
            refine j_iconst (pc := 94) C (v := 0) d_Model_isTold_94 (by decide) ?_
            exact j_iret (pc := 95) C hr (by decide) () (Or.inr ⟨rfl, fun q => by have e1 := q.1; have e2 := q.2.1; have e3 := q.2.2.2; omega⟩) [1, 3, 2, 0] rfl (by decide) (by decide) (by decide) d_Model_isTold_95
    · refine j_icmp_eqF (pc := 29) C (tgt := 34) d_Model_isTold_29 (by decide) (show ¬ nI (tx (j - 1)) = nI (ckF tx (j - 1)) from fun e => absurd ((nI_eq (by omega) (by omega)).mp e) (by omega)) ?_
      refine j_iconst (pc := 32) C (v := 0) d_Model_isTold_32 (by decide) ?_
      exact j_iret (pc := 33) C hr (by decide) () (Or.inr ⟨rfl, fun q => by have e1 := q.1; have e2 := q.2.1; have e3 := q.2.2.2; omega⟩) [1, 3, 2, 0] rfl (by decide) (by decide) (by decide) d_Model_isTold_33
set_option maxHeartbeats 4000000 in
set_option maxRecDepth 100000 in
theorem c_M_image_x (l : Launch) (D : va_G) (y : Nat → ClassId) (mo : Nat) (ma : Nat → Nat) (t1 : Nat) (i2 : Int32) (i3 : Int32) (i4 : Int32) (i5 : Int32) (i6 : Int32) (i7 : Int32) (i8 : Int32) (i42 : Int32) (i49 : Int32) (i51 : Int32) (i53 : Int32) (i54 : Int32) (i59 : Int32) (i61 : Int32) (i64 : Int32) (i66 : Int32) (t67 : Nat) (i76 : Int64) (i78 : Int32) (g43 : Nat → Int32) (g62 : Nat → Int32) (g77 : Nat → Int32) (c0 : Nat) (dy : Nat) (hc0 : g43 4 = nI c0) (bc0 : c0 ≤ 9) (hD : g62 0 = nI dy) (bD : dy ≤ 999) : CT l D y ⟨"NineBoardsModel", "image", "()I"⟩ prog_13_method_122_code 2 (some .int) ({ frames := 1, cells := 0, slots := 0, locals := 23 } : Room) [.ref mo] [MB mo ma (nI t1) i2 i3 i4 i5 i6 i7 i8 i42 i49 i51 i53 i54 i59 i61 i64 i66 (nI t67) i76 i78, (ma 43, .inl (y 0, 8, .inl g43)), (ma 62, .inl (y 0, 63, .inl g62)), (ma 77, .inl (y 0, 15, .inl g77))] (QI D [MB mo ma (nI t1) i2 i3 i4 i5 i6 i7 i8 i42 i49 i51 i53 i54 i59 i61 i64 i66 (nI t67) i76 i78, (ma 43, .inl (y 0, 8, .inl g43)), (ma 62, .inl (y 0, 63, .inl g62)), (ma 77, .inl (y 0, 15, .inl g77))] (fun (r : Int32) (u : Nat × (Nat → Int32)) => u.1 ≤ 15 ∧ r = nI (c0 + 6)) (fun u => [MB mo ma (nI t1) i2 i3 i4 i5 i6 i7 i8 i42 i49 i51 i53 i54 i59 i61 i64 i66 (nI t67) i76 (nI u.1), (ma 43, .inl (y 0, 8, .inl g43)), (ma 62, .inl (y 0, 63, .inl g62)), (ma 77, .inl (y 0, 15, .inl u.2))])) := by
  refine CT.of (by decide) (nb rfl) ?_
  intro p e s m args below meth c C hr
  refine j_lv (lv' := [(0, .ref mo)]) rfl ?_
  refine j_aload_n (pc := 0) C d_Model_image_0 rfl 0 rfl ?_
  refine j_iconst (pc := 1) C (v := 0) d_Model_image_1 (by decide) ?_
  refine j_put (pc := 2) C pf_Model_582 0 (ws' := [MB mo ma (nI t1) i2 i3 i4 i5 i6 i7 i8 i42 i49 i51 i53 i54 i59 i61 i64 i66 (nI t67) i76 0, (ma 43, .inl (y 0, 8, .inl g43)), (ma 62, .inl (y 0, 63, .inl g62)), (ma 77, .inl (y 0, 15, .inl g77))]) rfl rfl rfl (nl rfl) rfl d_Model_image_2 ?_
  refine j_aload_n (pc := 5) C d_Model_image_5 rfl 0 rfl ?_
  refine j_aload_n (pc := 6) C d_Model_image_6 rfl 0 rfl ?_
  refine j_get (pc := 7) C gf_Model_158 0 rfl rfl d_Model_image_7 ?_
  refine j_iconst (pc := 10) C (v := 0) d_Model_image_10 (by decide) ?_
  refine j_iald (pc := 11) C 2 rfl (v := nI dy) (vin (by decide)) (by exact hD) d_Model_image_11 ?_
  refine j_sipush (pc := 12) C (v := 256) d_Model_image_12 (by decide) ?_
  refine j_idiv (pc := 15) C (v := nI (dy / 256)) d_Model_image_15 (by decide) (pk_div (a := dy) (d := 256) (by omega) (by omega) (by omega)) ?_
  refine j_callVv (pc := 16) C (c_M_writes l D y mo ma t1 i2 i3 i4 i5 i6 i7 i8 i42 i49 i51 i53 i54 i59 i61 i64 i66 t67 i76 0 g77 (nI (dy / 256)) (by omega)) kw_Model_585 kv_Model_writes 0 10 rfl rfl ⟨by decide, by decide⟩ ⟨by decide, by decide⟩ (wr := [(ma 43, .inl (y 0, 8, .inl g43)), (ma 62, .inl (y 0, 63, .inl g62))]) [0, 3] [1, 2] rfl rfl (by decide) (by decide) (by decide) (As := [.int (nI (dy / 256))]) (rest := []) rfl (nb rfl) rfl d_Model_image_16 (fun u1 hu2 => ?_)
  have xh3 := hu2
  refine j_ws (ws' := [(ma 43, .inl (y 0, 8, .inl g43)), (ma 62, .inl (y 0, 63, .inl g62)), MB mo ma (nI t1) i2 i3 i4 i5 i6 i7 i8 i42 i49 i51 i53 i54 i59 i61 i64 i66 (nI t67) i76 (nI u1.1), (ma 77, .inl (y 0, 15, .inl u1.2))]) rfl ?_
  refine j_aload_n (pc := 19) C d_Model_image_19 rfl 0 rfl ?_
  refine j_aload_n (pc := 20) C d_Model_image_20 rfl 0 rfl ?_
  refine j_get (pc := 21) C gf_Model_158 2 rfl rfl d_Model_image_21 ?_
  refine j_iconst (pc := 24) C (v := 0) d_Model_image_24 (by decide) ?_
  refine j_iald (pc := 25) C 1 rfl (v := nI dy) (vin (by decide)) (by exact hD) d_Model_image_25 ?_
  refine j_sipush (pc := 26) C (v := 256) d_Model_image_26 (by decide) ?_
  refine j_irem (pc := 29) C (v := nI (dy % 256)) d_Model_image_29 (by decide) (pk_rem (a := dy) (d := 256) (by omega) (by omega) (by omega)) ?_
  refine j_callVv (pc := 30) C (c_M_writes l D y mo ma t1 i2 i3 i4 i5 i6 i7 i8 i42 i49 i51 i53 i54 i59 i61 i64 i66 t67 i76 u1.1 u1.2 (nI (dy % 256)) (by omega)) kw_Model_585 kv_Model_writes 0 10 rfl rfl ⟨by decide, by decide⟩ ⟨by decide, by decide⟩ (wr := [(ma 43, .inl (y 0, 8, .inl g43)), (ma 62, .inl (y 0, 63, .inl g62))]) [2, 3] [0, 1] rfl rfl (by decide) (by decide) (by decide) (As := [.int (nI (dy % 256))]) (rest := []) rfl (nb rfl) rfl d_Model_image_30 (fun u4 hu5 => ?_)
  have xh6 := hu5
  refine j_ws (ws' := [(ma 43, .inl (y 0, 8, .inl g43)), (ma 62, .inl (y 0, 63, .inl g62)), MB mo ma (nI t1) i2 i3 i4 i5 i6 i7 i8 i42 i49 i51 i53 i54 i59 i61 i64 i66 (nI t67) i76 (nI u4.1), (ma 77, .inl (y 0, 15, .inl u4.2))]) rfl ?_
  refine j_aload_n (pc := 33) C d_Model_image_33 rfl 0 rfl ?_
  refine j_aload_n (pc := 34) C d_Model_image_34 rfl 0 rfl ?_
  refine j_get (pc := 35) C gf_Model_158 2 rfl rfl d_Model_image_35 ?_
  refine j_iconst (pc := 38) C (v := 1) d_Model_image_38 (by decide) ?_
  refine j_iald (pc := 39) C 1 rfl (v := g62 1) (vin (by decide)) rfl d_Model_image_39 ?_
  refine j_sipush (pc := 40) C (v := 256) d_Model_image_40 (by decide) ?_
  refine j_idiv (pc := 43) C (v := (g62 1) / 256) d_Model_image_43 (by decide) rfl ?_
  refine j_callVv (pc := 44) C (c_M_writes l D y mo ma t1 i2 i3 i4 i5 i6 i7 i8 i42 i49 i51 i53 i54 i59 i61 i64 i66 t67 i76 u4.1 u4.2 ((g62 1) / 256) (by omega)) kw_Model_585 kv_Model_writes 0 10 rfl rfl ⟨by decide, by decide⟩ ⟨by decide, by decide⟩ (wr := [(ma 43, .inl (y 0, 8, .inl g43)), (ma 62, .inl (y 0, 63, .inl g62))]) [2, 3] [0, 1] rfl rfl (by decide) (by decide) (by decide) (As := [.int ((g62 1) / 256)]) (rest := []) rfl (nb rfl) rfl d_Model_image_44 (fun u7 hu8 => ?_)
  have xh9 := hu8
  refine j_ws (ws' := [(ma 43, .inl (y 0, 8, .inl g43)), (ma 62, .inl (y 0, 63, .inl g62)), MB mo ma (nI t1) i2 i3 i4 i5 i6 i7 i8 i42 i49 i51 i53 i54 i59 i61 i64 i66 (nI t67) i76 (nI u7.1), (ma 77, .inl (y 0, 15, .inl u7.2))]) rfl ?_
  refine j_aload_n (pc := 47) C d_Model_image_47 rfl 0 rfl ?_
  refine j_aload_n (pc := 48) C d_Model_image_48 rfl 0 rfl ?_
  refine j_get (pc := 49) C gf_Model_158 2 rfl rfl d_Model_image_49 ?_
  refine j_iconst (pc := 52) C (v := 1) d_Model_image_52 (by decide) ?_
  refine j_iald (pc := 53) C 1 rfl (v := g62 1) (vin (by decide)) rfl d_Model_image_53 ?_
  refine j_sipush (pc := 54) C (v := 256) d_Model_image_54 (by decide) ?_
  refine j_irem (pc := 57) C (v := (g62 1) - (g62 1) / 256 * 256) d_Model_image_57 (by decide) rfl ?_
  refine j_callVv (pc := 58) C (c_M_writes l D y mo ma t1 i2 i3 i4 i5 i6 i7 i8 i42 i49 i51 i53 i54 i59 i61 i64 i66 t67 i76 u7.1 u7.2 ((g62 1) - (g62 1) / 256 * 256) (by omega)) kw_Model_585 kv_Model_writes 0 10 rfl rfl ⟨by decide, by decide⟩ ⟨by decide, by decide⟩ (wr := [(ma 43, .inl (y 0, 8, .inl g43)), (ma 62, .inl (y 0, 63, .inl g62))]) [2, 3] [0, 1] rfl rfl (by decide) (by decide) (by decide) (As := [.int ((g62 1) - (g62 1) / 256 * 256)]) (rest := []) rfl (nb rfl) rfl d_Model_image_58 (fun u10 hu11 => ?_)
  have xh12 := hu11
  refine j_ws (ws' := [(ma 43, .inl (y 0, 8, .inl g43)), (ma 62, .inl (y 0, 63, .inl g62)), MB mo ma (nI t1) i2 i3 i4 i5 i6 i7 i8 i42 i49 i51 i53 i54 i59 i61 i64 i66 (nI t67) i76 (nI u10.1), (ma 77, .inl (y 0, 15, .inl u10.2))]) rfl ?_
  refine j_aload_n (pc := 61) C d_Model_image_61 rfl 0 rfl ?_
  refine j_aload_n (pc := 62) C d_Model_image_62 rfl 0 rfl ?_
  refine j_get (pc := 63) C gf_Model_158 2 rfl rfl d_Model_image_63 ?_
  refine j_iconst (pc := 66) C (v := 2) d_Model_image_66 (by decide) ?_
  refine j_iald (pc := 67) C 1 rfl (v := g62 2) (vin (by decide)) rfl d_Model_image_67 ?_
  refine j_callVv (pc := 68) C (c_M_writes l D y mo ma t1 i2 i3 i4 i5 i6 i7 i8 i42 i49 i51 i53 i54 i59 i61 i64 i66 t67 i76 u10.1 u10.2 (g62 2) (by omega)) kw_Model_585 kv_Model_writes 0 10 rfl rfl ⟨by decide, by decide⟩ ⟨by decide, by decide⟩ (wr := [(ma 43, .inl (y 0, 8, .inl g43)), (ma 62, .inl (y 0, 63, .inl g62))]) [2, 3] [0, 1] rfl rfl (by decide) (by decide) (by decide) (As := [.int (g62 2)]) (rest := []) rfl (nb rfl) rfl d_Model_image_68 (fun u13 hu14 => ?_)
  have xh15 := hu14
  refine j_ws (ws' := [(ma 43, .inl (y 0, 8, .inl g43)), (ma 62, .inl (y 0, 63, .inl g62)), MB mo ma (nI t1) i2 i3 i4 i5 i6 i7 i8 i42 i49 i51 i53 i54 i59 i61 i64 i66 (nI t67) i76 (nI u13.1), (ma 77, .inl (y 0, 15, .inl u13.2))]) rfl ?_
  refine j_iconst (pc := 71) C (v := 0) d_Model_image_71 (by decide) ?_
  refine j_istore_n (pc := 72) C (lv' := [(1, .int 0), (0, .ref mo)]) d_Model_image_72 rfl (by decide) rfl ?_
  refine j_loop (α := Nat × Nat × (Nat → Int32)) (fun a => c0 - a.1) (fun a => (a.1 ≤ c0) ∧ (a.2.1 = 5 + a.1)) (fun a => [(ma 43, .inl (y 0, 8, .inl g43)), (ma 62, .inl (y 0, 63, .inl g62)), MB mo ma (nI t1) i2 i3 i4 i5 i6 i7 i8 i42 i49 i51 i53 i54 i59 i61 i64 i66 (nI t67) i76 (nI a.2.1), (ma 77, .inl (y 0, 15, .inl a.2.2))]) (fun a => [(1, .int (nI a.1)), (0, .ref mo)]) (0, u13.1, u13.2) rfl rfl ⟨(show 0 ≤ c0 by omega), (show u13.1 = 5 + 0 by omega)⟩ ?_
  rintro ⟨iz, oz, z26⟩ hP37 ih38
  obtain ⟨hi__, ho__⟩ := hP37
  have hi_ : iz ≤ c0 := hi__
  have ho_ : oz = 5 + iz := ho__
  refine j_ws (ws' := [(ma 43, .inl (y 0, 8, .inl g43)), (ma 62, .inl (y 0, 63, .inl g62)), MB mo ma (nI t1) i2 i3 i4 i5 i6 i7 i8 i42 i49 i51 i53 i54 i59 i61 i64 i66 (nI t67) i76 (nI oz), (ma 77, .inl (y 0, 15, .inl z26))]) rfl ?_
  refine j_lv (lv' := [(1, .int (nI iz)), (0, .ref mo)]) rfl ?_
  refine j_iload_n (pc := 73) C d_Model_image_73 rfl 0 rfl ?_
  refine j_aload_n (pc := 74) C d_Model_image_74 rfl 1 rfl ?_
  refine j_callVi (pc := 75) C (c_M_gateMany l D y mo ma t1 i2 i3 i4 i5 i6 i7 i8 i42 i49 i51 i53 i54 i59 i61 i64 i66 t67 i76 (nI oz) g43 c0 hc0 bc0) kw_Model_341 kv_Model_gateMany 0 10 rfl rfl ⟨by decide, by decide⟩ ⟨by decide, by decide⟩ (wr := [(ma 62, .inl (y 0, 63, .inl g62)), (ma 77, .inl (y 0, 15, .inl z26))]) [2, 0] [1, 3] rfl rfl (by decide) (by decide) (by decide) (As := []) (rest := [.int (nI iz)]) rfl (nb rfl) rfl d_Model_image_75 (fun r39 _ hr39 => ?_)
  obtain rfl := hr39
  refine j_ws (ws' := [(ma 62, .inl (y 0, 63, .inl g62)), (ma 77, .inl (y 0, 15, .inl z26)), MB mo ma (nI t1) i2 i3 i4 i5 i6 i7 i8 i42 i49 i51 i53 i54 i59 i61 i64 i66 (nI t67) i76 (nI oz), (ma 43, .inl (y 0, 8, .inl g43))]) rfl ?_
  by_cases c40 : c0 ≤ iz
  · refine j_icmp_geT (pc := 78) C (tgt := 96) d_Model_image_78 (by decide) (show nI c0 ≤ nI iz from nI_le (by omega) (by omega)) ?_
    refine j_aload_n (pc := 96) C d_Model_image_96 rfl 1 rfl ?_
    refine j_aload_n (pc := 97) C d_Model_image_97 rfl 1 rfl ?_
    refine j_get (pc := 98) C gf_Model_195 2 rfl rfl d_Model_image_98 ?_
    refine j_aload_n (pc := 101) C d_Model_image_101 rfl 1 rfl ?_
    refine j_get (pc := 102) C gf_Model_582 2 rfl rfl d_Model_image_102 ?_
    refine j_callSi (pc := 105) C (c_M_checked_octet l D y (ma 77) z26 oz (by omega)) kw_Model_588 ks_Model_checked ⟨by decide, by decide⟩ ⟨by decide, by decide⟩ (wr := [(ma 62, .inl (y 0, 63, .inl g62)), MB mo ma (nI t1) i2 i3 i4 i5 i6 i7 i8 i42 i49 i51 i53 i54 i59 i61 i64 i66 (nI t67) i76 (nI oz), (ma 43, .inl (y 0, 8, .inl g43))]) [1] [0, 2, 3] rfl rfl (by decide) (by decide) (by decide) (As := [.ref (ma 77), .int (nI oz)]) (rest := [.ref mo]) rfl (nb rfl) rfl d_Model_image_105 (fun r41 _ hr41 => ?_)
    refine j_ws (ws' := [(ma 62, .inl (y 0, 63, .inl g62)), MB mo ma (nI t1) i2 i3 i4 i5 i6 i7 i8 i42 i49 i51 i53 i54 i59 i61 i64 i66 (nI t67) i76 (nI oz), (ma 43, .inl (y 0, 8, .inl g43)), (ma 77, .inl (y 0, 15, .inl z26))]) rfl ?_
    refine j_callVv (pc := 108) C (c_M_writes l D y mo ma t1 i2 i3 i4 i5 i6 i7 i8 i42 i49 i51 i53 i54 i59 i61 i64 i66 t67 i76 oz z26 r41 (by omega)) kw_Model_585 kv_Model_writes 0 10 rfl rfl ⟨by decide, by decide⟩ ⟨by decide, by decide⟩ (wr := [(ma 62, .inl (y 0, 63, .inl g62)), (ma 43, .inl (y 0, 8, .inl g43))]) [1, 3] [0, 2] rfl rfl (by decide) (by decide) (by decide) (As := [.int r41]) (rest := []) rfl (nb rfl) rfl d_Model_image_108 (fun u42 hu43 => ?_)
    have xh44 := hu43
    refine j_ws (ws' := [(ma 62, .inl (y 0, 63, .inl g62)), (ma 43, .inl (y 0, 8, .inl g43)), MB mo ma (nI t1) i2 i3 i4 i5 i6 i7 i8 i42 i49 i51 i53 i54 i59 i61 i64 i66 (nI t67) i76 (nI u42.1), (ma 77, .inl (y 0, 15, .inl u42.2))]) rfl ?_
    refine j_aload_n (pc := 111) C d_Model_image_111 rfl 1 rfl ?_
    refine j_get (pc := 112) C gf_Model_582 2 rfl rfl d_Model_image_112 ?_
    exact j_iret (pc := 115) C hr rfl (u42.1, u42.2) ⟨(show u42.1 ≤ 15 by omega), (show nI u42.1 = nI (c0 + 6) from congrArg nI (by omega))⟩ [2, 1, 0, 3] rfl (by decide) (by decide) (by decide) d_Model_image_115
  · refine j_icmp_geF (pc := 78) C (tgt := 96) d_Model_image_78 (by decide) (show ¬ nI c0 ≤ nI iz from nI_ge (by omega) (by omega)) ?_
    refine j_aload_n (pc := 81) C d_Model_image_81 rfl 1 rfl ?_
    refine j_aload_n (pc := 82) C d_Model_image_82 rfl 1 rfl ?_
    refine j_iload_n (pc := 83) C d_Model_image_83 rfl 0 rfl ?_
    refine j_callVi (pc := 84) C (c_M_boards l D y mo ma t1 i2 i3 i4 i5 i6 i7 i8 i42 i49 i51 i53 i54 i59 i61 i64 i66 t67 i76 (nI oz) g62 iz (by omega)) kw_Model_421 kv_Model_boards 0 10 rfl rfl ⟨by decide, by decide⟩ ⟨by decide, by decide⟩ (wr := [(ma 77, .inl (y 0, 15, .inl z26)), (ma 43, .inl (y 0, 8, .inl g43))]) [2, 0] [1, 3] rfl rfl (by decide) (by decide) (by decide) (As := [.int (nI iz)]) (rest := [.ref mo]) rfl (nb rfl) rfl d_Model_image_84 (fun r45 _ hr45 => ?_)
    refine j_ws (ws' := [(ma 77, .inl (y 0, 15, .inl z26)), (ma 43, .inl (y 0, 8, .inl g43)), MB mo ma (nI t1) i2 i3 i4 i5 i6 i7 i8 i42 i49 i51 i53 i54 i59 i61 i64 i66 (nI t67) i76 (nI oz), (ma 62, .inl (y 0, 63, .inl g62))]) rfl ?_
    refine j_callVv (pc := 87) C (c_M_writes l D y mo ma t1 i2 i3 i4 i5 i6 i7 i8 i42 i49 i51 i53 i54 i59 i61 i64 i66 t67 i76 oz z26 r45 (by omega)) kw_Model_585 kv_Model_writes 0 10 rfl rfl ⟨by decide, by decide⟩ ⟨by decide, by decide⟩ (wr := [(ma 43, .inl (y 0, 8, .inl g43)), (ma 62, .inl (y 0, 63, .inl g62))]) [2, 0] [1, 3] rfl rfl (by decide) (by decide) (by decide) (As := [.int r45]) (rest := []) rfl (nb rfl) rfl d_Model_image_87 (fun u46 hu47 => ?_)
    have xh48 := hu47
    refine j_ws (ws' := [(ma 43, .inl (y 0, 8, .inl g43)), (ma 62, .inl (y 0, 63, .inl g62)), MB mo ma (nI t1) i2 i3 i4 i5 i6 i7 i8 i42 i49 i51 i53 i54 i59 i61 i64 i66 (nI t67) i76 (nI u46.1), (ma 77, .inl (y 0, 15, .inl u46.2))]) rfl ?_
    refine j_iinc (pc := 90) C (v := nI (iz + 1)) (lv' := [(1, .int (nI (iz + 1))), (0, .ref mo)]) d_Model_image_90 0 rfl (nI_add _ _) (by decide) rfl ?_
    refine j_goto (pc := 93) C (tgt := 73) d_Model_image_93 (by decide) ?_
    exact ih38 ((iz + 1), u46.1, u46.2) ⟨(show (iz + 1) ≤ c0 by omega), (show u46.1 = 5 + (iz + 1) by omega)⟩ (show c0 - (iz + 1) < c0 - iz by omega)
