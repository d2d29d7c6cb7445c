/-- a digit -/
abbrev DG (v : Int32) : Prop := 48 ≤ v ∧ v ≤ 57
theorem dg_at {f : Nat → Int32} {a b : Nat} {P : Prop} (h : DG (f a)) (hn : ¬ DG (f b)) (hab : a ≤ b) (_ : P) : a < b := by
  rcases Nat.lt_or_ge a b with q | q
  · exact q
  · rw [show b = a by omega] at hn
    exact absurd h hn
theorem i0_of {v : Int32} {q : Nat} (e : v = nI q) (h : 1 ≤ q) (h2 : q ≤ 100000) : ¬ v = 0 := by
  rw [e]
  exact fun e => absurd ((nI_eq (a := q) (b := 0) (by omega) (by omega)).mp e) (by omega)
theorem d_Model_fail_0 : decode prog_13_method_5_code 0 = .ok (.aload_n 0, 1) := by decide +kernel
theorem d_Model_fail_1 : decode prog_13_method_5_code 1 = .ok (.getfield 201, 3) := by decide +kernel
theorem gf_Model_201 : GF "NineBoardsModel" 201 10 5 := ⟨_, _, _, rfl, ci_Model, by decide, (mt_5 (List.mem_of_getElem? (i := 93) rfl) rfl)⟩
theorem d_Model_fail_4 : decode prog_13_method_5_code 4 = .ok (.ifCond .eq 4, 3) := by decide +kernel
theorem d_Model_fail_8 : decode prog_13_method_5_code 8 = .ok (.aload_n 0, 1) := by decide +kernel
theorem d_Model_fail_9 : decode prog_13_method_5_code 9 = .ok (.iload_n 1, 1) := by decide +kernel
theorem d_Model_fail_10 : decode prog_13_method_5_code 10 = .ok (.putfield 201, 3) := by decide +kernel
theorem pf_Model_201 : PF "NineBoardsModel" 201 10 5 (.int) false := ⟨_, _, _, ct_Model, rfl, ci_Model, by decide, (mt_5 (List.mem_of_getElem? (i := 93) rfl) rfl), cp_Model, cn_Model, rfl, by decide +kernel, (fun h => by cases h)⟩
theorem d_Model_fail_13 : decode prog_13_method_5_code 13 = .ok (.aload_n 0, 1) := by decide +kernel
theorem d_Model_fail_14 : decode prog_13_method_5_code 14 = .ok (.iload_n 2, 1) := by decide +kernel
theorem d_Model_fail_15 : decode prog_13_method_5_code 15 = .ok (.putfield 204, 3) := by decide +kernel
theorem pf_Model_204 : PF "NineBoardsModel" 204 10 6 (.int) false := ⟨_, _, _, ct_Model, rfl, ci_Model, by decide, (mt_5 (List.mem_of_getElem? (i := 94) rfl) rfl), cp_Model, cn_Model, rfl, by decide +kernel, (fun h => by cases h)⟩
theorem d_Model_fail_18 : decode prog_13_method_5_code 18 = .ok (.return_, 1) := by decide +kernel
theorem d_Model_fail_7 : decode prog_13_method_5_code 7 = .ok (.return_, 1) := by decide +kernel
set_option maxHeartbeats 4000000 in
set_option maxRecDepth 100000 in
theorem c_M_fail (l : Launch) (D : va_G) (y : Nat → ClassId) (mo : Nat) (ma : Nat → Nat) (t1 : Nat) (t2 : Nat) (t3 : Nat) (i4 : Int32) (i5 : Int32) (i6 : Int32) (i7 : Int32) (i8 : Int32) (i42 : Int32) (i49 : Int32) (i51 : Int32) (i53 : Int32) (i54 : Int32) (i59 : Int32) (i61 : Int32) (i64 : Int32) (i66 : Int32) (t67 : Nat) (i76 : Int64) (i78 : Int32) (v1 : Int32) (v2 : Int32) (hk : ¬ v1 = 0) : CT l D y ⟨"NineBoardsModel", "fail", "(II)V"⟩ prog_13_method_5_code 3 none ({ frames := 0, cells := 0, slots := 0, locals := 0 } : Room) [.ref mo, .int v1, .int v2] [MB mo ma (nI t1) (nI t2) (nI t3) i4 i5 i6 i7 i8 i42 i49 i51 i53 i54 i59 i61 i64 i66 (nI t67) i76 i78] (QV D [MB mo ma (nI t1) (nI t2) (nI t3) i4 i5 i6 i7 i8 i42 i49 i51 i53 i54 i59 i61 i64 i66 (nI t67) i76 i78] (fun (u : Int32 × Int32) => ¬ u.1 = 0) (fun u => [MB mo ma (nI t1) (nI t2) (nI t3) i4 u.1 u.2 i7 i8 i42 i49 i51 i53 i54 i59 i61 i64 i66 (nI t67) i76 i78])) := by
  refine CT.of (by decide) (nb rfl) ?_
  intro p e s m args below meth c C hr
  refine j_lv (lv' := [(0, .ref mo), (1, .int v1), (2, .int v2)]) rfl ?_
  refine j_aload_n (pc := 0) C d_Model_fail_0 rfl 0 rfl ?_
  refine j_get (pc := 1) C gf_Model_201 0 rfl rfl d_Model_fail_1 ?_
  refine j_if_eq (pc := 4) C (tgt := 8) d_Model_fail_4 (by decide) (fun c1 => ?_) (fun c1 => ?_)
  · refine j_aload_n (pc := 8) C d_Model_fail_8 rfl 0 rfl ?_
    refine j_iload_n (pc := 9) C d_Model_fail_9 rfl 1 rfl ?_
    refine j_put (pc := 10) C pf_Model_201 0 (ws' := [MB mo ma (nI t1) (nI t2) (nI t3) i4 v1 i6 i7 i8 i42 i49 i51 i53 i54 i59 i61 i64 i66 (nI t67) i76 i78]) rfl rfl rfl (nl rfl) rfl d_Model_fail_10 ?_
    refine j_aload_n (pc := 13) C d_Model_fail_13 rfl 0 rfl ?_
    refine j_iload_n (pc := 14) C d_Model_fail_14 rfl 2 rfl ?_
    refine j_put (pc := 15) C pf_Model_204 0 (ws' := [MB mo ma (nI t1) (nI t2) (nI t3) i4 v1 v2 i7 i8 i42 i49 i51 i53 i54 i59 i61 i64 i66 (nI t67) i76 i78]) rfl rfl rfl (nl rfl) rfl d_Model_fail_15 ?_
    exact j_vret (pc := 18) C hr (v1, v2) hk [0] rfl (by decide) (by decide) (by decide) d_Model_fail_18
  · exact j_vret (pc := 7) C hr (i5, i6) c1 [0] rfl (by decide) (by decide) (by decide) d_Model_fail_7
theorem d_Model_look_0 : decode prog_13_method_8_code 0 = .ok (.aload_n 0, 1) := by decide +kernel
theorem d_Model_look_1 : decode prog_13_method_8_code 1 = .ok (.getfield 207, 3) := by decide +kernel
theorem gf_Model_207 : GF "NineBoardsModel" 207 10 2 := ⟨_, _, _, rfl, ci_Model, by decide, (mt_5 (List.mem_of_getElem? (i := 90) rfl) rfl)⟩
theorem d_Model_look_4 : decode prog_13_method_8_code 4 = .ok (.aload_n 0, 1) := by decide +kernel
theorem d_Model_look_5 : decode prog_13_method_8_code 5 = .ok (.getfield 210, 3) := by decide +kernel
theorem gf_Model_210 : GF "NineBoardsModel" 210 10 3 := ⟨_, _, _, rfl, ci_Model, by decide, (mt_5 (List.mem_of_getElem? (i := 91) rfl) rfl)⟩
theorem d_Model_look_8 : decode prog_13_method_8_code 8 = .ok (.if_icmp .ge 44, 3) := by decide +kernel
theorem d_Model_look_52 : decode prog_13_method_8_code 52 = .ok (.aload_n 0, 1) := by decide +kernel
theorem d_Model_look_53 : decode prog_13_method_8_code 53 = .ok (.getfield 207, 3) := by decide +kernel
theorem d_Model_look_56 : decode prog_13_method_8_code 56 = .ok (.aload_n 0, 1) := by decide +kernel
theorem d_Model_look_57 : decode prog_13_method_8_code 57 = .ok (.getfield 210, 3) := by decide +kernel
theorem d_Model_look_60 : decode prog_13_method_8_code 60 = .ok (.if_icmp .ge 15, 3) := by decide +kernel
theorem d_Model_look_75 : decode prog_13_method_8_code 75 = .ok (.iconst (-1), 1) := by decide +kernel
theorem d_Model_look_76 : decode prog_13_method_8_code 76 = .ok (.ireturn, 1) := by decide +kernel
theorem d_Model_look_63 : decode prog_13_method_8_code 63 = .ok (.aload_n 0, 1) := by decide +kernel
theorem d_Model_look_64 : decode prog_13_method_8_code 64 = .ok (.getfield 7, 3) := by decide +kernel
theorem d_Model_look_67 : decode prog_13_method_8_code 67 = .ok (.aload_n 0, 1) := by decide +kernel
theorem d_Model_look_68 : decode prog_13_method_8_code 68 = .ok (.getfield 207, 3) := by decide +kernel
theorem d_Model_look_71 : decode prog_13_method_8_code 71 = .ok (.iaload, 1) := by decide +kernel
theorem d_Model_look_72 : decode prog_13_method_8_code 72 = .ok (.goto 4, 3) := by decide +kernel
theorem d_Model_look_11 : decode prog_13_method_8_code 11 = .ok (.aload_n 0, 1) := by decide +kernel
theorem d_Model_look_12 : decode prog_13_method_8_code 12 = .ok (.getfield 7, 3) := by decide +kernel
theorem d_Model_look_15 : decode prog_13_method_8_code 15 = .ok (.aload_n 0, 1) := by decide +kernel
theorem d_Model_look_16 : decode prog_13_method_8_code 16 = .ok (.getfield 207, 3) := by decide +kernel
theorem d_Model_look_19 : decode prog_13_method_8_code 19 = .ok (.iaload, 1) := by decide +kernel
theorem d_Model_look_20 : decode prog_13_method_8_code 20 = .ok (.bipush 10, 2) := by decide +kernel
theorem d_Model_look_22 : decode prog_13_method_8_code 22 = .ok (.if_icmp .eq 17, 3) := by decide +kernel
theorem d_Model_look_39 : decode prog_13_method_8_code 39 = .ok (.aload_n 0, 1) := by decide +kernel
theorem d_Model_look_40 : decode prog_13_method_8_code 40 = .ok (.dup, 1) := by decide +kernel
theorem d_Model_look_41 : decode prog_13_method_8_code 41 = .ok (.getfield 207, 3) := by decide +kernel
theorem d_Model_look_44 : decode prog_13_method_8_code 44 = .ok (.iconst 1, 1) := by decide +kernel
theorem d_Model_look_45 : decode prog_13_method_8_code 45 = .ok (.iadd, 1) := by decide +kernel
theorem d_Model_look_46 : decode prog_13_method_8_code 46 = .ok (.putfield 207, 3) := by decide +kernel
theorem pf_Model_207 : PF "NineBoardsModel" 207 10 2 (.int) false := ⟨_, _, _, ct_Model, rfl, ci_Model, by decide, (mt_5 (List.mem_of_getElem? (i := 90) rfl) rfl), cp_Model, cn_Model, rfl, by decide +kernel, (fun h => by cases h)⟩
theorem d_Model_look_49 : decode prog_13_method_8_code 49 = .ok (.goto (-49), 3) := by decide +kernel
theorem d_Model_look_25 : decode prog_13_method_8_code 25 = .ok (.aload_n 0, 1) := by decide +kernel
theorem d_Model_look_26 : decode prog_13_method_8_code 26 = .ok (.getfield 7, 3) := by decide +kernel
theorem d_Model_look_29 : decode prog_13_method_8_code 29 = .ok (.aload_n 0, 1) := by decide +kernel
theorem d_Model_look_30 : decode prog_13_method_8_code 30 = .ok (.getfield 207, 3) := by decide +kernel
theorem d_Model_look_33 : decode prog_13_method_8_code 33 = .ok (.iaload, 1) := by decide +kernel
theorem d_Model_look_34 : decode prog_13_method_8_code 34 = .ok (.bipush 32, 2) := by decide +kernel
theorem d_Model_look_36 : decode prog_13_method_8_code 36 = .ok (.if_icmp .ne 16, 3) := by decide +kernel
set_option maxHeartbeats 4000000 in
set_option maxRecDepth 100000 in
theorem c_M_look (l : Launch) (D : va_G) (y : Nat → ClassId) (mo : Nat) (ma : Nat → Nat) (t1 : Nat) (t2 : Nat) (t3 : Nat) (i4 : Int32) (i5 : Int32) (i6 : Int32) (i7 : Int32) (i8 : Int32) (i42 : Int32) (i49 : Int32) (i51 : Int32) (i53 : Int32) (i54 : Int32) (i59 : Int32) (i61 : Int32) (i64 : Int32) (i66 : Int32) (t67 : Nat) (i76 : Int64) (i78 : Int32) (g0 : Nat → Int32) (ha : t2 ≤ t3) (he : t3 ≤ 1600) : CT l D y ⟨"NineBoardsModel", "look", "()I"⟩ prog_13_method_8_code 1 (some .int) ({ frames := 0, cells := 0, slots := 0, locals := 0 } : Room) [.ref mo] [MB mo ma (nI t1) (nI t2) (nI t3) i4 i5 i6 i7 i8 i42 i49 i51 i53 i54 i59 i61 i64 i66 (nI t67) i76 i78, (ma 0, .inl (y 0, 1600, .inl g0))] (QI D [MB mo ma (nI t1) (nI t2) (nI t3) i4 i5 i6 i7 i8 i42 i49 i51 i53 i54 i59 i61 i64 i66 (nI t67) i76 i78, (ma 0, .inl (y 0, 1600, .inl g0))] (fun (r : Int32) (u : Nat) => t2 ≤ u ∧ u ≤ t3 ∧ (r = -1 ∨ (u < t3 ∧ r = g0 u))) (fun u => [MB mo ma (nI t1) (nI u) (nI t3) i4 i5 i6 i7 i8 i42 i49 i51 i53 i54 i59 i61 i64 i66 (nI t67) i76 i78, (ma 0, .inl (y 0, 1600, .inl g0))])) := by
  refine CT.of (by decide) (nb rfl) ?_
  intro p e s m args below meth c C hr
  refine j_lv (lv' := [(0, .ref mo)]) rfl ?_
  refine j_aload_n (pc := 0) C d_Model_look_0 rfl 0 rfl ?_
  refine j_get (pc := 1) C gf_Model_207 0 rfl rfl d_Model_look_1 ?_
  refine j_aload_n (pc := 4) C d_Model_look_4 rfl 0 rfl ?_
  refine j_get (pc := 5) C gf_Model_210 0 rfl rfl d_Model_look_5 ?_
  by_cases c1 : t3 ≤ t2
  · refine j_icmp_geT (pc := 8) C (tgt := 52) d_Model_look_8 (by decide) (show nI t3 ≤ nI t2 from nI_le (by omega) (by omega)) ?_
    refine j_aload_n (pc := 52) C d_Model_look_52 rfl 0 rfl ?_
    refine j_get (pc := 53) C gf_Model_207 0 rfl rfl d_Model_look_53 ?_
    refine j_aload_n (pc := 56) C d_Model_look_56 rfl 0 rfl ?_
    refine j_get (pc := 57) C gf_Model_210 0 rfl rfl d_Model_look_57 ?_
    by_cases c2 : t3 ≤ t2
    · refine j_icmp_geT (pc := 60) C (tgt := 75) d_Model_look_60 (by decide) (show nI t3 ≤ nI t2 from nI_le (by omega) (by omega)) ?_
      refine j_iconst (pc := 75) C (v := (-1)) d_Model_look_75 (by decide) ?_
      exact j_iret (pc := 76) C hr rfl t2 ⟨(show t2 ≤ t2 by omega), (show t2 ≤ t3 by omega), (Or.inl rfl)⟩ [0, 1] rfl (by decide) (by decide) (by decide) d_Model_look_76
    · refine j_icmp_geF (pc := 60) C (tgt := 75) d_Model_look_60 (by decide) (show ¬ nI t3 ≤ nI t2 from nI_ge (by omega) (by omega)) ?_
      refine j_aload_n (pc := 63) C d_Model_look_63 rfl 0 rfl ?_
      refine j_get (pc := 64) C gf_Model_7 0 rfl rfl d_Model_look_64 ?_
      refine j_aload_n (pc := 67) C d_Model_look_67 rfl 0 rfl ?_
      refine j_get (pc := 68) C gf_Model_207 0 rfl rfl d_Model_look_68 ?_
      refine j_iald (pc := 71) C 1 rfl (v := g0 t2) (vp_in_nI (by omega) (by decide)) (by rw [nI_clamp (by omega)]) d_Model_look_71 ?_
      refine j_goto (pc := 72) C (tgt := 76) d_Model_look_72 (by decide) ?_
      exact j_iret (pc := 76) C hr rfl t2 ⟨(show t2 ≤ t2 by omega), (show t2 ≤ t3 by omega), (Or.inr ⟨by omega, rfl⟩)⟩ [0, 1] rfl (by decide) (by decide) (by decide) d_Model_look_76
  · refine j_icmp_geF (pc := 8) C (tgt := 52) d_Model_look_8 (by decide) (show ¬ nI t3 ≤ nI t2 from nI_ge (by omega) (by omega)) ?_
    refine j_aload_n (pc := 11) C d_Model_look_11 rfl 0 rfl ?_
    refine j_get (pc := 12) C gf_Model_7 0 rfl rfl d_Model_look_12 ?_
    refine j_aload_n (pc := 15) C d_Model_look_15 rfl 0 rfl ?_
    refine j_get (pc := 16) C gf_Model_207 0 rfl rfl d_Model_look_16 ?_
    refine j_iald (pc := 19) C 1 rfl (v := g0 t2) (vp_in_nI (by omega) (by decide)) (by rw [nI_clamp (by omega)]) d_Model_look_19 ?_
    refine j_bipush (pc := 20) C (v := 10) d_Model_look_20 (by decide) ?_
    refine j_icmp_eq (pc := 22) C (tgt := 39) d_Model_look_22 (by decide) (fun c3 => ?_) (fun c3 => ?_)
    · refine j_aload_n (pc := 39) C d_Model_look_39 rfl 0 rfl ?_
      refine j_dup (pc := 40) C d_Model_look_40 rfl ?_
      refine j_get (pc := 41) C gf_Model_207 0 rfl rfl d_Model_look_41 ?_
      refine j_iconst (pc := 44) C (v := 1) d_Model_look_44 (by decide) ?_
      refine j_iadd (pc := 45) C (v := nI (t2 + 1)) d_Model_look_45 (nI_add _ _) ?_
      refine j_put (pc := 46) C pf_Model_207 0 (ws' := [MB mo ma (nI t1) (nI (t2 + 1)) (nI t3) i4 i5 i6 i7 i8 i42 i49 i51 i53 i54 i59 i61 i64 i66 (nI t67) i76 i78, (ma 0, .inl (y 0, 1600, .inl g0))]) rfl rfl rfl (nl rfl) rfl d_Model_look_46 ?_
      refine j_goto (pc := 49) C (tgt := 0) d_Model_look_49 (by decide) ?_
      refine j_loop (α := Nat) (fun a => t3 - a) (fun a => (a ≤ t3) ∧ (t2 ≤ a)) (fun a => [MB mo ma (nI t1) (nI a) (nI t3) i4 i5 i6 i7 i8 i42 i49 i51 i53 i54 i59 i61 i64 i66 (nI t67) i76 i78, (ma 0, .inl (y 0, 1600, .inl g0))]) (fun a => [(0, .ref mo)]) ((t2 + 1)) rfl rfl ⟨(show (t2 + 1) ≤ t3 by omega), (show t2 ≤ (t2 + 1) by omega)⟩ ?_
      rintro az hP9 ih10
      obtain ⟨hz__, hy__⟩ := hP9
      have hz_ : az ≤ t3 := hz__
      have hy_ : t2 ≤ az := hy__
      refine j_ws (ws' := [MB mo ma (nI t1) (nI az) (nI t3) i4 i5 i6 i7 i8 i42 i49 i51 i53 i54 i59 i61 i64 i66 (nI t67) i76 i78, (ma 0, .inl (y 0, 1600, .inl g0))]) rfl ?_
      refine j_lv (lv' := [(0, .ref mo)]) rfl ?_
      refine j_aload_n (pc := 0) C d_Model_look_0 rfl 0 rfl ?_
      refine j_get (pc := 1) C gf_Model_207 0 rfl rfl d_Model_look_1 ?_
      refine j_aload_n (pc := 4) C d_Model_look_4 rfl 0 rfl ?_
      refine j_get (pc := 5) C gf_Model_210 0 rfl rfl d_Model_look_5 ?_
      by_cases c11 : t3 ≤ az
      · refine j_icmp_geT (pc := 8) C (tgt := 52) d_Model_look_8 (by decide) (show nI t3 ≤ nI az from nI_le (by omega) (by omega)) ?_
        refine j_aload_n (pc := 52) C d_Model_look_52 rfl 0 rfl ?_
        refine j_get (pc := 53) C gf_Model_207 0 rfl rfl d_Model_look_53 ?_
        refine j_aload_n (pc := 56) C d_Model_look_56 rfl 0 rfl ?_
        refine j_get (pc := 57) C gf_Model_210 0 rfl rfl d_Model_look_57 ?_
        by_cases c12 : t3 ≤ az
        · refine j_icmp_geT (pc := 60) C (tgt := 75) d_Model_look_60 (by decide) (show nI t3 ≤ nI az from nI_le (by omega) (by omega)) ?_
          refine j_iconst (pc := 75) C (v := (-1)) d_Model_look_75 (by decide) ?_
          exact j_iret (pc := 76) C hr rfl az ⟨(show t2 ≤ az by omega), (show az ≤ t3 by omega), (Or.inl rfl)⟩ [0, 1] rfl (by decide) (by decide) (by decide) d_Model_look_76
        · refine j_icmp_geF (pc := 60) C (tgt := 75) d_Model_look_60 (by decide) (show ¬ nI t3 ≤ nI az from nI_ge (by omega) (by omega)) ?_
          refine j_aload_n (pc := 63) C d_Model_look_63 rfl 0 rfl ?_
          refine j_get (pc := 64) C gf_Model_7 0 rfl rfl d_Model_look_64 ?_
          refine j_aload_n (pc := 67) C d_Model_look_67 rfl 0 rfl ?_
          refine j_get (pc := 68) C gf_Model_207 0 rfl rfl d_Model_look_68 ?_
          refine j_iald (pc := 71) C 1 rfl (v := g0 az) (vp_in_nI (by omega) (by decide)) (by rw [nI_clamp (by omega)]) d_Model_look_71 ?_
          refine j_goto (pc := 72) C (tgt := 76) d_Model_look_72 (by decide) ?_
          exact j_iret (pc := 76) C hr rfl az ⟨(show t2 ≤ az by omega), (show az ≤ t3 by omega), (Or.inr ⟨by omega, rfl⟩)⟩ [0, 1] rfl (by decide) (by decide) (by decide) d_Model_look_76
      · refine j_icmp_geF (pc := 8) C (tgt := 52) d_Model_look_8 (by decide) (show ¬ nI t3 ≤ nI az from nI_ge (by omega) (by omega)) ?_
        refine j_aload_n (pc := 11) C d_Model_look_11 rfl 0 rfl ?_
        refine j_get (pc := 12) C gf_Model_7 0 rfl rfl d_Model_look_12 ?_
        refine j_aload_n (pc := 15) C d_Model_look_15 rfl 0 rfl ?_
        refine j_get (pc := 16) C gf_Model_207 0 rfl rfl d_Model_look_16 ?_
        refine j_iald (pc := 19) C 1 rfl (v := g0 az) (vp_in_nI (by omega) (by decide)) (by rw [nI_clamp (by omega)]) d_Model_look_19 ?_
        refine j_bipush (pc := 20) C (v := 10) d_Model_look_20 (by decide) ?_
        refine j_icmp_eq (pc := 22) C (tgt := 39) d_Model_look_22 (by decide) (fun c13 => ?_) (fun c13 => ?_)
        · refine j_aload_n (pc := 39) C d_Model_look_39 rfl 0 rfl ?_
          refine j_dup (pc := 40) C d_Model_look_40 rfl ?_
          refine j_get (pc := 41) C gf_Model_207 0 rfl rfl d_Model_look_41 ?_
          refine j_iconst (pc := 44) C (v := 1) d_Model_look_44 (by decide) ?_
          refine j_iadd (pc := 45) C (v := nI (az + 1)) d_Model_look_45 (nI_add _ _) ?_
          refine j_put (pc := 46) C pf_Model_207 0 (ws' := [MB mo ma (nI t1) (nI (az + 1)) (nI t3) i4 i5 i6 i7 i8 i42 i49 i51 i53 i54 i59 i61 i64 i66 (nI t67) i76 i78, (ma 0, .inl (y 0, 1600, .inl g0))]) rfl rfl rfl (nl rfl) rfl d_Model_look_46 ?_
          refine j_goto (pc := 49) C (tgt := 0) d_Model_look_49 (by decide) ?_
          exact ih10 ((az + 1)) ⟨(show (az + 1) ≤ t3 by omega), (show t2 ≤ (az + 1) by omega)⟩ (show t3 - (az + 1) < t3 - az by omega)
        · refine j_aload_n (pc := 25) C d_Model_look_25 rfl 0 rfl ?_
          refine j_get (pc := 26) C gf_Model_7 0 rfl rfl d_Model_look_26 ?_
          refine j_aload_n (pc := 29) C d_Model_look_29 rfl 0 rfl ?_
          refine j_get (pc := 30) C gf_Model_207 0 rfl rfl d_Model_look_30 ?_
          refine j_iald (pc := 33) C 1 rfl (v := g0 az) (vp_in_nI (by omega) (by decide)) (by rw [nI_clamp (by omega)]) d_Model_look_33 ?_
          refine j_bipush (pc := 34) C (v := 32) d_Model_look_34 (by decide) ?_
          refine j_icmp_ne (pc := 36) C (tgt := 52) d_Model_look_36 (by decide) (fun c14 => ?_) (fun c14 => ?_)
          · refine j_aload_n (pc := 52) C d_Model_look_52 rfl 0 rfl ?_
            refine j_get (pc := 53) C gf_Model_207 0 rfl rfl d_Model_look_53 ?_
            refine j_aload_n (pc := 56) C d_Model_look_56 rfl 0 rfl ?_
            refine j_get (pc := 57) C gf_Model_210 0 rfl rfl d_Model_look_57 ?_
            by_cases c15 : t3 ≤ az
            · refine j_icmp_geT (pc := 60) C (tgt := 75) d_Model_look_60 (by decide) (show nI t3 ≤ nI az from nI_le (by omega) (by omega)) ?_
              refine j_iconst (pc := 75) C (v := (-1)) d_Model_look_75 (by decide) ?_
              exact j_iret (pc := 76) C hr rfl az ⟨(show t2 ≤ az by omega), (show az ≤ t3 by omega), (Or.inl rfl)⟩ [0, 1] rfl (by decide) (by decide) (by decide) d_Model_look_76
            · refine j_icmp_geF (pc := 60) C (tgt := 75) d_Model_look_60 (by decide) (show ¬ nI t3 ≤ nI az from nI_ge (by omega) (by omega)) ?_
              refine j_aload_n (pc := 63) C d_Model_look_63 rfl 0 rfl ?_
              refine j_get (pc := 64) C gf_Model_7 0 rfl rfl d_Model_look_64 ?_
              refine j_aload_n (pc := 67) C d_Model_look_67 rfl 0 rfl ?_
              refine j_get (pc := 68) C gf_Model_207 0 rfl rfl d_Model_look_68 ?_
              refine j_iald (pc := 71) C 1 rfl (v := g0 az) (vp_in_nI (by omega) (by decide)) (by rw [nI_clamp (by omega)]) d_Model_look_71 ?_
              refine j_goto (pc := 72) C (tgt := 76) d_Model_look_72 (by decide) ?_
              exact j_iret (pc := 76) C hr rfl az ⟨(show t2 ≤ az by omega), (show az ≤ t3 by omega), (Or.inr ⟨by omega, rfl⟩)⟩ [0, 1] rfl (by decide) (by decide) (by decide) d_Model_look_76
          · refine j_aload_n (pc := 39) C d_Model_look_39 rfl 0 rfl ?_
            refine j_dup (pc := 40) C d_Model_look_40 rfl ?_
            refine j_get (pc := 41) C gf_Model_207 0 rfl rfl d_Model_look_41 ?_
            refine j_iconst (pc := 44) C (v := 1) d_Model_look_44 (by decide) ?_
            refine j_iadd (pc := 45) C (v := nI (az + 1)) d_Model_look_45 (nI_add _ _) ?_
            refine j_put (pc := 46) C pf_Model_207 0 (ws' := [MB mo ma (nI t1) (nI (az + 1)) (nI t3) i4 i5 i6 i7 i8 i42 i49 i51 i53 i54 i59 i61 i64 i66 (nI t67) i76 i78, (ma 0, .inl (y 0, 1600, .inl g0))]) rfl rfl rfl (nl rfl) rfl d_Model_look_46 ?_
            refine j_goto (pc := 49) C (tgt := 0) d_Model_look_49 (by decide) ?_
            exact ih10 ((az + 1)) ⟨(show (az + 1) ≤ t3 by omega), (show t2 ≤ (az + 1) by omega)⟩ (show t3 - (az + 1) < t3 - az by omega)
    · refine j_aload_n (pc := 25) C d_Model_look_25 rfl 0 rfl ?_
      refine j_get (pc := 26) C gf_Model_7 0 rfl rfl d_Model_look_26 ?_
      refine j_aload_n (pc := 29) C d_Model_look_29 rfl 0 rfl ?_
      refine j_get (pc := 30) C gf_Model_207 0 rfl rfl d_Model_look_30 ?_
      refine j_iald (pc := 33) C 1 rfl (v := g0 t2) (vp_in_nI (by omega) (by decide)) (by rw [nI_clamp (by omega)]) d_Model_look_33 ?_
      refine j_bipush (pc := 34) C (v := 32) d_Model_look_34 (by decide) ?_
      refine j_icmp_ne (pc := 36) C (tgt := 52) d_Model_look_36 (by decide) (fun c16 => ?_) (fun c16 => ?_)
      · refine j_aload_n (pc := 52) C d_Model_look_52 rfl 0 rfl ?_
        refine j_get (pc := 53) C gf_Model_207 0 rfl rfl d_Model_look_53 ?_
        refine j_aload_n (pc := 56) C d_Model_look_56 rfl 0 rfl ?_
        refine j_get (pc := 57) C gf_Model_210 0 rfl rfl d_Model_look_57 ?_
        by_cases c17 : t3 ≤ t2
        · refine j_icmp_geT (pc := 60) C (tgt := 75) d_Model_look_60 (by decide) (show nI t3 ≤ nI t2 from nI_le (by omega) (by omega)) ?_
          refine j_iconst (pc := 75) C (v := (-1)) d_Model_look_75 (by decide) ?_
          exact j_iret (pc := 76) C hr rfl t2 ⟨(show t2 ≤ t2 by omega), (show t2 ≤ t3 by omega), (Or.inl rfl)⟩ [0, 1] rfl (by decide) (by decide) (by decide) d_Model_look_76
        · refine j_icmp_geF (pc := 60) C (tgt := 75) d_Model_look_60 (by decide) (show ¬ nI t3 ≤ nI t2 from nI_ge (by omega) (by omega)) ?_
          refine j_aload_n (pc := 63) C d_Model_look_63 rfl 0 rfl ?_
          refine j_get (pc := 64) C gf_Model_7 0 rfl rfl d_Model_look_64 ?_
          refine j_aload_n (pc := 67) C d_Model_look_67 rfl 0 rfl ?_
          refine j_get (pc := 68) C gf_Model_207 0 rfl rfl d_Model_look_68 ?_
          refine j_iald (pc := 71) C 1 rfl (v := g0 t2) (vp_in_nI (by omega) (by decide)) (by rw [nI_clamp (by omega)]) d_Model_look_71 ?_
          refine j_goto (pc := 72) C (tgt := 76) d_Model_look_72 (by decide) ?_
          exact j_iret (pc := 76) C hr rfl t2 ⟨(show t2 ≤ t2 by omega), (show t2 ≤ t3 by omega), (Or.inr ⟨by omega, rfl⟩)⟩ [0, 1] rfl (by decide) (by decide) (by decide) d_Model_look_76
      · refine j_aload_n (pc := 39) C d_Model_look_39 rfl 0 rfl ?_
        refine j_dup (pc := 40) C d_Model_look_40 rfl ?_
        refine j_get (pc := 41) C gf_Model_207 0 rfl rfl d_Model_look_41 ?_
        refine j_iconst (pc := 44) C (v := 1) d_Model_look_44 (by decide) ?_
        refine j_iadd (pc := 45) C (v := nI (t2 + 1)) d_Model_look_45 (nI_add _ _) ?_
        refine j_put (pc := 46) C pf_Model_207 0 (ws' := [MB mo ma (nI t1) (nI (t2 + 1)) (nI t3) i4 i5 i6 i7 i8 i42 i49 i51 i53 i54 i59 i61 i64 i66 (nI t67) i76 i78, (ma 0, .inl (y 0, 1600, .inl g0))]) rfl rfl rfl (nl rfl) rfl d_Model_look_46 ?_
        refine j_goto (pc := 49) C (tgt := 0) d_Model_look_49 (by decide) ?_
        refine j_loop (α := Nat) (fun a => t3 - a) (fun a => (a ≤ t3) ∧ (t2 ≤ a)) (fun a => [MB mo ma (nI t1) (nI a) (nI t3) i4 i5 i6 i7 i8 i42 i49 i51 i53 i54 i59 i61 i64 i66 (nI t67) i76 i78, (ma 0, .inl (y 0, 1600, .inl g0))]) (fun a => [(0, .ref mo)]) ((t2 + 1)) rfl rfl ⟨(show (t2 + 1) ≤ t3 by omega), (show t2 ≤ (t2 + 1) by omega)⟩ ?_
        rintro az hP23 ih24
        obtain ⟨hz__, hy__⟩ := hP23
        have hz_ : az ≤ t3 := hz__
        have hy_ : t2 ≤ az := hy__
        refine j_ws (ws' := [MB mo ma (nI t1) (nI az) (nI t3) i4 i5 i6 i7 i8 i42 i49 i51 i53 i54 i59 i61 i64 i66 (nI t67) i76 i78, (ma 0, .inl (y 0, 1600, .inl g0))]) rfl ?_
        refine j_lv (lv' := [(0, .ref mo)]) rfl ?_
        refine j_aload_n (pc := 0) C d_Model_look_0 rfl 0 rfl ?_
        refine j_get (pc := 1) C gf_Model_207 0 rfl rfl d_Model_look_1 ?_
        refine j_aload_n (pc := 4) C d_Model_look_4 rfl 0 rfl ?_
        refine j_get (pc := 5) C gf_Model_210 0 rfl rfl d_Model_look_5 ?_
        by_cases c25 : t3 ≤ az
        · refine j_icmp_geT (pc := 8) C (tgt := 52) d_Model_look_8 (by decide) (show nI t3 ≤ nI az from nI_le (by omega) (by omega)) ?_
          refine j_aload_n (pc := 52) C d_Model_look_52 rfl 0 rfl ?_
          refine j_get (pc := 53) C gf_Model_207 0 rfl rfl d_Model_look_53 ?_
          refine j_aload_n (pc := 56) C d_Model_look_56 rfl 0 rfl ?_
          refine j_get (pc := 57) C gf_Model_210 0 rfl rfl d_Model_look_57 ?_
          by_cases c26 : t3 ≤ az
          · refine j_icmp_geT (pc := 60) C (tgt := 75) d_Model_look_60 (by decide) (show nI t3 ≤ nI az from nI_le (by omega) (by omega)) ?_
            refine j_iconst (pc := 75) C (v := (-1)) d_Model_look_75 (by decide) ?_
            exact j_iret (pc := 76) C hr rfl az ⟨(show t2 ≤ az by omega), (show az ≤ t3 by omega), (Or.inl rfl)⟩ [0, 1] rfl (by decide) (by decide) (by decide) d_Model_look_76
          · refine j_icmp_geF (pc := 60) C (tgt := 75) d_Model_look_60 (by decide) (show ¬ nI t3 ≤ nI az from nI_ge (by omega) (by omega)) ?_
            refine j_aload_n (pc := 63) C d_Model_look_63 rfl 0 rfl ?_
            refine j_get (pc := 64) C gf_Model_7 0 rfl rfl d_Model_look_64 ?_
            refine j_aload_n (pc := 67) C d_Model_look_67 rfl 0 rfl ?_
            refine j_get (pc := 68) C gf_Model_207 0 rfl rfl d_Model_look_68 ?_
            refine j_iald (pc := 71) C 1 rfl (v := g0 az) (vp_in_nI (by omega) (by decide)) (by rw [nI_clamp (by omega)]) d_Model_look_71 ?_
            refine j_goto (pc := 72) C (tgt := 76) d_Model_look_72 (by decide) ?_
            exact j_iret (pc := 76) C hr rfl az ⟨(show t2 ≤ az by omega), (show az ≤ t3 by omega), (Or.inr ⟨by omega, rfl⟩)⟩ [0, 1] rfl (by decide) (by decide) (by decide) d_Model_look_76
        · refine j_icmp_geF (pc := 8) C (tgt := 52) d_Model_look_8 (by decide) (show ¬ nI t3 ≤ nI az from nI_ge (by omega) (by omega)) ?_
          refine j_aload_n (pc := 11) C d_Model_look_11 rfl 0 rfl ?_
          refine j_get (pc := 12) C gf_Model_7 0 rfl rfl d_Model_look_12 ?_
          refine j_aload_n (pc := 15) C d_Model_look_15 rfl 0 rfl ?_
          refine j_get (pc := 16) C gf_Model_207 0 rfl rfl d_Model_look_16 ?_
          refine j_iald (pc := 19) C 1 rfl (v := g0 az) (vp_in_nI (by omega) (by decide)) (by rw [nI_clamp (by omega)]) d_Model_look_19 ?_
          refine j_bipush (pc := 20) C (v := 10) d_Model_look_20 (by decide) ?_
          refine j_icmp_eq (pc := 22) C (tgt := 39) d_Model_look_22 (by decide) (fun c27 => ?_) (fun c27 => ?_)
          · refine j_aload_n (pc := 39) C d_Model_look_39 rfl 0 rfl ?_
            refine j_dup (pc := 40) C d_Model_look_40 rfl ?_
            refine j_get (pc := 41) C gf_Model_207 0 rfl rfl d_Model_look_41 ?_
            refine j_iconst (pc := 44) C (v := 1) d_Model_look_44 (by decide) ?_
            refine j_iadd (pc := 45) C (v := nI (az + 1)) d_Model_look_45 (nI_add _ _) ?_
            refine j_put (pc := 46) C pf_Model_207 0 (ws' := [MB mo ma (nI t1) (nI (az + 1)) (nI t3) i4 i5 i6 i7 i8 i42 i49 i51 i53 i54 i59 i61 i64 i66 (nI t67) i76 i78, (ma 0, .inl (y 0, 1600, .inl g0))]) rfl rfl rfl (nl rfl) rfl d_Model_look_46 ?_
            refine j_goto (pc := 49) C (tgt := 0) d_Model_look_49 (by decide) ?_
            exact ih24 ((az + 1)) ⟨(show (az + 1) ≤ t3 by omega), (show t2 ≤ (az + 1) by omega)⟩ (show t3 - (az + 1) < t3 - az by omega)
          · refine j_aload_n (pc := 25) C d_Model_look_25 rfl 0 rfl ?_
            refine j_get (pc := 26) C gf_Model_7 0 rfl rfl d_Model_look_26 ?_
            refine j_aload_n (pc := 29) C d_Model_look_29 rfl 0 rfl ?_
            refine j_get (pc := 30) C gf_Model_207 0 rfl rfl d_Model_look_30 ?_
            refine j_iald (pc := 33) C 1 rfl (v := g0 az) (vp_in_nI (by omega) (by decide)) (by rw [nI_clamp (by omega)]) d_Model_look_33 ?_
            refine j_bipush (pc := 34) C (v := 32) d_Model_look_34 (by decide) ?_
            refine j_icmp_ne (pc := 36) C (tgt := 52) d_Model_look_36 (by decide) (fun c28 => ?_) (fun c28 => ?_)
            · refine j_aload_n (pc := 52) C d_Model_look_52 rfl 0 rfl ?_
              refine j_get (pc := 53) C gf_Model_207 0 rfl rfl d_Model_look_53 ?_
              refine j_aload_n (pc := 56) C d_Model_look_56 rfl 0 rfl ?_
              refine j_get (pc := 57) C gf_Model_210 0 rfl rfl d_Model_look_57 ?_
              by_cases c29 : t3 ≤ az
              · refine j_icmp_geT (pc := 60) C (tgt := 75) d_Model_look_60 (by decide) (show nI t3 ≤ nI az from nI_le (by omega) (by omega)) ?_
                refine j_iconst (pc := 75) C (v := (-1)) d_Model_look_75 (by decide) ?_
                exact j_iret (pc := 76) C hr rfl az ⟨(show t2 ≤ az by omega), (show az ≤ t3 by omega), (Or.inl rfl)⟩ [0, 1] rfl (by decide) (by decide) (by decide) d_Model_look_76
              · refine j_icmp_geF (pc := 60) C (tgt := 75) d_Model_look_60 (by decide) (show ¬ nI t3 ≤ nI az from nI_ge (by omega) (by omega)) ?_
                refine j_aload_n (pc := 63) C d_Model_look_63 rfl 0 rfl ?_
                refine j_get (pc := 64) C gf_Model_7 0 rfl rfl d_Model_look_64 ?_
                refine j_aload_n (pc := 67) C d_Model_look_67 rfl 0 rfl ?_
                refine j_get (pc := 68) C gf_Model_207 0 rfl rfl d_Model_look_68 ?_
                refine j_iald (pc := 71) C 1 rfl (v := g0 az) (vp_in_nI (by omega) (by decide)) (by rw [nI_clamp (by omega)]) d_Model_look_71 ?_
                refine j_goto (pc := 72) C (tgt := 76) d_Model_look_72 (by decide) ?_
                exact j_iret (pc := 76) C hr rfl az ⟨(show t2 ≤ az by omega), (show az ≤ t3 by omega), (Or.inr ⟨by omega, rfl⟩)⟩ [0, 1] rfl (by decide) (by decide) (by decide) d_Model_look_76
            · refine j_aload_n (pc := 39) C d_Model_look_39 rfl 0 rfl ?_
              refine j_dup (pc := 40) C d_Model_look_40 rfl ?_
              refine j_get (pc := 41) C gf_Model_207 0 rfl rfl d_Model_look_41 ?_
              refine j_iconst (pc := 44) C (v := 1) d_Model_look_44 (by decide) ?_
              refine j_iadd (pc := 45) C (v := nI (az + 1)) d_Model_look_45 (nI_add _ _) ?_
              refine j_put (pc := 46) C pf_Model_207 0 (ws' := [MB mo ma (nI t1) (nI (az + 1)) (nI t3) i4 i5 i6 i7 i8 i42 i49 i51 i53 i54 i59 i61 i64 i66 (nI t67) i76 i78, (ma 0, .inl (y 0, 1600, .inl g0))]) rfl rfl rfl (nl rfl) rfl d_Model_look_46 ?_
              refine j_goto (pc := 49) C (tgt := 0) d_Model_look_49 (by decide) ?_
              exact ih24 ((az + 1)) ⟨(show (az + 1) ≤ t3 by omega), (show t2 ≤ (az + 1) by omega)⟩ (show t3 - (az + 1) < t3 - az by omega)
set_option maxHeartbeats 4000000 in
set_option maxRecDepth 100000 in
theorem c_M_isDigit2 (l : Launch) (D : va_G) (y : Nat → ClassId) (v : Int32)  : CT l D y ⟨"NineBoardsModel", "isDigit", "(I)Z"⟩ prog_13_method_7_code 1 (some .boolean) ({ frames := 0, cells := 0, slots := 0, locals := 0 } : Room) [.int v] [] (QI D [] (fun (r : Int32) (u : Unit) => ((r = 0 ∧ ¬ DG v) ∨ (r = 1 ∧ DG v))) (fun _ => [])) := by
  refine CT.of (by decide) (nb rfl) ?_
  intro p e s m args below meth c C hr
  refine j_lv (lv' := [(0, .int v)]) rfl ?_
  refine j_iload_n (pc := 0) C d_Model_isDigit_0 rfl 0 rfl ?_
  refine j_bipush (pc := 1) C (v := 48) d_Model_isDigit_1 (by decide) ?_
  refine j_icmp_lt (pc := 3) C (tgt := 16) d_Model_isDigit_3 (by decide) (fun c1 => ?_) (fun c1 => ?_)
  · refine j_iconst (pc := 16) C (v := 0) d_Model_isDigit_16 (by decide) ?_
    exact j_iret (pc := 17) C hr (by decide) () (Or.inl ⟨rfl, fun e => absurd e.1 (Int32.not_le.mpr c1)⟩) [] rfl (by decide) (by decide) (by decide) d_Model_isDigit_17
  · refine j_iload_n (pc := 6) C d_Model_isDigit_6 rfl 0 rfl ?_
    refine j_bipush (pc := 7) C (v := 57) d_Model_isDigit_7 (by decide) ?_
    refine j_icmp_gt (pc := 9) C (tgt := 16) d_Model_isDigit_9 (by decide) (fun c2 => ?_) (fun c2 => ?_)
    · refine j_iconst (pc := 16) C (v := 0) d_Model_isDigit_16 (by decide) ?_
      exact j_iret (pc := 17) C hr (by decide) () (Or.inl ⟨rfl, fun e => absurd e.2 (Int32.not_le.mpr c2)⟩) [] rfl (by decide) (by decide) (by decide) d_Model_isDigit_17
    · refine j_iconst (pc := 12) C (v := 1) d_Model_isDigit_12 (by decide) ?_
      refine j_goto (pc := 13) C (tgt := 17) d_Model_isDigit_13 (by decide) ?_
      exact j_iret (pc := 17) C hr (by decide) () (Or.inr ⟨rfl, (Int32.not_lt.mp c1), (Int32.not_lt.mp c2)⟩) [] rfl (by decide) (by decide) (by decide) d_Model_isDigit_17
theorem d_Model_isHere_0 : decode prog_13_method_9_code 0 = .ok (.aload_n 0, 1) := by decide +kernel
theorem d_Model_isHere_1 : decode prog_13_method_9_code 1 = .ok (.getfield 201, 3) := by decide +kernel
theorem d_Model_isHere_4 : decode prog_13_method_9_code 4 = .ok (.ifCond .ne 24, 3) := by decide +kernel
theorem d_Model_isHere_28 : decode prog_13_method_9_code 28 = .ok (.iconst 0, 1) := by decide +kernel
theorem d_Model_isHere_29 : decode prog_13_method_9_code 29 = .ok (.ireturn, 1) := by decide +kernel
theorem d_Model_isHere_7 : decode prog_13_method_9_code 7 = .ok (.aload_n 0, 1) := by decide +kernel
theorem d_Model_isHere_8 : decode prog_13_method_9_code 8 = .ok (.invokevirtual 213, 3) := by decide +kernel
theorem kw_Model_213 : KW "NineBoardsModel" 213 ⟨"NineBoardsModel", "look", "()I"⟩ prog_13_method_8_code 1 (some .int) 0 := ⟨(mt_6 (List.mem_of_getElem? (i := 116) rfl) rfl), (mt_1 (List.mem_of_getElem? (i := 16) rfl) rfl), (mt_6 (List.mem_of_getElem? (i := 119) rfl) rfl), by decide +kernel⟩
theorem kv_Model_look : Cond.instanceMethod ⟨"NineBoardsModel", "look", "()I"⟩ ∈ TB ∧ Cond.selects "NineBoardsModel" ⟨"NineBoardsModel", "look", "()I"⟩ ⟨"NineBoardsModel", "look", "()I"⟩ ∈ TB := ⟨(mt_6 (List.mem_of_getElem? (i := 118) rfl) rfl), (ms_0 (List.mem_map.mpr ⟨(⟨"NineBoardsModel", "look", "()I"⟩, 79), List.mem_of_getElem? (i := 53) (by decide +kernel), rfl⟩) rfl)⟩
theorem d_Model_isHere_11 : decode prog_13_method_9_code 11 = .ok (.invokestatic 217, 3) := by decide +kernel
theorem kw_Model_217 : KW "NineBoardsModel" 217 ⟨"NineBoardsModel", "isLetter", "(I)Z"⟩ prog_13_method_6_code 1 (some .boolean) 1 := ⟨(mt_6 (List.mem_of_getElem? (i := 120) rfl) rfl), (mt_1 (List.mem_of_getElem? (i := 16) rfl) rfl), (mt_6 (List.mem_of_getElem? (i := 122) rfl) rfl), by decide +kernel⟩
theorem ks_Model_isLetter : Cond.static ⟨"NineBoardsModel", "isLetter", "(I)Z"⟩ ∈ TB := (mt_6 (List.mem_of_getElem? (i := 121) rfl) rfl)
theorem d_Model_isHere_14 : decode prog_13_method_9_code 14 = .ok (.ifCond .eq 14, 3) := by decide +kernel
theorem d_Model_isHere_17 : decode prog_13_method_9_code 17 = .ok (.aload_n 0, 1) := by decide +kernel
theorem d_Model_isHere_18 : decode prog_13_method_9_code 18 = .ok (.getfield 207, 3) := by decide +kernel
theorem d_Model_isHere_21 : decode prog_13_method_9_code 21 = .ok (.aload_n 0, 1) := by decide +kernel
theorem d_Model_isHere_22 : decode prog_13_method_9_code 22 = .ok (.getfield 221, 3) := by decide +kernel
theorem gf_Model_221 : GF "NineBoardsModel" 221 10 4 := ⟨_, _, _, rfl, ci_Model, by decide, (mt_5 (List.mem_of_getElem? (i := 92) rfl) rfl)⟩
theorem d_Model_isHere_25 : decode prog_13_method_9_code 25 = .ok (.if_icmp .ne 5, 3) := by decide +kernel
theorem d_Model_isHere_30 : decode prog_13_method_9_code 30 = .ok (.aload_n 0, 1) := by decide +kernel
theorem d_Model_isHere_31 : decode prog_13_method_9_code 31 = .ok (.getfield 207, 3) := by decide +kernel
theorem d_Model_isHere_34 : decode prog_13_method_9_code 34 = .ok (.istore_n 2, 1) := by decide +kernel
theorem d_Model_isHere_35 : decode prog_13_method_9_code 35 = .ok (.iload_n 2, 1) := by decide +kernel
theorem d_Model_isHere_36 : decode prog_13_method_9_code 36 = .ok (.aload_n 0, 1) := by decide +kernel
theorem d_Model_isHere_37 : decode prog_13_method_9_code 37 = .ok (.getfield 210, 3) := by decide +kernel
theorem d_Model_isHere_40 : decode prog_13_method_9_code 40 = .ok (.if_icmp .ge 21, 3) := by decide +kernel
theorem d_Model_isHere_61 : decode prog_13_method_9_code 61 = .ok (.iload_n 2, 1) := by decide +kernel
theorem d_Model_isHere_62 : decode prog_13_method_9_code 62 = .ok (.aload_n 0, 1) := by decide +kernel
theorem d_Model_isHere_63 : decode prog_13_method_9_code 63 = .ok (.getfield 207, 3) := by decide +kernel
theorem d_Model_isHere_66 : decode prog_13_method_9_code 66 = .ok (.isub, 1) := by decide +kernel
theorem d_Model_isHere_67 : decode prog_13_method_9_code 67 = .ok (.aload_n 1, 1) := by decide +kernel
theorem d_Model_isHere_68 : decode prog_13_method_9_code 68 = .ok (.arraylength, 1) := by decide +kernel
theorem d_Model_isHere_69 : decode prog_13_method_9_code 69 = .ok (.if_icmp .eq 5, 3) := by decide +kernel
theorem d_Model_isHere_74 : decode prog_13_method_9_code 74 = .ok (.iconst 0, 1) := by decide +kernel
theorem d_Model_isHere_75 : decode prog_13_method_9_code 75 = .ok (.istore_n 3, 1) := by decide +kernel
theorem d_Model_isHere_76 : decode prog_13_method_9_code 76 = .ok (.iload_n 3, 1) := by decide +kernel
theorem d_Model_isHere_77 : decode prog_13_method_9_code 77 = .ok (.aload_n 1, 1) := by decide +kernel
theorem d_Model_isHere_78 : decode prog_13_method_9_code 78 = .ok (.arraylength, 1) := by decide +kernel
theorem d_Model_isHere_79 : decode prog_13_method_9_code 79 = .ok (.if_icmp .ge 28, 3) := by decide +kernel
theorem d_Model_isHere_107 : decode prog_13_method_9_code 107 = .ok (.iconst 1, 1) := by decide +kernel
theorem d_Model_isHere_108 : decode prog_13_method_9_code 108 = .ok (.ireturn, 1) := by decide +kernel
theorem d_Model_isHere_82 : decode prog_13_method_9_code 82 = .ok (.aload_n 0, 1) := by decide +kernel
theorem d_Model_isHere_83 : decode prog_13_method_9_code 83 = .ok (.getfield 7, 3) := by decide +kernel
theorem d_Model_isHere_86 : decode prog_13_method_9_code 86 = .ok (.aload_n 0, 1) := by decide +kernel
theorem d_Model_isHere_87 : decode prog_13_method_9_code 87 = .ok (.getfield 207, 3) := by decide +kernel
theorem d_Model_isHere_90 : decode prog_13_method_9_code 90 = .ok (.iload_n 3, 1) := by decide +kernel
theorem d_Model_isHere_91 : decode prog_13_method_9_code 91 = .ok (.iadd, 1) := by decide +kernel
theorem d_Model_isHere_92 : decode prog_13_method_9_code 92 = .ok (.iaload, 1) := by decide +kernel
theorem d_Model_isHere_93 : decode prog_13_method_9_code 93 = .ok (.aload_n 1, 1) := by decide +kernel
theorem d_Model_isHere_94 : decode prog_13_method_9_code 94 = .ok (.iload_n 3, 1) := by decide +kernel
theorem d_Model_isHere_95 : decode prog_13_method_9_code 95 = .ok (.caload, 1) := by decide +kernel
theorem d_Model_isHere_96 : decode prog_13_method_9_code 96 = .ok (.if_icmp .eq 5, 3) := by decide +kernel
theorem d_Model_isHere_101 : decode prog_13_method_9_code 101 = .ok (.iinc 3 1, 3) := by decide +kernel
theorem d_Model_isHere_104 : decode prog_13_method_9_code 104 = .ok (.goto (-28), 3) := by decide +kernel
theorem d_Model_isHere_99 : decode prog_13_method_9_code 99 = .ok (.iconst 0, 1) := by decide +kernel
theorem d_Model_isHere_100 : decode prog_13_method_9_code 100 = .ok (.ireturn, 1) := by decide +kernel
theorem d_Model_isHere_72 : decode prog_13_method_9_code 72 = .ok (.iconst 0, 1) := by decide +kernel
theorem d_Model_isHere_73 : decode prog_13_method_9_code 73 = .ok (.ireturn, 1) := by decide +kernel
theorem d_Model_isHere_43 : decode prog_13_method_9_code 43 = .ok (.aload_n 0, 1) := by decide +kernel
theorem d_Model_isHere_44 : decode prog_13_method_9_code 44 = .ok (.getfield 7, 3) := by decide +kernel
theorem d_Model_isHere_47 : decode prog_13_method_9_code 47 = .ok (.iload_n 2, 1) := by decide +kernel
theorem d_Model_isHere_48 : decode prog_13_method_9_code 48 = .ok (.iaload, 1) := by decide +kernel
theorem d_Model_isHere_49 : decode prog_13_method_9_code 49 = .ok (.invokestatic 217, 3) := by decide +kernel
theorem d_Model_isHere_52 : decode prog_13_method_9_code 52 = .ok (.ifCond .eq 9, 3) := by decide +kernel
theorem d_Model_isHere_55 : decode prog_13_method_9_code 55 = .ok (.iinc 2 1, 3) := by decide +kernel
theorem d_Model_isHere_58 : decode prog_13_method_9_code 58 = .ok (.goto (-23), 3) := by decide +kernel
set_option maxHeartbeats 4000000 in
set_option maxRecDepth 100000 in
theorem c_M_isHere_2 (l : Launch) (D : va_G) (y : Nat → ClassId) (mo : Nat) (wa : Nat) (ma : Nat → Nat) (t1 : Nat) (t2 : Nat) (t3 : Nat) (i4 : Int32) (i5 : Int32) (i6 : Int32) (i7 : Int32) (i8 : Int32) (i42 : Int32) (i49 : Int32) (i51 : Int32) (i53 : Int32) (i54 : Int32) (i59 : Int32) (i61 : Int32) (i64 : Int32) (i66 : Int32) (t67 : Nat) (i76 : Int64) (i78 : Int32) (g0 : Nat → Int32) (wf : Nat → Int32) (ha : t2 ≤ t3) (he : t3 ≤ 1600) : CT l D y ⟨"NineBoardsModel", "isHere", "([C)Z"⟩ prog_13_method_9_code 4 (some .boolean) ({ frames := 1, cells := 0, slots := 0, locals := 20 } : Room) [.ref mo, .ref wa] [MB mo ma (nI t1) (nI t2) (nI t3) i4 i5 i6 i7 i8 i42 i49 i51 i53 i54 i59 i61 i64 i66 (nI t67) i76 i78, (ma 0, .inl (y 0, 1600, .inl g0)), (wa, .inl (y 3, 2, .inl wf))] (QI D [MB mo ma (nI t1) (nI t2) (nI t3) i4 i5 i6 i7 i8 i42 i49 i51 i53 i54 i59 i61 i64 i66 (nI t67) i76 i78, (ma 0, .inl (y 0, 1600, .inl g0)), (wa, .inl (y 3, 2, .inl wf))] (fun (r : Int32) (u : Nat) => t2 ≤ u ∧ u ≤ t3 ∧ (r = 0 ∨ (r = 1 ∧ u + 2 ≤ t3))) (fun u => [MB mo ma (nI t1) (nI u) (nI t3) i4 i5 i6 i7 i8 i42 i49 i51 i53 i54 i59 i61 i64 i66 (nI t67) i76 i78, (ma 0, .inl (y 0, 1600, .inl g0)), (wa, .inl (y 3, 2, .inl wf))])) := by
  refine CT.of (by decide) (nb rfl) ?_
  intro p e s m args below meth c C hr
  refine j_lv (lv' := [(0, .ref mo), (1, .ref wa)]) rfl ?_
  refine j_aload_n (pc := 0) C d_Model_isHere_0 rfl 0 rfl ?_
  refine j_get (pc := 1) C gf_Model_201 0 rfl rfl d_Model_isHere_1 ?_
  refine j_if_ne (pc := 4) C (tgt := 28) d_Model_isHere_4 (by decide) (fun c1 => ?_) (fun c1 => ?_)
  · refine j_iconst (pc := 28) C (v := 0) d_Model_isHere_28 (by decide) ?_
    exact j_iret (pc := 29) C hr (by decide) t2 ⟨(show t2 ≤ t2 by omega), (show t2 ≤ t3 by omega), (Or.inl rfl)⟩ [0, 1, 2] rfl (by decide) (by decide) (by decide) d_Model_isHere_29
  · refine j_aload_n (pc := 7) C d_Model_isHere_7 rfl 0 rfl ?_
    refine j_callVi (pc := 8) C (c_M_look l D y mo ma t1 t2 t3 i4 i5 i6 i7 i8 i42 i49 i51 i53 i54 i59 i61 i64 i66 t67 i76 i78 g0 ha he) kw_Model_213 kv_Model_look 0 10 rfl rfl ⟨by decide, by decide⟩ ⟨by decide, by decide⟩ (wr := [(wa, .inl (y 3, 2, .inl wf))]) [0, 1] [2] rfl rfl (by decide) (by decide) (by decide) (As := []) (rest := []) rfl (nb rfl) rfl d_Model_isHere_8 (fun r2 u3 hr2 => ?_)
    refine j_ws (ws' := [(wa, .inl (y 3, 2, .inl wf)), MB mo ma (nI t1) (nI u3) (nI t3) i4 i5 i6 i7 i8 i42 i49 i51 i53 i54 i59 i61 i64 i66 (nI t67) i76 i78, (ma 0, .inl (y 0, 1600, .inl g0))]) rfl ?_
    obtain ⟨xh4, xh5, xh6⟩ := hr2
    rcases xh6 with rfl | ⟨xh7, e8⟩
    · refine j_callSi (pc := 11) C (c_M_isLetter l D y (-1)) kw_Model_217 ks_Model_isLetter ⟨by decide, by decide⟩ ⟨by decide, by decide⟩ (wr := [(wa, .inl (y 3, 2, .inl wf)), MB mo ma (nI t1) (nI u3) (nI t3) i4 i5 i6 i7 i8 i42 i49 i51 i53 i54 i59 i61 i64 i66 (nI t67) i76 i78, (ma 0, .inl (y 0, 1600, .inl g0))]) [] [0, 1, 2] rfl rfl (by decide) (by decide) (by decide) (As := [.int (-1)]) (rest := []) rfl (nb rfl) rfl d_Model_isHere_11 (fun r9 _ hr9 => ?_)
      have xh10 := hr9
      refine j_ws (ws' := [(wa, .inl (y 3, 2, .inl wf)), MB mo ma (nI t1) (nI u3) (nI t3) i4 i5 i6 i7 i8 i42 i49 i51 i53 i54 i59 i61 i64 i66 (nI t67) i76 i78, (ma 0, .inl (y 0, 1600, .inl g0))]) rfl ?_
      refine j_if_eq (pc := 14) C (tgt := 28) d_Model_isHere_14 (by decide) (fun c11 => ?_) (fun c11 => ?_)
      · refine j_iconst (pc := 28) C (v := 0) d_Model_isHere_28 (by decide) ?_
        exact j_iret (pc := 29) C hr (by decide) u3 ⟨(show t2 ≤ u3 by omega), (show u3 ≤ t3 by omega), (Or.inl rfl)⟩ [1, 2, 0] rfl (by decide) (by decide) (by decide) d_Model_isHere_29
      · refine j_aload_n (pc := 17) C d_Model_isHere_17 rfl 0 rfl ?_
        refine j_get (pc := 18) C gf_Model_207 1 rfl rfl d_Model_isHere_18 ?_
        refine j_aload_n (pc := 21) C d_Model_isHere_21 rfl 0 rfl ?_
        refine j_get (pc := 22) C gf_Model_221 1 rfl rfl d_Model_isHere_22 ?_
        refine j_icmp_ne (pc := 25) C (tgt := 30) d_Model_isHere_25 (by decide) (fun c12 => ?_) (fun c12 => ?_)
        · refine j_aload_n (pc := 30) C d_Model_isHere_30 rfl 0 rfl ?_
          refine j_get (pc := 31) C gf_Model_207 1 rfl rfl d_Model_isHere_31 ?_
          refine j_istore_n (pc := 34) C (lv' := [(2, .int (nI u3)), (0, .ref mo), (1, .ref wa)]) d_Model_isHere_34 rfl (by decide) rfl ?_
          refine j_loop (α := Nat) (fun a => t3 - a) (fun a => (a ≤ t3) ∧ (u3 ≤ a)) (fun a => [(wa, .inl (y 3, 2, .inl wf)), MB mo ma (nI t1) (nI u3) (nI t3) i4 i5 i6 i7 i8 i42 i49 i51 i53 i54 i59 i61 i64 i66 (nI t67) i76 i78, (ma 0, .inl (y 0, 1600, .inl g0))]) (fun a => [(2, .int (nI a)), (0, .ref mo), (1, .ref wa)]) (u3) rfl rfl ⟨xh5, (show u3 ≤ u3 by omega)⟩ ?_
          rintro kz hP31 ih32
          obtain ⟨hk__, hk2__⟩ := hP31
          have hk_ : kz ≤ t3 := hk__
          have hk2_ : u3 ≤ kz := hk2__
          refine j_ws (ws' := [(wa, .inl (y 3, 2, .inl wf)), MB mo ma (nI t1) (nI u3) (nI t3) i4 i5 i6 i7 i8 i42 i49 i51 i53 i54 i59 i61 i64 i66 (nI t67) i76 i78, (ma 0, .inl (y 0, 1600, .inl g0))]) rfl ?_
          refine j_lv (lv' := [(2, .int (nI kz)), (0, .ref mo), (1, .ref wa)]) rfl ?_
          refine j_iload_n (pc := 35) C d_Model_isHere_35 rfl 0 rfl ?_
          refine j_aload_n (pc := 36) C d_Model_isHere_36 rfl 1 rfl ?_
          refine j_get (pc := 37) C gf_Model_210 1 rfl rfl d_Model_isHere_37 ?_
          by_cases c33 : t3 ≤ kz
          · refine j_icmp_geT (pc := 40) C (tgt := 61) d_Model_isHere_40 (by decide) (show nI t3 ≤ nI kz from nI_le (by omega) (by omega)) ?_
            refine j_iload_n (pc := 61) C d_Model_isHere_61 rfl 0 rfl ?_
            refine j_aload_n (pc := 62) C d_Model_isHere_62 rfl 1 rfl ?_
            refine j_get (pc := 63) C gf_Model_207 1 rfl rfl d_Model_isHere_63 ?_
            refine j_isub (pc := 66) C (v := nI (kz - u3)) d_Model_isHere_66 (pk_sub (by omega)) ?_
            refine j_aload_n (pc := 67) C d_Model_isHere_67 rfl 2 rfl ?_
            refine j_alen (pc := 68) C 0 3 rfl rfl (v := 2) rfl d_Model_isHere_68 ?_
            by_cases c34 : (kz - u3) = 2
            · refine j_icmp_eqT (pc := 69) C (tgt := 74) d_Model_isHere_69 (by decide) (show nI (kz - u3) = nI 2 from (nI_eq (by omega) (by omega)).mpr (by omega)) ?_
              refine j_iconst (pc := 74) C (v := 0) d_Model_isHere_74 (by decide) ?_
              refine j_istore_n (pc := 75) C (lv' := [(3, .int 0), (2, .int (nI kz)), (0, .ref mo), (1, .ref wa)]) d_Model_isHere_75 rfl (by decide) rfl ?_
              refine j_loop (α := Nat) (fun a => 2 - a) (fun a => (a ≤ 2)) (fun a => [(wa, .inl (y 3, 2, .inl wf)), MB mo ma (nI t1) (nI u3) (nI t3) i4 i5 i6 i7 i8 i42 i49 i51 i53 i54 i59 i61 i64 i66 (nI t67) i76 i78, (ma 0, .inl (y 0, 1600, .inl g0))]) (fun a => [(3, .int (nI a)), (2, .int (nI kz)), (0, .ref mo), (1, .ref wa)]) (0) rfl rfl (show 0 ≤ 2 by omega) ?_
              rintro iz hP37 ih38
              have hi__ := hP37
              have hi_ : iz ≤ 2 := hi__
              refine j_ws (ws' := [(wa, .inl (y 3, 2, .inl wf)), MB mo ma (nI t1) (nI u3) (nI t3) i4 i5 i6 i7 i8 i42 i49 i51 i53 i54 i59 i61 i64 i66 (nI t67) i76 i78, (ma 0, .inl (y 0, 1600, .inl g0))]) rfl ?_
              refine j_lv (lv' := [(3, .int (nI iz)), (2, .int (nI kz)), (0, .ref mo), (1, .ref wa)]) rfl ?_
              refine j_iload_n (pc := 76) C d_Model_isHere_76 rfl 0 rfl ?_
              refine j_aload_n (pc := 77) C d_Model_isHere_77 rfl 3 rfl ?_
              refine j_alen (pc := 78) C 0 3 rfl rfl (v := 2) rfl d_Model_isHere_78 ?_
              by_cases c39 : 2 ≤ iz
              · refine j_icmp_geT (pc := 79) C (tgt := 107) d_Model_isHere_79 (by decide) (show nI 2 ≤ nI iz from nI_le (by omega) (by omega)) ?_
                refine j_iconst (pc := 107) C (v := 1) d_Model_isHere_107 (by decide) ?_
                exact j_iret (pc := 108) C hr (by decide) u3 ⟨(show t2 ≤ u3 by omega), (show u3 ≤ t3 by omega), (Or.inr ⟨rfl, show u3 + 2 ≤ t3 by omega⟩)⟩ [1, 2, 0] rfl (by decide) (by decide) (by decide) d_Model_isHere_108
              · refine j_icmp_geF (pc := 79) C (tgt := 107) d_Model_isHere_79 (by decide) (show ¬ nI 2 ≤ nI iz from nI_ge (by omega) (by omega)) ?_
                refine j_aload_n (pc := 82) C d_Model_isHere_82 rfl 2 rfl ?_
                refine j_get (pc := 83) C gf_Model_7 1 rfl rfl d_Model_isHere_83 ?_
                refine j_aload_n (pc := 86) C d_Model_isHere_86 rfl 2 rfl ?_
                refine j_get (pc := 87) C gf_Model_207 1 rfl rfl d_Model_isHere_87 ?_
                refine j_iload_n (pc := 90) C d_Model_isHere_90 rfl 0 rfl ?_
                refine j_iadd (pc := 91) C (v := nI (u3 + iz)) d_Model_isHere_91 (nI_add _ _) ?_
                refine j_iald (pc := 92) C 2 rfl (v := g0 (u3 + iz)) (vp_in_nI (by omega) (by decide)) (by rw [nI_clamp (by omega)]) d_Model_isHere_92 ?_
                refine j_aload_n (pc := 93) C d_Model_isHere_93 rfl 3 rfl ?_
                refine j_iload_n (pc := 94) C d_Model_isHere_94 rfl 0 rfl ?_
                refine j_cald (pc := 95) C 0 rfl (v := wf iz) (vp_in_nI (by omega) (by decide)) (by rw [nI_clamp (by omega)]) d_Model_isHere_95 ?_
                refine j_icmp_eq (pc := 96) C (tgt := 101) d_Model_isHere_96 (by decide) (fun c40 => ?_) (fun c40 => ?_)
                · refine j_iinc (pc := 101) C (v := nI (iz + 1)) (lv' := [(3, .int (nI (iz + 1))), (2, .int (nI kz)), (0, .ref mo), (1, .ref wa)]) d_Model_isHere_101 0 rfl (nI_add _ _) (by decide) rfl ?_
                  refine j_goto (pc := 104) C (tgt := 76) d_Model_isHere_104 (by decide) ?_
                  exact ih38 ((iz + 1)) (show (iz + 1) ≤ 2 by omega) (show 2 - (iz + 1) < 2 - iz by omega)
                · refine j_iconst (pc := 99) C (v := 0) d_Model_isHere_99 (by decide) ?_
                  exact j_iret (pc := 100) C hr (by decide) u3 ⟨(show t2 ≤ u3 by omega), (show u3 ≤ t3 by omega), (Or.inl rfl)⟩ [1, 2, 0] rfl (by decide) (by decide) (by decide) d_Model_isHere_100
            · refine j_icmp_eqF (pc := 69) C (tgt := 74) d_Model_isHere_69 (by decide) (show ¬ nI (kz - u3) = nI 2 from fun e => absurd ((nI_eq (by omega) (by omega)).mp e) (by omega)) ?_
              refine j_iconst (pc := 72) C (v := 0) d_Model_isHere_72 (by decide) ?_
              exact j_iret (pc := 73) C hr (by decide) u3 ⟨(show t2 ≤ u3 by omega), (show u3 ≤ t3 by omega), (Or.inl rfl)⟩ [1, 2, 0] rfl (by decide) (by decide) (by decide) d_Model_isHere_73
          · refine j_icmp_geF (pc := 40) C (tgt := 61) d_Model_isHere_40 (by decide) (show ¬ nI t3 ≤ nI kz from nI_ge (by omega) (by omega)) ?_
            refine j_aload_n (pc := 43) C d_Model_isHere_43 rfl 1 rfl ?_
            refine j_get (pc := 44) C gf_Model_7 1 rfl rfl d_Model_isHere_44 ?_
            refine j_iload_n (pc := 47) C d_Model_isHere_47 rfl 0 rfl ?_
            refine j_iald (pc := 48) C 2 rfl (v := g0 kz) (vp_in_nI (by omega) (by decide)) (by rw [nI_clamp (by omega)]) d_Model_isHere_48 ?_
            refine j_callSi (pc := 49) C (c_M_isLetter l D y (g0 kz)) kw_Model_217 ks_Model_isLetter ⟨by decide, by decide⟩ ⟨by decide, by decide⟩ (wr := [(wa, .inl (y 3, 2, .inl wf)), MB mo ma (nI t1) (nI u3) (nI t3) i4 i5 i6 i7 i8 i42 i49 i51 i53 i54 i59 i61 i64 i66 (nI t67) i76 i78, (ma 0, .inl (y 0, 1600, .inl g0))]) [] [0, 1, 2] rfl rfl (by decide) (by decide) (by decide) (As := [.int (g0 kz)]) (rest := []) rfl (nb rfl) rfl d_Model_isHere_49 (fun r41 _ hr41 => ?_)
            have xh42 := hr41
            refine j_ws (ws' := [(wa, .inl (y 3, 2, .inl wf)), MB mo ma (nI t1) (nI u3) (nI t3) i4 i5 i6 i7 i8 i42 i49 i51 i53 i54 i59 i61 i64 i66 (nI t67) i76 i78, (ma 0, .inl (y 0, 1600, .inl g0))]) rfl ?_
            refine j_if_eq (pc := 52) C (tgt := 61) d_Model_isHere_52 (by decide) (fun c43 => ?_) (fun c43 => ?_)
            · refine j_iload_n (pc := 61) C d_Model_isHere_61 rfl 0 rfl ?_
              refine j_aload_n (pc := 62) C d_Model_isHere_62 rfl 1 rfl ?_
              refine j_get (pc := 63) C gf_Model_207 1 rfl rfl d_Model_isHere_63 ?_
              refine j_isub (pc := 66) C (v := nI (kz - u3)) d_Model_isHere_66 (pk_sub (by omega)) ?_
              refine j_aload_n (pc := 67) C d_Model_isHere_67 rfl 2 rfl ?_
              refine j_alen (pc := 68) C 0 3 rfl rfl (v := 2) rfl d_Model_isHere_68 ?_
              by_cases c44 : (kz - u3) = 2
              · refine j_icmp_eqT (pc := 69) C (tgt := 74) d_Model_isHere_69 (by decide) (show nI (kz - u3) = nI 2 from (nI_eq (by omega) (by omega)).mpr (by omega)) ?_
                refine j_iconst (pc := 74) C (v := 0) d_Model_isHere_74 (by decide) ?_
                refine j_istore_n (pc := 75) C (lv' := [(3, .int 0), (2, .int (nI kz)), (0, .ref mo), (1, .ref wa)]) d_Model_isHere_75 rfl (by decide) rfl ?_
                refine j_loop (α := Nat) (fun a => 2 - a) (fun a => (a ≤ 2)) (fun a => [(wa, .inl (y 3, 2, .inl wf)), MB mo ma (nI t1) (nI u3) (nI t3) i4 i5 i6 i7 i8 i42 i49 i51 i53 i54 i59 i61 i64 i66 (nI t67) i76 i78, (ma 0, .inl (y 0, 1600, .inl g0))]) (fun a => [(3, .int (nI a)), (2, .int (nI kz)), (0, .ref mo), (1, .ref wa)]) (0) rfl rfl (show 0 ≤ 2 by omega) ?_
                rintro iz hP47 ih48
                have hi__ := hP47
                have hi_ : iz ≤ 2 := hi__
                refine j_ws (ws' := [(wa, .inl (y 3, 2, .inl wf)), MB mo ma (nI t1) (nI u3) (nI t3) i4 i5 i6 i7 i8 i42 i49 i51 i53 i54 i59 i61 i64 i66 (nI t67) i76 i78, (ma 0, .inl (y 0, 1600, .inl g0))]) rfl ?_
                refine j_lv (lv' := [(3, .int (nI iz)), (2, .int (nI kz)), (0, .ref mo), (1, .ref wa)]) rfl ?_
                refine j_iload_n (pc := 76) C d_Model_isHere_76 rfl 0 rfl ?_
                refine j_aload_n (pc := 77) C d_Model_isHere_77 rfl 3 rfl ?_
                refine j_alen (pc := 78) C 0 3 rfl rfl (v := 2) rfl d_Model_isHere_78 ?_
                by_cases c49 : 2 ≤ iz
                · refine j_icmp_geT (pc := 79) C (tgt := 107) d_Model_isHere_79 (by decide) (show nI 2 ≤ nI iz from nI_le (by omega) (by omega)) ?_
                  refine j_iconst (pc := 107) C (v := 1) d_Model_isHere_107 (by decide) ?_
                  exact j_iret (pc := 108) C hr (by decide) u3 ⟨(show t2 ≤ u3 by omega), (show u3 ≤ t3 by omega), (Or.inr ⟨rfl, show u3 + 2 ≤ t3 by omega⟩)⟩ [1, 2, 0] rfl (by decide) (by decide) (by decide) d_Model_isHere_108
                · refine j_icmp_geF (pc := 79) C (tgt := 107) d_Model_isHere_79 (by decide) (show ¬ nI 2 ≤ nI iz from nI_ge (by omega) (by omega)) ?_
                  refine j_aload_n (pc := 82) C d_Model_isHere_82 rfl 2 rfl ?_
                  refine j_get (pc := 83) C gf_Model_7 1 rfl rfl d_Model_isHere_83 ?_
                  refine j_aload_n (pc := 86) C d_Model_isHere_86 rfl 2 rfl ?_
                  refine j_get (pc := 87) C gf_Model_207 1 rfl rfl d_Model_isHere_87 ?_
                  refine j_iload_n (pc := 90) C d_Model_isHere_90 rfl 0 rfl ?_
                  refine j_iadd (pc := 91) C (v := nI (u3 + iz)) d_Model_isHere_91 (nI_add _ _) ?_
                  refine j_iald (pc := 92) C 2 rfl (v := g0 (u3 + iz)) (vp_in_nI (by omega) (by decide)) (by rw [nI_clamp (by omega)]) d_Model_isHere_92 ?_
                  refine j_aload_n (pc := 93) C d_Model_isHere_93 rfl 3 rfl ?_
                  refine j_iload_n (pc := 94) C d_Model_isHere_94 rfl 0 rfl ?_
                  refine j_cald (pc := 95) C 0 rfl (v := wf iz) (vp_in_nI (by omega) (by decide)) (by rw [nI_clamp (by omega)]) d_Model_isHere_95 ?_
                  refine j_icmp_eq (pc := 96) C (tgt := 101) d_Model_isHere_96 (by decide) (fun c50 => ?_) (fun c50 => ?_)
                  · refine j_iinc (pc := 101) C (v := nI (iz + 1)) (lv' := [(3, .int (nI (iz + 1))), (2, .int (nI kz)), (0, .ref mo), (1, .ref wa)]) d_Model_isHere_101 0 rfl (nI_add _ _) (by decide) rfl ?_
                    refine j_goto (pc := 104) C (tgt := 76) d_Model_isHere_104 (by decide) ?_
                    exact ih48 ((iz + 1)) (show (iz + 1) ≤ 2 by omega) (show 2 - (iz + 1) < 2 - iz by omega)
                  · refine j_iconst (pc := 99) C (v := 0) d_Model_isHere_99 (by decide) ?_
                    exact j_iret (pc := 100) C hr (by decide) u3 ⟨(show t2 ≤ u3 by omega), (show u3 ≤ t3 by omega), (Or.inl rfl)⟩ [1, 2, 0] rfl (by decide) (by decide) (by decide) d_Model_isHere_100
              · refine j_icmp_eqF (pc := 69) C (tgt := 74) d_Model_isHere_69 (by decide) (show ¬ nI (kz - u3) = nI 2 from fun e => absurd ((nI_eq (by omega) (by omega)).mp e) (by omega)) ?_
                refine j_iconst (pc := 72) C (v := 0) d_Model_isHere_72 (by decide) ?_
                exact j_iret (pc := 73) C hr (by decide) u3 ⟨(show t2 ≤ u3 by omega), (show u3 ≤ t3 by omega), (Or.inl rfl)⟩ [1, 2, 0] rfl (by decide) (by decide) (by decide) d_Model_isHere_73
            · refine j_iinc (pc := 55) C (v := nI (kz + 1)) (lv' := [(2, .int (nI (kz + 1))), (0, .ref mo), (1, .ref wa)]) d_Model_isHere_55 0 rfl (nI_add _ _) (by decide) rfl ?_
              refine j_goto (pc := 58) C (tgt := 35) d_Model_isHere_58 (by decide) ?_
              exact ih32 ((kz + 1)) ⟨(show (kz + 1) ≤ t3 by omega), (show u3 ≤ (kz + 1) by omega)⟩ (show t3 - (kz + 1) < t3 - kz by omega)
        · refine j_iconst (pc := 28) C (v := 0) d_Model_isHere_28 (by decide) ?_
          exact j_iret (pc := 29) C hr (by decide) u3 ⟨(show t2 ≤ u3 by omega), (show u3 ≤ t3 by omega), (Or.inl rfl)⟩ [1, 2, 0] rfl (by decide) (by decide) (by decide) d_Model_isHere_29
    · refine j_callSi (pc := 11) C (c_M_isLetter l D y r2) kw_Model_217 ks_Model_isLetter ⟨by decide, by decide⟩ ⟨by decide, by decide⟩ (wr := [(wa, .inl (y 3, 2, .inl wf)), MB mo ma (nI t1) (nI u3) (nI t3) i4 i5 i6 i7 i8 i42 i49 i51 i53 i54 i59 i61 i64 i66 (nI t67) i76 i78, (ma 0, .inl (y 0, 1600, .inl g0))]) [] [0, 1, 2] rfl rfl (by decide) (by decide) (by decide) (As := [.int r2]) (rest := []) rfl (nb rfl) rfl d_Model_isHere_11 (fun r51 _ hr51 => ?_)
      have xh52 := hr51
      refine j_ws (ws' := [(wa, .inl (y 3, 2, .inl wf)), MB mo ma (nI t1) (nI u3) (nI t3) i4 i5 i6 i7 i8 i42 i49 i51 i53 i54 i59 i61 i64 i66 (nI t67) i76 i78, (ma 0, .inl (y 0, 1600, .inl g0))]) rfl ?_
      refine j_if_eq (pc := 14) C (tgt := 28) d_Model_isHere_14 (by decide) (fun c53 => ?_) (fun c53 => ?_)
      · refine j_iconst (pc := 28) C (v := 0) d_Model_isHere_28 (by decide) ?_
        exact j_iret (pc := 29) C hr (by decide) u3 ⟨(show t2 ≤ u3 by omega), (show u3 ≤ t3 by omega), (Or.inl rfl)⟩ [1, 2, 0] rfl (by decide) (by decide) (by decide) d_Model_isHere_29
      · refine j_aload_n (pc := 17) C d_Model_isHere_17 rfl 0 rfl ?_
        refine j_get (pc := 18) C gf_Model_207 1 rfl rfl d_Model_isHere_18 ?_
        refine j_aload_n (pc := 21) C d_Model_isHere_21 rfl 0 rfl ?_
        refine j_get (pc := 22) C gf_Model_221 1 rfl rfl d_Model_isHere_22 ?_
        refine j_icmp_ne (pc := 25) C (tgt := 30) d_Model_isHere_25 (by decide) (fun c54 => ?_) (fun c54 => ?_)
        · refine j_aload_n (pc := 30) C d_Model_isHere_30 rfl 0 rfl ?_
          refine j_get (pc := 31) C gf_Model_207 1 rfl rfl d_Model_isHere_31 ?_
          refine j_istore_n (pc := 34) C (lv' := [(2, .int (nI u3)), (0, .ref mo), (1, .ref wa)]) d_Model_isHere_34 rfl (by decide) rfl ?_
          refine j_loop (α := Nat) (fun a => t3 - a) (fun a => (a ≤ t3) ∧ (u3 ≤ a)) (fun a => [(wa, .inl (y 3, 2, .inl wf)), MB mo ma (nI t1) (nI u3) (nI t3) i4 i5 i6 i7 i8 i42 i49 i51 i53 i54 i59 i61 i64 i66 (nI t67) i76 i78, (ma 0, .inl (y 0, 1600, .inl g0))]) (fun a => [(2, .int (nI a)), (0, .ref mo), (1, .ref wa)]) (u3) rfl rfl ⟨xh5, (show u3 ≤ u3 by omega)⟩ ?_
          rintro kz hP73 ih74
          obtain ⟨hk__, hk2__⟩ := hP73
          have hk_ : kz ≤ t3 := hk__
          have hk2_ : u3 ≤ kz := hk2__
          refine j_ws (ws' := [(wa, .inl (y 3, 2, .inl wf)), MB mo ma (nI t1) (nI u3) (nI t3) i4 i5 i6 i7 i8 i42 i49 i51 i53 i54 i59 i61 i64 i66 (nI t67) i76 i78, (ma 0, .inl (y 0, 1600, .inl g0))]) rfl ?_
          refine j_lv (lv' := [(2, .int (nI kz)), (0, .ref mo), (1, .ref wa)]) rfl ?_
          refine j_iload_n (pc := 35) C d_Model_isHere_35 rfl 0 rfl ?_
          refine j_aload_n (pc := 36) C d_Model_isHere_36 rfl 1 rfl ?_
          refine j_get (pc := 37) C gf_Model_210 1 rfl rfl d_Model_isHere_37 ?_
          by_cases c75 : t3 ≤ kz
          · refine j_icmp_geT (pc := 40) C (tgt := 61) d_Model_isHere_40 (by decide) (show nI t3 ≤ nI kz from nI_le (by omega) (by omega)) ?_
            refine j_iload_n (pc := 61) C d_Model_isHere_61 rfl 0 rfl ?_
            refine j_aload_n (pc := 62) C d_Model_isHere_62 rfl 1 rfl ?_
            refine j_get (pc := 63) C gf_Model_207 1 rfl rfl d_Model_isHere_63 ?_
            refine j_isub (pc := 66) C (v := nI (kz - u3)) d_Model_isHere_66 (pk_sub (by omega)) ?_
            refine j_aload_n (pc := 67) C d_Model_isHere_67 rfl 2 rfl ?_
            refine j_alen (pc := 68) C 0 3 rfl rfl (v := 2) rfl d_Model_isHere_68 ?_
            by_cases c76 : (kz - u3) = 2
            · refine j_icmp_eqT (pc := 69) C (tgt := 74) d_Model_isHere_69 (by decide) (show nI (kz - u3) = nI 2 from (nI_eq (by omega) (by omega)).mpr (by omega)) ?_
              refine j_iconst (pc := 74) C (v := 0) d_Model_isHere_74 (by decide) ?_
              refine j_istore_n (pc := 75) C (lv' := [(3, .int 0), (2, .int (nI kz)), (0, .ref mo), (1, .ref wa)]) d_Model_isHere_75 rfl (by decide) rfl ?_
              refine j_loop (α := Nat) (fun a => 2 - a) (fun a => (a ≤ 2)) (fun a => [(wa, .inl (y 3, 2, .inl wf)), MB mo ma (nI t1) (nI u3) (nI t3) i4 i5 i6 i7 i8 i42 i49 i51 i53 i54 i59 i61 i64 i66 (nI t67) i76 i78, (ma 0, .inl (y 0, 1600, .inl g0))]) (fun a => [(3, .int (nI a)), (2, .int (nI kz)), (0, .ref mo), (1, .ref wa)]) (0) rfl rfl (show 0 ≤ 2 by omega) ?_
              rintro iz hP79 ih80
              have hi__ := hP79
              have hi_ : iz ≤ 2 := hi__
              refine j_ws (ws' := [(wa, .inl (y 3, 2, .inl wf)), MB mo ma (nI t1) (nI u3) (nI t3) i4 i5 i6 i7 i8 i42 i49 i51 i53 i54 i59 i61 i64 i66 (nI t67) i76 i78, (ma 0, .inl (y 0, 1600, .inl g0))]) rfl ?_
              refine j_lv (lv' := [(3, .int (nI iz)), (2, .int (nI kz)), (0, .ref mo), (1, .ref wa)]) rfl ?_
              refine j_iload_n (pc := 76) C d_Model_isHere_76 rfl 0 rfl ?_
              refine j_aload_n (pc := 77) C d_Model_isHere_77 rfl 3 rfl ?_
              refine j_alen (pc := 78) C 0 3 rfl rfl (v := 2) rfl d_Model_isHere_78 ?_
              by_cases c81 : 2 ≤ iz
              · refine j_icmp_geT (pc := 79) C (tgt := 107) d_Model_isHere_79 (by decide) (show nI 2 ≤ nI iz from nI_le (by omega) (by omega)) ?_
                refine j_iconst (pc := 107) C (v := 1) d_Model_isHere_107 (by decide) ?_
                exact j_iret (pc := 108) C hr (by decide) u3 ⟨(show t2 ≤ u3 by omega), (show u3 ≤ t3 by omega), (Or.inr ⟨rfl, show u3 + 2 ≤ t3 by omega⟩)⟩ [1, 2, 0] rfl (by decide) (by decide) (by decide) d_Model_isHere_108
              · refine j_icmp_geF (pc := 79) C (tgt := 107) d_Model_isHere_79 (by decide) (show ¬ nI 2 ≤ nI iz from nI_ge (by omega) (by omega)) ?_
                refine j_aload_n (pc := 82) C d_Model_isHere_82 rfl 2 rfl ?_
                refine j_get (pc := 83) C gf_Model_7 1 rfl rfl d_Model_isHere_83 ?_
                refine j_aload_n (pc := 86) C d_Model_isHere_86 rfl 2 rfl ?_
                refine j_get (pc := 87) C gf_Model_207 1 rfl rfl d_Model_isHere_87 ?_
                refine j_iload_n (pc := 90) C d_Model_isHere_90 rfl 0 rfl ?_
                refine j_iadd (pc := 91) C (v := nI (u3 + iz)) d_Model_isHere_91 (nI_add _ _) ?_
                refine j_iald (pc := 92) C 2 rfl (v := g0 (u3 + iz)) (vp_in_nI (by omega) (by decide)) (by rw [nI_clamp (by omega)]) d_Model_isHere_92 ?_
                refine j_aload_n (pc := 93) C d_Model_isHere_93 rfl 3 rfl ?_
                refine j_iload_n (pc := 94) C d_Model_isHere_94 rfl 0 rfl ?_
                refine j_cald (pc := 95) C 0 rfl (v := wf iz) (vp_in_nI (by omega) (by decide)) (by rw [nI_clamp (by omega)]) d_Model_isHere_95 ?_
                refine j_icmp_eq (pc := 96) C (tgt := 101) d_Model_isHere_96 (by decide) (fun c82 => ?_) (fun c82 => ?_)
                · refine j_iinc (pc := 101) C (v := nI (iz + 1)) (lv' := [(3, .int (nI (iz + 1))), (2, .int (nI kz)), (0, .ref mo), (1, .ref wa)]) d_Model_isHere_101 0 rfl (nI_add _ _) (by decide) rfl ?_
                  refine j_goto (pc := 104) C (tgt := 76) d_Model_isHere_104 (by decide) ?_
                  exact ih80 ((iz + 1)) (show (iz + 1) ≤ 2 by omega) (show 2 - (iz + 1) < 2 - iz by omega)
                · refine j_iconst (pc := 99) C (v := 0) d_Model_isHere_99 (by decide) ?_
                  exact j_iret (pc := 100) C hr (by decide) u3 ⟨(show t2 ≤ u3 by omega), (show u3 ≤ t3 by omega), (Or.inl rfl)⟩ [1, 2, 0] rfl (by decide) (by decide) (by decide) d_Model_isHere_100
            · refine j_icmp_eqF (pc := 69) C (tgt := 74) d_Model_isHere_69 (by decide) (show ¬ nI (kz - u3) = nI 2 from fun e => absurd ((nI_eq (by omega) (by omega)).mp e) (by omega)) ?_
              refine j_iconst (pc := 72) C (v := 0) d_Model_isHere_72 (by decide) ?_
              exact j_iret (pc := 73) C hr (by decide) u3 ⟨(show t2 ≤ u3 by omega), (show u3 ≤ t3 by omega), (Or.inl rfl)⟩ [1, 2, 0] rfl (by decide) (by decide) (by decide) d_Model_isHere_73
          · refine j_icmp_geF (pc := 40) C (tgt := 61) d_Model_isHere_40 (by decide) (show ¬ nI t3 ≤ nI kz from nI_ge (by omega) (by omega)) ?_
            refine j_aload_n (pc := 43) C d_Model_isHere_43 rfl 1 rfl ?_
            refine j_get (pc := 44) C gf_Model_7 1 rfl rfl d_Model_isHere_44 ?_
            refine j_iload_n (pc := 47) C d_Model_isHere_47 rfl 0 rfl ?_
            refine j_iald (pc := 48) C 2 rfl (v := g0 kz) (vp_in_nI (by omega) (by decide)) (by rw [nI_clamp (by omega)]) d_Model_isHere_48 ?_
            refine j_callSi (pc := 49) C (c_M_isLetter l D y (g0 kz)) kw_Model_217 ks_Model_isLetter ⟨by decide, by decide⟩ ⟨by decide, by decide⟩ (wr := [(wa, .inl (y 3, 2, .inl wf)), MB mo ma (nI t1) (nI u3) (nI t3) i4 i5 i6 i7 i8 i42 i49 i51 i53 i54 i59 i61 i64 i66 (nI t67) i76 i78, (ma 0, .inl (y 0, 1600, .inl g0))]) [] [0, 1, 2] rfl rfl (by decide) (by decide) (by decide) (As := [.int (g0 kz)]) (rest := []) rfl (nb rfl) rfl d_Model_isHere_49 (fun r83 _ hr83 => ?_)
            have xh84 := hr83
            refine j_ws (ws' := [(wa, .inl (y 3, 2, .inl wf)), MB mo ma (nI t1) (nI u3) (nI t3) i4 i5 i6 i7 i8 i42 i49 i51 i53 i54 i59 i61 i64 i66 (nI t67) i76 i78, (ma 0, .inl (y 0, 1600, .inl g0))]) rfl ?_
            refine j_if_eq (pc := 52) C (tgt := 61) d_Model_isHere_52 (by decide) (fun c85 => ?_) (fun c85 => ?_)
            · refine j_iload_n (pc := 61) C d_Model_isHere_61 rfl 0 rfl ?_
              refine j_aload_n (pc := 62) C d_Model_isHere_62 rfl 1 rfl ?_
              refine j_get (pc := 63) C gf_Model_207 1 rfl rfl d_Model_isHere_63 ?_
              refine j_isub (pc := 66) C (v := nI (kz - u3)) d_Model_isHere_66 (pk_sub (by omega)) ?_
              refine j_aload_n (pc := 67) C d_Model_isHere_67 rfl 2 rfl ?_
              refine j_alen (pc := 68) C 0 3 rfl rfl (v := 2) rfl d_Model_isHere_68 ?_
              by_cases c86 : (kz - u3) = 2
              · refine j_icmp_eqT (pc := 69) C (tgt := 74) d_Model_isHere_69 (by decide) (show nI (kz - u3) = nI 2 from (nI_eq (by omega) (by omega)).mpr (by omega)) ?_
                refine j_iconst (pc := 74) C (v := 0) d_Model_isHere_74 (by decide) ?_
                refine j_istore_n (pc := 75) C (lv' := [(3, .int 0), (2, .int (nI kz)), (0, .ref mo), (1, .ref wa)]) d_Model_isHere_75 rfl (by decide) rfl ?_
                refine j_loop (α := Nat) (fun a => 2 - a) (fun a => (a ≤ 2)) (fun a => [(wa, .inl (y 3, 2, .inl wf)), MB mo ma (nI t1) (nI u3) (nI t3) i4 i5 i6 i7 i8 i42 i49 i51 i53 i54 i59 i61 i64 i66 (nI t67) i76 i78, (ma 0, .inl (y 0, 1600, .inl g0))]) (fun a => [(3, .int (nI a)), (2, .int (nI kz)), (0, .ref mo), (1, .ref wa)]) (0) rfl rfl (show 0 ≤ 2 by omega) ?_
                rintro iz hP89 ih90
                have hi__ := hP89
                have hi_ : iz ≤ 2 := hi__
                refine j_ws (ws' := [(wa, .inl (y 3, 2, .inl wf)), MB mo ma (nI t1) (nI u3) (nI t3) i4 i5 i6 i7 i8 i42 i49 i51 i53 i54 i59 i61 i64 i66 (nI t67) i76 i78, (ma 0, .inl (y 0, 1600, .inl g0))]) rfl ?_
                refine j_lv (lv' := [(3, .int (nI iz)), (2, .int (nI kz)), (0, .ref mo), (1, .ref wa)]) rfl ?_
                refine j_iload_n (pc := 76) C d_Model_isHere_76 rfl 0 rfl ?_
                refine j_aload_n (pc := 77) C d_Model_isHere_77 rfl 3 rfl ?_
                refine j_alen (pc := 78) C 0 3 rfl rfl (v := 2) rfl d_Model_isHere_78 ?_
                by_cases c91 : 2 ≤ iz
                · refine j_icmp_geT (pc := 79) C (tgt := 107) d_Model_isHere_79 (by decide) (show nI 2 ≤ nI iz from nI_le (by omega) (by omega)) ?_
                  refine j_iconst (pc := 107) C (v := 1) d_Model_isHere_107 (by decide) ?_
                  exact j_iret (pc := 108) C hr (by decide) u3 ⟨(show t2 ≤ u3 by omega), (show u3 ≤ t3 by omega), (Or.inr ⟨rfl, show u3 + 2 ≤ t3 by omega⟩)⟩ [1, 2, 0] rfl (by decide) (by decide) (by decide) d_Model_isHere_108
                · refine j_icmp_geF (pc := 79) C (tgt := 107) d_Model_isHere_79 (by decide) (show ¬ nI 2 ≤ nI iz from nI_ge (by omega) (by omega)) ?_
                  refine j_aload_n (pc := 82) C d_Model_isHere_82 rfl 2 rfl ?_
                  refine j_get (pc := 83) C gf_Model_7 1 rfl rfl d_Model_isHere_83 ?_
                  refine j_aload_n (pc := 86) C d_Model_isHere_86 rfl 2 rfl ?_
                  refine j_get (pc := 87) C gf_Model_207 1 rfl rfl d_Model_isHere_87 ?_
                  refine j_iload_n (pc := 90) C d_Model_isHere_90 rfl 0 rfl ?_
                  refine j_iadd (pc := 91) C (v := nI (u3 + iz)) d_Model_isHere_91 (nI_add _ _) ?_
                  refine j_iald (pc := 92) C 2 rfl (v := g0 (u3 + iz)) (vp_in_nI (by omega) (by decide)) (by rw [nI_clamp (by omega)]) d_Model_isHere_92 ?_
                  refine j_aload_n (pc := 93) C d_Model_isHere_93 rfl 3 rfl ?_
                  refine j_iload_n (pc := 94) C d_Model_isHere_94 rfl 0 rfl ?_
                  refine j_cald (pc := 95) C 0 rfl (v := wf iz) (vp_in_nI (by omega) (by decide)) (by rw [nI_clamp (by omega)]) d_Model_isHere_95 ?_
                  refine j_icmp_eq (pc := 96) C (tgt := 101) d_Model_isHere_96 (by decide) (fun c92 => ?_) (fun c92 => ?_)
                  · refine j_iinc (pc := 101) C (v := nI (iz + 1)) (lv' := [(3, .int (nI (iz + 1))), (2, .int (nI kz)), (0, .ref mo), (1, .ref wa)]) d_Model_isHere_101 0 rfl (nI_add _ _) (by decide) rfl ?_
                    refine j_goto (pc := 104) C (tgt := 76) d_Model_isHere_104 (by decide) ?_
                    exact ih90 ((iz + 1)) (show (iz + 1) ≤ 2 by omega) (show 2 - (iz + 1) < 2 - iz by omega)
                  · refine j_iconst (pc := 99) C (v := 0) d_Model_isHere_99 (by decide) ?_
                    exact j_iret (pc := 100) C hr (by decide) u3 ⟨(show t2 ≤ u3 by omega), (show u3 ≤ t3 by omega), (Or.inl rfl)⟩ [1, 2, 0] rfl (by decide) (by decide) (by decide) d_Model_isHere_100
              · refine j_icmp_eqF (pc := 69) C (tgt := 74) d_Model_isHere_69 (by decide) (show ¬ nI (kz - u3) = nI 2 from fun e => absurd ((nI_eq (by omega) (by omega)).mp e) (by omega)) ?_
                refine j_iconst (pc := 72) C (v := 0) d_Model_isHere_72 (by decide) ?_
                exact j_iret (pc := 73) C hr (by decide) u3 ⟨(show t2 ≤ u3 by omega), (show u3 ≤ t3 by omega), (Or.inl rfl)⟩ [1, 2, 0] rfl (by decide) (by decide) (by decide) d_Model_isHere_73
            · refine j_iinc (pc := 55) C (v := nI (kz + 1)) (lv' := [(2, .int (nI (kz + 1))), (0, .ref mo), (1, .ref wa)]) d_Model_isHere_55 0 rfl (nI_add _ _) (by decide) rfl ?_
              refine j_goto (pc := 58) C (tgt := 35) d_Model_isHere_58 (by decide) ?_
              exact ih74 ((kz + 1)) ⟨(show (kz + 1) ≤ t3 by omega), (show u3 ≤ (kz + 1) by omega)⟩ (show t3 - (kz + 1) < t3 - kz by omega)
        · refine j_iconst (pc := 28) C (v := 0) d_Model_isHere_28 (by decide) ?_
          exact j_iret (pc := 29) C hr (by decide) u3 ⟨(show t2 ≤ u3 by omega), (show u3 ≤ t3 by omega), (Or.inl rfl)⟩ [1, 2, 0] rfl (by decide) (by decide) (by decide) d_Model_isHere_29
theorem d_Model_takes_0 : decode prog_13_method_10_code 0 = .ok (.aload_n 0, 1) := by decide +kernel
theorem d_Model_takes_1 : decode prog_13_method_10_code 1 = .ok (.aload_n 1, 1) := by decide +kernel
theorem d_Model_takes_2 : decode prog_13_method_10_code 2 = .ok (.invokevirtual 224, 3) := by decide +kernel
theorem kw_Model_224 : KW "NineBoardsModel" 224 ⟨"NineBoardsModel", "isHere", "([C)Z"⟩ prog_13_method_9_code 4 (some .boolean) 1 := ⟨(mt_6 (List.mem_of_getElem? (i := 112) rfl) rfl), (mt_1 (List.mem_of_getElem? (i := 16) rfl) rfl), (mt_6 (List.mem_of_getElem? (i := 115) rfl) rfl), by decide +kernel⟩
theorem kv_Model_isHere : Cond.instanceMethod ⟨"NineBoardsModel", "isHere", "([C)Z"⟩ ∈ TB ∧ Cond.selects "NineBoardsModel" ⟨"NineBoardsModel", "isHere", "([C)Z"⟩ ⟨"NineBoardsModel", "isHere", "([C)Z"⟩ ∈ TB := ⟨(mt_6 (List.mem_of_getElem? (i := 114) rfl) rfl), (ms_0 (List.mem_map.mpr ⟨(⟨"NineBoardsModel", "isHere", "([C)Z"⟩, 79), List.mem_of_getElem? (i := 52) (by decide +kernel), rfl⟩) rfl)⟩
theorem d_Model_takes_5 : decode prog_13_method_10_code 5 = .ok (.ifCond .ne 5, 3) := by decide +kernel
theorem d_Model_takes_8 : decode prog_13_method_10_code 8 = .ok (.iconst 0, 1) := by decide +kernel
theorem d_Model_takes_9 : decode prog_13_method_10_code 9 = .ok (.ireturn, 1) := by decide +kernel
theorem d_Model_takes_10 : decode prog_13_method_10_code 10 = .ok (.aload_n 0, 1) := by decide +kernel
theorem d_Model_takes_11 : decode prog_13_method_10_code 11 = .ok (.dup, 1) := by decide +kernel
theorem d_Model_takes_12 : decode prog_13_method_10_code 12 = .ok (.getfield 207, 3) := by decide +kernel
theorem d_Model_takes_15 : decode prog_13_method_10_code 15 = .ok (.aload_n 1, 1) := by decide +kernel
theorem d_Model_takes_16 : decode prog_13_method_10_code 16 = .ok (.arraylength, 1) := by decide +kernel
theorem d_Model_takes_17 : decode prog_13_method_10_code 17 = .ok (.iadd, 1) := by decide +kernel
theorem d_Model_takes_18 : decode prog_13_method_10_code 18 = .ok (.putfield 207, 3) := by decide +kernel
theorem d_Model_takes_21 : decode prog_13_method_10_code 21 = .ok (.aload_n 0, 1) := by decide +kernel
theorem d_Model_takes_22 : decode prog_13_method_10_code 22 = .ok (.aload_n 0, 1) := by decide +kernel
theorem d_Model_takes_23 : decode prog_13_method_10_code 23 = .ok (.getfield 207, 3) := by decide +kernel
theorem d_Model_takes_26 : decode prog_13_method_10_code 26 = .ok (.putfield 221, 3) := by decide +kernel
theorem pf_Model_221 : PF "NineBoardsModel" 221 10 4 (.int) false := ⟨_, _, _, ct_Model, rfl, ci_Model, by decide, (mt_5 (List.mem_of_getElem? (i := 92) rfl) rfl), cp_Model, cn_Model, rfl, by decide +kernel, (fun h => by cases h)⟩
theorem d_Model_takes_29 : decode prog_13_method_10_code 29 = .ok (.iconst 1, 1) := by decide +kernel
theorem d_Model_takes_30 : decode prog_13_method_10_code 30 = .ok (.ireturn, 1) := by decide +kernel
set_option maxHeartbeats 4000000 in
set_option maxRecDepth 100000 in
theorem c_M_takes_2 (l : Launch) (D : va_G) (y : Nat → ClassId) (mo : Nat) (wa : Nat) (ma : Nat → Nat) (t1 : Nat) (t2 : Nat) (t3 : Nat) (i4 : Int32) (i5 : Int32) (i6 : Int32) (i7 : Int32) (i8 : Int32) (i42 : Int32) (i49 : Int32) (i51 : Int32) (i53 : Int32) (i54 : Int32) (i59 : Int32) (i61 : Int32) (i64 : Int32) (i66 : Int32) (t67 : Nat) (i76 : Int64) (i78 : Int32) (g0 : Nat → Int32) (wf : Nat → Int32) (ha : t2 ≤ t3) (he : t3 ≤ 1600) : CT l D y ⟨"NineBoardsModel", "takes", "([C)Z"⟩ prog_13_method_10_code 2 (some .boolean) ({ frames := 2, cells := 0, slots := 0, locals := 43 } : Room) [.ref mo, .ref wa] [MB mo ma (nI t1) (nI t2) (nI t3) i4 i5 i6 i7 i8 i42 i49 i51 i53 i54 i59 i61 i64 i66 (nI t67) i76 i78, (ma 0, .inl (y 0, 1600, .inl g0)), (wa, .inl (y 3, 2, .inl wf))] (QI D [MB mo ma (nI t1) (nI t2) (nI t3) i4 i5 i6 i7 i8 i42 i49 i51 i53 i54 i59 i61 i64 i66 (nI t67) i76 i78, (ma 0, .inl (y 0, 1600, .inl g0)), (wa, .inl (y 3, 2, .inl wf))] (fun (r : Int32) (u : Nat × Int32) => t2 ≤ u.1 ∧ u.1 ≤ t3 ∧ (r = 0 ∨ (r = 1 ∧ t2 + 2 ≤ u.1))) (fun u => [MB mo ma (nI t1) (nI u.1) (nI t3) u.2 i5 i6 i7 i8 i42 i49 i51 i53 i54 i59 i61 i64 i66 (nI t67) i76 i78, (ma 0, .inl (y 0, 1600, .inl g0)), (wa, .inl (y 3, 2, .inl wf))])) := by
  refine CT.of (by decide) (nb rfl) ?_
  intro p e s m args below meth c C hr
  refine j_lv (lv' := [(0, .ref mo), (1, .ref wa)]) rfl ?_
  refine j_aload_n (pc := 0) C d_Model_takes_0 rfl 0 rfl ?_
  refine j_aload_n (pc := 1) C d_Model_takes_1 rfl 1 rfl ?_
  refine j_callVi (pc := 2) C (c_M_isHere_2 l D y mo wa ma t1 t2 t3 i4 i5 i6 i7 i8 i42 i49 i51 i53 i54 i59 i61 i64 i66 t67 i76 i78 g0 wf ha he) kw_Model_224 kv_Model_isHere 0 10 rfl rfl ⟨by decide, by decide⟩ ⟨by decide, by decide⟩ (wr := []) [0, 1, 2] [] rfl rfl (by decide) (by decide) (by decide) (As := [.ref wa]) (rest := []) rfl (nb rfl) rfl d_Model_takes_2 (fun r1 u2 hr1 => ?_)
  refine j_ws (ws' := [MB mo ma (nI t1) (nI u2) (nI t3) i4 i5 i6 i7 i8 i42 i49 i51 i53 i54 i59 i61 i64 i66 (nI t67) i76 i78, (ma 0, .inl (y 0, 1600, .inl g0)), (wa, .inl (y 3, 2, .inl wf))]) rfl ?_
  obtain ⟨xh3, xh4, xh5⟩ := hr1
  rcases xh5 with rfl | ⟨rfl, xh6⟩
  · refine j_if_neF (pc := 5) C (tgt := 10) d_Model_takes_5 (by decide) (by decide) ?_
    refine j_iconst (pc := 8) C (v := 0) d_Model_takes_8 (by decide) ?_
    exact j_iret (pc := 9) C hr (by decide) (u2, i4) ⟨(show t2 ≤ u2 by omega), (show u2 ≤ t3 by omega), (Or.inl rfl)⟩ [0, 1, 2] rfl (by decide) (by decide) (by decide) d_Model_takes_9
  · refine j_if_neT (pc := 5) C (tgt := 10) d_Model_takes_5 (by decide) (by decide) ?_
    refine j_aload_n (pc := 10) C d_Model_takes_10 rfl 0 rfl ?_
    refine j_dup (pc := 11) C d_Model_takes_11 rfl ?_
    refine j_get (pc := 12) C gf_Model_207 0 rfl rfl d_Model_takes_12 ?_
    refine j_aload_n (pc := 15) C d_Model_takes_15 rfl 1 rfl ?_
    refine j_alen (pc := 16) C 2 3 rfl rfl (v := 2) rfl d_Model_takes_16 ?_
    refine j_iadd (pc := 17) C (v := nI (u2 + 2)) d_Model_takes_17 (nI_add _ _) ?_
    refine j_put (pc := 18) C pf_Model_207 0 (ws' := [MB mo ma (nI t1) (nI (u2 + 2)) (nI t3) i4 i5 i6 i7 i8 i42 i49 i51 i53 i54 i59 i61 i64 i66 (nI t67) i76 i78, (ma 0, .inl (y 0, 1600, .inl g0)), (wa, .inl (y 3, 2, .inl wf))]) rfl rfl rfl (nl rfl) rfl d_Model_takes_18 ?_
    refine j_aload_n (pc := 21) C d_Model_takes_21 rfl 0 rfl ?_
    refine j_aload_n (pc := 22) C d_Model_takes_22 rfl 0 rfl ?_
    refine j_get (pc := 23) C gf_Model_207 0 rfl rfl d_Model_takes_23 ?_
    refine j_put (pc := 26) C pf_Model_221 0 (ws' := [MB mo ma (nI t1) (nI (u2 + 2)) (nI t3) (nI (u2 + 2)) i5 i6 i7 i8 i42 i49 i51 i53 i54 i59 i61 i64 i66 (nI t67) i76 i78, (ma 0, .inl (y 0, 1600, .inl g0)), (wa, .inl (y 3, 2, .inl wf))]) rfl rfl rfl (nl rfl) rfl d_Model_takes_26 ?_
    refine j_iconst (pc := 29) C (v := 1) d_Model_takes_29 (by decide) ?_
    exact j_iret (pc := 30) C hr (by decide) ((u2 + 2), nI (u2 + 2)) ⟨(show t2 ≤ (u2 + 2) by omega), (show (u2 + 2) ≤ t3 by omega), (Or.inr ⟨rfl, show t2 + 2 ≤ (u2 + 2) by omega⟩)⟩ [0, 1, 2] rfl (by decide) (by decide) (by decide) d_Model_takes_30
theorem d_Model_asks_0 : decode prog_13_method_11_code 0 = .ok (.aload_n 0, 1) := by decide +kernel
theorem d_Model_asks_1 : decode prog_13_method_11_code 1 = .ok (.getfield 201, 3) := by decide +kernel
theorem d_Model_asks_4 : decode prog_13_method_11_code 4 = .ok (.ifCond .ne 20, 3) := by decide +kernel
theorem d_Model_asks_24 : decode prog_13_method_11_code 24 = .ok (.return_, 1) := by decide +kernel
theorem d_Model_asks_7 : decode prog_13_method_11_code 7 = .ok (.aload_n 0, 1) := by decide +kernel
theorem d_Model_asks_8 : decode prog_13_method_11_code 8 = .ok (.aload_n 1, 1) := by decide +kernel
theorem d_Model_asks_9 : decode prog_13_method_11_code 9 = .ok (.invokevirtual 228, 3) := by decide +kernel
theorem kw_Model_228 : KW "NineBoardsModel" 228 ⟨"NineBoardsModel", "takes", "([C)Z"⟩ prog_13_method_10_code 2 (some .boolean) 1 := ⟨(mt_6 (List.mem_of_getElem? (i := 108) rfl) rfl), (mt_1 (List.mem_of_getElem? (i := 16) rfl) rfl), (mt_6 (List.mem_of_getElem? (i := 111) rfl) rfl), by decide +kernel⟩
theorem kv_Model_takes : Cond.instanceMethod ⟨"NineBoardsModel", "takes", "([C)Z"⟩ ∈ TB ∧ Cond.selects "NineBoardsModel" ⟨"NineBoardsModel", "takes", "([C)Z"⟩ ⟨"NineBoardsModel", "takes", "([C)Z"⟩ ∈ TB := ⟨(mt_6 (List.mem_of_getElem? (i := 110) rfl) rfl), (ms_0 (List.mem_map.mpr ⟨(⟨"NineBoardsModel", "takes", "([C)Z"⟩, 79), List.mem_of_getElem? (i := 51) (by decide +kernel), rfl⟩) rfl)⟩
theorem d_Model_asks_12 : decode prog_13_method_11_code 12 = .ok (.ifCond .ne 12, 3) := by decide +kernel
theorem d_Model_asks_15 : decode prog_13_method_11_code 15 = .ok (.aload_n 0, 1) := by decide +kernel
theorem d_Model_asks_16 : decode prog_13_method_11_code 16 = .ok (.iconst 1, 1) := by decide +kernel
theorem d_Model_asks_17 : decode prog_13_method_11_code 17 = .ok (.aload_n 0, 1) := by decide +kernel
theorem d_Model_asks_18 : decode prog_13_method_11_code 18 = .ok (.getfield 207, 3) := by decide +kernel
theorem d_Model_asks_21 : decode prog_13_method_11_code 21 = .ok (.invokevirtual 230, 3) := by decide +kernel
theorem kw_Model_230 : KW "NineBoardsModel" 230 ⟨"NineBoardsModel", "fail", "(II)V"⟩ prog_13_method_5_code 3 none 2 := ⟨(mt_6 (List.mem_of_getElem? (i := 123) rfl) rfl), (mt_1 (List.mem_of_getElem? (i := 16) rfl) rfl), (mt_6 (List.mem_of_getElem? (i := 126) rfl) rfl), by decide +kernel⟩
theorem kv_Model_fail : Cond.instanceMethod ⟨"NineBoardsModel", "fail", "(II)V"⟩ ∈ TB ∧ Cond.selects "NineBoardsModel" ⟨"NineBoardsModel", "fail", "(II)V"⟩ ⟨"NineBoardsModel", "fail", "(II)V"⟩ ∈ TB := ⟨(mt_6 (List.mem_of_getElem? (i := 125) rfl) rfl), (ms_0 (List.mem_map.mpr ⟨(⟨"NineBoardsModel", "fail", "(II)V"⟩, 79), List.mem_of_getElem? (i := 54) (by decide +kernel), rfl⟩) rfl)⟩
set_option maxHeartbeats 4000000 in
set_option maxRecDepth 100000 in
theorem c_M_asks_2 (l : Launch) (D : va_G) (y : Nat → ClassId) (mo : Nat) (wa : Nat) (ma : Nat → Nat) (t1 : Nat) (t2 : Nat) (t3 : Nat) (i4 : Int32) (i5 : Int32) (i6 : Int32) (i7 : Int32) (i8 : Int32) (i42 : Int32) (i49 : Int32) (i51 : Int32) (i53 : Int32) (i54 : Int32) (i59 : Int32) (i61 : Int32) (i64 : Int32) (i66 : Int32) (t67 : Nat) (i76 : Int64) (i78 : Int32) (g0 : Nat → Int32) (wf : Nat → Int32) (ha : t2 ≤ t3) (he : t3 ≤ 1600) : CT l D y ⟨"NineBoardsModel", "asks", "([C)V"⟩ prog_13_method_11_code 2 none ({ frames := 3, cells := 0, slots := 0, locals := 64 } : Room) [.ref mo, .ref wa] [MB mo ma (nI t1) (nI t2) (nI t3) i4 i5 i6 i7 i8 i42 i49 i51 i53 i54 i59 i61 i64 i66 (nI t67) i76 i78, (ma 0, .inl (y 0, 1600, .inl g0)), (wa, .inl (y 3, 2, .inl wf))] (QV D [MB mo ma (nI t1) (nI t2) (nI t3) i4 i5 i6 i7 i8 i42 i49 i51 i53 i54 i59 i61 i64 i66 (nI t67) i76 i78, (ma 0, .inl (y 0, 1600, .inl g0)), (wa, .inl (y 3, 2, .inl wf))] (fun (u : Nat × Int32 × Int32 × Int32) => t2 ≤ u.1 ∧ u.1 ≤ t3 ∧ (u.2.2.1 = 0 → i5 = 0 ∧ t2 + 2 ≤ u.1)) (fun u => [MB mo ma (nI t1) (nI u.1) (nI t3) u.2.1 u.2.2.1 u.2.2.2 i7 i8 i42 i49 i51 i53 i54 i59 i61 i64 i66 (nI t67) i76 i78, (ma 0, .inl (y 0, 1600, .inl g0)), (wa, .inl (y 3, 2, .inl wf))])) := by
  refine CT.of (by decide) (nb rfl) ?_
  intro p e s m args below meth c C hr
  refine j_lv (lv' := [(0, .ref mo), (1, .ref wa)]) rfl ?_
  refine j_aload_n (pc := 0) C d_Model_asks_0 rfl 0 rfl ?_
  refine j_get (pc := 1) C gf_Model_201 0 rfl rfl d_Model_asks_1 ?_
  refine j_if_ne (pc := 4) C (tgt := 24) d_Model_asks_4 (by decide) (fun c1 => ?_) (fun c1 => ?_)
  · exact j_vret (pc := 24) C hr (t2, i4, i5, i6) ⟨(show t2 ≤ t2 by omega), (show t2 ≤ t3 by omega), (fun e => absurd e c1)⟩ [0, 1, 2] rfl (by decide) (by decide) (by decide) d_Model_asks_24
  · refine j_aload_n (pc := 7) C d_Model_asks_7 rfl 0 rfl ?_
    refine j_aload_n (pc := 8) C d_Model_asks_8 rfl 1 rfl ?_
    refine j_callVi (pc := 9) C (c_M_takes_2 l D y mo wa ma t1 t2 t3 i4 i5 i6 i7 i8 i42 i49 i51 i53 i54 i59 i61 i64 i66 t67 i76 i78 g0 wf ha he) kw_Model_228 kv_Model_takes 0 10 rfl rfl ⟨by decide, by decide⟩ ⟨by decide, by decide⟩ (wr := []) [0, 1, 2] [] rfl rfl (by decide) (by decide) (by decide) (As := [.ref wa]) (rest := []) rfl (nb rfl) rfl d_Model_asks_9 (fun r2 u3 hr2 => ?_)
    refine j_ws (ws' := [MB mo ma (nI t1) (nI u3.1) (nI t3) u3.2 i5 i6 i7 i8 i42 i49 i51 i53 i54 i59 i61 i64 i66 (nI t67) i76 i78, (ma 0, .inl (y 0, 1600, .inl g0)), (wa, .inl (y 3, 2, .inl wf))]) rfl ?_
    obtain ⟨xh4, xh5, xh6⟩ := hr2
    rcases xh6 with rfl | ⟨rfl, xh7⟩
    · refine j_if_neF (pc := 12) C (tgt := 24) d_Model_asks_12 (by decide) (by decide) ?_
      refine j_aload_n (pc := 15) C d_Model_asks_15 rfl 0 rfl ?_
      refine j_iconst (pc := 16) C (v := 1) d_Model_asks_16 (by decide) ?_
      refine j_aload_n (pc := 17) C d_Model_asks_17 rfl 0 rfl ?_
      refine j_get (pc := 18) C gf_Model_207 0 rfl rfl d_Model_asks_18 ?_
      refine j_callVv (pc := 21) C (c_M_fail l D y mo ma t1 u3.1 t3 u3.2 i5 i6 i7 i8 i42 i49 i51 i53 i54 i59 i61 i64 i66 t67 i76 i78 1 (nI u3.1) (by decide)) kw_Model_230 kv_Model_fail 0 10 rfl rfl ⟨by decide, by decide⟩ ⟨by decide, by decide⟩ (wr := [(ma 0, .inl (y 0, 1600, .inl g0)), (wa, .inl (y 3, 2, .inl wf))]) [0] [1, 2] rfl rfl (by decide) (by decide) (by decide) (As := [.int 1, .int (nI u3.1)]) (rest := []) rfl (nb rfl) rfl d_Model_asks_21 (fun u8 hu9 => ?_)
      have xh10 := hu9
      refine j_ws (ws' := [(ma 0, .inl (y 0, 1600, .inl g0)), (wa, .inl (y 3, 2, .inl wf)), MB mo ma (nI t1) (nI u3.1) (nI t3) u3.2 u8.1 u8.2 i7 i8 i42 i49 i51 i53 i54 i59 i61 i64 i66 (nI t67) i76 i78]) rfl ?_
      exact j_vret (pc := 24) C hr (u3.1, u3.2, u8.1, u8.2) ⟨(show t2 ≤ u3.1 by omega), (show u3.1 ≤ t3 by omega), (fun e => absurd e xh10)⟩ [2, 0, 1] rfl (by decide) (by decide) (by decide) d_Model_asks_24
    · refine j_if_neT (pc := 12) C (tgt := 24) d_Model_asks_12 (by decide) (by decide) ?_
      exact j_vret (pc := 24) C hr (u3.1, u3.2, i5, i6) ⟨(show t2 ≤ u3.1 by omega), (show u3.1 ≤ t3 by omega), (fun e => by exact ⟨e, by omega⟩)⟩ [0, 1, 2] rfl (by decide) (by decide) (by decide) d_Model_asks_24
set_option maxHeartbeats 4000000 in
set_option maxRecDepth 100000 in
theorem c_M_isHere_3 (l : Launch) (D : va_G) (y : Nat → ClassId) (mo : Nat) (wa : Nat) (ma : Nat → Nat) (t1 : Nat) (t2 : Nat) (t3 : Nat) (i4 : Int32) (i5 : Int32) (i6 : Int32) (i7 : Int32) (i8 : Int32) (i42 : Int32) (i49 : Int32) (i51 : Int32) (i53 : Int32) (i54 : Int32) (i59 : Int32) (i61 : Int32) (i64 : Int32) (i66 : Int32) (t67 : Nat) (i76 : Int64) (i78 : Int32) (g0 : Nat → Int32) (wf : Nat → Int32) (ha : t2 ≤ t3) (he : t3 ≤ 1600) : CT l D y ⟨"NineBoardsModel", "isHere", "([C)Z"⟩ prog_13_method_9_code 4 (some .boolean) ({ frames := 1, cells := 0, slots := 0, locals := 20 } : Room) [.ref mo, .ref wa] [MB mo ma (nI t1) (nI t2) (nI t3) i4 i5 i6 i7 i8 i42 i49 i51 i53 i54 i59 i61 i64 i66 (nI t67) i76 i78, (ma 0, .inl (y 0, 1600, .inl g0)), (wa, .inl (y 3, 3, .inl wf))] (QI D [MB mo ma (nI t1) (nI t2) (nI t3) i4 i5 i6 i7 i8 i42 i49 i51 i53 i54 i59 i61 i64 i66 (nI t67) i76 i78, (ma 0, .inl (y 0, 1600, .inl g0)), (wa, .inl (y 3, 3, .inl wf))] (fun (r : Int32) (u : Nat) => t2 ≤ u ∧ u ≤ t3 ∧ (r = 0 ∨ (r = 1 ∧ u + 3 ≤ t3))) (fun u => [MB mo ma (nI t1) (nI u) (nI t3) i4 i5 i6 i7 i8 i42 i49 i51 i53 i54 i59 i61 i64 i66 (nI t67) i76 i78, (ma 0, .inl (y 0, 1600, .inl g0)), (wa, .inl (y 3, 3, .inl wf))])) := by
  refine CT.of (by decide) (nb rfl) ?_
  intro p e s m args below meth c C hr
  refine j_lv (lv' := [(0, .ref mo), (1, .ref wa)]) rfl ?_
  refine j_aload_n (pc := 0) C d_Model_isHere_0 rfl 0 rfl ?_
  refine j_get (pc := 1) C gf_Model_201 0 rfl rfl d_Model_isHere_1 ?_
  refine j_if_ne (pc := 4) C (tgt := 28) d_Model_isHere_4 (by decide) (fun c1 => ?_) (fun c1 => ?_)
  · refine j_iconst (pc := 28) C (v := 0) d_Model_isHere_28 (by decide) ?_
    exact j_iret (pc := 29) C hr (by decide) t2 ⟨(show t2 ≤ t2 by omega), (show t2 ≤ t3 by omega), (Or.inl rfl)⟩ [0, 1, 2] rfl (by decide) (by decide) (by decide) d_Model_isHere_29
  · refine j_aload_n (pc := 7) C d_Model_isHere_7 rfl 0 rfl ?_
    refine j_callVi (pc := 8) C (c_M_look l D y mo ma t1 t2 t3 i4 i5 i6 i7 i8 i42 i49 i51 i53 i54 i59 i61 i64 i66 t67 i76 i78 g0 ha he) kw_Model_213 kv_Model_look 0 10 rfl rfl ⟨by decide, by decide⟩ ⟨by decide, by decide⟩ (wr := [(wa, .inl (y 3, 3, .inl wf))]) [0, 1] [2] rfl rfl (by decide) (by decide) (by decide) (As := []) (rest := []) rfl (nb rfl) rfl d_Model_isHere_8 (fun r2 u3 hr2 => ?_)
    refine j_ws (ws' := [(wa, .inl (y 3, 3, .inl wf)), MB mo ma (nI t1) (nI u3) (nI t3) i4 i5 i6 i7 i8 i42 i49 i51 i53 i54 i59 i61 i64 i66 (nI t67) i76 i78, (ma 0, .inl (y 0, 1600, .inl g0))]) rfl ?_
    obtain ⟨xh4, xh5, xh6⟩ := hr2
    rcases xh6 with rfl | ⟨xh7, e8⟩
    · refine j_callSi (pc := 11) C (c_M_isLetter l D y (-1)) kw_Model_217 ks_Model_isLetter ⟨by decide, by decide⟩ ⟨by decide, by decide⟩ (wr := [(wa, .inl (y 3, 3, .inl wf)), MB mo ma (nI t1) (nI u3) (nI t3) i4 i5 i6 i7 i8 i42 i49 i51 i53 i54 i59 i61 i64 i66 (nI t67) i76 i78, (ma 0, .inl (y 0, 1600, .inl g0))]) [] [0, 1, 2] rfl rfl (by decide) (by decide) (by decide) (As := [.int (-1)]) (rest := []) rfl (nb rfl) rfl d_Model_isHere_11 (fun r9 _ hr9 => ?_)
      have xh10 := hr9
      refine j_ws (ws' := [(wa, .inl (y 3, 3, .inl wf)), MB mo ma (nI t1) (nI u3) (nI t3) i4 i5 i6 i7 i8 i42 i49 i51 i53 i54 i59 i61 i64 i66 (nI t67) i76 i78, (ma 0, .inl (y 0, 1600, .inl g0))]) rfl ?_
      refine j_if_eq (pc := 14) C (tgt := 28) d_Model_isHere_14 (by decide) (fun c11 => ?_) (fun c11 => ?_)
      · refine j_iconst (pc := 28) C (v := 0) d_Model_isHere_28 (by decide) ?_
        exact j_iret (pc := 29) C hr (by decide) u3 ⟨(show t2 ≤ u3 by omega), (show u3 ≤ t3 by omega), (Or.inl rfl)⟩ [1, 2, 0] rfl (by decide) (by decide) (by decide) d_Model_isHere_29
      · refine j_aload_n (pc := 17) C d_Model_isHere_17 rfl 0 rfl ?_
        refine j_get (pc := 18) C gf_Model_207 1 rfl rfl d_Model_isHere_18 ?_
        refine j_aload_n (pc := 21) C d_Model_isHere_21 rfl 0 rfl ?_
        refine j_get (pc := 22) C gf_Model_221 1 rfl rfl d_Model_isHere_22 ?_
        refine j_icmp_ne (pc := 25) C (tgt := 30) d_Model_isHere_25 (by decide) (fun c12 => ?_) (fun c12 => ?_)
        · refine j_aload_n (pc := 30) C d_Model_isHere_30 rfl 0 rfl ?_
          refine j_get (pc := 31) C gf_Model_207 1 rfl rfl d_Model_isHere_31 ?_
          refine j_istore_n (pc := 34) C (lv' := [(2, .int (nI u3)), (0, .ref mo), (1, .ref wa)]) d_Model_isHere_34 rfl (by decide) rfl ?_
          refine j_loop (α := Nat) (fun a => t3 - a) (fun a => (a ≤ t3) ∧ (u3 ≤ a)) (fun a => [(wa, .inl (y 3, 3, .inl wf)), MB mo ma (nI t1) (nI u3) (nI t3) i4 i5 i6 i7 i8 i42 i49 i51 i53 i54 i59 i61 i64 i66 (nI t67) i76 i78, (ma 0, .inl (y 0, 1600, .inl g0))]) (fun a => [(2, .int (nI a)), (0, .ref mo), (1, .ref wa)]) (u3) rfl rfl ⟨xh5, (show u3 ≤ u3 by omega)⟩ ?_
          rintro kz hP31 ih32
          obtain ⟨hk__, hk2__⟩ := hP31
          have hk_ : kz ≤ t3 := hk__
          have hk2_ : u3 ≤ kz := hk2__
          refine j_ws (ws' := [(wa, .inl (y 3, 3, .inl wf)), MB mo ma (nI t1) (nI u3) (nI t3) i4 i5 i6 i7 i8 i42 i49 i51 i53 i54 i59 i61 i64 i66 (nI t67) i76 i78, (ma 0, .inl (y 0, 1600, .inl g0))]) rfl ?_
          refine j_lv (lv' := [(2, .int (nI kz)), (0, .ref mo), (1, .ref wa)]) rfl ?_
          refine j_iload_n (pc := 35) C d_Model_isHere_35 rfl 0 rfl ?_
          refine j_aload_n (pc := 36) C d_Model_isHere_36 rfl 1 rfl ?_
          refine j_get (pc := 37) C gf_Model_210 1 rfl rfl d_Model_isHere_37 ?_
          by_cases c33 : t3 ≤ kz
          · refine j_icmp_geT (pc := 40) C (tgt := 61) d_Model_isHere_40 (by decide) (show nI t3 ≤ nI kz from nI_le (by omega) (by omega)) ?_
            refine j_iload_n (pc := 61) C d_Model_isHere_61 rfl 0 rfl ?_
            refine j_aload_n (pc := 62) C d_Model_isHere_62 rfl 1 rfl ?_
            refine j_get (pc := 63) C gf_Model_207 1 rfl rfl d_Model_isHere_63 ?_
            refine j_isub (pc := 66) C (v := nI (kz - u3)) d_Model_isHere_66 (pk_sub (by omega)) ?_
            refine j_aload_n (pc := 67) C d_Model_isHere_67 rfl 2 rfl ?_
            refine j_alen (pc := 68) C 0 3 rfl rfl (v := 3) rfl d_Model_isHere_68 ?_
            by_cases c34 : (kz - u3) = 3
            · refine j_icmp_eqT (pc := 69) C (tgt := 74) d_Model_isHere_69 (by decide) (show nI (kz - u3) = nI 3 from (nI_eq (by omega) (by omega)).mpr (by omega)) ?_
              refine j_iconst (pc := 74) C (v := 0) d_Model_isHere_74 (by decide) ?_
              refine j_istore_n (pc := 75) C (lv' := [(3, .int 0), (2, .int (nI kz)), (0, .ref mo), (1, .ref wa)]) d_Model_isHere_75 rfl (by decide) rfl ?_
              refine j_loop (α := Nat) (fun a => 3 - a) (fun a => (a ≤ 3)) (fun a => [(wa, .inl (y 3, 3, .inl wf)), MB mo ma (nI t1) (nI u3) (nI t3) i4 i5 i6 i7 i8 i42 i49 i51 i53 i54 i59 i61 i64 i66 (nI t67) i76 i78, (ma 0, .inl (y 0, 1600, .inl g0))]) (fun a => [(3, .int (nI a)), (2, .int (nI kz)), (0, .ref mo), (1, .ref wa)]) (0) rfl rfl (show 0 ≤ 3 by omega) ?_
              rintro iz hP37 ih38
              have hi__ := hP37
              have hi_ : iz ≤ 3 := hi__
              refine j_ws (ws' := [(wa, .inl (y 3, 3, .inl wf)), MB mo ma (nI t1) (nI u3) (nI t3) i4 i5 i6 i7 i8 i42 i49 i51 i53 i54 i59 i61 i64 i66 (nI t67) i76 i78, (ma 0, .inl (y 0, 1600, .inl g0))]) rfl ?_
              refine j_lv (lv' := [(3, .int (nI iz)), (2, .int (nI kz)), (0, .ref mo), (1, .ref wa)]) rfl ?_
              refine j_iload_n (pc := 76) C d_Model_isHere_76 rfl 0 rfl ?_
              refine j_aload_n (pc := 77) C d_Model_isHere_77 rfl 3 rfl ?_
              refine j_alen (pc := 78) C 0 3 rfl rfl (v := 3) rfl d_Model_isHere_78 ?_
              by_cases c39 : 3 ≤ iz
              · refine j_icmp_geT (pc := 79) C (tgt := 107) d_Model_isHere_79 (by decide) (show nI 3 ≤ nI iz from nI_le (by omega) (by omega)) ?_
                refine j_iconst (pc := 107) C (v := 1) d_Model_isHere_107 (by decide) ?_
                exact j_iret (pc := 108) C hr (by decide) u3 ⟨(show t2 ≤ u3 by omega), (show u3 ≤ t3 by omega), (Or.inr ⟨rfl, show u3 + 3 ≤ t3 by omega⟩)⟩ [1, 2, 0] rfl (by decide) (by decide) (by decide) d_Model_isHere_108
              · refine j_icmp_geF (pc := 79) C (tgt := 107) d_Model_isHere_79 (by decide) (show ¬ nI 3 ≤ nI iz from nI_ge (by omega) (by omega)) ?_
                refine j_aload_n (pc := 82) C d_Model_isHere_82 rfl 2 rfl ?_
                refine j_get (pc := 83) C gf_Model_7 1 rfl rfl d_Model_isHere_83 ?_
                refine j_aload_n (pc := 86) C d_Model_isHere_86 rfl 2 rfl ?_
                refine j_get (pc := 87) C gf_Model_207 1 rfl rfl d_Model_isHere_87 ?_
                refine j_iload_n (pc := 90) C d_Model_isHere_90 rfl 0 rfl ?_
                refine j_iadd (pc := 91) C (v := nI (u3 + iz)) d_Model_isHere_91 (nI_add _ _) ?_
                refine j_iald (pc := 92) C 2 rfl (v := g0 (u3 + iz)) (vp_in_nI (by omega) (by decide)) (by rw [nI_clamp (by omega)]) d_Model_isHere_92 ?_
                refine j_aload_n (pc := 93) C d_Model_isHere_93 rfl 3 rfl ?_
                refine j_iload_n (pc := 94) C d_Model_isHere_94 rfl 0 rfl ?_
                refine j_cald (pc := 95) C 0 rfl (v := wf iz) (vp_in_nI (by omega) (by decide)) (by rw [nI_clamp (by omega)]) d_Model_isHere_95 ?_
                refine j_icmp_eq (pc := 96) C (tgt := 101) d_Model_isHere_96 (by decide) (fun c40 => ?_) (fun c40 => ?_)
                · refine j_iinc (pc := 101) C (v := nI (iz + 1)) (lv' := [(3, .int (nI (iz + 1))), (2, .int (nI kz)), (0, .ref mo), (1, .ref wa)]) d_Model_isHere_101 0 rfl (nI_add _ _) (by decide) rfl ?_
                  refine j_goto (pc := 104) C (tgt := 76) d_Model_isHere_104 (by decide) ?_
                  exact ih38 ((iz + 1)) (show (iz + 1) ≤ 3 by omega) (show 3 - (iz + 1) < 3 - iz by omega)
                · refine j_iconst (pc := 99) C (v := 0) d_Model_isHere_99 (by decide) ?_
                  exact j_iret (pc := 100) C hr (by decide) u3 ⟨(show t2 ≤ u3 by omega), (show u3 ≤ t3 by omega), (Or.inl rfl)⟩ [1, 2, 0] rfl (by decide) (by decide) (by decide) d_Model_isHere_100
            · refine j_icmp_eqF (pc := 69) C (tgt := 74) d_Model_isHere_69 (by decide) (show ¬ nI (kz - u3) = nI 3 from fun e => absurd ((nI_eq (by omega) (by omega)).mp e) (by omega)) ?_
              refine j_iconst (pc := 72) C (v := 0) d_Model_isHere_72 (by decide) ?_
              exact j_iret (pc := 73) C hr (by decide) u3 ⟨(show t2 ≤ u3 by omega), (show u3 ≤ t3 by omega), (Or.inl rfl)⟩ [1, 2, 0] rfl (by decide) (by decide) (by decide) d_Model_isHere_73
          · refine j_icmp_geF (pc := 40) C (tgt := 61) d_Model_isHere_40 (by decide) (show ¬ nI t3 ≤ nI kz from nI_ge (by omega) (by omega)) ?_
            refine j_aload_n (pc := 43) C d_Model_isHere_43 rfl 1 rfl ?_
            refine j_get (pc := 44) C gf_Model_7 1 rfl rfl d_Model_isHere_44 ?_
            refine j_iload_n (pc := 47) C d_Model_isHere_47 rfl 0 rfl ?_
            refine j_iald (pc := 48) C 2 rfl (v := g0 kz) (vp_in_nI (by omega) (by decide)) (by rw [nI_clamp (by omega)]) d_Model_isHere_48 ?_
            refine j_callSi (pc := 49) C (c_M_isLetter l D y (g0 kz)) kw_Model_217 ks_Model_isLetter ⟨by decide, by decide⟩ ⟨by decide, by decide⟩ (wr := [(wa, .inl (y 3, 3, .inl wf)), MB mo ma (nI t1) (nI u3) (nI t3) i4 i5 i6 i7 i8 i42 i49 i51 i53 i54 i59 i61 i64 i66 (nI t67) i76 i78, (ma 0, .inl (y 0, 1600, .inl g0))]) [] [0, 1, 2] rfl rfl (by decide) (by decide) (by decide) (As := [.int (g0 kz)]) (rest := []) rfl (nb rfl) rfl d_Model_isHere_49 (fun r41 _ hr41 => ?_)
            have xh42 := hr41
            refine j_ws (ws' := [(wa, .inl (y 3, 3, .inl wf)), MB mo ma (nI t1) (nI u3) (nI t3) i4 i5 i6 i7 i8 i42 i49 i51 i53 i54 i59 i61 i64 i66 (nI t67) i76 i78, (ma 0, .inl (y 0, 1600, .inl g0))]) rfl ?_
            refine j_if_eq (pc := 52) C (tgt := 61) d_Model_isHere_52 (by decide) (fun c43 => ?_) (fun c43 => ?_)
            · refine j_iload_n (pc := 61) C d_Model_isHere_61 rfl 0 rfl ?_
              refine j_aload_n (pc := 62) C d_Model_isHere_62 rfl 1 rfl ?_
              refine j_get (pc := 63) C gf_Model_207 1 rfl rfl d_Model_isHere_63 ?_
              refine j_isub (pc := 66) C (v := nI (kz - u3)) d_Model_isHere_66 (pk_sub (by omega)) ?_
              refine j_aload_n (pc := 67) C d_Model_isHere_67 rfl 2 rfl ?_
              refine j_alen (pc := 68) C 0 3 rfl rfl (v := 3) rfl d_Model_isHere_68 ?_
              by_cases c44 : (kz - u3) = 3
              · refine j_icmp_eqT (pc := 69) C (tgt := 74) d_Model_isHere_69 (by decide) (show nI (kz - u3) = nI 3 from (nI_eq (by omega) (by omega)).mpr (by omega)) ?_
                refine j_iconst (pc := 74) C (v := 0) d_Model_isHere_74 (by decide) ?_
                refine j_istore_n (pc := 75) C (lv' := [(3, .int 0), (2, .int (nI kz)), (0, .ref mo), (1, .ref wa)]) d_Model_isHere_75 rfl (by decide) rfl ?_
                refine j_loop (α := Nat) (fun a => 3 - a) (fun a => (a ≤ 3)) (fun a => [(wa, .inl (y 3, 3, .inl wf)), MB mo ma (nI t1) (nI u3) (nI t3) i4 i5 i6 i7 i8 i42 i49 i51 i53 i54 i59 i61 i64 i66 (nI t67) i76 i78, (ma 0, .inl (y 0, 1600, .inl g0))]) (fun a => [(3, .int (nI a)), (2, .int (nI kz)), (0, .ref mo), (1, .ref wa)]) (0) rfl rfl (show 0 ≤ 3 by omega) ?_
                rintro iz hP47 ih48
                have hi__ := hP47
                have hi_ : iz ≤ 3 := hi__
                refine j_ws (ws' := [(wa, .inl (y 3, 3, .inl wf)), MB mo ma (nI t1) (nI u3) (nI t3) i4 i5 i6 i7 i8 i42 i49 i51 i53 i54 i59 i61 i64 i66 (nI t67) i76 i78, (ma 0, .inl (y 0, 1600, .inl g0))]) rfl ?_
                refine j_lv (lv' := [(3, .int (nI iz)), (2, .int (nI kz)), (0, .ref mo), (1, .ref wa)]) rfl ?_
                refine j_iload_n (pc := 76) C d_Model_isHere_76 rfl 0 rfl ?_
                refine j_aload_n (pc := 77) C d_Model_isHere_77 rfl 3 rfl ?_
                refine j_alen (pc := 78) C 0 3 rfl rfl (v := 3) rfl d_Model_isHere_78 ?_
                by_cases c49 : 3 ≤ iz
                · refine j_icmp_geT (pc := 79) C (tgt := 107) d_Model_isHere_79 (by decide) (show nI 3 ≤ nI iz from nI_le (by omega) (by omega)) ?_
                  refine j_iconst (pc := 107) C (v := 1) d_Model_isHere_107 (by decide) ?_
                  exact j_iret (pc := 108) C hr (by decide) u3 ⟨(show t2 ≤ u3 by omega), (show u3 ≤ t3 by omega), (Or.inr ⟨rfl, show u3 + 3 ≤ t3 by omega⟩)⟩ [1, 2, 0] rfl (by decide) (by decide) (by decide) d_Model_isHere_108
                · refine j_icmp_geF (pc := 79) C (tgt := 107) d_Model_isHere_79 (by decide) (show ¬ nI 3 ≤ nI iz from nI_ge (by omega) (by omega)) ?_
                  refine j_aload_n (pc := 82) C d_Model_isHere_82 rfl 2 rfl ?_
                  refine j_get (pc := 83) C gf_Model_7 1 rfl rfl d_Model_isHere_83 ?_
                  refine j_aload_n (pc := 86) C d_Model_isHere_86 rfl 2 rfl ?_
                  refine j_get (pc := 87) C gf_Model_207 1 rfl rfl d_Model_isHere_87 ?_
                  refine j_iload_n (pc := 90) C d_Model_isHere_90 rfl 0 rfl ?_
                  refine j_iadd (pc := 91) C (v := nI (u3 + iz)) d_Model_isHere_91 (nI_add _ _) ?_
                  refine j_iald (pc := 92) C 2 rfl (v := g0 (u3 + iz)) (vp_in_nI (by omega) (by decide)) (by rw [nI_clamp (by omega)]) d_Model_isHere_92 ?_
                  refine j_aload_n (pc := 93) C d_Model_isHere_93 rfl 3 rfl ?_
                  refine j_iload_n (pc := 94) C d_Model_isHere_94 rfl 0 rfl ?_
                  refine j_cald (pc := 95) C 0 rfl (v := wf iz) (vp_in_nI (by omega) (by decide)) (by rw [nI_clamp (by omega)]) d_Model_isHere_95 ?_
                  refine j_icmp_eq (pc := 96) C (tgt := 101) d_Model_isHere_96 (by decide) (fun c50 => ?_) (fun c50 => ?_)
                  · refine j_iinc (pc := 101) C (v := nI (iz + 1)) (lv' := [(3, .int (nI (iz + 1))), (2, .int (nI kz)), (0, .ref mo), (1, .ref wa)]) d_Model_isHere_101 0 rfl (nI_add _ _) (by decide) rfl ?_
                    refine j_goto (pc := 104) C (tgt := 76) d_Model_isHere_104 (by decide) ?_
                    exact ih48 ((iz + 1)) (show (iz + 1) ≤ 3 by omega) (show 3 - (iz + 1) < 3 - iz by omega)
                  · refine j_iconst (pc := 99) C (v := 0) d_Model_isHere_99 (by decide) ?_
                    exact j_iret (pc := 100) C hr (by decide) u3 ⟨(show t2 ≤ u3 by omega), (show u3 ≤ t3 by omega), (Or.inl rfl)⟩ [1, 2, 0] rfl (by decide) (by decide) (by decide) d_Model_isHere_100
              · refine j_icmp_eqF (pc := 69) C (tgt := 74) d_Model_isHere_69 (by decide) (show ¬ nI (kz - u3) = nI 3 from fun e => absurd ((nI_eq (by omega) (by omega)).mp e) (by omega)) ?_
                refine j_iconst (pc := 72) C (v := 0) d_Model_isHere_72 (by decide) ?_
                exact j_iret (pc := 73) C hr (by decide) u3 ⟨(show t2 ≤ u3 by omega), (show u3 ≤ t3 by omega), (Or.inl rfl)⟩ [1, 2, 0] rfl (by decide) (by decide) (by decide) d_Model_isHere_73
            · refine j_iinc (pc := 55) C (v := nI (kz + 1)) (lv' := [(2, .int (nI (kz + 1))), (0, .ref mo), (1, .ref wa)]) d_Model_isHere_55 0 rfl (nI_add _ _) (by decide) rfl ?_
              refine j_goto (pc := 58) C (tgt := 35) d_Model_isHere_58 (by decide) ?_
              exact ih32 ((kz + 1)) ⟨(show (kz + 1) ≤ t3 by omega), (show u3 ≤ (kz + 1) by omega)⟩ (show t3 - (kz + 1) < t3 - kz by omega)
        · refine j_iconst (pc := 28) C (v := 0) d_Model_isHere_28 (by decide) ?_
          exact j_iret (pc := 29) C hr (by decide) u3 ⟨(show t2 ≤ u3 by omega), (show u3 ≤ t3 by omega), (Or.inl rfl)⟩ [1, 2, 0] rfl (by decide) (by decide) (by decide) d_Model_isHere_29
    · refine j_callSi (pc := 11) C (c_M_isLetter l D y r2) kw_Model_217 ks_Model_isLetter ⟨by decide, by decide⟩ ⟨by decide, by decide⟩ (wr := [(wa, .inl (y 3, 3, .inl wf)), MB mo ma (nI t1) (nI u3) (nI t3) i4 i5 i6 i7 i8 i42 i49 i51 i53 i54 i59 i61 i64 i66 (nI t67) i76 i78, (ma 0, .inl (y 0, 1600, .inl g0))]) [] [0, 1, 2] rfl rfl (by decide) (by decide) (by decide) (As := [.int r2]) (rest := []) rfl (nb rfl) rfl d_Model_isHere_11 (fun r51 _ hr51 => ?_)
      have xh52 := hr51
      refine j_ws (ws' := [(wa, .inl (y 3, 3, .inl wf)), MB mo ma (nI t1) (nI u3) (nI t3) i4 i5 i6 i7 i8 i42 i49 i51 i53 i54 i59 i61 i64 i66 (nI t67) i76 i78, (ma 0, .inl (y 0, 1600, .inl g0))]) rfl ?_
      refine j_if_eq (pc := 14) C (tgt := 28) d_Model_isHere_14 (by decide) (fun c53 => ?_) (fun c53 => ?_)
      · refine j_iconst (pc := 28) C (v := 0) d_Model_isHere_28 (by decide) ?_
        exact j_iret (pc := 29) C hr (by decide) u3 ⟨(show t2 ≤ u3 by omega), (show u3 ≤ t3 by omega), (Or.inl rfl)⟩ [1, 2, 0] rfl (by decide) (by decide) (by decide) d_Model_isHere_29
      · refine j_aload_n (pc := 17) C d_Model_isHere_17 rfl 0 rfl ?_
        refine j_get (pc := 18) C gf_Model_207 1 rfl rfl d_Model_isHere_18 ?_
        refine j_aload_n (pc := 21) C d_Model_isHere_21 rfl 0 rfl ?_
        refine j_get (pc := 22) C gf_Model_221 1 rfl rfl d_Model_isHere_22 ?_
        refine j_icmp_ne (pc := 25) C (tgt := 30) d_Model_isHere_25 (by decide) (fun c54 => ?_) (fun c54 => ?_)
        · refine j_aload_n (pc := 30) C d_Model_isHere_30 rfl 0 rfl ?_
          refine j_get (pc := 31) C gf_Model_207 1 rfl rfl d_Model_isHere_31 ?_
          refine j_istore_n (pc := 34) C (lv' := [(2, .int (nI u3)), (0, .ref mo), (1, .ref wa)]) d_Model_isHere_34 rfl (by decide) rfl ?_
          refine j_loop (α := Nat) (fun a => t3 - a) (fun a => (a ≤ t3) ∧ (u3 ≤ a)) (fun a => [(wa, .inl (y 3, 3, .inl wf)), MB mo ma (nI t1) (nI u3) (nI t3) i4 i5 i6 i7 i8 i42 i49 i51 i53 i54 i59 i61 i64 i66 (nI t67) i76 i78, (ma 0, .inl (y 0, 1600, .inl g0))]) (fun a => [(2, .int (nI a)), (0, .ref mo), (1, .ref wa)]) (u3) rfl rfl ⟨xh5, (show u3 ≤ u3 by omega)⟩ ?_
          rintro kz hP73 ih74
          obtain ⟨hk__, hk2__⟩ := hP73
          have hk_ : kz ≤ t3 := hk__
          have hk2_ : u3 ≤ kz := hk2__
          refine j_ws (ws' := [(wa, .inl (y 3, 3, .inl wf)), MB mo ma (nI t1) (nI u3) (nI t3) i4 i5 i6 i7 i8 i42 i49 i51 i53 i54 i59 i61 i64 i66 (nI t67) i76 i78, (ma 0, .inl (y 0, 1600, .inl g0))]) rfl ?_
          refine j_lv (lv' := [(2, .int (nI kz)), (0, .ref mo), (1, .ref wa)]) rfl ?_
          refine j_iload_n (pc := 35) C d_Model_isHere_35 rfl 0 rfl ?_
          refine j_aload_n (pc := 36) C d_Model_isHere_36 rfl 1 rfl ?_
          refine j_get (pc := 37) C gf_Model_210 1 rfl rfl d_Model_isHere_37 ?_
          by_cases c75 : t3 ≤ kz
          · refine j_icmp_geT (pc := 40) C (tgt := 61) d_Model_isHere_40 (by decide) (show nI t3 ≤ nI kz from nI_le (by omega) (by omega)) ?_
            refine j_iload_n (pc := 61) C d_Model_isHere_61 rfl 0 rfl ?_
            refine j_aload_n (pc := 62) C d_Model_isHere_62 rfl 1 rfl ?_
            refine j_get (pc := 63) C gf_Model_207 1 rfl rfl d_Model_isHere_63 ?_
            refine j_isub (pc := 66) C (v := nI (kz - u3)) d_Model_isHere_66 (pk_sub (by omega)) ?_
            refine j_aload_n (pc := 67) C d_Model_isHere_67 rfl 2 rfl ?_
            refine j_alen (pc := 68) C 0 3 rfl rfl (v := 3) rfl d_Model_isHere_68 ?_
            by_cases c76 : (kz - u3) = 3
            · refine j_icmp_eqT (pc := 69) C (tgt := 74) d_Model_isHere_69 (by decide) (show nI (kz - u3) = nI 3 from (nI_eq (by omega) (by omega)).mpr (by omega)) ?_
              refine j_iconst (pc := 74) C (v := 0) d_Model_isHere_74 (by decide) ?_
              refine j_istore_n (pc := 75) C (lv' := [(3, .int 0), (2, .int (nI kz)), (0, .ref mo), (1, .ref wa)]) d_Model_isHere_75 rfl (by decide) rfl ?_
              refine j_loop (α := Nat) (fun a => 3 - a) (fun a => (a ≤ 3)) (fun a => [(wa, .inl (y 3, 3, .inl wf)), MB mo ma (nI t1) (nI u3) (nI t3) i4 i5 i6 i7 i8 i42 i49 i51 i53 i54 i59 i61 i64 i66 (nI t67) i76 i78, (ma 0, .inl (y 0, 1600, .inl g0))]) (fun a => [(3, .int (nI a)), (2, .int (nI kz)), (0, .ref mo), (1, .ref wa)]) (0) rfl rfl (show 0 ≤ 3 by omega) ?_
              rintro iz hP79 ih80
              have hi__ := hP79
              have hi_ : iz ≤ 3 := hi__
              refine j_ws (ws' := [(wa, .inl (y 3, 3, .inl wf)), MB mo ma (nI t1) (nI u3) (nI t3) i4 i5 i6 i7 i8 i42 i49 i51 i53 i54 i59 i61 i64 i66 (nI t67) i76 i78, (ma 0, .inl (y 0, 1600, .inl g0))]) rfl ?_
              refine j_lv (lv' := [(3, .int (nI iz)), (2, .int (nI kz)), (0, .ref mo), (1, .ref wa)]) rfl ?_
              refine j_iload_n (pc := 76) C d_Model_isHere_76 rfl 0 rfl ?_
              refine j_aload_n (pc := 77) C d_Model_isHere_77 rfl 3 rfl ?_
              refine j_alen (pc := 78) C 0 3 rfl rfl (v := 3) rfl d_Model_isHere_78 ?_
              by_cases c81 : 3 ≤ iz
              · refine j_icmp_geT (pc := 79) C (tgt := 107) d_Model_isHere_79 (by decide) (show nI 3 ≤ nI iz from nI_le (by omega) (by omega)) ?_
                refine j_iconst (pc := 107) C (v := 1) d_Model_isHere_107 (by decide) ?_
                exact j_iret (pc := 108) C hr (by decide) u3 ⟨(show t2 ≤ u3 by omega), (show u3 ≤ t3 by omega), (Or.inr ⟨rfl, show u3 + 3 ≤ t3 by omega⟩)⟩ [1, 2, 0] rfl (by decide) (by decide) (by decide) d_Model_isHere_108
              · refine j_icmp_geF (pc := 79) C (tgt := 107) d_Model_isHere_79 (by decide) (show ¬ nI 3 ≤ nI iz from nI_ge (by omega) (by omega)) ?_
                refine j_aload_n (pc := 82) C d_Model_isHere_82 rfl 2 rfl ?_
                refine j_get (pc := 83) C gf_Model_7 1 rfl rfl d_Model_isHere_83 ?_
                refine j_aload_n (pc := 86) C d_Model_isHere_86 rfl 2 rfl ?_
                refine j_get (pc := 87) C gf_Model_207 1 rfl rfl d_Model_isHere_87 ?_
                refine j_iload_n (pc := 90) C d_Model_isHere_90 rfl 0 rfl ?_
                refine j_iadd (pc := 91) C (v := nI (u3 + iz)) d_Model_isHere_91 (nI_add _ _) ?_
                refine j_iald (pc := 92) C 2 rfl (v := g0 (u3 + iz)) (vp_in_nI (by omega) (by decide)) (by rw [nI_clamp (by omega)]) d_Model_isHere_92 ?_
                refine j_aload_n (pc := 93) C d_Model_isHere_93 rfl 3 rfl ?_
                refine j_iload_n (pc := 94) C d_Model_isHere_94 rfl 0 rfl ?_
                refine j_cald (pc := 95) C 0 rfl (v := wf iz) (vp_in_nI (by omega) (by decide)) (by rw [nI_clamp (by omega)]) d_Model_isHere_95 ?_
                refine j_icmp_eq (pc := 96) C (tgt := 101) d_Model_isHere_96 (by decide) (fun c82 => ?_) (fun c82 => ?_)
                · refine j_iinc (pc := 101) C (v := nI (iz + 1)) (lv' := [(3, .int (nI (iz + 1))), (2, .int (nI kz)), (0, .ref mo), (1, .ref wa)]) d_Model_isHere_101 0 rfl (nI_add _ _) (by decide) rfl ?_
                  refine j_goto (pc := 104) C (tgt := 76) d_Model_isHere_104 (by decide) ?_
                  exact ih80 ((iz + 1)) (show (iz + 1) ≤ 3 by omega) (show 3 - (iz + 1) < 3 - iz by omega)
                · refine j_iconst (pc := 99) C (v := 0) d_Model_isHere_99 (by decide) ?_
                  exact j_iret (pc := 100) C hr (by decide) u3 ⟨(show t2 ≤ u3 by omega), (show u3 ≤ t3 by omega), (Or.inl rfl)⟩ [1, 2, 0] rfl (by decide) (by decide) (by decide) d_Model_isHere_100
            · refine j_icmp_eqF (pc := 69) C (tgt := 74) d_Model_isHere_69 (by decide) (show ¬ nI (kz - u3) = nI 3 from fun e => absurd ((nI_eq (by omega) (by omega)).mp e) (by omega)) ?_
              refine j_iconst (pc := 72) C (v := 0) d_Model_isHere_72 (by decide) ?_
              exact j_iret (pc := 73) C hr (by decide) u3 ⟨(show t2 ≤ u3 by omega), (show u3 ≤ t3 by omega), (Or.inl rfl)⟩ [1, 2, 0] rfl (by decide) (by decide) (by decide) d_Model_isHere_73
          · refine j_icmp_geF (pc := 40) C (tgt := 61) d_Model_isHere_40 (by decide) (show ¬ nI t3 ≤ nI kz from nI_ge (by omega) (by omega)) ?_
            refine j_aload_n (pc := 43) C d_Model_isHere_43 rfl 1 rfl ?_
            refine j_get (pc := 44) C gf_Model_7 1 rfl rfl d_Model_isHere_44 ?_
            refine j_iload_n (pc := 47) C d_Model_isHere_47 rfl 0 rfl ?_
            refine j_iald (pc := 48) C 2 rfl (v := g0 kz) (vp_in_nI (by omega) (by decide)) (by rw [nI_clamp (by omega)]) d_Model_isHere_48 ?_
            refine j_callSi (pc := 49) C (c_M_isLetter l D y (g0 kz)) kw_Model_217 ks_Model_isLetter ⟨by decide, by decide⟩ ⟨by decide, by decide⟩ (wr := [(wa, .inl (y 3, 3, .inl wf)), MB mo ma (nI t1) (nI u3) (nI t3) i4 i5 i6 i7 i8 i42 i49 i51 i53 i54 i59 i61 i64 i66 (nI t67) i76 i78, (ma 0, .inl (y 0, 1600, .inl g0))]) [] [0, 1, 2] rfl rfl (by decide) (by decide) (by decide) (As := [.int (g0 kz)]) (rest := []) rfl (nb rfl) rfl d_Model_isHere_49 (fun r83 _ hr83 => ?_)
            have xh84 := hr83
            refine j_ws (ws' := [(wa, .inl (y 3, 3, .inl wf)), MB mo ma (nI t1) (nI u3) (nI t3) i4 i5 i6 i7 i8 i42 i49 i51 i53 i54 i59 i61 i64 i66 (nI t67) i76 i78, (ma 0, .inl (y 0, 1600, .inl g0))]) rfl ?_
            refine j_if_eq (pc := 52) C (tgt := 61) d_Model_isHere_52 (by decide) (fun c85 => ?_) (fun c85 => ?_)
            · refine j_iload_n (pc := 61) C d_Model_isHere_61 rfl 0 rfl ?_
              refine j_aload_n (pc := 62) C d_Model_isHere_62 rfl 1 rfl ?_
              refine j_get (pc := 63) C gf_Model_207 1 rfl rfl d_Model_isHere_63 ?_
              refine j_isub (pc := 66) C (v := nI (kz - u3)) d_Model_isHere_66 (pk_sub (by omega)) ?_
              refine j_aload_n (pc := 67) C d_Model_isHere_67 rfl 2 rfl ?_
              refine j_alen (pc := 68) C 0 3 rfl rfl (v := 3) rfl d_Model_isHere_68 ?_
              by_cases c86 : (kz - u3) = 3
              · refine j_icmp_eqT (pc := 69) C (tgt := 74) d_Model_isHere_69 (by decide) (show nI (kz - u3) = nI 3 from (nI_eq (by omega) (by omega)).mpr (by omega)) ?_
                refine j_iconst (pc := 74) C (v := 0) d_Model_isHere_74 (by decide) ?_
                refine j_istore_n (pc := 75) C (lv' := [(3, .int 0), (2, .int (nI kz)), (0, .ref mo), (1, .ref wa)]) d_Model_isHere_75 rfl (by decide) rfl ?_
                refine j_loop (α := Nat) (fun a => 3 - a) (fun a => (a ≤ 3)) (fun a => [(wa, .inl (y 3, 3, .inl wf)), MB mo ma (nI t1) (nI u3) (nI t3) i4 i5 i6 i7 i8 i42 i49 i51 i53 i54 i59 i61 i64 i66 (nI t67) i76 i78, (ma 0, .inl (y 0, 1600, .inl g0))]) (fun a => [(3, .int (nI a)), (2, .int (nI kz)), (0, .ref mo), (1, .ref wa)]) (0) rfl rfl (show 0 ≤ 3 by omega) ?_
                rintro iz hP89 ih90
                have hi__ := hP89
                have hi_ : iz ≤ 3 := hi__
                refine j_ws (ws' := [(wa, .inl (y 3, 3, .inl wf)), MB mo ma (nI t1) (nI u3) (nI t3) i4 i5 i6 i7 i8 i42 i49 i51 i53 i54 i59 i61 i64 i66 (nI t67) i76 i78, (ma 0, .inl (y 0, 1600, .inl g0))]) rfl ?_
                refine j_lv (lv' := [(3, .int (nI iz)), (2, .int (nI kz)), (0, .ref mo), (1, .ref wa)]) rfl ?_
                refine j_iload_n (pc := 76) C d_Model_isHere_76 rfl 0 rfl ?_
                refine j_aload_n (pc := 77) C d_Model_isHere_77 rfl 3 rfl ?_
                refine j_alen (pc := 78) C 0 3 rfl rfl (v := 3) rfl d_Model_isHere_78 ?_
                by_cases c91 : 3 ≤ iz
                · refine j_icmp_geT (pc := 79) C (tgt := 107) d_Model_isHere_79 (by decide) (show nI 3 ≤ nI iz from nI_le (by omega) (by omega)) ?_
                  refine j_iconst (pc := 107) C (v := 1) d_Model_isHere_107 (by decide) ?_
                  exact j_iret (pc := 108) C hr (by decide) u3 ⟨(show t2 ≤ u3 by omega), (show u3 ≤ t3 by omega), (Or.inr ⟨rfl, show u3 + 3 ≤ t3 by omega⟩)⟩ [1, 2, 0] rfl (by decide) (by decide) (by decide) d_Model_isHere_108
                · refine j_icmp_geF (pc := 79) C (tgt := 107) d_Model_isHere_79 (by decide) (show ¬ nI 3 ≤ nI iz from nI_ge (by omega) (by omega)) ?_
                  refine j_aload_n (pc := 82) C d_Model_isHere_82 rfl 2 rfl ?_
                  refine j_get (pc := 83) C gf_Model_7 1 rfl rfl d_Model_isHere_83 ?_
                  refine j_aload_n (pc := 86) C d_Model_isHere_86 rfl 2 rfl ?_
                  refine j_get (pc := 87) C gf_Model_207 1 rfl rfl d_Model_isHere_87 ?_
                  refine j_iload_n (pc := 90) C d_Model_isHere_90 rfl 0 rfl ?_
                  refine j_iadd (pc := 91) C (v := nI (u3 + iz)) d_Model_isHere_91 (nI_add _ _) ?_
                  refine j_iald (pc := 92) C 2 rfl (v := g0 (u3 + iz)) (vp_in_nI (by omega) (by decide)) (by rw [nI_clamp (by omega)]) d_Model_isHere_92 ?_
                  refine j_aload_n (pc := 93) C d_Model_isHere_93 rfl 3 rfl ?_
                  refine j_iload_n (pc := 94) C d_Model_isHere_94 rfl 0 rfl ?_
                  refine j_cald (pc := 95) C 0 rfl (v := wf iz) (vp_in_nI (by omega) (by decide)) (by rw [nI_clamp (by omega)]) d_Model_isHere_95 ?_
                  refine j_icmp_eq (pc := 96) C (tgt := 101) d_Model_isHere_96 (by decide) (fun c92 => ?_) (fun c92 => ?_)
                  · refine j_iinc (pc := 101) C (v := nI (iz + 1)) (lv' := [(3, .int (nI (iz + 1))), (2, .int (nI kz)), (0, .ref mo), (1, .ref wa)]) d_Model_isHere_101 0 rfl (nI_add _ _) (by decide) rfl ?_
                    refine j_goto (pc := 104) C (tgt := 76) d_Model_isHere_104 (by decide) ?_
                    exact ih90 ((iz + 1)) (show (iz + 1) ≤ 3 by omega) (show 3 - (iz + 1) < 3 - iz by omega)
                  · refine j_iconst (pc := 99) C (v := 0) d_Model_isHere_99 (by decide) ?_
                    exact j_iret (pc := 100) C hr (by decide) u3 ⟨(show t2 ≤ u3 by omega), (show u3 ≤ t3 by omega), (Or.inl rfl)⟩ [1, 2, 0] rfl (by decide) (by decide) (by decide) d_Model_isHere_100
              · refine j_icmp_eqF (pc := 69) C (tgt := 74) d_Model_isHere_69 (by decide) (show ¬ nI (kz - u3) = nI 3 from fun e => absurd ((nI_eq (by omega) (by omega)).mp e) (by omega)) ?_
                refine j_iconst (pc := 72) C (v := 0) d_Model_isHere_72 (by decide) ?_
                exact j_iret (pc := 73) C hr (by decide) u3 ⟨(show t2 ≤ u3 by omega), (show u3 ≤ t3 by omega), (Or.inl rfl)⟩ [1, 2, 0] rfl (by decide) (by decide) (by decide) d_Model_isHere_73
            · refine j_iinc (pc := 55) C (v := nI (kz + 1)) (lv' := [(2, .int (nI (kz + 1))), (0, .ref mo), (1, .ref wa)]) d_Model_isHere_55 0 rfl (nI_add _ _) (by decide) rfl ?_
              refine j_goto (pc := 58) C (tgt := 35) d_Model_isHere_58 (by decide) ?_
              exact ih74 ((kz + 1)) ⟨(show (kz + 1) ≤ t3 by omega), (show u3 ≤ (kz + 1) by omega)⟩ (show t3 - (kz + 1) < t3 - kz by omega)
        · refine j_iconst (pc := 28) C (v := 0) d_Model_isHere_28 (by decide) ?_
          exact j_iret (pc := 29) C hr (by decide) u3 ⟨(show t2 ≤ u3 by omega), (show u3 ≤ t3 by omega), (Or.inl rfl)⟩ [1, 2, 0] rfl (by decide) (by decide) (by decide) d_Model_isHere_29
set_option maxHeartbeats 4000000 in
set_option maxRecDepth 100000 in
theorem c_M_takes_3 (l : Launch) (D : va_G) (y : Nat → ClassId) (mo : Nat) (wa : Nat) (ma : Nat → Nat) (t1 : Nat) (t2 : Nat) (t3 : Nat) (i4 : Int32) (i5 : Int32) (i6 : Int32) (i7 : Int32) (i8 : Int32) (i42 : Int32) (i49 : Int32) (i51 : Int32) (i53 : Int32) (i54 : Int32) (i59 : Int32) (i61 : Int32) (i64 : Int32) (i66 : Int32) (t67 : Nat) (i76 : Int64) (i78 : Int32) (g0 : Nat → Int32) (wf : Nat → Int32) (ha : t2 ≤ t3) (he : t3 ≤ 1600) : CT l D y ⟨"NineBoardsModel", "takes", "([C)Z"⟩ prog_13_method_10_code 2 (some .boolean) ({ frames := 2, cells := 0, slots := 0, locals := 43 } : Room) [.ref mo, .ref wa] [MB mo ma (nI t1) (nI t2) (nI t3) i4 i5 i6 i7 i8 i42 i49 i51 i53 i54 i59 i61 i64 i66 (nI t67) i76 i78, (ma 0, .inl (y 0, 1600, .inl g0)), (wa, .inl (y 3, 3, .inl wf))] (QI D [MB mo ma (nI t1) (nI t2) (nI t3) i4 i5 i6 i7 i8 i42 i49 i51 i53 i54 i59 i61 i64 i66 (nI t67) i76 i78, (ma 0, .inl (y 0, 1600, .inl g0)), (wa, .inl (y 3, 3, .inl wf))] (fun (r : Int32) (u : Nat × Int32) => t2 ≤ u.1 ∧ u.1 ≤ t3 ∧ (r = 0 ∨ (r = 1 ∧ t2 + 3 ≤ u.1))) (fun u => [MB mo ma (nI t1) (nI u.1) (nI t3) u.2 i5 i6 i7 i8 i42 i49 i51 i53 i54 i59 i61 i64 i66 (nI t67) i76 i78, (ma 0, .inl (y 0, 1600, .inl g0)), (wa, .inl (y 3, 3, .inl wf))])) := by
  refine CT.of (by decide) (nb rfl) ?_
  intro p e s m args below meth c C hr
  refine j_lv (lv' := [(0, .ref mo), (1, .ref wa)]) rfl ?_
  refine j_aload_n (pc := 0) C d_Model_takes_0 rfl 0 rfl ?_
  refine j_aload_n (pc := 1) C d_Model_takes_1 rfl 1 rfl ?_
  refine j_callVi (pc := 2) C (c_M_isHere_3 l D y mo wa ma t1 t2 t3 i4 i5 i6 i7 i8 i42 i49 i51 i53 i54 i59 i61 i64 i66 t67 i76 i78 g0 wf ha he) kw_Model_224 kv_Model_isHere 0 10 rfl rfl ⟨by decide, by decide⟩ ⟨by decide, by decide⟩ (wr := []) [0, 1, 2] [] rfl rfl (by decide) (by decide) (by decide) (As := [.ref wa]) (rest := []) rfl (nb rfl) rfl d_Model_takes_2 (fun r1 u2 hr1 => ?_)
  refine j_ws (ws' := [MB mo ma (nI t1) (nI u2) (nI t3) i4 i5 i6 i7 i8 i42 i49 i51 i53 i54 i59 i61 i64 i66 (nI t67) i76 i78, (ma 0, .inl (y 0, 1600, .inl g0)), (wa, .inl (y 3, 3, .inl wf))]) rfl ?_
  obtain ⟨xh3, xh4, xh5⟩ := hr1
  rcases xh5 with rfl | ⟨rfl, xh6⟩
  · refine j_if_neF (pc := 5) C (tgt := 10) d_Model_takes_5 (by decide) (by decide) ?_
    refine j_iconst (pc := 8) C (v := 0) d_Model_takes_8 (by decide) ?_
    exact j_iret (pc := 9) C hr (by decide) (u2, i4) ⟨(show t2 ≤ u2 by omega), (show u2 ≤ t3 by omega), (Or.inl rfl)⟩ [0, 1, 2] rfl (by decide) (by decide) (by decide) d_Model_takes_9
  · refine j_if_neT (pc := 5) C (tgt := 10) d_Model_takes_5 (by decide) (by decide) ?_
    refine j_aload_n (pc := 10) C d_Model_takes_10 rfl 0 rfl ?_
    refine j_dup (pc := 11) C d_Model_takes_11 rfl ?_
    refine j_get (pc := 12) C gf_Model_207 0 rfl rfl d_Model_takes_12 ?_
    refine j_aload_n (pc := 15) C d_Model_takes_15 rfl 1 rfl ?_
    refine j_alen (pc := 16) C 2 3 rfl rfl (v := 3) rfl d_Model_takes_16 ?_
    refine j_iadd (pc := 17) C (v := nI (u2 + 3)) d_Model_takes_17 (nI_add _ _) ?_
    refine j_put (pc := 18) C pf_Model_207 0 (ws' := [MB mo ma (nI t1) (nI (u2 + 3)) (nI t3) i4 i5 i6 i7 i8 i42 i49 i51 i53 i54 i59 i61 i64 i66 (nI t67) i76 i78, (ma 0, .inl (y 0, 1600, .inl g0)), (wa, .inl (y 3, 3, .inl wf))]) rfl rfl rfl (nl rfl) rfl d_Model_takes_18 ?_
    refine j_aload_n (pc := 21) C d_Model_takes_21 rfl 0 rfl ?_
    refine j_aload_n (pc := 22) C d_Model_takes_22 rfl 0 rfl ?_
    refine j_get (pc := 23) C gf_Model_207 0 rfl rfl d_Model_takes_23 ?_
    refine j_put (pc := 26) C pf_Model_221 0 (ws' := [MB mo ma (nI t1) (nI (u2 + 3)) (nI t3) (nI (u2 + 3)) i5 i6 i7 i8 i42 i49 i51 i53 i54 i59 i61 i64 i66 (nI t67) i76 i78, (ma 0, .inl (y 0, 1600, .inl g0)), (wa, .inl (y 3, 3, .inl wf))]) rfl rfl rfl (nl rfl) rfl d_Model_takes_26 ?_
    refine j_iconst (pc := 29) C (v := 1) d_Model_takes_29 (by decide) ?_
    exact j_iret (pc := 30) C hr (by decide) ((u2 + 3), nI (u2 + 3)) ⟨(show t2 ≤ (u2 + 3) by omega), (show (u2 + 3) ≤ t3 by omega), (Or.inr ⟨rfl, show t2 + 3 ≤ (u2 + 3) by omega⟩)⟩ [0, 1, 2] rfl (by decide) (by decide) (by decide) d_Model_takes_30
set_option maxHeartbeats 4000000 in
set_option maxRecDepth 100000 in
theorem c_M_asks_3 (l : Launch) (D : va_G) (y : Nat → ClassId) (mo : Nat) (wa : Nat) (ma : Nat → Nat) (t1 : Nat) (t2 : Nat) (t3 : Nat) (i4 : Int32) (i5 : Int32) (i6 : Int32) (i7 : Int32) (i8 : Int32) (i42 : Int32) (i49 : Int32) (i51 : Int32) (i53 : Int32) (i54 : Int32) (i59 : Int32) (i61 : Int32) (i64 : Int32) (i66 : Int32) (t67 : Nat) (i76 : Int64) (i78 : Int32) (g0 : Nat → Int32) (wf : Nat → Int32) (ha : t2 ≤ t3) (he : t3 ≤ 1600) : CT l D y ⟨"NineBoardsModel", "asks", "([C)V"⟩ prog_13_method_11_code 2 none ({ frames := 3, cells := 0, slots := 0, locals := 64 } : Room) [.ref mo, .ref wa] [MB mo ma (nI t1) (nI t2) (nI t3) i4 i5 i6 i7 i8 i42 i49 i51 i53 i54 i59 i61 i64 i66 (nI t67) i76 i78, (ma 0, .inl (y 0, 1600, .inl g0)), (wa, .inl (y 3, 3, .inl wf))] (QV D [MB mo ma (nI t1) (nI t2) (nI t3) i4 i5 i6 i7 i8 i42 i49 i51 i53 i54 i59 i61 i64 i66 (nI t67) i76 i78, (ma 0, .inl (y 0, 1600, .inl g0)), (wa, .inl (y 3, 3, .inl wf))] (fun (u : Nat × Int32 × Int32 × Int32) => t2 ≤ u.1 ∧ u.1 ≤ t3 ∧ (u.2.2.1 = 0 → i5 = 0 ∧ t2 + 3 ≤ u.1)) (fun u => [MB mo ma (nI t1) (nI u.1) (nI t3) u.2.1 u.2.2.1 u.2.2.2 i7 i8 i42 i49 i51 i53 i54 i59 i61 i64 i66 (nI t67) i76 i78, (ma 0, .inl (y 0, 1600, .inl g0)), (wa, .inl (y 3, 3, .inl wf))])) := by
  refine CT.of (by decide) (nb rfl) ?_
  intro p e s m args below meth c C hr
  refine j_lv (lv' := [(0, .ref mo), (1, .ref wa)]) rfl ?_
  refine j_aload_n (pc := 0) C d_Model_asks_0 rfl 0 rfl ?_
  refine j_get (pc := 1) C gf_Model_201 0 rfl rfl d_Model_asks_1 ?_
  refine j_if_ne (pc := 4) C (tgt := 24) d_Model_asks_4 (by decide) (fun c1 => ?_) (fun c1 => ?_)
  · exact j_vret (pc := 24) C hr (t2, i4, i5, i6) ⟨(show t2 ≤ t2 by omega), (show t2 ≤ t3 by omega), (fun e => absurd e c1)⟩ [0, 1, 2] rfl (by decide) (by decide) (by decide) d_Model_asks_24
  · refine j_aload_n (pc := 7) C d_Model_asks_7 rfl 0 rfl ?_
    refine j_aload_n (pc := 8) C d_Model_asks_8 rfl 1 rfl ?_
    refine j_callVi (pc := 9) C (c_M_takes_3 l D y mo wa ma t1 t2 t3 i4 i5 i6 i7 i8 i42 i49 i51 i53 i54 i59 i61 i64 i66 t67 i76 i78 g0 wf ha he) kw_Model_228 kv_Model_takes 0 10 rfl rfl ⟨by decide, by decide⟩ ⟨by decide, by decide⟩ (wr := []) [0, 1, 2] [] rfl rfl (by decide) (by decide) (by decide) (As := [.ref wa]) (rest := []) rfl (nb rfl) rfl d_Model_asks_9 (fun r2 u3 hr2 => ?_)
    refine j_ws (ws' := [MB mo ma (nI t1) (nI u3.1) (nI t3) u3.2 i5 i6 i7 i8 i42 i49 i51 i53 i54 i59 i61 i64 i66 (nI t67) i76 i78, (ma 0, .inl (y 0, 1600, .inl g0)), (wa, .inl (y 3, 3, .inl wf))]) rfl ?_
    obtain ⟨xh4, xh5, xh6⟩ := hr2
    rcases xh6 with rfl | ⟨rfl, xh7⟩
    · refine j_if_neF (pc := 12) C (tgt := 24) d_Model_asks_12 (by decide) (by decide) ?_
      refine j_aload_n (pc := 15) C d_Model_asks_15 rfl 0 rfl ?_
      refine j_iconst (pc := 16) C (v := 1) d_Model_asks_16 (by decide) ?_
      refine j_aload_n (pc := 17) C d_Model_asks_17 rfl 0 rfl ?_
      refine j_get (pc := 18) C gf_Model_207 0 rfl rfl d_Model_asks_18 ?_
      refine j_callVv (pc := 21) C (c_M_fail l D y mo ma t1 u3.1 t3 u3.2 i5 i6 i7 i8 i42 i49 i51 i53 i54 i59 i61 i64 i66 t67 i76 i78 1 (nI u3.1) (by decide)) kw_Model_230 kv_Model_fail 0 10 rfl rfl ⟨by decide, by decide⟩ ⟨by decide, by decide⟩ (wr := [(ma 0, .inl (y 0, 1600, .inl g0)), (wa, .inl (y 3, 3, .inl wf))]) [0] [1, 2] rfl rfl (by decide) (by decide) (by decide) (As := [.int 1, .int (nI u3.1)]) (rest := []) rfl (nb rfl) rfl d_Model_asks_21 (fun u8 hu9 => ?_)
      have xh10 := hu9
      refine j_ws (ws' := [(ma 0, .inl (y 0, 1600, .inl g0)), (wa, .inl (y 3, 3, .inl wf)), MB mo ma (nI t1) (nI u3.1) (nI t3) u3.2 u8.1 u8.2 i7 i8 i42 i49 i51 i53 i54 i59 i61 i64 i66 (nI t67) i76 i78]) rfl ?_
      exact j_vret (pc := 24) C hr (u3.1, u3.2, u8.1, u8.2) ⟨(show t2 ≤ u3.1 by omega), (show u3.1 ≤ t3 by omega), (fun e => absurd e xh10)⟩ [2, 0, 1] rfl (by decide) (by decide) (by decide) d_Model_asks_24
    · refine j_if_neT (pc := 12) C (tgt := 24) d_Model_asks_12 (by decide) (by decide) ?_
      exact j_vret (pc := 24) C hr (u3.1, u3.2, i5, i6) ⟨(show t2 ≤ u3.1 by omega), (show u3.1 ≤ t3 by omega), (fun e => by exact ⟨e, by omega⟩)⟩ [0, 1, 2] rfl (by decide) (by decide) (by decide) d_Model_asks_24
set_option maxHeartbeats 4000000 in
set_option maxRecDepth 100000 in
theorem c_M_isHere_4 (l : Launch) (D : va_G) (y : Nat → ClassId) (mo : Nat) (wa : Nat) (ma : Nat → Nat) (t1 : Nat) (t2 : Nat) (t3 : Nat) (i4 : Int32) (i5 : Int32) (i6 : Int32) (i7 : Int32) (i8 : Int32) (i42 : Int32) (i49 : Int32) (i51 : Int32) (i53 : Int32) (i54 : Int32) (i59 : Int32) (i61 : Int32) (i64 : Int32) (i66 : Int32) (t67 : Nat) (i76 : Int64) (i78 : Int32) (g0 : Nat → Int32) (wf : Nat → Int32) (ha : t2 ≤ t3) (he : t3 ≤ 1600) : CT l D y ⟨"NineBoardsModel", "isHere", "([C)Z"⟩ prog_13_method_9_code 4 (some .boolean) ({ frames := 1, cells := 0, slots := 0, locals := 20 } : Room) [.ref mo, .ref wa] [MB mo ma (nI t1) (nI t2) (nI t3) i4 i5 i6 i7 i8 i42 i49 i51 i53 i54 i59 i61 i64 i66 (nI t67) i76 i78, (ma 0, .inl (y 0, 1600, .inl g0)), (wa, .inl (y 3, 4, .inl wf))] (QI D [MB mo ma (nI t1) (nI t2) (nI t3) i4 i5 i6 i7 i8 i42 i49 i51 i53 i54 i59 i61 i64 i66 (nI t67) i76 i78, (ma 0, .inl (y 0, 1600, .inl g0)), (wa, .inl (y 3, 4, .inl wf))] (fun (r : Int32) (u : Nat) => t2 ≤ u ∧ u ≤ t3 ∧ (r = 0 ∨ (r = 1 ∧ u + 4 ≤ t3))) (fun u => [MB mo ma (nI t1) (nI u) (nI t3) i4 i5 i6 i7 i8 i42 i49 i51 i53 i54 i59 i61 i64 i66 (nI t67) i76 i78, (ma 0, .inl (y 0, 1600, .inl g0)), (wa, .inl (y 3, 4, .inl wf))])) := by
  refine CT.of (by decide) (nb rfl) ?_
  intro p e s m args below meth c C hr
  refine j_lv (lv' := [(0, .ref mo), (1, .ref wa)]) rfl ?_
  refine j_aload_n (pc := 0) C d_Model_isHere_0 rfl 0 rfl ?_
  refine j_get (pc := 1) C gf_Model_201 0 rfl rfl d_Model_isHere_1 ?_
  refine j_if_ne (pc := 4) C (tgt := 28) d_Model_isHere_4 (by decide) (fun c1 => ?_) (fun c1 => ?_)
  · refine j_iconst (pc := 28) C (v := 0) d_Model_isHere_28 (by decide) ?_
    exact j_iret (pc := 29) C hr (by decide) t2 ⟨(show t2 ≤ t2 by omega), (show t2 ≤ t3 by omega), (Or.inl rfl)⟩ [0, 1, 2] rfl (by decide) (by decide) (by decide) d_Model_isHere_29
  · refine j_aload_n (pc := 7) C d_Model_isHere_7 rfl 0 rfl ?_
    refine j_callVi (pc := 8) C (c_M_look l D y mo ma t1 t2 t3 i4 i5 i6 i7 i8 i42 i49 i51 i53 i54 i59 i61 i64 i66 t67 i76 i78 g0 ha he) kw_Model_213 kv_Model_look 0 10 rfl rfl ⟨by decide, by decide⟩ ⟨by decide, by decide⟩ (wr := [(wa, .inl (y 3, 4, .inl wf))]) [0, 1] [2] rfl rfl (by decide) (by decide) (by decide) (As := []) (rest := []) rfl (nb rfl) rfl d_Model_isHere_8 (fun r2 u3 hr2 => ?_)
    refine j_ws (ws' := [(wa, .inl (y 3, 4, .inl wf)), MB mo ma (nI t1) (nI u3) (nI t3) i4 i5 i6 i7 i8 i42 i49 i51 i53 i54 i59 i61 i64 i66 (nI t67) i76 i78, (ma 0, .inl (y 0, 1600, .inl g0))]) rfl ?_
    obtain ⟨xh4, xh5, xh6⟩ := hr2
    rcases xh6 with rfl | ⟨xh7, e8⟩
    · refine j_callSi (pc := 11) C (c_M_isLetter l D y (-1)) kw_Model_217 ks_Model_isLetter ⟨by decide, by decide⟩ ⟨by decide, by decide⟩ (wr := [(wa, .inl (y 3, 4, .inl wf)), MB mo ma (nI t1) (nI u3) (nI t3) i4 i5 i6 i7 i8 i42 i49 i51 i53 i54 i59 i61 i64 i66 (nI t67) i76 i78, (ma 0, .inl (y 0, 1600, .inl g0))]) [] [0, 1, 2] rfl rfl (by decide) (by decide) (by decide) (As := [.int (-1)]) (rest := []) rfl (nb rfl) rfl d_Model_isHere_11 (fun r9 _ hr9 => ?_)
      have xh10 := hr9
      refine j_ws (ws' := [(wa, .inl (y 3, 4, .inl wf)), MB mo ma (nI t1) (nI u3) (nI t3) i4 i5 i6 i7 i8 i42 i49 i51 i53 i54 i59 i61 i64 i66 (nI t67) i76 i78, (ma 0, .inl (y 0, 1600, .inl g0))]) rfl ?_
      refine j_if_eq (pc := 14) C (tgt := 28) d_Model_isHere_14 (by decide) (fun c11 => ?_) (fun c11 => ?_)
      · refine j_iconst (pc := 28) C (v := 0) d_Model_isHere_28 (by decide) ?_
        exact j_iret (pc := 29) C hr (by decide) u3 ⟨(show t2 ≤ u3 by omega), (show u3 ≤ t3 by omega), (Or.inl rfl)⟩ [1, 2, 0] rfl (by decide) (by decide) (by decide) d_Model_isHere_29
      · refine j_aload_n (pc := 17) C d_Model_isHere_17 rfl 0 rfl ?_
        refine j_get (pc := 18) C gf_Model_207 1 rfl rfl d_Model_isHere_18 ?_
        refine j_aload_n (pc := 21) C d_Model_isHere_21 rfl 0 rfl ?_
        refine j_get (pc := 22) C gf_Model_221 1 rfl rfl d_Model_isHere_22 ?_
        refine j_icmp_ne (pc := 25) C (tgt := 30) d_Model_isHere_25 (by decide) (fun c12 => ?_) (fun c12 => ?_)
        · refine j_aload_n (pc := 30) C d_Model_isHere_30 rfl 0 rfl ?_
          refine j_get (pc := 31) C gf_Model_207 1 rfl rfl d_Model_isHere_31 ?_
          refine j_istore_n (pc := 34) C (lv' := [(2, .int (nI u3)), (0, .ref mo), (1, .ref wa)]) d_Model_isHere_34 rfl (by decide) rfl ?_
          refine j_loop (α := Nat) (fun a => t3 - a) (fun a => (a ≤ t3) ∧ (u3 ≤ a)) (fun a => [(wa, .inl (y 3, 4, .inl wf)), MB mo ma (nI t1) (nI u3) (nI t3) i4 i5 i6 i7 i8 i42 i49 i51 i53 i54 i59 i61 i64 i66 (nI t67) i76 i78, (ma 0, .inl (y 0, 1600, .inl g0))]) (fun a => [(2, .int (nI a)), (0, .ref mo), (1, .ref wa)]) (u3) rfl rfl ⟨xh5, (show u3 ≤ u3 by omega)⟩ ?_
          rintro kz hP31 ih32
          obtain ⟨hk__, hk2__⟩ := hP31
          have hk_ : kz ≤ t3 := hk__
          have hk2_ : u3 ≤ kz := hk2__
          refine j_ws (ws' := [(wa, .inl (y 3, 4, .inl wf)), MB mo ma (nI t1) (nI u3) (nI t3) i4 i5 i6 i7 i8 i42 i49 i51 i53 i54 i59 i61 i64 i66 (nI t67) i76 i78, (ma 0, .inl (y 0, 1600, .inl g0))]) rfl ?_
          refine j_lv (lv' := [(2, .int (nI kz)), (0, .ref mo), (1, .ref wa)]) rfl ?_
          refine j_iload_n (pc := 35) C d_Model_isHere_35 rfl 0 rfl ?_
          refine j_aload_n (pc := 36) C d_Model_isHere_36 rfl 1 rfl ?_
          refine j_get (pc := 37) C gf_Model_210 1 rfl rfl d_Model_isHere_37 ?_
          by_cases c33 : t3 ≤ kz
          · refine j_icmp_geT (pc := 40) C (tgt := 61) d_Model_isHere_40 (by decide) (show nI t3 ≤ nI kz from nI_le (by omega) (by omega)) ?_
            refine j_iload_n (pc := 61) C d_Model_isHere_61 rfl 0 rfl ?_
            refine j_aload_n (pc := 62) C d_Model_isHere_62 rfl 1 rfl ?_
            refine j_get (pc := 63) C gf_Model_207 1 rfl rfl d_Model_isHere_63 ?_
            refine j_isub (pc := 66) C (v := nI (kz - u3)) d_Model_isHere_66 (pk_sub (by omega)) ?_
            refine j_aload_n (pc := 67) C d_Model_isHere_67 rfl 2 rfl ?_
            refine j_alen (pc := 68) C 0 3 rfl rfl (v := 4) rfl d_Model_isHere_68 ?_
            by_cases c34 : (kz - u3) = 4
            · refine j_icmp_eqT (pc := 69) C (tgt := 74) d_Model_isHere_69 (by decide) (show nI (kz - u3) = nI 4 from (nI_eq (by omega) (by omega)).mpr (by omega)) ?_
              refine j_iconst (pc := 74) C (v := 0) d_Model_isHere_74 (by decide) ?_
              refine j_istore_n (pc := 75) C (lv' := [(3, .int 0), (2, .int (nI kz)), (0, .ref mo), (1, .ref wa)]) d_Model_isHere_75 rfl (by decide) rfl ?_
              refine j_loop (α := Nat) (fun a => 4 - a) (fun a => (a ≤ 4)) (fun a => [(wa, .inl (y 3, 4, .inl wf)), MB mo ma (nI t1) (nI u3) (nI t3) i4 i5 i6 i7 i8 i42 i49 i51 i53 i54 i59 i61 i64 i66 (nI t67) i76 i78, (ma 0, .inl (y 0, 1600, .inl g0))]) (fun a => [(3, .int (nI a)), (2, .int (nI kz)), (0, .ref mo), (1, .ref wa)]) (0) rfl rfl (show 0 ≤ 4 by omega) ?_
              rintro iz hP37 ih38
              have hi__ := hP37
              have hi_ : iz ≤ 4 := hi__
              refine j_ws (ws' := [(wa, .inl (y 3, 4, .inl wf)), MB mo ma (nI t1) (nI u3) (nI t3) i4 i5 i6 i7 i8 i42 i49 i51 i53 i54 i59 i61 i64 i66 (nI t67) i76 i78, (ma 0, .inl (y 0, 1600, .inl g0))]) rfl ?_
              refine j_lv (lv' := [(3, .int (nI iz)), (2, .int (nI kz)), (0, .ref mo), (1, .ref wa)]) rfl ?_
              refine j_iload_n (pc := 76) C d_Model_isHere_76 rfl 0 rfl ?_
              refine j_aload_n (pc := 77) C d_Model_isHere_77 rfl 3 rfl ?_
              refine j_alen (pc := 78) C 0 3 rfl rfl (v := 4) rfl d_Model_isHere_78 ?_
              by_cases c39 : 4 ≤ iz
              · refine j_icmp_geT (pc := 79) C (tgt := 107) d_Model_isHere_79 (by decide) (show nI 4 ≤ nI iz from nI_le (by omega) (by omega)) ?_
                refine j_iconst (pc := 107) C (v := 1) d_Model_isHere_107 (by decide) ?_
                exact j_iret (pc := 108) C hr (by decide) u3 ⟨(show t2 ≤ u3 by omega), (show u3 ≤ t3 by omega), (Or.inr ⟨rfl, show u3 + 4 ≤ t3 by omega⟩)⟩ [1, 2, 0] rfl (by decide) (by decide) (by decide) d_Model_isHere_108
              · refine j_icmp_geF (pc := 79) C (tgt := 107) d_Model_isHere_79 (by decide) (show ¬ nI 4 ≤ nI iz from nI_ge (by omega) (by omega)) ?_
                refine j_aload_n (pc := 82) C d_Model_isHere_82 rfl 2 rfl ?_
                refine j_get (pc := 83) C gf_Model_7 1 rfl rfl d_Model_isHere_83 ?_
                refine j_aload_n (pc := 86) C d_Model_isHere_86 rfl 2 rfl ?_
                refine j_get (pc := 87) C gf_Model_207 1 rfl rfl d_Model_isHere_87 ?_
                refine j_iload_n (pc := 90) C d_Model_isHere_90 rfl 0 rfl ?_
                refine j_iadd (pc := 91) C (v := nI (u3 + iz)) d_Model_isHere_91 (nI_add _ _) ?_
                refine j_iald (pc := 92) C 2 rfl (v := g0 (u3 + iz)) (vp_in_nI (by omega) (by decide)) (by rw [nI_clamp (by omega)]) d_Model_isHere_92 ?_
                refine j_aload_n (pc := 93) C d_Model_isHere_93 rfl 3 rfl ?_
                refine j_iload_n (pc := 94) C d_Model_isHere_94 rfl 0 rfl ?_
                refine j_cald (pc := 95) C 0 rfl (v := wf iz) (vp_in_nI (by omega) (by decide)) (by rw [nI_clamp (by omega)]) d_Model_isHere_95 ?_
                refine j_icmp_eq (pc := 96) C (tgt := 101) d_Model_isHere_96 (by decide) (fun c40 => ?_) (fun c40 => ?_)
                · refine j_iinc (pc := 101) C (v := nI (iz + 1)) (lv' := [(3, .int (nI (iz + 1))), (2, .int (nI kz)), (0, .ref mo), (1, .ref wa)]) d_Model_isHere_101 0 rfl (nI_add _ _) (by decide) rfl ?_
                  refine j_goto (pc := 104) C (tgt := 76) d_Model_isHere_104 (by decide) ?_
                  exact ih38 ((iz + 1)) (show (iz + 1) ≤ 4 by omega) (show 4 - (iz + 1) < 4 - iz by omega)
                · refine j_iconst (pc := 99) C (v := 0) d_Model_isHere_99 (by decide) ?_
                  exact j_iret (pc := 100) C hr (by decide) u3 ⟨(show t2 ≤ u3 by omega), (show u3 ≤ t3 by omega), (Or.inl rfl)⟩ [1, 2, 0] rfl (by decide) (by decide) (by decide) d_Model_isHere_100
            · refine j_icmp_eqF (pc := 69) C (tgt := 74) d_Model_isHere_69 (by decide) (show ¬ nI (kz - u3) = nI 4 from fun e => absurd ((nI_eq (by omega) (by omega)).mp e) (by omega)) ?_
              refine j_iconst (pc := 72) C (v := 0) d_Model_isHere_72 (by decide) ?_
              exact j_iret (pc := 73) C hr (by decide) u3 ⟨(show t2 ≤ u3 by omega), (show u3 ≤ t3 by omega), (Or.inl rfl)⟩ [1, 2, 0] rfl (by decide) (by decide) (by decide) d_Model_isHere_73
          · refine j_icmp_geF (pc := 40) C (tgt := 61) d_Model_isHere_40 (by decide) (show ¬ nI t3 ≤ nI kz from nI_ge (by omega) (by omega)) ?_
            refine j_aload_n (pc := 43) C d_Model_isHere_43 rfl 1 rfl ?_
            refine j_get (pc := 44) C gf_Model_7 1 rfl rfl d_Model_isHere_44 ?_
            refine j_iload_n (pc := 47) C d_Model_isHere_47 rfl 0 rfl ?_
            refine j_iald (pc := 48) C 2 rfl (v := g0 kz) (vp_in_nI (by omega) (by decide)) (by rw [nI_clamp (by omega)]) d_Model_isHere_48 ?_
            refine j_callSi (pc := 49) C (c_M_isLetter l D y (g0 kz)) kw_Model_217 ks_Model_isLetter ⟨by decide, by decide⟩ ⟨by decide, by decide⟩ (wr := [(wa, .inl (y 3, 4, .inl wf)), MB mo ma (nI t1) (nI u3) (nI t3) i4 i5 i6 i7 i8 i42 i49 i51 i53 i54 i59 i61 i64 i66 (nI t67) i76 i78, (ma 0, .inl (y 0, 1600, .inl g0))]) [] [0, 1, 2] rfl rfl (by decide) (by decide) (by decide) (As := [.int (g0 kz)]) (rest := []) rfl (nb rfl) rfl d_Model_isHere_49 (fun r41 _ hr41 => ?_)
            have xh42 := hr41
            refine j_ws (ws' := [(wa, .inl (y 3, 4, .inl wf)), MB mo ma (nI t1) (nI u3) (nI t3) i4 i5 i6 i7 i8 i42 i49 i51 i53 i54 i59 i61 i64 i66 (nI t67) i76 i78, (ma 0, .inl (y 0, 1600, .inl g0))]) rfl ?_
            refine j_if_eq (pc := 52) C (tgt := 61) d_Model_isHere_52 (by decide) (fun c43 => ?_) (fun c43 => ?_)
            · refine j_iload_n (pc := 61) C d_Model_isHere_61 rfl 0 rfl ?_
              refine j_aload_n (pc := 62) C d_Model_isHere_62 rfl 1 rfl ?_
              refine j_get (pc := 63) C gf_Model_207 1 rfl rfl d_Model_isHere_63 ?_
              refine j_isub (pc := 66) C (v := nI (kz - u3)) d_Model_isHere_66 (pk_sub (by omega)) ?_
              refine j_aload_n (pc := 67) C d_Model_isHere_67 rfl 2 rfl ?_
              refine j_alen (pc := 68) C 0 3 rfl rfl (v := 4) rfl d_Model_isHere_68 ?_
              by_cases c44 : (kz - u3) = 4
              · refine j_icmp_eqT (pc := 69) C (tgt := 74) d_Model_isHere_69 (by decide) (show nI (kz - u3) = nI 4 from (nI_eq (by omega) (by omega)).mpr (by omega)) ?_
                refine j_iconst (pc := 74) C (v := 0) d_Model_isHere_74 (by decide) ?_
                refine j_istore_n (pc := 75) C (lv' := [(3, .int 0), (2, .int (nI kz)), (0, .ref mo), (1, .ref wa)]) d_Model_isHere_75 rfl (by decide) rfl ?_
                refine j_loop (α := Nat) (fun a => 4 - a) (fun a => (a ≤ 4)) (fun a => [(wa, .inl (y 3, 4, .inl wf)), MB mo ma (nI t1) (nI u3) (nI t3) i4 i5 i6 i7 i8 i42 i49 i51 i53 i54 i59 i61 i64 i66 (nI t67) i76 i78, (ma 0, .inl (y 0, 1600, .inl g0))]) (fun a => [(3, .int (nI a)), (2, .int (nI kz)), (0, .ref mo), (1, .ref wa)]) (0) rfl rfl (show 0 ≤ 4 by omega) ?_
                rintro iz hP47 ih48
                have hi__ := hP47
                have hi_ : iz ≤ 4 := hi__
                refine j_ws (ws' := [(wa, .inl (y 3, 4, .inl wf)), MB mo ma (nI t1) (nI u3) (nI t3) i4 i5 i6 i7 i8 i42 i49 i51 i53 i54 i59 i61 i64 i66 (nI t67) i76 i78, (ma 0, .inl (y 0, 1600, .inl g0))]) rfl ?_
                refine j_lv (lv' := [(3, .int (nI iz)), (2, .int (nI kz)), (0, .ref mo), (1, .ref wa)]) rfl ?_
                refine j_iload_n (pc := 76) C d_Model_isHere_76 rfl 0 rfl ?_
                refine j_aload_n (pc := 77) C d_Model_isHere_77 rfl 3 rfl ?_
                refine j_alen (pc := 78) C 0 3 rfl rfl (v := 4) rfl d_Model_isHere_78 ?_
                by_cases c49 : 4 ≤ iz
                · refine j_icmp_geT (pc := 79) C (tgt := 107) d_Model_isHere_79 (by decide) (show nI 4 ≤ nI iz from nI_le (by omega) (by omega)) ?_
                  refine j_iconst (pc := 107) C (v := 1) d_Model_isHere_107 (by decide) ?_
                  exact j_iret (pc := 108) C hr (by decide) u3 ⟨(show t2 ≤ u3 by omega), (show u3 ≤ t3 by omega), (Or.inr ⟨rfl, show u3 + 4 ≤ t3 by omega⟩)⟩ [1, 2, 0] rfl (by decide) (by decide) (by decide) d_Model_isHere_108
                · refine j_icmp_geF (pc := 79) C (tgt := 107) d_Model_isHere_79 (by decide) (show ¬ nI 4 ≤ nI iz from nI_ge (by omega) (by omega)) ?_
                  refine j_aload_n (pc := 82) C d_Model_isHere_82 rfl 2 rfl ?_
                  refine j_get (pc := 83) C gf_Model_7 1 rfl rfl d_Model_isHere_83 ?_
                  refine j_aload_n (pc := 86) C d_Model_isHere_86 rfl 2 rfl ?_
                  refine j_get (pc := 87) C gf_Model_207 1 rfl rfl d_Model_isHere_87 ?_
                  refine j_iload_n (pc := 90) C d_Model_isHere_90 rfl 0 rfl ?_
                  refine j_iadd (pc := 91) C (v := nI (u3 + iz)) d_Model_isHere_91 (nI_add _ _) ?_
                  refine j_iald (pc := 92) C 2 rfl (v := g0 (u3 + iz)) (vp_in_nI (by omega) (by decide)) (by rw [nI_clamp (by omega)]) d_Model_isHere_92 ?_
                  refine j_aload_n (pc := 93) C d_Model_isHere_93 rfl 3 rfl ?_
                  refine j_iload_n (pc := 94) C d_Model_isHere_94 rfl 0 rfl ?_
                  refine j_cald (pc := 95) C 0 rfl (v := wf iz) (vp_in_nI (by omega) (by decide)) (by rw [nI_clamp (by omega)]) d_Model_isHere_95 ?_
                  refine j_icmp_eq (pc := 96) C (tgt := 101) d_Model_isHere_96 (by decide) (fun c50 => ?_) (fun c50 => ?_)
                  · refine j_iinc (pc := 101) C (v := nI (iz + 1)) (lv' := [(3, .int (nI (iz + 1))), (2, .int (nI kz)), (0, .ref mo), (1, .ref wa)]) d_Model_isHere_101 0 rfl (nI_add _ _) (by decide) rfl ?_
                    refine j_goto (pc := 104) C (tgt := 76) d_Model_isHere_104 (by decide) ?_
                    exact ih48 ((iz + 1)) (show (iz + 1) ≤ 4 by omega) (show 4 - (iz + 1) < 4 - iz by omega)
                  · refine j_iconst (pc := 99) C (v := 0) d_Model_isHere_99 (by decide) ?_
                    exact j_iret (pc := 100) C hr (by decide) u3 ⟨(show t2 ≤ u3 by omega), (show u3 ≤ t3 by omega), (Or.inl rfl)⟩ [1, 2, 0] rfl (by decide) (by decide) (by decide) d_Model_isHere_100
              · refine j_icmp_eqF (pc := 69) C (tgt := 74) d_Model_isHere_69 (by decide) (show ¬ nI (kz - u3) = nI 4 from fun e => absurd ((nI_eq (by omega) (by omega)).mp e) (by omega)) ?_
                refine j_iconst (pc := 72) C (v := 0) d_Model_isHere_72 (by decide) ?_
                exact j_iret (pc := 73) C hr (by decide) u3 ⟨(show t2 ≤ u3 by omega), (show u3 ≤ t3 by omega), (Or.inl rfl)⟩ [1, 2, 0] rfl (by decide) (by decide) (by decide) d_Model_isHere_73
            · refine j_iinc (pc := 55) C (v := nI (kz + 1)) (lv' := [(2, .int (nI (kz + 1))), (0, .ref mo), (1, .ref wa)]) d_Model_isHere_55 0 rfl (nI_add _ _) (by decide) rfl ?_
              refine j_goto (pc := 58) C (tgt := 35) d_Model_isHere_58 (by decide) ?_
              exact ih32 ((kz + 1)) ⟨(show (kz + 1) ≤ t3 by omega), (show u3 ≤ (kz + 1) by omega)⟩ (show t3 - (kz + 1) < t3 - kz by omega)
        · refine j_iconst (pc := 28) C (v := 0) d_Model_isHere_28 (by decide) ?_
          exact j_iret (pc := 29) C hr (by decide) u3 ⟨(show t2 ≤ u3 by omega), (show u3 ≤ t3 by omega), (Or.inl rfl)⟩ [1, 2, 0] rfl (by decide) (by decide) (by decide) d_Model_isHere_29
    · refine j_callSi (pc := 11) C (c_M_isLetter l D y r2) kw_Model_217 ks_Model_isLetter ⟨by decide, by decide⟩ ⟨by decide, by decide⟩ (wr := [(wa, .inl (y 3, 4, .inl wf)), MB mo ma (nI t1) (nI u3) (nI t3) i4 i5 i6 i7 i8 i42 i49 i51 i53 i54 i59 i61 i64 i66 (nI t67) i76 i78, (ma 0, .inl (y 0, 1600, .inl g0))]) [] [0, 1, 2] rfl rfl (by decide) (by decide) (by decide) (As := [.int r2]) (rest := []) rfl (nb rfl) rfl d_Model_isHere_11 (fun r51 _ hr51 => ?_)
      have xh52 := hr51
      refine j_ws (ws' := [(wa, .inl (y 3, 4, .inl wf)), MB mo ma (nI t1) (nI u3) (nI t3) i4 i5 i6 i7 i8 i42 i49 i51 i53 i54 i59 i61 i64 i66 (nI t67) i76 i78, (ma 0, .inl (y 0, 1600, .inl g0))]) rfl ?_
      refine j_if_eq (pc := 14) C (tgt := 28) d_Model_isHere_14 (by decide) (fun c53 => ?_) (fun c53 => ?_)
      · refine j_iconst (pc := 28) C (v := 0) d_Model_isHere_28 (by decide) ?_
        exact j_iret (pc := 29) C hr (by decide) u3 ⟨(show t2 ≤ u3 by omega), (show u3 ≤ t3 by omega), (Or.inl rfl)⟩ [1, 2, 0] rfl (by decide) (by decide) (by decide) d_Model_isHere_29
      · refine j_aload_n (pc := 17) C d_Model_isHere_17 rfl 0 rfl ?_
        refine j_get (pc := 18) C gf_Model_207 1 rfl rfl d_Model_isHere_18 ?_
        refine j_aload_n (pc := 21) C d_Model_isHere_21 rfl 0 rfl ?_
        refine j_get (pc := 22) C gf_Model_221 1 rfl rfl d_Model_isHere_22 ?_
        refine j_icmp_ne (pc := 25) C (tgt := 30) d_Model_isHere_25 (by decide) (fun c54 => ?_) (fun c54 => ?_)
        · refine j_aload_n (pc := 30) C d_Model_isHere_30 rfl 0 rfl ?_
          refine j_get (pc := 31) C gf_Model_207 1 rfl rfl d_Model_isHere_31 ?_
          refine j_istore_n (pc := 34) C (lv' := [(2, .int (nI u3)), (0, .ref mo), (1, .ref wa)]) d_Model_isHere_34 rfl (by decide) rfl ?_
          refine j_loop (α := Nat) (fun a => t3 - a) (fun a => (a ≤ t3) ∧ (u3 ≤ a)) (fun a => [(wa, .inl (y 3, 4, .inl wf)), MB mo ma (nI t1) (nI u3) (nI t3) i4 i5 i6 i7 i8 i42 i49 i51 i53 i54 i59 i61 i64 i66 (nI t67) i76 i78, (ma 0, .inl (y 0, 1600, .inl g0))]) (fun a => [(2, .int (nI a)), (0, .ref mo), (1, .ref wa)]) (u3) rfl rfl ⟨xh5, (show u3 ≤ u3 by omega)⟩ ?_
          rintro kz hP73 ih74
          obtain ⟨hk__, hk2__⟩ := hP73
          have hk_ : kz ≤ t3 := hk__
          have hk2_ : u3 ≤ kz := hk2__
          refine j_ws (ws' := [(wa, .inl (y 3, 4, .inl wf)), MB mo ma (nI t1) (nI u3) (nI t3) i4 i5 i6 i7 i8 i42 i49 i51 i53 i54 i59 i61 i64 i66 (nI t67) i76 i78, (ma 0, .inl (y 0, 1600, .inl g0))]) rfl ?_
          refine j_lv (lv' := [(2, .int (nI kz)), (0, .ref mo), (1, .ref wa)]) rfl ?_
          refine j_iload_n (pc := 35) C d_Model_isHere_35 rfl 0 rfl ?_
          refine j_aload_n (pc := 36) C d_Model_isHere_36 rfl 1 rfl ?_
          refine j_get (pc := 37) C gf_Model_210 1 rfl rfl d_Model_isHere_37 ?_
          by_cases c75 : t3 ≤ kz
          · refine j_icmp_geT (pc := 40) C (tgt := 61) d_Model_isHere_40 (by decide) (show nI t3 ≤ nI kz from nI_le (by omega) (by omega)) ?_
            refine j_iload_n (pc := 61) C d_Model_isHere_61 rfl 0 rfl ?_
            refine j_aload_n (pc := 62) C d_Model_isHere_62 rfl 1 rfl ?_
            refine j_get (pc := 63) C gf_Model_207 1 rfl rfl d_Model_isHere_63 ?_
            refine j_isub (pc := 66) C (v := nI (kz - u3)) d_Model_isHere_66 (pk_sub (by omega)) ?_
            refine j_aload_n (pc := 67) C d_Model_isHere_67 rfl 2 rfl ?_
            refine j_alen (pc := 68) C 0 3 rfl rfl (v := 4) rfl d_Model_isHere_68 ?_
            by_cases c76 : (kz - u3) = 4
            · refine j_icmp_eqT (pc := 69) C (tgt := 74) d_Model_isHere_69 (by decide) (show nI (kz - u3) = nI 4 from (nI_eq (by omega) (by omega)).mpr (by omega)) ?_
              refine j_iconst (pc := 74) C (v := 0) d_Model_isHere_74 (by decide) ?_
              refine j_istore_n (pc := 75) C (lv' := [(3, .int 0), (2, .int (nI kz)), (0, .ref mo), (1, .ref wa)]) d_Model_isHere_75 rfl (by decide) rfl ?_
              refine j_loop (α := Nat) (fun a => 4 - a) (fun a => (a ≤ 4)) (fun a => [(wa, .inl (y 3, 4, .inl wf)), MB mo ma (nI t1) (nI u3) (nI t3) i4 i5 i6 i7 i8 i42 i49 i51 i53 i54 i59 i61 i64 i66 (nI t67) i76 i78, (ma 0, .inl (y 0, 1600, .inl g0))]) (fun a => [(3, .int (nI a)), (2, .int (nI kz)), (0, .ref mo), (1, .ref wa)]) (0) rfl rfl (show 0 ≤ 4 by omega) ?_
              rintro iz hP79 ih80
              have hi__ := hP79
              have hi_ : iz ≤ 4 := hi__
              refine j_ws (ws' := [(wa, .inl (y 3, 4, .inl wf)), MB mo ma (nI t1) (nI u3) (nI t3) i4 i5 i6 i7 i8 i42 i49 i51 i53 i54 i59 i61 i64 i66 (nI t67) i76 i78, (ma 0, .inl (y 0, 1600, .inl g0))]) rfl ?_
              refine j_lv (lv' := [(3, .int (nI iz)), (2, .int (nI kz)), (0, .ref mo), (1, .ref wa)]) rfl ?_
              refine j_iload_n (pc := 76) C d_Model_isHere_76 rfl 0 rfl ?_
              refine j_aload_n (pc := 77) C d_Model_isHere_77 rfl 3 rfl ?_
              refine j_alen (pc := 78) C 0 3 rfl rfl (v := 4) rfl d_Model_isHere_78 ?_
              by_cases c81 : 4 ≤ iz
              · refine j_icmp_geT (pc := 79) C (tgt := 107) d_Model_isHere_79 (by decide) (show nI 4 ≤ nI iz from nI_le (by omega) (by omega)) ?_
                refine j_iconst (pc := 107) C (v := 1) d_Model_isHere_107 (by decide) ?_
                exact j_iret (pc := 108) C hr (by decide) u3 ⟨(show t2 ≤ u3 by omega), (show u3 ≤ t3 by omega), (Or.inr ⟨rfl, show u3 + 4 ≤ t3 by omega⟩)⟩ [1, 2, 0] rfl (by decide) (by decide) (by decide) d_Model_isHere_108
              · refine j_icmp_geF (pc := 79) C (tgt := 107) d_Model_isHere_79 (by decide) (show ¬ nI 4 ≤ nI iz from nI_ge (by omega) (by omega)) ?_
                refine j_aload_n (pc := 82) C d_Model_isHere_82 rfl 2 rfl ?_
                refine j_get (pc := 83) C gf_Model_7 1 rfl rfl d_Model_isHere_83 ?_
                refine j_aload_n (pc := 86) C d_Model_isHere_86 rfl 2 rfl ?_
                refine j_get (pc := 87) C gf_Model_207 1 rfl rfl d_Model_isHere_87 ?_
                refine j_iload_n (pc := 90) C d_Model_isHere_90 rfl 0 rfl ?_
                refine j_iadd (pc := 91) C (v := nI (u3 + iz)) d_Model_isHere_91 (nI_add _ _) ?_
                refine j_iald (pc := 92) C 2 rfl (v := g0 (u3 + iz)) (vp_in_nI (by omega) (by decide)) (by rw [nI_clamp (by omega)]) d_Model_isHere_92 ?_
                refine j_aload_n (pc := 93) C d_Model_isHere_93 rfl 3 rfl ?_
                refine j_iload_n (pc := 94) C d_Model_isHere_94 rfl 0 rfl ?_
                refine j_cald (pc := 95) C 0 rfl (v := wf iz) (vp_in_nI (by omega) (by decide)) (by rw [nI_clamp (by omega)]) d_Model_isHere_95 ?_
                refine j_icmp_eq (pc := 96) C (tgt := 101) d_Model_isHere_96 (by decide) (fun c82 => ?_) (fun c82 => ?_)
                · refine j_iinc (pc := 101) C (v := nI (iz + 1)) (lv' := [(3, .int (nI (iz + 1))), (2, .int (nI kz)), (0, .ref mo), (1, .ref wa)]) d_Model_isHere_101 0 rfl (nI_add _ _) (by decide) rfl ?_
                  refine j_goto (pc := 104) C (tgt := 76) d_Model_isHere_104 (by decide) ?_
                  exact ih80 ((iz + 1)) (show (iz + 1) ≤ 4 by omega) (show 4 - (iz + 1) < 4 - iz by omega)
                · refine j_iconst (pc := 99) C (v := 0) d_Model_isHere_99 (by decide) ?_
                  exact j_iret (pc := 100) C hr (by decide) u3 ⟨(show t2 ≤ u3 by omega), (show u3 ≤ t3 by omega), (Or.inl rfl)⟩ [1, 2, 0] rfl (by decide) (by decide) (by decide) d_Model_isHere_100
            · refine j_icmp_eqF (pc := 69) C (tgt := 74) d_Model_isHere_69 (by decide) (show ¬ nI (kz - u3) = nI 4 from fun e => absurd ((nI_eq (by omega) (by omega)).mp e) (by omega)) ?_
              refine j_iconst (pc := 72) C (v := 0) d_Model_isHere_72 (by decide) ?_
              exact j_iret (pc := 73) C hr (by decide) u3 ⟨(show t2 ≤ u3 by omega), (show u3 ≤ t3 by omega), (Or.inl rfl)⟩ [1, 2, 0] rfl (by decide) (by decide) (by decide) d_Model_isHere_73
          · refine j_icmp_geF (pc := 40) C (tgt := 61) d_Model_isHere_40 (by decide) (show ¬ nI t3 ≤ nI kz from nI_ge (by omega) (by omega)) ?_
            refine j_aload_n (pc := 43) C d_Model_isHere_43 rfl 1 rfl ?_
            refine j_get (pc := 44) C gf_Model_7 1 rfl rfl d_Model_isHere_44 ?_
            refine j_iload_n (pc := 47) C d_Model_isHere_47 rfl 0 rfl ?_
            refine j_iald (pc := 48) C 2 rfl (v := g0 kz) (vp_in_nI (by omega) (by decide)) (by rw [nI_clamp (by omega)]) d_Model_isHere_48 ?_
            refine j_callSi (pc := 49) C (c_M_isLetter l D y (g0 kz)) kw_Model_217 ks_Model_isLetter ⟨by decide, by decide⟩ ⟨by decide, by decide⟩ (wr := [(wa, .inl (y 3, 4, .inl wf)), MB mo ma (nI t1) (nI u3) (nI t3) i4 i5 i6 i7 i8 i42 i49 i51 i53 i54 i59 i61 i64 i66 (nI t67) i76 i78, (ma 0, .inl (y 0, 1600, .inl g0))]) [] [0, 1, 2] rfl rfl (by decide) (by decide) (by decide) (As := [.int (g0 kz)]) (rest := []) rfl (nb rfl) rfl d_Model_isHere_49 (fun r83 _ hr83 => ?_)
            have xh84 := hr83
            refine j_ws (ws' := [(wa, .inl (y 3, 4, .inl wf)), MB mo ma (nI t1) (nI u3) (nI t3) i4 i5 i6 i7 i8 i42 i49 i51 i53 i54 i59 i61 i64 i66 (nI t67) i76 i78, (ma 0, .inl (y 0, 1600, .inl g0))]) rfl ?_
            refine j_if_eq (pc := 52) C (tgt := 61) d_Model_isHere_52 (by decide) (fun c85 => ?_) (fun c85 => ?_)
            · refine j_iload_n (pc := 61) C d_Model_isHere_61 rfl 0 rfl ?_
              refine j_aload_n (pc := 62) C d_Model_isHere_62 rfl 1 rfl ?_
              refine j_get (pc := 63) C gf_Model_207 1 rfl rfl d_Model_isHere_63 ?_
              refine j_isub (pc := 66) C (v := nI (kz - u3)) d_Model_isHere_66 (pk_sub (by omega)) ?_
              refine j_aload_n (pc := 67) C d_Model_isHere_67 rfl 2 rfl ?_
              refine j_alen (pc := 68) C 0 3 rfl rfl (v := 4) rfl d_Model_isHere_68 ?_
              by_cases c86 : (kz - u3) = 4
              · refine j_icmp_eqT (pc := 69) C (tgt := 74) d_Model_isHere_69 (by decide) (show nI (kz - u3) = nI 4 from (nI_eq (by omega) (by omega)).mpr (by omega)) ?_
                refine j_iconst (pc := 74) C (v := 0) d_Model_isHere_74 (by decide) ?_
                refine j_istore_n (pc := 75) C (lv' := [(3, .int 0), (2, .int (nI kz)), (0, .ref mo), (1, .ref wa)]) d_Model_isHere_75 rfl (by decide) rfl ?_
                refine j_loop (α := Nat) (fun a => 4 - a) (fun a => (a ≤ 4)) (fun a => [(wa, .inl (y 3, 4, .inl wf)), MB mo ma (nI t1) (nI u3) (nI t3) i4 i5 i6 i7 i8 i42 i49 i51 i53 i54 i59 i61 i64 i66 (nI t67) i76 i78, (ma 0, .inl (y 0, 1600, .inl g0))]) (fun a => [(3, .int (nI a)), (2, .int (nI kz)), (0, .ref mo), (1, .ref wa)]) (0) rfl rfl (show 0 ≤ 4 by omega) ?_
                rintro iz hP89 ih90
                have hi__ := hP89
                have hi_ : iz ≤ 4 := hi__
                refine j_ws (ws' := [(wa, .inl (y 3, 4, .inl wf)), MB mo ma (nI t1) (nI u3) (nI t3) i4 i5 i6 i7 i8 i42 i49 i51 i53 i54 i59 i61 i64 i66 (nI t67) i76 i78, (ma 0, .inl (y 0, 1600, .inl g0))]) rfl ?_
                refine j_lv (lv' := [(3, .int (nI iz)), (2, .int (nI kz)), (0, .ref mo), (1, .ref wa)]) rfl ?_
                refine j_iload_n (pc := 76) C d_Model_isHere_76 rfl 0 rfl ?_
                refine j_aload_n (pc := 77) C d_Model_isHere_77 rfl 3 rfl ?_
                refine j_alen (pc := 78) C 0 3 rfl rfl (v := 4) rfl d_Model_isHere_78 ?_
                by_cases c91 : 4 ≤ iz
                · refine j_icmp_geT (pc := 79) C (tgt := 107) d_Model_isHere_79 (by decide) (show nI 4 ≤ nI iz from nI_le (by omega) (by omega)) ?_
                  refine j_iconst (pc := 107) C (v := 1) d_Model_isHere_107 (by decide) ?_
                  exact j_iret (pc := 108) C hr (by decide) u3 ⟨(show t2 ≤ u3 by omega), (show u3 ≤ t3 by omega), (Or.inr ⟨rfl, show u3 + 4 ≤ t3 by omega⟩)⟩ [1, 2, 0] rfl (by decide) (by decide) (by decide) d_Model_isHere_108
                · refine j_icmp_geF (pc := 79) C (tgt := 107) d_Model_isHere_79 (by decide) (show ¬ nI 4 ≤ nI iz from nI_ge (by omega) (by omega)) ?_
                  refine j_aload_n (pc := 82) C d_Model_isHere_82 rfl 2 rfl ?_
                  refine j_get (pc := 83) C gf_Model_7 1 rfl rfl d_Model_isHere_83 ?_
                  refine j_aload_n (pc := 86) C d_Model_isHere_86 rfl 2 rfl ?_
                  refine j_get (pc := 87) C gf_Model_207 1 rfl rfl d_Model_isHere_87 ?_
                  refine j_iload_n (pc := 90) C d_Model_isHere_90 rfl 0 rfl ?_
                  refine j_iadd (pc := 91) C (v := nI (u3 + iz)) d_Model_isHere_91 (nI_add _ _) ?_
                  refine j_iald (pc := 92) C 2 rfl (v := g0 (u3 + iz)) (vp_in_nI (by omega) (by decide)) (by rw [nI_clamp (by omega)]) d_Model_isHere_92 ?_
                  refine j_aload_n (pc := 93) C d_Model_isHere_93 rfl 3 rfl ?_
                  refine j_iload_n (pc := 94) C d_Model_isHere_94 rfl 0 rfl ?_
                  refine j_cald (pc := 95) C 0 rfl (v := wf iz) (vp_in_nI (by omega) (by decide)) (by rw [nI_clamp (by omega)]) d_Model_isHere_95 ?_
                  refine j_icmp_eq (pc := 96) C (tgt := 101) d_Model_isHere_96 (by decide) (fun c92 => ?_) (fun c92 => ?_)
                  · refine j_iinc (pc := 101) C (v := nI (iz + 1)) (lv' := [(3, .int (nI (iz + 1))), (2, .int (nI kz)), (0, .ref mo), (1, .ref wa)]) d_Model_isHere_101 0 rfl (nI_add _ _) (by decide) rfl ?_
                    refine j_goto (pc := 104) C (tgt := 76) d_Model_isHere_104 (by decide) ?_
                    exact ih90 ((iz + 1)) (show (iz + 1) ≤ 4 by omega) (show 4 - (iz + 1) < 4 - iz by omega)
                  · refine j_iconst (pc := 99) C (v := 0) d_Model_isHere_99 (by decide) ?_
                    exact j_iret (pc := 100) C hr (by decide) u3 ⟨(show t2 ≤ u3 by omega), (show u3 ≤ t3 by omega), (Or.inl rfl)⟩ [1, 2, 0] rfl (by decide) (by decide) (by decide) d_Model_isHere_100
              · refine j_icmp_eqF (pc := 69) C (tgt := 74) d_Model_isHere_69 (by decide) (show ¬ nI (kz - u3) = nI 4 from fun e => absurd ((nI_eq (by omega) (by omega)).mp e) (by omega)) ?_
                refine j_iconst (pc := 72) C (v := 0) d_Model_isHere_72 (by decide) ?_
                exact j_iret (pc := 73) C hr (by decide) u3 ⟨(show t2 ≤ u3 by omega), (show u3 ≤ t3 by omega), (Or.inl rfl)⟩ [1, 2, 0] rfl (by decide) (by decide) (by decide) d_Model_isHere_73
            · refine j_iinc (pc := 55) C (v := nI (kz + 1)) (lv' := [(2, .int (nI (kz + 1))), (0, .ref mo), (1, .ref wa)]) d_Model_isHere_55 0 rfl (nI_add _ _) (by decide) rfl ?_
              refine j_goto (pc := 58) C (tgt := 35) d_Model_isHere_58 (by decide) ?_
              exact ih74 ((kz + 1)) ⟨(show (kz + 1) ≤ t3 by omega), (show u3 ≤ (kz + 1) by omega)⟩ (show t3 - (kz + 1) < t3 - kz by omega)
        · refine j_iconst (pc := 28) C (v := 0) d_Model_isHere_28 (by decide) ?_
          exact j_iret (pc := 29) C hr (by decide) u3 ⟨(show t2 ≤ u3 by omega), (show u3 ≤ t3 by omega), (Or.inl rfl)⟩ [1, 2, 0] rfl (by decide) (by decide) (by decide) d_Model_isHere_29
set_option maxHeartbeats 4000000 in
set_option maxRecDepth 100000 in
theorem c_M_takes_4 (l : Launch) (D : va_G) (y : Nat → ClassId) (mo : Nat) (wa : Nat) (ma : Nat → Nat) (t1 : Nat) (t2 : Nat) (t3 : Nat) (i4 : Int32) (i5 : Int32) (i6 : Int32) (i7 : Int32) (i8 : Int32) (i42 : Int32) (i49 : Int32) (i51 : Int32) (i53 : Int32) (i54 : Int32) (i59 : Int32) (i61 : Int32) (i64 : Int32) (i66 : Int32) (t67 : Nat) (i76 : Int64) (i78 : Int32) (g0 : Nat → Int32) (wf : Nat → Int32) (ha : t2 ≤ t3) (he : t3 ≤ 1600) : CT l D y ⟨"NineBoardsModel", "takes", "([C)Z"⟩ prog_13_method_10_code 2 (some .boolean) ({ frames := 2, cells := 0, slots := 0, locals := 43 } : Room) [.ref mo, .ref wa] [MB mo ma (nI t1) (nI t2) (nI t3) i4 i5 i6 i7 i8 i42 i49 i51 i53 i54 i59 i61 i64 i66 (nI t67) i76 i78, (ma 0, .inl (y 0, 1600, .inl g0)), (wa, .inl (y 3, 4, .inl wf))] (QI D [MB mo ma (nI t1) (nI t2) (nI t3) i4 i5 i6 i7 i8 i42 i49 i51 i53 i54 i59 i61 i64 i66 (nI t67) i76 i78, (ma 0, .inl (y 0, 1600, .inl g0)), (wa, .inl (y 3, 4, .inl wf))] (fun (r : Int32) (u : Nat × Int32) => t2 ≤ u.1 ∧ u.1 ≤ t3 ∧ (r = 0 ∨ (r = 1 ∧ t2 + 4 ≤ u.1))) (fun u => [MB mo ma (nI t1) (nI u.1) (nI t3) u.2 i5 i6 i7 i8 i42 i49 i51 i53 i54 i59 i61 i64 i66 (nI t67) i76 i78, (ma 0, .inl (y 0, 1600, .inl g0)), (wa, .inl (y 3, 4, .inl wf))])) := by
  refine CT.of (by decide) (nb rfl) ?_
  intro p e s m args below meth c C hr
  refine j_lv (lv' := [(0, .ref mo), (1, .ref wa)]) rfl ?_
  refine j_aload_n (pc := 0) C d_Model_takes_0 rfl 0 rfl ?_
  refine j_aload_n (pc := 1) C d_Model_takes_1 rfl 1 rfl ?_
  refine j_callVi (pc := 2) C (c_M_isHere_4 l D y mo wa ma t1 t2 t3 i4 i5 i6 i7 i8 i42 i49 i51 i53 i54 i59 i61 i64 i66 t67 i76 i78 g0 wf ha he) kw_Model_224 kv_Model_isHere 0 10 rfl rfl ⟨by decide, by decide⟩ ⟨by decide, by decide⟩ (wr := []) [0, 1, 2] [] rfl rfl (by decide) (by decide) (by decide) (As := [.ref wa]) (rest := []) rfl (nb rfl) rfl d_Model_takes_2 (fun r1 u2 hr1 => ?_)
  refine j_ws (ws' := [MB mo ma (nI t1) (nI u2) (nI t3) i4 i5 i6 i7 i8 i42 i49 i51 i53 i54 i59 i61 i64 i66 (nI t67) i76 i78, (ma 0, .inl (y 0, 1600, .inl g0)), (wa, .inl (y 3, 4, .inl wf))]) rfl ?_
  obtain ⟨xh3, xh4, xh5⟩ := hr1
  rcases xh5 with rfl | ⟨rfl, xh6⟩
  · refine j_if_neF (pc := 5) C (tgt := 10) d_Model_takes_5 (by decide) (by decide) ?_
    refine j_iconst (pc := 8) C (v := 0) d_Model_takes_8 (by decide) ?_
    exact j_iret (pc := 9) C hr (by decide) (u2, i4) ⟨(show t2 ≤ u2 by omega), (show u2 ≤ t3 by omega), (Or.inl rfl)⟩ [0, 1, 2] rfl (by decide) (by decide) (by decide) d_Model_takes_9
  · refine j_if_neT (pc := 5) C (tgt := 10) d_Model_takes_5 (by decide) (by decide) ?_
    refine j_aload_n (pc := 10) C d_Model_takes_10 rfl 0 rfl ?_
    refine j_dup (pc := 11) C d_Model_takes_11 rfl ?_
    refine j_get (pc := 12) C gf_Model_207 0 rfl rfl d_Model_takes_12 ?_
    refine j_aload_n (pc := 15) C d_Model_takes_15 rfl 1 rfl ?_
    refine j_alen (pc := 16) C 2 3 rfl rfl (v := 4) rfl d_Model_takes_16 ?_
    refine j_iadd (pc := 17) C (v := nI (u2 + 4)) d_Model_takes_17 (nI_add _ _) ?_
    refine j_put (pc := 18) C pf_Model_207 0 (ws' := [MB mo ma (nI t1) (nI (u2 + 4)) (nI t3) i4 i5 i6 i7 i8 i42 i49 i51 i53 i54 i59 i61 i64 i66 (nI t67) i76 i78, (ma 0, .inl (y 0, 1600, .inl g0)), (wa, .inl (y 3, 4, .inl wf))]) rfl rfl rfl (nl rfl) rfl d_Model_takes_18 ?_
    refine j_aload_n (pc := 21) C d_Model_takes_21 rfl 0 rfl ?_
    refine j_aload_n (pc := 22) C d_Model_takes_22 rfl 0 rfl ?_
    refine j_get (pc := 23) C gf_Model_207 0 rfl rfl d_Model_takes_23 ?_
    refine j_put (pc := 26) C pf_Model_221 0 (ws' := [MB mo ma (nI t1) (nI (u2 + 4)) (nI t3) (nI (u2 + 4)) i5 i6 i7 i8 i42 i49 i51 i53 i54 i59 i61 i64 i66 (nI t67) i76 i78, (ma 0, .inl (y 0, 1600, .inl g0)), (wa, .inl (y 3, 4, .inl wf))]) rfl rfl rfl (nl rfl) rfl d_Model_takes_26 ?_
    refine j_iconst (pc := 29) C (v := 1) d_Model_takes_29 (by decide) ?_
    exact j_iret (pc := 30) C hr (by decide) ((u2 + 4), nI (u2 + 4)) ⟨(show t2 ≤ (u2 + 4) by omega), (show (u2 + 4) ≤ t3 by omega), (Or.inr ⟨rfl, show t2 + 4 ≤ (u2 + 4) by omega⟩)⟩ [0, 1, 2] rfl (by decide) (by decide) (by decide) d_Model_takes_30
set_option maxHeartbeats 4000000 in
set_option maxRecDepth 100000 in
theorem c_M_asks_4 (l : Launch) (D : va_G) (y : Nat → ClassId) (mo : Nat) (wa : Nat) (ma : Nat → Nat) (t1 : Nat) (t2 : Nat) (t3 : Nat) (i4 : Int32) (i5 : Int32) (i6 : Int32) (i7 : Int32) (i8 : Int32) (i42 : Int32) (i49 : Int32) (i51 : Int32) (i53 : Int32) (i54 : Int32) (i59 : Int32) (i61 : Int32) (i64 : Int32) (i66 : Int32) (t67 : Nat) (i76 : Int64) (i78 : Int32) (g0 : Nat → Int32) (wf : Nat → Int32) (ha : t2 ≤ t3) (he : t3 ≤ 1600) : CT l D y ⟨"NineBoardsModel", "asks", "([C)V"⟩ prog_13_method_11_code 2 none ({ frames := 3, cells := 0, slots := 0, locals := 64 } : Room) [.ref mo, .ref wa] [MB mo ma (nI t1) (nI t2) (nI t3) i4 i5 i6 i7 i8 i42 i49 i51 i53 i54 i59 i61 i64 i66 (nI t67) i76 i78, (ma 0, .inl (y 0, 1600, .inl g0)), (wa, .inl (y 3, 4, .inl wf))] (QV D [MB mo ma (nI t1) (nI t2) (nI t3) i4 i5 i6 i7 i8 i42 i49 i51 i53 i54 i59 i61 i64 i66 (nI t67) i76 i78, (ma 0, .inl (y 0, 1600, .inl g0)), (wa, .inl (y 3, 4, .inl wf))] (fun (u : Nat × Int32 × Int32 × Int32) => t2 ≤ u.1 ∧ u.1 ≤ t3 ∧ (u.2.2.1 = 0 → i5 = 0 ∧ t2 + 4 ≤ u.1)) (fun u => [MB mo ma (nI t1) (nI u.1) (nI t3) u.2.1 u.2.2.1 u.2.2.2 i7 i8 i42 i49 i51 i53 i54 i59 i61 i64 i66 (nI t67) i76 i78, (ma 0, .inl (y 0, 1600, .inl g0)), (wa, .inl (y 3, 4, .inl wf))])) := by
  refine CT.of (by decide) (nb rfl) ?_
  intro p e s m args below meth c C hr
  refine j_lv (lv' := [(0, .ref mo), (1, .ref wa)]) rfl ?_
  refine j_aload_n (pc := 0) C d_Model_asks_0 rfl 0 rfl ?_
  refine j_get (pc := 1) C gf_Model_201 0 rfl rfl d_Model_asks_1 ?_
  refine j_if_ne (pc := 4) C (tgt := 24) d_Model_asks_4 (by decide) (fun c1 => ?_) (fun c1 => ?_)
  · exact j_vret (pc := 24) C hr (t2, i4, i5, i6) ⟨(show t2 ≤ t2 by omega), (show t2 ≤ t3 by omega), (fun e => absurd e c1)⟩ [0, 1, 2] rfl (by decide) (by decide) (by decide) d_Model_asks_24
  · refine j_aload_n (pc := 7) C d_Model_asks_7 rfl 0 rfl ?_
    refine j_aload_n (pc := 8) C d_Model_asks_8 rfl 1 rfl ?_
    refine j_callVi (pc := 9) C (c_M_takes_4 l D y mo wa ma t1 t2 t3 i4 i5 i6 i7 i8 i42 i49 i51 i53 i54 i59 i61 i64 i66 t67 i76 i78 g0 wf ha he) kw_Model_228 kv_Model_takes 0 10 rfl rfl ⟨by decide, by decide⟩ ⟨by decide, by decide⟩ (wr := []) [0, 1, 2] [] rfl rfl (by decide) (by decide) (by decide) (As := [.ref wa]) (rest := []) rfl (nb rfl) rfl d_Model_asks_9 (fun r2 u3 hr2 => ?_)
    refine j_ws (ws' := [MB mo ma (nI t1) (nI u3.1) (nI t3) u3.2 i5 i6 i7 i8 i42 i49 i51 i53 i54 i59 i61 i64 i66 (nI t67) i76 i78, (ma 0, .inl (y 0, 1600, .inl g0)), (wa, .inl (y 3, 4, .inl wf))]) rfl ?_
    obtain ⟨xh4, xh5, xh6⟩ := hr2
    rcases xh6 with rfl | ⟨rfl, xh7⟩
    · refine j_if_neF (pc := 12) C (tgt := 24) d_Model_asks_12 (by decide) (by decide) ?_
      refine j_aload_n (pc := 15) C d_Model_asks_15 rfl 0 rfl ?_
      refine j_iconst (pc := 16) C (v := 1) d_Model_asks_16 (by decide) ?_
      refine j_aload_n (pc := 17) C d_Model_asks_17 rfl 0 rfl ?_
      refine j_get (pc := 18) C gf_Model_207 0 rfl rfl d_Model_asks_18 ?_
      refine j_callVv (pc := 21) C (c_M_fail l D y mo ma t1 u3.1 t3 u3.2 i5 i6 i7 i8 i42 i49 i51 i53 i54 i59 i61 i64 i66 t67 i76 i78 1 (nI u3.1) (by decide)) kw_Model_230 kv_Model_fail 0 10 rfl rfl ⟨by decide, by decide⟩ ⟨by decide, by decide⟩ (wr := [(ma 0, .inl (y 0, 1600, .inl g0)), (wa, .inl (y 3, 4, .inl wf))]) [0] [1, 2] rfl rfl (by decide) (by decide) (by decide) (As := [.int 1, .int (nI u3.1)]) (rest := []) rfl (nb rfl) rfl d_Model_asks_21 (fun u8 hu9 => ?_)
      have xh10 := hu9
      refine j_ws (ws' := [(ma 0, .inl (y 0, 1600, .inl g0)), (wa, .inl (y 3, 4, .inl wf)), MB mo ma (nI t1) (nI u3.1) (nI t3) u3.2 u8.1 u8.2 i7 i8 i42 i49 i51 i53 i54 i59 i61 i64 i66 (nI t67) i76 i78]) rfl ?_
      exact j_vret (pc := 24) C hr (u3.1, u3.2, u8.1, u8.2) ⟨(show t2 ≤ u3.1 by omega), (show u3.1 ≤ t3 by omega), (fun e => absurd e xh10)⟩ [2, 0, 1] rfl (by decide) (by decide) (by decide) d_Model_asks_24
    · refine j_if_neT (pc := 12) C (tgt := 24) d_Model_asks_12 (by decide) (by decide) ?_
      exact j_vret (pc := 24) C hr (u3.1, u3.2, i5, i6) ⟨(show t2 ≤ u3.1 by omega), (show u3.1 ≤ t3 by omega), (fun e => by exact ⟨e, by omega⟩)⟩ [0, 1, 2] rfl (by decide) (by decide) (by decide) d_Model_asks_24
set_option maxHeartbeats 4000000 in
set_option maxRecDepth 100000 in
theorem c_M_isHere_5 (l : Launch) (D : va_G) (y : Nat → ClassId) (mo : Nat) (wa : Nat) (ma : Nat → Nat) (t1 : Nat) (t2 : Nat) (t3 : Nat) (i4 : Int32) (i5 : Int32) (i6 : Int32) (i7 : Int32) (i8 : Int32) (i42 : Int32) (i49 : Int32) (i51 : Int32) (i53 : Int32) (i54 : Int32) (i59 : Int32) (i61 : Int32) (i64 : Int32) (i66 : Int32) (t67 : Nat) (i76 : Int64) (i78 : Int32) (g0 : Nat → Int32) (wf : Nat → Int32) (ha : t2 ≤ t3) (he : t3 ≤ 1600) : CT l D y ⟨"NineBoardsModel", "isHere", "([C)Z"⟩ prog_13_method_9_code 4 (some .boolean) ({ frames := 1, cells := 0, slots := 0, locals := 20 } : Room) [.ref mo, .ref wa] [MB mo ma (nI t1) (nI t2) (nI t3) i4 i5 i6 i7 i8 i42 i49 i51 i53 i54 i59 i61 i64 i66 (nI t67) i76 i78, (ma 0, .inl (y 0, 1600, .inl g0)), (wa, .inl (y 3, 5, .inl wf))] (QI D [MB mo ma (nI t1) (nI t2) (nI t3) i4 i5 i6 i7 i8 i42 i49 i51 i53 i54 i59 i61 i64 i66 (nI t67) i76 i78, (ma 0, .inl (y 0, 1600, .inl g0)), (wa, .inl (y 3, 5, .inl wf))] (fun (r : Int32) (u : Nat) => t2 ≤ u ∧ u ≤ t3 ∧ (r = 0 ∨ (r = 1 ∧ u + 5 ≤ t3))) (fun u => [MB mo ma (nI t1) (nI u) (nI t3) i4 i5 i6 i7 i8 i42 i49 i51 i53 i54 i59 i61 i64 i66 (nI t67) i76 i78, (ma 0, .inl (y 0, 1600, .inl g0)), (wa, .inl (y 3, 5, .inl wf))])) := by
  refine CT.of (by decide) (nb rfl) ?_
  intro p e s m args below meth c C hr
  refine j_lv (lv' := [(0, .ref mo), (1, .ref wa)]) rfl ?_
  refine j_aload_n (pc := 0) C d_Model_isHere_0 rfl 0 rfl ?_
  refine j_get (pc := 1) C gf_Model_201 0 rfl rfl d_Model_isHere_1 ?_
  refine j_if_ne (pc := 4) C (tgt := 28) d_Model_isHere_4 (by decide) (fun c1 => ?_) (fun c1 => ?_)
  · refine j_iconst (pc := 28) C (v := 0) d_Model_isHere_28 (by decide) ?_
    exact j_iret (pc := 29) C hr (by decide) t2 ⟨(show t2 ≤ t2 by omega), (show t2 ≤ t3 by omega), (Or.inl rfl)⟩ [0, 1, 2] rfl (by decide) (by decide) (by decide) d_Model_isHere_29
  · refine j_aload_n (pc := 7) C d_Model_isHere_7 rfl 0 rfl ?_
    refine j_callVi (pc := 8) C (c_M_look l D y mo ma t1 t2 t3 i4 i5 i6 i7 i8 i42 i49 i51 i53 i54 i59 i61 i64 i66 t67 i76 i78 g0 ha he) kw_Model_213 kv_Model_look 0 10 rfl rfl ⟨by decide, by decide⟩ ⟨by decide, by decide⟩ (wr := [(wa, .inl (y 3, 5, .inl wf))]) [0, 1] [2] rfl rfl (by decide) (by decide) (by decide) (As := []) (rest := []) rfl (nb rfl) rfl d_Model_isHere_8 (fun r2 u3 hr2 => ?_)
    refine j_ws (ws' := [(wa, .inl (y 3, 5, .inl wf)), MB mo ma (nI t1) (nI u3) (nI t3) i4 i5 i6 i7 i8 i42 i49 i51 i53 i54 i59 i61 i64 i66 (nI t67) i76 i78, (ma 0, .inl (y 0, 1600, .inl g0))]) rfl ?_
    obtain ⟨xh4, xh5, xh6⟩ := hr2
    rcases xh6 with rfl | ⟨xh7, e8⟩
    · refine j_callSi (pc := 11) C (c_M_isLetter l D y (-1)) kw_Model_217 ks_Model_isLetter ⟨by decide, by decide⟩ ⟨by decide, by decide⟩ (wr := [(wa, .inl (y 3, 5, .inl wf)), MB mo ma (nI t1) (nI u3) (nI t3) i4 i5 i6 i7 i8 i42 i49 i51 i53 i54 i59 i61 i64 i66 (nI t67) i76 i78, (ma 0, .inl (y 0, 1600, .inl g0))]) [] [0, 1, 2] rfl rfl (by decide) (by decide) (by decide) (As := [.int (-1)]) (rest := []) rfl (nb rfl) rfl d_Model_isHere_11 (fun r9 _ hr9 => ?_)
      have xh10 := hr9
      refine j_ws (ws' := [(wa, .inl (y 3, 5, .inl wf)), MB mo ma (nI t1) (nI u3) (nI t3) i4 i5 i6 i7 i8 i42 i49 i51 i53 i54 i59 i61 i64 i66 (nI t67) i76 i78, (ma 0, .inl (y 0, 1600, .inl g0))]) rfl ?_
      refine j_if_eq (pc := 14) C (tgt := 28) d_Model_isHere_14 (by decide) (fun c11 => ?_) (fun c11 => ?_)
      · refine j_iconst (pc := 28) C (v := 0) d_Model_isHere_28 (by decide) ?_
        exact j_iret (pc := 29) C hr (by decide) u3 ⟨(show t2 ≤ u3 by omega), (show u3 ≤ t3 by omega), (Or.inl rfl)⟩ [1, 2, 0] rfl (by decide) (by decide) (by decide) d_Model_isHere_29
      · refine j_aload_n (pc := 17) C d_Model_isHere_17 rfl 0 rfl ?_
        refine j_get (pc := 18) C gf_Model_207 1 rfl rfl d_Model_isHere_18 ?_
        refine j_aload_n (pc := 21) C d_Model_isHere_21 rfl 0 rfl ?_
        refine j_get (pc := 22) C gf_Model_221 1 rfl rfl d_Model_isHere_22 ?_
        refine j_icmp_ne (pc := 25) C (tgt := 30) d_Model_isHere_25 (by decide) (fun c12 => ?_) (fun c12 => ?_)
        · refine j_aload_n (pc := 30) C d_Model_isHere_30 rfl 0 rfl ?_
          refine j_get (pc := 31) C gf_Model_207 1 rfl rfl d_Model_isHere_31 ?_
          refine j_istore_n (pc := 34) C (lv' := [(2, .int (nI u3)), (0, .ref mo), (1, .ref wa)]) d_Model_isHere_34 rfl (by decide) rfl ?_
          refine j_loop (α := Nat) (fun a => t3 - a) (fun a => (a ≤ t3) ∧ (u3 ≤ a)) (fun a => [(wa, .inl (y 3, 5, .inl wf)), MB mo ma (nI t1) (nI u3) (nI t3) i4 i5 i6 i7 i8 i42 i49 i51 i53 i54 i59 i61 i64 i66 (nI t67) i76 i78, (ma 0, .inl (y 0, 1600, .inl g0))]) (fun a => [(2, .int (nI a)), (0, .ref mo), (1, .ref wa)]) (u3) rfl rfl ⟨xh5, (show u3 ≤ u3 by omega)⟩ ?_
          rintro kz hP31 ih32
          obtain ⟨hk__, hk2__⟩ := hP31
          have hk_ : kz ≤ t3 := hk__
          have hk2_ : u3 ≤ kz := hk2__
          refine j_ws (ws' := [(wa, .inl (y 3, 5, .inl wf)), MB mo ma (nI t1) (nI u3) (nI t3) i4 i5 i6 i7 i8 i42 i49 i51 i53 i54 i59 i61 i64 i66 (nI t67) i76 i78, (ma 0, .inl (y 0, 1600, .inl g0))]) rfl ?_
          refine j_lv (lv' := [(2, .int (nI kz)), (0, .ref mo), (1, .ref wa)]) rfl ?_
          refine j_iload_n (pc := 35) C d_Model_isHere_35 rfl 0 rfl ?_
          refine j_aload_n (pc := 36) C d_Model_isHere_36 rfl 1 rfl ?_
          refine j_get (pc := 37) C gf_Model_210 1 rfl rfl d_Model_isHere_37 ?_
          by_cases c33 : t3 ≤ kz
          · refine j_icmp_geT (pc := 40) C (tgt := 61) d_Model_isHere_40 (by decide) (show nI t3 ≤ nI kz from nI_le (by omega) (by omega)) ?_
            refine j_iload_n (pc := 61) C d_Model_isHere_61 rfl 0 rfl ?_
            refine j_aload_n (pc := 62) C d_Model_isHere_62 rfl 1 rfl ?_
            refine j_get (pc := 63) C gf_Model_207 1 rfl rfl d_Model_isHere_63 ?_
            refine j_isub (pc := 66) C (v := nI (kz - u3)) d_Model_isHere_66 (pk_sub (by omega)) ?_
            refine j_aload_n (pc := 67) C d_Model_isHere_67 rfl 2 rfl ?_
            refine j_alen (pc := 68) C 0 3 rfl rfl (v := 5) rfl d_Model_isHere_68 ?_
            by_cases c34 : (kz - u3) = 5
            · refine j_icmp_eqT (pc := 69) C (tgt := 74) d_Model_isHere_69 (by decide) (show nI (kz - u3) = nI 5 from (nI_eq (by omega) (by omega)).mpr (by omega)) ?_
              refine j_iconst (pc := 74) C (v := 0) d_Model_isHere_74 (by decide) ?_
              refine j_istore_n (pc := 75) C (lv' := [(3, .int 0), (2, .int (nI kz)), (0, .ref mo), (1, .ref wa)]) d_Model_isHere_75 rfl (by decide) rfl ?_
              refine j_loop (α := Nat) (fun a => 5 - a) (fun a => (a ≤ 5)) (fun a => [(wa, .inl (y 3, 5, .inl wf)), MB mo ma (nI t1) (nI u3) (nI t3) i4 i5 i6 i7 i8 i42 i49 i51 i53 i54 i59 i61 i64 i66 (nI t67) i76 i78, (ma 0, .inl (y 0, 1600, .inl g0))]) (fun a => [(3, .int (nI a)), (2, .int (nI kz)), (0, .ref mo), (1, .ref wa)]) (0) rfl rfl (show 0 ≤ 5 by omega) ?_
              rintro iz hP37 ih38
              have hi__ := hP37
              have hi_ : iz ≤ 5 := hi__
              refine j_ws (ws' := [(wa, .inl (y 3, 5, .inl wf)), MB mo ma (nI t1) (nI u3) (nI t3) i4 i5 i6 i7 i8 i42 i49 i51 i53 i54 i59 i61 i64 i66 (nI t67) i76 i78, (ma 0, .inl (y 0, 1600, .inl g0))]) rfl ?_
              refine j_lv (lv' := [(3, .int (nI iz)), (2, .int (nI kz)), (0, .ref mo), (1, .ref wa)]) rfl ?_
              refine j_iload_n (pc := 76) C d_Model_isHere_76 rfl 0 rfl ?_
              refine j_aload_n (pc := 77) C d_Model_isHere_77 rfl 3 rfl ?_
              refine j_alen (pc := 78) C 0 3 rfl rfl (v := 5) rfl d_Model_isHere_78 ?_
              by_cases c39 : 5 ≤ iz
              · refine j_icmp_geT (pc := 79) C (tgt := 107) d_Model_isHere_79 (by decide) (show nI 5 ≤ nI iz from nI_le (by omega) (by omega)) ?_
                refine j_iconst (pc := 107) C (v := 1) d_Model_isHere_107 (by decide) ?_
                exact j_iret (pc := 108) C hr (by decide) u3 ⟨(show t2 ≤ u3 by omega), (show u3 ≤ t3 by omega), (Or.inr ⟨rfl, show u3 + 5 ≤ t3 by omega⟩)⟩ [1, 2, 0] rfl (by decide) (by decide) (by decide) d_Model_isHere_108
              · refine j_icmp_geF (pc := 79) C (tgt := 107) d_Model_isHere_79 (by decide) (show ¬ nI 5 ≤ nI iz from nI_ge (by omega) (by omega)) ?_
                refine j_aload_n (pc := 82) C d_Model_isHere_82 rfl 2 rfl ?_
                refine j_get (pc := 83) C gf_Model_7 1 rfl rfl d_Model_isHere_83 ?_
                refine j_aload_n (pc := 86) C d_Model_isHere_86 rfl 2 rfl ?_
                refine j_get (pc := 87) C gf_Model_207 1 rfl rfl d_Model_isHere_87 ?_
                refine j_iload_n (pc := 90) C d_Model_isHere_90 rfl 0 rfl ?_
                refine j_iadd (pc := 91) C (v := nI (u3 + iz)) d_Model_isHere_91 (nI_add _ _) ?_
                refine j_iald (pc := 92) C 2 rfl (v := g0 (u3 + iz)) (vp_in_nI (by omega) (by decide)) (by rw [nI_clamp (by omega)]) d_Model_isHere_92 ?_
                refine j_aload_n (pc := 93) C d_Model_isHere_93 rfl 3 rfl ?_
                refine j_iload_n (pc := 94) C d_Model_isHere_94 rfl 0 rfl ?_
                refine j_cald (pc := 95) C 0 rfl (v := wf iz) (vp_in_nI (by omega) (by decide)) (by rw [nI_clamp (by omega)]) d_Model_isHere_95 ?_
                refine j_icmp_eq (pc := 96) C (tgt := 101) d_Model_isHere_96 (by decide) (fun c40 => ?_) (fun c40 => ?_)
                · refine j_iinc (pc := 101) C (v := nI (iz + 1)) (lv' := [(3, .int (nI (iz + 1))), (2, .int (nI kz)), (0, .ref mo), (1, .ref wa)]) d_Model_isHere_101 0 rfl (nI_add _ _) (by decide) rfl ?_
                  refine j_goto (pc := 104) C (tgt := 76) d_Model_isHere_104 (by decide) ?_
                  exact ih38 ((iz + 1)) (show (iz + 1) ≤ 5 by omega) (show 5 - (iz + 1) < 5 - iz by omega)
                · refine j_iconst (pc := 99) C (v := 0) d_Model_isHere_99 (by decide) ?_
                  exact j_iret (pc := 100) C hr (by decide) u3 ⟨(show t2 ≤ u3 by omega), (show u3 ≤ t3 by omega), (Or.inl rfl)⟩ [1, 2, 0] rfl (by decide) (by decide) (by decide) d_Model_isHere_100
            · refine j_icmp_eqF (pc := 69) C (tgt := 74) d_Model_isHere_69 (by decide) (show ¬ nI (kz - u3) = nI 5 from fun e => absurd ((nI_eq (by omega) (by omega)).mp e) (by omega)) ?_
              refine j_iconst (pc := 72) C (v := 0) d_Model_isHere_72 (by decide) ?_
              exact j_iret (pc := 73) C hr (by decide) u3 ⟨(show t2 ≤ u3 by omega), (show u3 ≤ t3 by omega), (Or.inl rfl)⟩ [1, 2, 0] rfl (by decide) (by decide) (by decide) d_Model_isHere_73
          · refine j_icmp_geF (pc := 40) C (tgt := 61) d_Model_isHere_40 (by decide) (show ¬ nI t3 ≤ nI kz from nI_ge (by omega) (by omega)) ?_
            refine j_aload_n (pc := 43) C d_Model_isHere_43 rfl 1 rfl ?_
            refine j_get (pc := 44) C gf_Model_7 1 rfl rfl d_Model_isHere_44 ?_
            refine j_iload_n (pc := 47) C d_Model_isHere_47 rfl 0 rfl ?_
            refine j_iald (pc := 48) C 2 rfl (v := g0 kz) (vp_in_nI (by omega) (by decide)) (by rw [nI_clamp (by omega)]) d_Model_isHere_48 ?_
            refine j_callSi (pc := 49) C (c_M_isLetter l D y (g0 kz)) kw_Model_217 ks_Model_isLetter ⟨by decide, by decide⟩ ⟨by decide, by decide⟩ (wr := [(wa, .inl (y 3, 5, .inl wf)), MB mo ma (nI t1) (nI u3) (nI t3) i4 i5 i6 i7 i8 i42 i49 i51 i53 i54 i59 i61 i64 i66 (nI t67) i76 i78, (ma 0, .inl (y 0, 1600, .inl g0))]) [] [0, 1, 2] rfl rfl (by decide) (by decide) (by decide) (As := [.int (g0 kz)]) (rest := []) rfl (nb rfl) rfl d_Model_isHere_49 (fun r41 _ hr41 => ?_)
            have xh42 := hr41
            refine j_ws (ws' := [(wa, .inl (y 3, 5, .inl wf)), MB mo ma (nI t1) (nI u3) (nI t3) i4 i5 i6 i7 i8 i42 i49 i51 i53 i54 i59 i61 i64 i66 (nI t67) i76 i78, (ma 0, .inl (y 0, 1600, .inl g0))]) rfl ?_
            refine j_if_eq (pc := 52) C (tgt := 61) d_Model_isHere_52 (by decide) (fun c43 => ?_) (fun c43 => ?_)
            · refine j_iload_n (pc := 61) C d_Model_isHere_61 rfl 0 rfl ?_
              refine j_aload_n (pc := 62) C d_Model_isHere_62 rfl 1 rfl ?_
              refine j_get (pc := 63) C gf_Model_207 1 rfl rfl d_Model_isHere_63 ?_
              refine j_isub (pc := 66) C (v := nI (kz - u3)) d_Model_isHere_66 (pk_sub (by omega)) ?_
              refine j_aload_n (pc := 67) C d_Model_isHere_67 rfl 2 rfl ?_
              refine j_alen (pc := 68) C 0 3 rfl rfl (v := 5) rfl d_Model_isHere_68 ?_
              by_cases c44 : (kz - u3) = 5
              · refine j_icmp_eqT (pc := 69) C (tgt := 74) d_Model_isHere_69 (by decide) (show nI (kz - u3) = nI 5 from (nI_eq (by omega) (by omega)).mpr (by omega)) ?_
                refine j_iconst (pc := 74) C (v := 0) d_Model_isHere_74 (by decide) ?_
                refine j_istore_n (pc := 75) C (lv' := [(3, .int 0), (2, .int (nI kz)), (0, .ref mo), (1, .ref wa)]) d_Model_isHere_75 rfl (by decide) rfl ?_
                refine j_loop (α := Nat) (fun a => 5 - a) (fun a => (a ≤ 5)) (fun a => [(wa, .inl (y 3, 5, .inl wf)), MB mo ma (nI t1) (nI u3) (nI t3) i4 i5 i6 i7 i8 i42 i49 i51 i53 i54 i59 i61 i64 i66 (nI t67) i76 i78, (ma 0, .inl (y 0, 1600, .inl g0))]) (fun a => [(3, .int (nI a)), (2, .int (nI kz)), (0, .ref mo), (1, .ref wa)]) (0) rfl rfl (show 0 ≤ 5 by omega) ?_
                rintro iz hP47 ih48
                have hi__ := hP47
                have hi_ : iz ≤ 5 := hi__
                refine j_ws (ws' := [(wa, .inl (y 3, 5, .inl wf)), MB mo ma (nI t1) (nI u3) (nI t3) i4 i5 i6 i7 i8 i42 i49 i51 i53 i54 i59 i61 i64 i66 (nI t67) i76 i78, (ma 0, .inl (y 0, 1600, .inl g0))]) rfl ?_
                refine j_lv (lv' := [(3, .int (nI iz)), (2, .int (nI kz)), (0, .ref mo), (1, .ref wa)]) rfl ?_
                refine j_iload_n (pc := 76) C d_Model_isHere_76 rfl 0 rfl ?_
                refine j_aload_n (pc := 77) C d_Model_isHere_77 rfl 3 rfl ?_
                refine j_alen (pc := 78) C 0 3 rfl rfl (v := 5) rfl d_Model_isHere_78 ?_
                by_cases c49 : 5 ≤ iz
                · refine j_icmp_geT (pc := 79) C (tgt := 107) d_Model_isHere_79 (by decide) (show nI 5 ≤ nI iz from nI_le (by omega) (by omega)) ?_
                  refine j_iconst (pc := 107) C (v := 1) d_Model_isHere_107 (by decide) ?_
                  exact j_iret (pc := 108) C hr (by decide) u3 ⟨(show t2 ≤ u3 by omega), (show u3 ≤ t3 by omega), (Or.inr ⟨rfl, show u3 + 5 ≤ t3 by omega⟩)⟩ [1, 2, 0] rfl (by decide) (by decide) (by decide) d_Model_isHere_108
                · refine j_icmp_geF (pc := 79) C (tgt := 107) d_Model_isHere_79 (by decide) (show ¬ nI 5 ≤ nI iz from nI_ge (by omega) (by omega)) ?_
                  refine j_aload_n (pc := 82) C d_Model_isHere_82 rfl 2 rfl ?_
                  refine j_get (pc := 83) C gf_Model_7 1 rfl rfl d_Model_isHere_83 ?_
                  refine j_aload_n (pc := 86) C d_Model_isHere_86 rfl 2 rfl ?_
                  refine j_get (pc := 87) C gf_Model_207 1 rfl rfl d_Model_isHere_87 ?_
                  refine j_iload_n (pc := 90) C d_Model_isHere_90 rfl 0 rfl ?_
                  refine j_iadd (pc := 91) C (v := nI (u3 + iz)) d_Model_isHere_91 (nI_add _ _) ?_
                  refine j_iald (pc := 92) C 2 rfl (v := g0 (u3 + iz)) (vp_in_nI (by omega) (by decide)) (by rw [nI_clamp (by omega)]) d_Model_isHere_92 ?_
                  refine j_aload_n (pc := 93) C d_Model_isHere_93 rfl 3 rfl ?_
                  refine j_iload_n (pc := 94) C d_Model_isHere_94 rfl 0 rfl ?_
                  refine j_cald (pc := 95) C 0 rfl (v := wf iz) (vp_in_nI (by omega) (by decide)) (by rw [nI_clamp (by omega)]) d_Model_isHere_95 ?_
                  refine j_icmp_eq (pc := 96) C (tgt := 101) d_Model_isHere_96 (by decide) (fun c50 => ?_) (fun c50 => ?_)
                  · refine j_iinc (pc := 101) C (v := nI (iz + 1)) (lv' := [(3, .int (nI (iz + 1))), (2, .int (nI kz)), (0, .ref mo), (1, .ref wa)]) d_Model_isHere_101 0 rfl (nI_add _ _) (by decide) rfl ?_
                    refine j_goto (pc := 104) C (tgt := 76) d_Model_isHere_104 (by decide) ?_
                    exact ih48 ((iz + 1)) (show (iz + 1) ≤ 5 by omega) (show 5 - (iz + 1) < 5 - iz by omega)
                  · refine j_iconst (pc := 99) C (v := 0) d_Model_isHere_99 (by decide) ?_
                    exact j_iret (pc := 100) C hr (by decide) u3 ⟨(show t2 ≤ u3 by omega), (show u3 ≤ t3 by omega), (Or.inl rfl)⟩ [1, 2, 0] rfl (by decide) (by decide) (by decide) d_Model_isHere_100
              · refine j_icmp_eqF (pc := 69) C (tgt := 74) d_Model_isHere_69 (by decide) (show ¬ nI (kz - u3) = nI 5 from fun e => absurd ((nI_eq (by omega) (by omega)).mp e) (by omega)) ?_
                refine j_iconst (pc := 72) C (v := 0) d_Model_isHere_72 (by decide) ?_
                exact j_iret (pc := 73) C hr (by decide) u3 ⟨(show t2 ≤ u3 by omega), (show u3 ≤ t3 by omega), (Or.inl rfl)⟩ [1, 2, 0] rfl (by decide) (by decide) (by decide) d_Model_isHere_73
            · refine j_iinc (pc := 55) C (v := nI (kz + 1)) (lv' := [(2, .int (nI (kz + 1))), (0, .ref mo), (1, .ref wa)]) d_Model_isHere_55 0 rfl (nI_add _ _) (by decide) rfl ?_
              refine j_goto (pc := 58) C (tgt := 35) d_Model_isHere_58 (by decide) ?_
              exact ih32 ((kz + 1)) ⟨(show (kz + 1) ≤ t3 by omega), (show u3 ≤ (kz + 1) by omega)⟩ (show t3 - (kz + 1) < t3 - kz by omega)
        · refine j_iconst (pc := 28) C (v := 0) d_Model_isHere_28 (by decide) ?_
          exact j_iret (pc := 29) C hr (by decide) u3 ⟨(show t2 ≤ u3 by omega), (show u3 ≤ t3 by omega), (Or.inl rfl)⟩ [1, 2, 0] rfl (by decide) (by decide) (by decide) d_Model_isHere_29
    · refine j_callSi (pc := 11) C (c_M_isLetter l D y r2) kw_Model_217 ks_Model_isLetter ⟨by decide, by decide⟩ ⟨by decide, by decide⟩ (wr := [(wa, .inl (y 3, 5, .inl wf)), MB mo ma (nI t1) (nI u3) (nI t3) i4 i5 i6 i7 i8 i42 i49 i51 i53 i54 i59 i61 i64 i66 (nI t67) i76 i78, (ma 0, .inl (y 0, 1600, .inl g0))]) [] [0, 1, 2] rfl rfl (by decide) (by decide) (by decide) (As := [.int r2]) (rest := []) rfl (nb rfl) rfl d_Model_isHere_11 (fun r51 _ hr51 => ?_)
      have xh52 := hr51
      refine j_ws (ws' := [(wa, .inl (y 3, 5, .inl wf)), MB mo ma (nI t1) (nI u3) (nI t3) i4 i5 i6 i7 i8 i42 i49 i51 i53 i54 i59 i61 i64 i66 (nI t67) i76 i78, (ma 0, .inl (y 0, 1600, .inl g0))]) rfl ?_
      refine j_if_eq (pc := 14) C (tgt := 28) d_Model_isHere_14 (by decide) (fun c53 => ?_) (fun c53 => ?_)
      · refine j_iconst (pc := 28) C (v := 0) d_Model_isHere_28 (by decide) ?_
        exact j_iret (pc := 29) C hr (by decide) u3 ⟨(show t2 ≤ u3 by omega), (show u3 ≤ t3 by omega), (Or.inl rfl)⟩ [1, 2, 0] rfl (by decide) (by decide) (by decide) d_Model_isHere_29
      · refine j_aload_n (pc := 17) C d_Model_isHere_17 rfl 0 rfl ?_
        refine j_get (pc := 18) C gf_Model_207 1 rfl rfl d_Model_isHere_18 ?_
        refine j_aload_n (pc := 21) C d_Model_isHere_21 rfl 0 rfl ?_
        refine j_get (pc := 22) C gf_Model_221 1 rfl rfl d_Model_isHere_22 ?_
        refine j_icmp_ne (pc := 25) C (tgt := 30) d_Model_isHere_25 (by decide) (fun c54 => ?_) (fun c54 => ?_)
        · refine j_aload_n (pc := 30) C d_Model_isHere_30 rfl 0 rfl ?_
          refine j_get (pc := 31) C gf_Model_207 1 rfl rfl d_Model_isHere_31 ?_
          refine j_istore_n (pc := 34) C (lv' := [(2, .int (nI u3)), (0, .ref mo), (1, .ref wa)]) d_Model_isHere_34 rfl (by decide) rfl ?_
          refine j_loop (α := Nat) (fun a => t3 - a) (fun a => (a ≤ t3) ∧ (u3 ≤ a)) (fun a => [(wa, .inl (y 3, 5, .inl wf)), MB mo ma (nI t1) (nI u3) (nI t3) i4 i5 i6 i7 i8 i42 i49 i51 i53 i54 i59 i61 i64 i66 (nI t67) i76 i78, (ma 0, .inl (y 0, 1600, .inl g0))]) (fun a => [(2, .int (nI a)), (0, .ref mo), (1, .ref wa)]) (u3) rfl rfl ⟨xh5, (show u3 ≤ u3 by omega)⟩ ?_
          rintro kz hP73 ih74
          obtain ⟨hk__, hk2__⟩ := hP73
          have hk_ : kz ≤ t3 := hk__
          have hk2_ : u3 ≤ kz := hk2__
          refine j_ws (ws' := [(wa, .inl (y 3, 5, .inl wf)), MB mo ma (nI t1) (nI u3) (nI t3) i4 i5 i6 i7 i8 i42 i49 i51 i53 i54 i59 i61 i64 i66 (nI t67) i76 i78, (ma 0, .inl (y 0, 1600, .inl g0))]) rfl ?_
          refine j_lv (lv' := [(2, .int (nI kz)), (0, .ref mo), (1, .ref wa)]) rfl ?_
          refine j_iload_n (pc := 35) C d_Model_isHere_35 rfl 0 rfl ?_
          refine j_aload_n (pc := 36) C d_Model_isHere_36 rfl 1 rfl ?_
          refine j_get (pc := 37) C gf_Model_210 1 rfl rfl d_Model_isHere_37 ?_
          by_cases c75 : t3 ≤ kz
          · refine j_icmp_geT (pc := 40) C (tgt := 61) d_Model_isHere_40 (by decide) (show nI t3 ≤ nI kz from nI_le (by omega) (by omega)) ?_
            refine j_iload_n (pc := 61) C d_Model_isHere_61 rfl 0 rfl ?_
            refine j_aload_n (pc := 62) C d_Model_isHere_62 rfl 1 rfl ?_
            refine j_get (pc := 63) C gf_Model_207 1 rfl rfl d_Model_isHere_63 ?_
            refine j_isub (pc := 66) C (v := nI (kz - u3)) d_Model_isHere_66 (pk_sub (by omega)) ?_
            refine j_aload_n (pc := 67) C d_Model_isHere_67 rfl 2 rfl ?_
            refine j_alen (pc := 68) C 0 3 rfl rfl (v := 5) rfl d_Model_isHere_68 ?_
            by_cases c76 : (kz - u3) = 5
            · refine j_icmp_eqT (pc := 69) C (tgt := 74) d_Model_isHere_69 (by decide) (show nI (kz - u3) = nI 5 from (nI_eq (by omega) (by omega)).mpr (by omega)) ?_
              refine j_iconst (pc := 74) C (v := 0) d_Model_isHere_74 (by decide) ?_
              refine j_istore_n (pc := 75) C (lv' := [(3, .int 0), (2, .int (nI kz)), (0, .ref mo), (1, .ref wa)]) d_Model_isHere_75 rfl (by decide) rfl ?_
              refine j_loop (α := Nat) (fun a => 5 - a) (fun a => (a ≤ 5)) (fun a => [(wa, .inl (y 3, 5, .inl wf)), MB mo ma (nI t1) (nI u3) (nI t3) i4 i5 i6 i7 i8 i42 i49 i51 i53 i54 i59 i61 i64 i66 (nI t67) i76 i78, (ma 0, .inl (y 0, 1600, .inl g0))]) (fun a => [(3, .int (nI a)), (2, .int (nI kz)), (0, .ref mo), (1, .ref wa)]) (0) rfl rfl (show 0 ≤ 5 by omega) ?_
              rintro iz hP79 ih80
              have hi__ := hP79
              have hi_ : iz ≤ 5 := hi__
              refine j_ws (ws' := [(wa, .inl (y 3, 5, .inl wf)), MB mo ma (nI t1) (nI u3) (nI t3) i4 i5 i6 i7 i8 i42 i49 i51 i53 i54 i59 i61 i64 i66 (nI t67) i76 i78, (ma 0, .inl (y 0, 1600, .inl g0))]) rfl ?_
              refine j_lv (lv' := [(3, .int (nI iz)), (2, .int (nI kz)), (0, .ref mo), (1, .ref wa)]) rfl ?_
              refine j_iload_n (pc := 76) C d_Model_isHere_76 rfl 0 rfl ?_
              refine j_aload_n (pc := 77) C d_Model_isHere_77 rfl 3 rfl ?_
              refine j_alen (pc := 78) C 0 3 rfl rfl (v := 5) rfl d_Model_isHere_78 ?_
              by_cases c81 : 5 ≤ iz
              · refine j_icmp_geT (pc := 79) C (tgt := 107) d_Model_isHere_79 (by decide) (show nI 5 ≤ nI iz from nI_le (by omega) (by omega)) ?_
                refine j_iconst (pc := 107) C (v := 1) d_Model_isHere_107 (by decide) ?_
                exact j_iret (pc := 108) C hr (by decide) u3 ⟨(show t2 ≤ u3 by omega), (show u3 ≤ t3 by omega), (Or.inr ⟨rfl, show u3 + 5 ≤ t3 by omega⟩)⟩ [1, 2, 0] rfl (by decide) (by decide) (by decide) d_Model_isHere_108
              · refine j_icmp_geF (pc := 79) C (tgt := 107) d_Model_isHere_79 (by decide) (show ¬ nI 5 ≤ nI iz from nI_ge (by omega) (by omega)) ?_
                refine j_aload_n (pc := 82) C d_Model_isHere_82 rfl 2 rfl ?_
                refine j_get (pc := 83) C gf_Model_7 1 rfl rfl d_Model_isHere_83 ?_
                refine j_aload_n (pc := 86) C d_Model_isHere_86 rfl 2 rfl ?_
                refine j_get (pc := 87) C gf_Model_207 1 rfl rfl d_Model_isHere_87 ?_
                refine j_iload_n (pc := 90) C d_Model_isHere_90 rfl 0 rfl ?_
                refine j_iadd (pc := 91) C (v := nI (u3 + iz)) d_Model_isHere_91 (nI_add _ _) ?_
                refine j_iald (pc := 92) C 2 rfl (v := g0 (u3 + iz)) (vp_in_nI (by omega) (by decide)) (by rw [nI_clamp (by omega)]) d_Model_isHere_92 ?_
                refine j_aload_n (pc := 93) C d_Model_isHere_93 rfl 3 rfl ?_
                refine j_iload_n (pc := 94) C d_Model_isHere_94 rfl 0 rfl ?_
                refine j_cald (pc := 95) C 0 rfl (v := wf iz) (vp_in_nI (by omega) (by decide)) (by rw [nI_clamp (by omega)]) d_Model_isHere_95 ?_
                refine j_icmp_eq (pc := 96) C (tgt := 101) d_Model_isHere_96 (by decide) (fun c82 => ?_) (fun c82 => ?_)
                · refine j_iinc (pc := 101) C (v := nI (iz + 1)) (lv' := [(3, .int (nI (iz + 1))), (2, .int (nI kz)), (0, .ref mo), (1, .ref wa)]) d_Model_isHere_101 0 rfl (nI_add _ _) (by decide) rfl ?_
                  refine j_goto (pc := 104) C (tgt := 76) d_Model_isHere_104 (by decide) ?_
                  exact ih80 ((iz + 1)) (show (iz + 1) ≤ 5 by omega) (show 5 - (iz + 1) < 5 - iz by omega)
                · refine j_iconst (pc := 99) C (v := 0) d_Model_isHere_99 (by decide) ?_
                  exact j_iret (pc := 100) C hr (by decide) u3 ⟨(show t2 ≤ u3 by omega), (show u3 ≤ t3 by omega), (Or.inl rfl)⟩ [1, 2, 0] rfl (by decide) (by decide) (by decide) d_Model_isHere_100
            · refine j_icmp_eqF (pc := 69) C (tgt := 74) d_Model_isHere_69 (by decide) (show ¬ nI (kz - u3) = nI 5 from fun e => absurd ((nI_eq (by omega) (by omega)).mp e) (by omega)) ?_
              refine j_iconst (pc := 72) C (v := 0) d_Model_isHere_72 (by decide) ?_
              exact j_iret (pc := 73) C hr (by decide) u3 ⟨(show t2 ≤ u3 by omega), (show u3 ≤ t3 by omega), (Or.inl rfl)⟩ [1, 2, 0] rfl (by decide) (by decide) (by decide) d_Model_isHere_73
          · refine j_icmp_geF (pc := 40) C (tgt := 61) d_Model_isHere_40 (by decide) (show ¬ nI t3 ≤ nI kz from nI_ge (by omega) (by omega)) ?_
            refine j_aload_n (pc := 43) C d_Model_isHere_43 rfl 1 rfl ?_
            refine j_get (pc := 44) C gf_Model_7 1 rfl rfl d_Model_isHere_44 ?_
            refine j_iload_n (pc := 47) C d_Model_isHere_47 rfl 0 rfl ?_
            refine j_iald (pc := 48) C 2 rfl (v := g0 kz) (vp_in_nI (by omega) (by decide)) (by rw [nI_clamp (by omega)]) d_Model_isHere_48 ?_
            refine j_callSi (pc := 49) C (c_M_isLetter l D y (g0 kz)) kw_Model_217 ks_Model_isLetter ⟨by decide, by decide⟩ ⟨by decide, by decide⟩ (wr := [(wa, .inl (y 3, 5, .inl wf)), MB mo ma (nI t1) (nI u3) (nI t3) i4 i5 i6 i7 i8 i42 i49 i51 i53 i54 i59 i61 i64 i66 (nI t67) i76 i78, (ma 0, .inl (y 0, 1600, .inl g0))]) [] [0, 1, 2] rfl rfl (by decide) (by decide) (by decide) (As := [.int (g0 kz)]) (rest := []) rfl (nb rfl) rfl d_Model_isHere_49 (fun r83 _ hr83 => ?_)
            have xh84 := hr83
            refine j_ws (ws' := [(wa, .inl (y 3, 5, .inl wf)), MB mo ma (nI t1) (nI u3) (nI t3) i4 i5 i6 i7 i8 i42 i49 i51 i53 i54 i59 i61 i64 i66 (nI t67) i76 i78, (ma 0, .inl (y 0, 1600, .inl g0))]) rfl ?_
            refine j_if_eq (pc := 52) C (tgt := 61) d_Model_isHere_52 (by decide) (fun c85 => ?_) (fun c85 => ?_)
            · refine j_iload_n (pc := 61) C d_Model_isHere_61 rfl 0 rfl ?_
              refine j_aload_n (pc := 62) C d_Model_isHere_62 rfl 1 rfl ?_
              refine j_get (pc := 63) C gf_Model_207 1 rfl rfl d_Model_isHere_63 ?_
              refine j_isub (pc := 66) C (v := nI (kz - u3)) d_Model_isHere_66 (pk_sub (by omega)) ?_
              refine j_aload_n (pc := 67) C d_Model_isHere_67 rfl 2 rfl ?_
              refine j_alen (pc := 68) C 0 3 rfl rfl (v := 5) rfl d_Model_isHere_68 ?_
              by_cases c86 : (kz - u3) = 5
              · refine j_icmp_eqT (pc := 69) C (tgt := 74) d_Model_isHere_69 (by decide) (show nI (kz - u3) = nI 5 from (nI_eq (by omega) (by omega)).mpr (by omega)) ?_
                refine j_iconst (pc := 74) C (v := 0) d_Model_isHere_74 (by decide) ?_
                refine j_istore_n (pc := 75) C (lv' := [(3, .int 0), (2, .int (nI kz)), (0, .ref mo), (1, .ref wa)]) d_Model_isHere_75 rfl (by decide) rfl ?_
                refine j_loop (α := Nat) (fun a => 5 - a) (fun a => (a ≤ 5)) (fun a => [(wa, .inl (y 3, 5, .inl wf)), MB mo ma (nI t1) (nI u3) (nI t3) i4 i5 i6 i7 i8 i42 i49 i51 i53 i54 i59 i61 i64 i66 (nI t67) i76 i78, (ma 0, .inl (y 0, 1600, .inl g0))]) (fun a => [(3, .int (nI a)), (2, .int (nI kz)), (0, .ref mo), (1, .ref wa)]) (0) rfl rfl (show 0 ≤ 5 by omega) ?_
                rintro iz hP89 ih90
                have hi__ := hP89
                have hi_ : iz ≤ 5 := hi__
                refine j_ws (ws' := [(wa, .inl (y 3, 5, .inl wf)), MB mo ma (nI t1) (nI u3) (nI t3) i4 i5 i6 i7 i8 i42 i49 i51 i53 i54 i59 i61 i64 i66 (nI t67) i76 i78, (ma 0, .inl (y 0, 1600, .inl g0))]) rfl ?_
                refine j_lv (lv' := [(3, .int (nI iz)), (2, .int (nI kz)), (0, .ref mo), (1, .ref wa)]) rfl ?_
                refine j_iload_n (pc := 76) C d_Model_isHere_76 rfl 0 rfl ?_
                refine j_aload_n (pc := 77) C d_Model_isHere_77 rfl 3 rfl ?_
                refine j_alen (pc := 78) C 0 3 rfl rfl (v := 5) rfl d_Model_isHere_78 ?_
                by_cases c91 : 5 ≤ iz
                · refine j_icmp_geT (pc := 79) C (tgt := 107) d_Model_isHere_79 (by decide) (show nI 5 ≤ nI iz from nI_le (by omega) (by omega)) ?_
                  refine j_iconst (pc := 107) C (v := 1) d_Model_isHere_107 (by decide) ?_
                  exact j_iret (pc := 108) C hr (by decide) u3 ⟨(show t2 ≤ u3 by omega), (show u3 ≤ t3 by omega), (Or.inr ⟨rfl, show u3 + 5 ≤ t3 by omega⟩)⟩ [1, 2, 0] rfl (by decide) (by decide) (by decide) d_Model_isHere_108
                · refine j_icmp_geF (pc := 79) C (tgt := 107) d_Model_isHere_79 (by decide) (show ¬ nI 5 ≤ nI iz from nI_ge (by omega) (by omega)) ?_
                  refine j_aload_n (pc := 82) C d_Model_isHere_82 rfl 2 rfl ?_
                  refine j_get (pc := 83) C gf_Model_7 1 rfl rfl d_Model_isHere_83 ?_
                  refine j_aload_n (pc := 86) C d_Model_isHere_86 rfl 2 rfl ?_
                  refine j_get (pc := 87) C gf_Model_207 1 rfl rfl d_Model_isHere_87 ?_
                  refine j_iload_n (pc := 90) C d_Model_isHere_90 rfl 0 rfl ?_
                  refine j_iadd (pc := 91) C (v := nI (u3 + iz)) d_Model_isHere_91 (nI_add _ _) ?_
                  refine j_iald (pc := 92) C 2 rfl (v := g0 (u3 + iz)) (vp_in_nI (by omega) (by decide)) (by rw [nI_clamp (by omega)]) d_Model_isHere_92 ?_
                  refine j_aload_n (pc := 93) C d_Model_isHere_93 rfl 3 rfl ?_
                  refine j_iload_n (pc := 94) C d_Model_isHere_94 rfl 0 rfl ?_
                  refine j_cald (pc := 95) C 0 rfl (v := wf iz) (vp_in_nI (by omega) (by decide)) (by rw [nI_clamp (by omega)]) d_Model_isHere_95 ?_
                  refine j_icmp_eq (pc := 96) C (tgt := 101) d_Model_isHere_96 (by decide) (fun c92 => ?_) (fun c92 => ?_)
                  · refine j_iinc (pc := 101) C (v := nI (iz + 1)) (lv' := [(3, .int (nI (iz + 1))), (2, .int (nI kz)), (0, .ref mo), (1, .ref wa)]) d_Model_isHere_101 0 rfl (nI_add _ _) (by decide) rfl ?_
                    refine j_goto (pc := 104) C (tgt := 76) d_Model_isHere_104 (by decide) ?_
                    exact ih90 ((iz + 1)) (show (iz + 1) ≤ 5 by omega) (show 5 - (iz + 1) < 5 - iz by omega)
                  · refine j_iconst (pc := 99) C (v := 0) d_Model_isHere_99 (by decide) ?_
                    exact j_iret (pc := 100) C hr (by decide) u3 ⟨(show t2 ≤ u3 by omega), (show u3 ≤ t3 by omega), (Or.inl rfl)⟩ [1, 2, 0] rfl (by decide) (by decide) (by decide) d_Model_isHere_100
              · refine j_icmp_eqF (pc := 69) C (tgt := 74) d_Model_isHere_69 (by decide) (show ¬ nI (kz - u3) = nI 5 from fun e => absurd ((nI_eq (by omega) (by omega)).mp e) (by omega)) ?_
                refine j_iconst (pc := 72) C (v := 0) d_Model_isHere_72 (by decide) ?_
                exact j_iret (pc := 73) C hr (by decide) u3 ⟨(show t2 ≤ u3 by omega), (show u3 ≤ t3 by omega), (Or.inl rfl)⟩ [1, 2, 0] rfl (by decide) (by decide) (by decide) d_Model_isHere_73
            · refine j_iinc (pc := 55) C (v := nI (kz + 1)) (lv' := [(2, .int (nI (kz + 1))), (0, .ref mo), (1, .ref wa)]) d_Model_isHere_55 0 rfl (nI_add _ _) (by decide) rfl ?_
              refine j_goto (pc := 58) C (tgt := 35) d_Model_isHere_58 (by decide) ?_
              exact ih74 ((kz + 1)) ⟨(show (kz + 1) ≤ t3 by omega), (show u3 ≤ (kz + 1) by omega)⟩ (show t3 - (kz + 1) < t3 - kz by omega)
        · refine j_iconst (pc := 28) C (v := 0) d_Model_isHere_28 (by decide) ?_
          exact j_iret (pc := 29) C hr (by decide) u3 ⟨(show t2 ≤ u3 by omega), (show u3 ≤ t3 by omega), (Or.inl rfl)⟩ [1, 2, 0] rfl (by decide) (by decide) (by decide) d_Model_isHere_29
set_option maxHeartbeats 4000000 in
set_option maxRecDepth 100000 in
theorem c_M_takes_5 (l : Launch) (D : va_G) (y : Nat → ClassId) (mo : Nat) (wa : Nat) (ma : Nat → Nat) (t1 : Nat) (t2 : Nat) (t3 : Nat) (i4 : Int32) (i5 : Int32) (i6 : Int32) (i7 : Int32) (i8 : Int32) (i42 : Int32) (i49 : Int32) (i51 : Int32) (i53 : Int32) (i54 : Int32) (i59 : Int32) (i61 : Int32) (i64 : Int32) (i66 : Int32) (t67 : Nat) (i76 : Int64) (i78 : Int32) (g0 : Nat → Int32) (wf : Nat → Int32) (ha : t2 ≤ t3) (he : t3 ≤ 1600) : CT l D y ⟨"NineBoardsModel", "takes", "([C)Z"⟩ prog_13_method_10_code 2 (some .boolean) ({ frames := 2, cells := 0, slots := 0, locals := 43 } : Room) [.ref mo, .ref wa] [MB mo ma (nI t1) (nI t2) (nI t3) i4 i5 i6 i7 i8 i42 i49 i51 i53 i54 i59 i61 i64 i66 (nI t67) i76 i78, (ma 0, .inl (y 0, 1600, .inl g0)), (wa, .inl (y 3, 5, .inl wf))] (QI D [MB mo ma (nI t1) (nI t2) (nI t3) i4 i5 i6 i7 i8 i42 i49 i51 i53 i54 i59 i61 i64 i66 (nI t67) i76 i78, (ma 0, .inl (y 0, 1600, .inl g0)), (wa, .inl (y 3, 5, .inl wf))] (fun (r : Int32) (u : Nat × Int32) => t2 ≤ u.1 ∧ u.1 ≤ t3 ∧ (r = 0 ∨ (r = 1 ∧ t2 + 5 ≤ u.1))) (fun u => [MB mo ma (nI t1) (nI u.1) (nI t3) u.2 i5 i6 i7 i8 i42 i49 i51 i53 i54 i59 i61 i64 i66 (nI t67) i76 i78, (ma 0, .inl (y 0, 1600, .inl g0)), (wa, .inl (y 3, 5, .inl wf))])) := by
  refine CT.of (by decide) (nb rfl) ?_
  intro p e s m args below meth c C hr
  refine j_lv (lv' := [(0, .ref mo), (1, .ref wa)]) rfl ?_
  refine j_aload_n (pc := 0) C d_Model_takes_0 rfl 0 rfl ?_
  refine j_aload_n (pc := 1) C d_Model_takes_1 rfl 1 rfl ?_
  refine j_callVi (pc := 2) C (c_M_isHere_5 l D y mo wa ma t1 t2 t3 i4 i5 i6 i7 i8 i42 i49 i51 i53 i54 i59 i61 i64 i66 t67 i76 i78 g0 wf ha he) kw_Model_224 kv_Model_isHere 0 10 rfl rfl ⟨by decide, by decide⟩ ⟨by decide, by decide⟩ (wr := []) [0, 1, 2] [] rfl rfl (by decide) (by decide) (by decide) (As := [.ref wa]) (rest := []) rfl (nb rfl) rfl d_Model_takes_2 (fun r1 u2 hr1 => ?_)
  refine j_ws (ws' := [MB mo ma (nI t1) (nI u2) (nI t3) i4 i5 i6 i7 i8 i42 i49 i51 i53 i54 i59 i61 i64 i66 (nI t67) i76 i78, (ma 0, .inl (y 0, 1600, .inl g0)), (wa, .inl (y 3, 5, .inl wf))]) rfl ?_
  obtain ⟨xh3, xh4, xh5⟩ := hr1
  rcases xh5 with rfl | ⟨rfl, xh6⟩
  · refine j_if_neF (pc := 5) C (tgt := 10) d_Model_takes_5 (by decide) (by decide) ?_
    refine j_iconst (pc := 8) C (v := 0) d_Model_takes_8 (by decide) ?_
    exact j_iret (pc := 9) C hr (by decide) (u2, i4) ⟨(show t2 ≤ u2 by omega), (show u2 ≤ t3 by omega), (Or.inl rfl)⟩ [0, 1, 2] rfl (by decide) (by decide) (by decide) d_Model_takes_9
  · refine j_if_neT (pc := 5) C (tgt := 10) d_Model_takes_5 (by decide) (by decide) ?_
    refine j_aload_n (pc := 10) C d_Model_takes_10 rfl 0 rfl ?_
    refine j_dup (pc := 11) C d_Model_takes_11 rfl ?_
    refine j_get (pc := 12) C gf_Model_207 0 rfl rfl d_Model_takes_12 ?_
    refine j_aload_n (pc := 15) C d_Model_takes_15 rfl 1 rfl ?_
    refine j_alen (pc := 16) C 2 3 rfl rfl (v := 5) rfl d_Model_takes_16 ?_
    refine j_iadd (pc := 17) C (v := nI (u2 + 5)) d_Model_takes_17 (nI_add _ _) ?_
    refine j_put (pc := 18) C pf_Model_207 0 (ws' := [MB mo ma (nI t1) (nI (u2 + 5)) (nI t3) i4 i5 i6 i7 i8 i42 i49 i51 i53 i54 i59 i61 i64 i66 (nI t67) i76 i78, (ma 0, .inl (y 0, 1600, .inl g0)), (wa, .inl (y 3, 5, .inl wf))]) rfl rfl rfl (nl rfl) rfl d_Model_takes_18 ?_
    refine j_aload_n (pc := 21) C d_Model_takes_21 rfl 0 rfl ?_
    refine j_aload_n (pc := 22) C d_Model_takes_22 rfl 0 rfl ?_
    refine j_get (pc := 23) C gf_Model_207 0 rfl rfl d_Model_takes_23 ?_
    refine j_put (pc := 26) C pf_Model_221 0 (ws' := [MB mo ma (nI t1) (nI (u2 + 5)) (nI t3) (nI (u2 + 5)) i5 i6 i7 i8 i42 i49 i51 i53 i54 i59 i61 i64 i66 (nI t67) i76 i78, (ma 0, .inl (y 0, 1600, .inl g0)), (wa, .inl (y 3, 5, .inl wf))]) rfl rfl rfl (nl rfl) rfl d_Model_takes_26 ?_
    refine j_iconst (pc := 29) C (v := 1) d_Model_takes_29 (by decide) ?_
    exact j_iret (pc := 30) C hr (by decide) ((u2 + 5), nI (u2 + 5)) ⟨(show t2 ≤ (u2 + 5) by omega), (show (u2 + 5) ≤ t3 by omega), (Or.inr ⟨rfl, show t2 + 5 ≤ (u2 + 5) by omega⟩)⟩ [0, 1, 2] rfl (by decide) (by decide) (by decide) d_Model_takes_30
set_option maxHeartbeats 4000000 in
set_option maxRecDepth 100000 in
theorem c_M_asks_5 (l : Launch) (D : va_G) (y : Nat → ClassId) (mo : Nat) (wa : Nat) (ma : Nat → Nat) (t1 : Nat) (t2 : Nat) (t3 : Nat) (i4 : Int32) (i5 : Int32) (i6 : Int32) (i7 : Int32) (i8 : Int32) (i42 : Int32) (i49 : Int32) (i51 : Int32) (i53 : Int32) (i54 : Int32) (i59 : Int32) (i61 : Int32) (i64 : Int32) (i66 : Int32) (t67 : Nat) (i76 : Int64) (i78 : Int32) (g0 : Nat → Int32) (wf : Nat → Int32) (ha : t2 ≤ t3) (he : t3 ≤ 1600) : CT l D y ⟨"NineBoardsModel", "asks", "([C)V"⟩ prog_13_method_11_code 2 none ({ frames := 3, cells := 0, slots := 0, locals := 64 } : Room) [.ref mo, .ref wa] [MB mo ma (nI t1) (nI t2) (nI t3) i4 i5 i6 i7 i8 i42 i49 i51 i53 i54 i59 i61 i64 i66 (nI t67) i76 i78, (ma 0, .inl (y 0, 1600, .inl g0)), (wa, .inl (y 3, 5, .inl wf))] (QV D [MB mo ma (nI t1) (nI t2) (nI t3) i4 i5 i6 i7 i8 i42 i49 i51 i53 i54 i59 i61 i64 i66 (nI t67) i76 i78, (ma 0, .inl (y 0, 1600, .inl g0)), (wa, .inl (y 3, 5, .inl wf))] (fun (u : Nat × Int32 × Int32 × Int32) => t2 ≤ u.1 ∧ u.1 ≤ t3 ∧ (u.2.2.1 = 0 → i5 = 0 ∧ t2 + 5 ≤ u.1)) (fun u => [MB mo ma (nI t1) (nI u.1) (nI t3) u.2.1 u.2.2.1 u.2.2.2 i7 i8 i42 i49 i51 i53 i54 i59 i61 i64 i66 (nI t67) i76 i78, (ma 0, .inl (y 0, 1600, .inl g0)), (wa, .inl (y 3, 5, .inl wf))])) := by
  refine CT.of (by decide) (nb rfl) ?_
  intro p e s m args below meth c C hr
  refine j_lv (lv' := [(0, .ref mo), (1, .ref wa)]) rfl ?_
  refine j_aload_n (pc := 0) C d_Model_asks_0 rfl 0 rfl ?_
  refine j_get (pc := 1) C gf_Model_201 0 rfl rfl d_Model_asks_1 ?_
  refine j_if_ne (pc := 4) C (tgt := 24) d_Model_asks_4 (by decide) (fun c1 => ?_) (fun c1 => ?_)
  · exact j_vret (pc := 24) C hr (t2, i4, i5, i6) ⟨(show t2 ≤ t2 by omega), (show t2 ≤ t3 by omega), (fun e => absurd e c1)⟩ [0, 1, 2] rfl (by decide) (by decide) (by decide) d_Model_asks_24
  · refine j_aload_n (pc := 7) C d_Model_asks_7 rfl 0 rfl ?_
    refine j_aload_n (pc := 8) C d_Model_asks_8 rfl 1 rfl ?_
    refine j_callVi (pc := 9) C (c_M_takes_5 l D y mo wa ma t1 t2 t3 i4 i5 i6 i7 i8 i42 i49 i51 i53 i54 i59 i61 i64 i66 t67 i76 i78 g0 wf ha he) kw_Model_228 kv_Model_takes 0 10 rfl rfl ⟨by decide, by decide⟩ ⟨by decide, by decide⟩ (wr := []) [0, 1, 2] [] rfl rfl (by decide) (by decide) (by decide) (As := [.ref wa]) (rest := []) rfl (nb rfl) rfl d_Model_asks_9 (fun r2 u3 hr2 => ?_)
    refine j_ws (ws' := [MB mo ma (nI t1) (nI u3.1) (nI t3) u3.2 i5 i6 i7 i8 i42 i49 i51 i53 i54 i59 i61 i64 i66 (nI t67) i76 i78, (ma 0, .inl (y 0, 1600, .inl g0)), (wa, .inl (y 3, 5, .inl wf))]) rfl ?_
    obtain ⟨xh4, xh5, xh6⟩ := hr2
    rcases xh6 with rfl | ⟨rfl, xh7⟩
    · refine j_if_neF (pc := 12) C (tgt := 24) d_Model_asks_12 (by decide) (by decide) ?_
      refine j_aload_n (pc := 15) C d_Model_asks_15 rfl 0 rfl ?_
      refine j_iconst (pc := 16) C (v := 1) d_Model_asks_16 (by decide) ?_
      refine j_aload_n (pc := 17) C d_Model_asks_17 rfl 0 rfl ?_
      refine j_get (pc := 18) C gf_Model_207 0 rfl rfl d_Model_asks_18 ?_
      refine j_callVv (pc := 21) C (c_M_fail l D y mo ma t1 u3.1 t3 u3.2 i5 i6 i7 i8 i42 i49 i51 i53 i54 i59 i61 i64 i66 t67 i76 i78 1 (nI u3.1) (by decide)) kw_Model_230 kv_Model_fail 0 10 rfl rfl ⟨by decide, by decide⟩ ⟨by decide, by decide⟩ (wr := [(ma 0, .inl (y 0, 1600, .inl g0)), (wa, .inl (y 3, 5, .inl wf))]) [0] [1, 2] rfl rfl (by decide) (by decide) (by decide) (As := [.int 1, .int (nI u3.1)]) (rest := []) rfl (nb rfl) rfl d_Model_asks_21 (fun u8 hu9 => ?_)
      have xh10 := hu9
      refine j_ws (ws' := [(ma 0, .inl (y 0, 1600, .inl g0)), (wa, .inl (y 3, 5, .inl wf)), MB mo ma (nI t1) (nI u3.1) (nI t3) u3.2 u8.1 u8.2 i7 i8 i42 i49 i51 i53 i54 i59 i61 i64 i66 (nI t67) i76 i78]) rfl ?_
      exact j_vret (pc := 24) C hr (u3.1, u3.2, u8.1, u8.2) ⟨(show t2 ≤ u3.1 by omega), (show u3.1 ≤ t3 by omega), (fun e => absurd e xh10)⟩ [2, 0, 1] rfl (by decide) (by decide) (by decide) d_Model_asks_24
    · refine j_if_neT (pc := 12) C (tgt := 24) d_Model_asks_12 (by decide) (by decide) ?_
      exact j_vret (pc := 24) C hr (u3.1, u3.2, i5, i6) ⟨(show t2 ≤ u3.1 by omega), (show u3.1 ≤ t3 by omega), (fun e => by exact ⟨e, by omega⟩)⟩ [0, 1, 2] rfl (by decide) (by decide) (by decide) d_Model_asks_24
set_option maxHeartbeats 4000000 in
set_option maxRecDepth 100000 in
theorem c_M_isHere_6 (l : Launch) (D : va_G) (y : Nat → ClassId) (mo : Nat) (wa : Nat) (ma : Nat → Nat) (t1 : Nat) (t2 : Nat) (t3 : Nat) (i4 : Int32) (i5 : Int32) (i6 : Int32) (i7 : Int32) (i8 : Int32) (i42 : Int32) (i49 : Int32) (i51 : Int32) (i53 : Int32) (i54 : Int32) (i59 : Int32) (i61 : Int32) (i64 : Int32) (i66 : Int32) (t67 : Nat) (i76 : Int64) (i78 : Int32) (g0 : Nat → Int32) (wf : Nat → Int32) (ha : t2 ≤ t3) (he : t3 ≤ 1600) : CT l D y ⟨"NineBoardsModel", "isHere", "([C)Z"⟩ prog_13_method_9_code 4 (some .boolean) ({ frames := 1, cells := 0, slots := 0, locals := 20 } : Room) [.ref mo, .ref wa] [MB mo ma (nI t1) (nI t2) (nI t3) i4 i5 i6 i7 i8 i42 i49 i51 i53 i54 i59 i61 i64 i66 (nI t67) i76 i78, (ma 0, .inl (y 0, 1600, .inl g0)), (wa, .inl (y 3, 6, .inl wf))] (QI D [MB mo ma (nI t1) (nI t2) (nI t3) i4 i5 i6 i7 i8 i42 i49 i51 i53 i54 i59 i61 i64 i66 (nI t67) i76 i78, (ma 0, .inl (y 0, 1600, .inl g0)), (wa, .inl (y 3, 6, .inl wf))] (fun (r : Int32) (u : Nat) => t2 ≤ u ∧ u ≤ t3 ∧ (r = 0 ∨ (r = 1 ∧ u + 6 ≤ t3))) (fun u => [MB mo ma (nI t1) (nI u) (nI t3) i4 i5 i6 i7 i8 i42 i49 i51 i53 i54 i59 i61 i64 i66 (nI t67) i76 i78, (ma 0, .inl (y 0, 1600, .inl g0)), (wa, .inl (y 3, 6, .inl wf))])) := by
  refine CT.of (by decide) (nb rfl) ?_
  intro p e s m args below meth c C hr
  refine j_lv (lv' := [(0, .ref mo), (1, .ref wa)]) rfl ?_
  refine j_aload_n (pc := 0) C d_Model_isHere_0 rfl 0 rfl ?_
  refine j_get (pc := 1) C gf_Model_201 0 rfl rfl d_Model_isHere_1 ?_
  refine j_if_ne (pc := 4) C (tgt := 28) d_Model_isHere_4 (by decide) (fun c1 => ?_) (fun c1 => ?_)
  · refine j_iconst (pc := 28) C (v := 0) d_Model_isHere_28 (by decide) ?_
    exact j_iret (pc := 29) C hr (by decide) t2 ⟨(show t2 ≤ t2 by omega), (show t2 ≤ t3 by omega), (Or.inl rfl)⟩ [0, 1, 2] rfl (by decide) (by decide) (by decide) d_Model_isHere_29
  · refine j_aload_n (pc := 7) C d_Model_isHere_7 rfl 0 rfl ?_
    refine j_callVi (pc := 8) C (c_M_look l D y mo ma t1 t2 t3 i4 i5 i6 i7 i8 i42 i49 i51 i53 i54 i59 i61 i64 i66 t67 i76 i78 g0 ha he) kw_Model_213 kv_Model_look 0 10 rfl rfl ⟨by decide, by decide⟩ ⟨by decide, by decide⟩ (wr := [(wa, .inl (y 3, 6, .inl wf))]) [0, 1] [2] rfl rfl (by decide) (by decide) (by decide) (As := []) (rest := []) rfl (nb rfl) rfl d_Model_isHere_8 (fun r2 u3 hr2 => ?_)
    refine j_ws (ws' := [(wa, .inl (y 3, 6, .inl wf)), MB mo ma (nI t1) (nI u3) (nI t3) i4 i5 i6 i7 i8 i42 i49 i51 i53 i54 i59 i61 i64 i66 (nI t67) i76 i78, (ma 0, .inl (y 0, 1600, .inl g0))]) rfl ?_
    obtain ⟨xh4, xh5, xh6⟩ := hr2
    rcases xh6 with rfl | ⟨xh7, e8⟩
    · refine j_callSi (pc := 11) C (c_M_isLetter l D y (-1)) kw_Model_217 ks_Model_isLetter ⟨by decide, by decide⟩ ⟨by decide, by decide⟩ (wr := [(wa, .inl (y 3, 6, .inl wf)), MB mo ma (nI t1) (nI u3) (nI t3) i4 i5 i6 i7 i8 i42 i49 i51 i53 i54 i59 i61 i64 i66 (nI t67) i76 i78, (ma 0, .inl (y 0, 1600, .inl g0))]) [] [0, 1, 2] rfl rfl (by decide) (by decide) (by decide) (As := [.int (-1)]) (rest := []) rfl (nb rfl) rfl d_Model_isHere_11 (fun r9 _ hr9 => ?_)
      have xh10 := hr9
      refine j_ws (ws' := [(wa, .inl (y 3, 6, .inl wf)), MB mo ma (nI t1) (nI u3) (nI t3) i4 i5 i6 i7 i8 i42 i49 i51 i53 i54 i59 i61 i64 i66 (nI t67) i76 i78, (ma 0, .inl (y 0, 1600, .inl g0))]) rfl ?_
      refine j_if_eq (pc := 14) C (tgt := 28) d_Model_isHere_14 (by decide) (fun c11 => ?_) (fun c11 => ?_)
      · refine j_iconst (pc := 28) C (v := 0) d_Model_isHere_28 (by decide) ?_
        exact j_iret (pc := 29) C hr (by decide) u3 ⟨(show t2 ≤ u3 by omega), (show u3 ≤ t3 by omega), (Or.inl rfl)⟩ [1, 2, 0] rfl (by decide) (by decide) (by decide) d_Model_isHere_29
      · refine j_aload_n (pc := 17) C d_Model_isHere_17 rfl 0 rfl ?_
        refine j_get (pc := 18) C gf_Model_207 1 rfl rfl d_Model_isHere_18 ?_
        refine j_aload_n (pc := 21) C d_Model_isHere_21 rfl 0 rfl ?_
        refine j_get (pc := 22) C gf_Model_221 1 rfl rfl d_Model_isHere_22 ?_
        refine j_icmp_ne (pc := 25) C (tgt := 30) d_Model_isHere_25 (by decide) (fun c12 => ?_) (fun c12 => ?_)
        · refine j_aload_n (pc := 30) C d_Model_isHere_30 rfl 0 rfl ?_
          refine j_get (pc := 31) C gf_Model_207 1 rfl rfl d_Model_isHere_31 ?_
          refine j_istore_n (pc := 34) C (lv' := [(2, .int (nI u3)), (0, .ref mo), (1, .ref wa)]) d_Model_isHere_34 rfl (by decide) rfl ?_
          refine j_loop (α := Nat) (fun a => t3 - a) (fun a => (a ≤ t3) ∧ (u3 ≤ a)) (fun a => [(wa, .inl (y 3, 6, .inl wf)), MB mo ma (nI t1) (nI u3) (nI t3) i4 i5 i6 i7 i8 i42 i49 i51 i53 i54 i59 i61 i64 i66 (nI t67) i76 i78, (ma 0, .inl (y 0, 1600, .inl g0))]) (fun a => [(2, .int (nI a)), (0, .ref mo), (1, .ref wa)]) (u3) rfl rfl ⟨xh5, (show u3 ≤ u3 by omega)⟩ ?_
          rintro kz hP31 ih32
          obtain ⟨hk__, hk2__⟩ := hP31
          have hk_ : kz ≤ t3 := hk__
          have hk2_ : u3 ≤ kz := hk2__
          refine j_ws (ws' := [(wa, .inl (y 3, 6, .inl wf)), MB mo ma (nI t1) (nI u3) (nI t3) i4 i5 i6 i7 i8 i42 i49 i51 i53 i54 i59 i61 i64 i66 (nI t67) i76 i78, (ma 0, .inl (y 0, 1600, .inl g0))]) rfl ?_
          refine j_lv (lv' := [(2, .int (nI kz)), (0, .ref mo), (1, .ref wa)]) rfl ?_
          refine j_iload_n (pc := 35) C d_Model_isHere_35 rfl 0 rfl ?_
          refine j_aload_n (pc := 36) C d_Model_isHere_36 rfl 1 rfl ?_
          refine j_get (pc := 37) C gf_Model_210 1 rfl rfl d_Model_isHere_37 ?_
          by_cases c33 : t3 ≤ kz
          · refine j_icmp_geT (pc := 40) C (tgt := 61) d_Model_isHere_40 (by decide) (show nI t3 ≤ nI kz from nI_le (by omega) (by omega)) ?_
            refine j_iload_n (pc := 61) C d_Model_isHere_61 rfl 0 rfl ?_
            refine j_aload_n (pc := 62) C d_Model_isHere_62 rfl 1 rfl ?_
            refine j_get (pc := 63) C gf_Model_207 1 rfl rfl d_Model_isHere_63 ?_
            refine j_isub (pc := 66) C (v := nI (kz - u3)) d_Model_isHere_66 (pk_sub (by omega)) ?_
            refine j_aload_n (pc := 67) C d_Model_isHere_67 rfl 2 rfl ?_
            refine j_alen (pc := 68) C 0 3 rfl rfl (v := 6) rfl d_Model_isHere_68 ?_
            by_cases c34 : (kz - u3) = 6
            · refine j_icmp_eqT (pc := 69) C (tgt := 74) d_Model_isHere_69 (by decide) (show nI (kz - u3) = nI 6 from (nI_eq (by omega) (by omega)).mpr (by omega)) ?_
              refine j_iconst (pc := 74) C (v := 0) d_Model_isHere_74 (by decide) ?_
              refine j_istore_n (pc := 75) C (lv' := [(3, .int 0), (2, .int (nI kz)), (0, .ref mo), (1, .ref wa)]) d_Model_isHere_75 rfl (by decide) rfl ?_
              refine j_loop (α := Nat) (fun a => 6 - a) (fun a => (a ≤ 6)) (fun a => [(wa, .inl (y 3, 6, .inl wf)), MB mo ma (nI t1) (nI u3) (nI t3) i4 i5 i6 i7 i8 i42 i49 i51 i53 i54 i59 i61 i64 i66 (nI t67) i76 i78, (ma 0, .inl (y 0, 1600, .inl g0))]) (fun a => [(3, .int (nI a)), (2, .int (nI kz)), (0, .ref mo), (1, .ref wa)]) (0) rfl rfl (show 0 ≤ 6 by omega) ?_
              rintro iz hP37 ih38
              have hi__ := hP37
              have hi_ : iz ≤ 6 := hi__
              refine j_ws (ws' := [(wa, .inl (y 3, 6, .inl wf)), MB mo ma (nI t1) (nI u3) (nI t3) i4 i5 i6 i7 i8 i42 i49 i51 i53 i54 i59 i61 i64 i66 (nI t67) i76 i78, (ma 0, .inl (y 0, 1600, .inl g0))]) rfl ?_
              refine j_lv (lv' := [(3, .int (nI iz)), (2, .int (nI kz)), (0, .ref mo), (1, .ref wa)]) rfl ?_
              refine j_iload_n (pc := 76) C d_Model_isHere_76 rfl 0 rfl ?_
              refine j_aload_n (pc := 77) C d_Model_isHere_77 rfl 3 rfl ?_
              refine j_alen (pc := 78) C 0 3 rfl rfl (v := 6) rfl d_Model_isHere_78 ?_
              by_cases c39 : 6 ≤ iz
              · refine j_icmp_geT (pc := 79) C (tgt := 107) d_Model_isHere_79 (by decide) (show nI 6 ≤ nI iz from nI_le (by omega) (by omega)) ?_
                refine j_iconst (pc := 107) C (v := 1) d_Model_isHere_107 (by decide) ?_
                exact j_iret (pc := 108) C hr (by decide) u3 ⟨(show t2 ≤ u3 by omega), (show u3 ≤ t3 by omega), (Or.inr ⟨rfl, show u3 + 6 ≤ t3 by omega⟩)⟩ [1, 2, 0] rfl (by decide) (by decide) (by decide) d_Model_isHere_108
              · refine j_icmp_geF (pc := 79) C (tgt := 107) d_Model_isHere_79 (by decide) (show ¬ nI 6 ≤ nI iz from nI_ge (by omega) (by omega)) ?_
                refine j_aload_n (pc := 82) C d_Model_isHere_82 rfl 2 rfl ?_
                refine j_get (pc := 83) C gf_Model_7 1 rfl rfl d_Model_isHere_83 ?_
                refine j_aload_n (pc := 86) C d_Model_isHere_86 rfl 2 rfl ?_
                refine j_get (pc := 87) C gf_Model_207 1 rfl rfl d_Model_isHere_87 ?_
                refine j_iload_n (pc := 90) C d_Model_isHere_90 rfl 0 rfl ?_
                refine j_iadd (pc := 91) C (v := nI (u3 + iz)) d_Model_isHere_91 (nI_add _ _) ?_
                refine j_iald (pc := 92) C 2 rfl (v := g0 (u3 + iz)) (vp_in_nI (by omega) (by decide)) (by rw [nI_clamp (by omega)]) d_Model_isHere_92 ?_
                refine j_aload_n (pc := 93) C d_Model_isHere_93 rfl 3 rfl ?_
                refine j_iload_n (pc := 94) C d_Model_isHere_94 rfl 0 rfl ?_
                refine j_cald (pc := 95) C 0 rfl (v := wf iz) (vp_in_nI (by omega) (by decide)) (by rw [nI_clamp (by omega)]) d_Model_isHere_95 ?_
                refine j_icmp_eq (pc := 96) C (tgt := 101) d_Model_isHere_96 (by decide) (fun c40 => ?_) (fun c40 => ?_)
                · refine j_iinc (pc := 101) C (v := nI (iz + 1)) (lv' := [(3, .int (nI (iz + 1))), (2, .int (nI kz)), (0, .ref mo), (1, .ref wa)]) d_Model_isHere_101 0 rfl (nI_add _ _) (by decide) rfl ?_
                  refine j_goto (pc := 104) C (tgt := 76) d_Model_isHere_104 (by decide) ?_
                  exact ih38 ((iz + 1)) (show (iz + 1) ≤ 6 by omega) (show 6 - (iz + 1) < 6 - iz by omega)
                · refine j_iconst (pc := 99) C (v := 0) d_Model_isHere_99 (by decide) ?_
                  exact j_iret (pc := 100) C hr (by decide) u3 ⟨(show t2 ≤ u3 by omega), (show u3 ≤ t3 by omega), (Or.inl rfl)⟩ [1, 2, 0] rfl (by decide) (by decide) (by decide) d_Model_isHere_100
            · refine j_icmp_eqF (pc := 69) C (tgt := 74) d_Model_isHere_69 (by decide) (show ¬ nI (kz - u3) = nI 6 from fun e => absurd ((nI_eq (by omega) (by omega)).mp e) (by omega)) ?_
              refine j_iconst (pc := 72) C (v := 0) d_Model_isHere_72 (by decide) ?_
              exact j_iret (pc := 73) C hr (by decide) u3 ⟨(show t2 ≤ u3 by omega), (show u3 ≤ t3 by omega), (Or.inl rfl)⟩ [1, 2, 0] rfl (by decide) (by decide) (by decide) d_Model_isHere_73
          · refine j_icmp_geF (pc := 40) C (tgt := 61) d_Model_isHere_40 (by decide) (show ¬ nI t3 ≤ nI kz from nI_ge (by omega) (by omega)) ?_
            refine j_aload_n (pc := 43) C d_Model_isHere_43 rfl 1 rfl ?_
            refine j_get (pc := 44) C gf_Model_7 1 rfl rfl d_Model_isHere_44 ?_
            refine j_iload_n (pc := 47) C d_Model_isHere_47 rfl 0 rfl ?_
            refine j_iald (pc := 48) C 2 rfl (v := g0 kz) (vp_in_nI (by omega) (by decide)) (by rw [nI_clamp (by omega)]) d_Model_isHere_48 ?_
            refine j_callSi (pc := 49) C (c_M_isLetter l D y (g0 kz)) kw_Model_217 ks_Model_isLetter ⟨by decide, by decide⟩ ⟨by decide, by decide⟩ (wr := [(wa, .inl (y 3, 6, .inl wf)), MB mo ma (nI t1) (nI u3) (nI t3) i4 i5 i6 i7 i8 i42 i49 i51 i53 i54 i59 i61 i64 i66 (nI t67) i76 i78, (ma 0, .inl (y 0, 1600, .inl g0))]) [] [0, 1, 2] rfl rfl (by decide) (by decide) (by decide) (As := [.int (g0 kz)]) (rest := []) rfl (nb rfl) rfl d_Model_isHere_49 (fun r41 _ hr41 => ?_)
            have xh42 := hr41
            refine j_ws (ws' := [(wa, .inl (y 3, 6, .inl wf)), MB mo ma (nI t1) (nI u3) (nI t3) i4 i5 i6 i7 i8 i42 i49 i51 i53 i54 i59 i61 i64 i66 (nI t67) i76 i78, (ma 0, .inl (y 0, 1600, .inl g0))]) rfl ?_
            refine j_if_eq (pc := 52) C (tgt := 61) d_Model_isHere_52 (by decide) (fun c43 => ?_) (fun c43 => ?_)
            · refine j_iload_n (pc := 61) C d_Model_isHere_61 rfl 0 rfl ?_
              refine j_aload_n (pc := 62) C d_Model_isHere_62 rfl 1 rfl ?_
              refine j_get (pc := 63) C gf_Model_207 1 rfl rfl d_Model_isHere_63 ?_
              refine j_isub (pc := 66) C (v := nI (kz - u3)) d_Model_isHere_66 (pk_sub (by omega)) ?_
              refine j_aload_n (pc := 67) C d_Model_isHere_67 rfl 2 rfl ?_
              refine j_alen (pc := 68) C 0 3 rfl rfl (v := 6) rfl d_Model_isHere_68 ?_
              by_cases c44 : (kz - u3) = 6
              · refine j_icmp_eqT (pc := 69) C (tgt := 74) d_Model_isHere_69 (by decide) (show nI (kz - u3) = nI 6 from (nI_eq (by omega) (by omega)).mpr (by omega)) ?_
                refine j_iconst (pc := 74) C (v := 0) d_Model_isHere_74 (by decide) ?_
                refine j_istore_n (pc := 75) C (lv' := [(3, .int 0), (2, .int (nI kz)), (0, .ref mo), (1, .ref wa)]) d_Model_isHere_75 rfl (by decide) rfl ?_
                refine j_loop (α := Nat) (fun a => 6 - a) (fun a => (a ≤ 6)) (fun a => [(wa, .inl (y 3, 6, .inl wf)), MB mo ma (nI t1) (nI u3) (nI t3) i4 i5 i6 i7 i8 i42 i49 i51 i53 i54 i59 i61 i64 i66 (nI t67) i76 i78, (ma 0, .inl (y 0, 1600, .inl g0))]) (fun a => [(3, .int (nI a)), (2, .int (nI kz)), (0, .ref mo), (1, .ref wa)]) (0) rfl rfl (show 0 ≤ 6 by omega) ?_
                rintro iz hP47 ih48
                have hi__ := hP47
                have hi_ : iz ≤ 6 := hi__
                refine j_ws (ws' := [(wa, .inl (y 3, 6, .inl wf)), MB mo ma (nI t1) (nI u3) (nI t3) i4 i5 i6 i7 i8 i42 i49 i51 i53 i54 i59 i61 i64 i66 (nI t67) i76 i78, (ma 0, .inl (y 0, 1600, .inl g0))]) rfl ?_
                refine j_lv (lv' := [(3, .int (nI iz)), (2, .int (nI kz)), (0, .ref mo), (1, .ref wa)]) rfl ?_
                refine j_iload_n (pc := 76) C d_Model_isHere_76 rfl 0 rfl ?_
                refine j_aload_n (pc := 77) C d_Model_isHere_77 rfl 3 rfl ?_
                refine j_alen (pc := 78) C 0 3 rfl rfl (v := 6) rfl d_Model_isHere_78 ?_
                by_cases c49 : 6 ≤ iz
                · refine j_icmp_geT (pc := 79) C (tgt := 107) d_Model_isHere_79 (by decide) (show nI 6 ≤ nI iz from nI_le (by omega) (by omega)) ?_
                  refine j_iconst (pc := 107) C (v := 1) d_Model_isHere_107 (by decide) ?_
                  exact j_iret (pc := 108) C hr (by decide) u3 ⟨(show t2 ≤ u3 by omega), (show u3 ≤ t3 by omega), (Or.inr ⟨rfl, show u3 + 6 ≤ t3 by omega⟩)⟩ [1, 2, 0] rfl (by decide) (by decide) (by decide) d_Model_isHere_108
                · refine j_icmp_geF (pc := 79) C (tgt := 107) d_Model_isHere_79 (by decide) (show ¬ nI 6 ≤ nI iz from nI_ge (by omega) (by omega)) ?_
                  refine j_aload_n (pc := 82) C d_Model_isHere_82 rfl 2 rfl ?_
                  refine j_get (pc := 83) C gf_Model_7 1 rfl rfl d_Model_isHere_83 ?_
                  refine j_aload_n (pc := 86) C d_Model_isHere_86 rfl 2 rfl ?_
                  refine j_get (pc := 87) C gf_Model_207 1 rfl rfl d_Model_isHere_87 ?_
                  refine j_iload_n (pc := 90) C d_Model_isHere_90 rfl 0 rfl ?_
                  refine j_iadd (pc := 91) C (v := nI (u3 + iz)) d_Model_isHere_91 (nI_add _ _) ?_
                  refine j_iald (pc := 92) C 2 rfl (v := g0 (u3 + iz)) (vp_in_nI (by omega) (by decide)) (by rw [nI_clamp (by omega)]) d_Model_isHere_92 ?_
                  refine j_aload_n (pc := 93) C d_Model_isHere_93 rfl 3 rfl ?_
                  refine j_iload_n (pc := 94) C d_Model_isHere_94 rfl 0 rfl ?_
                  refine j_cald (pc := 95) C 0 rfl (v := wf iz) (vp_in_nI (by omega) (by decide)) (by rw [nI_clamp (by omega)]) d_Model_isHere_95 ?_
                  refine j_icmp_eq (pc := 96) C (tgt := 101) d_Model_isHere_96 (by decide) (fun c50 => ?_) (fun c50 => ?_)
                  · refine j_iinc (pc := 101) C (v := nI (iz + 1)) (lv' := [(3, .int (nI (iz + 1))), (2, .int (nI kz)), (0, .ref mo), (1, .ref wa)]) d_Model_isHere_101 0 rfl (nI_add _ _) (by decide) rfl ?_
                    refine j_goto (pc := 104) C (tgt := 76) d_Model_isHere_104 (by decide) ?_
                    exact ih48 ((iz + 1)) (show (iz + 1) ≤ 6 by omega) (show 6 - (iz + 1) < 6 - iz by omega)
                  · refine j_iconst (pc := 99) C (v := 0) d_Model_isHere_99 (by decide) ?_
                    exact j_iret (pc := 100) C hr (by decide) u3 ⟨(show t2 ≤ u3 by omega), (show u3 ≤ t3 by omega), (Or.inl rfl)⟩ [1, 2, 0] rfl (by decide) (by decide) (by decide) d_Model_isHere_100
              · refine j_icmp_eqF (pc := 69) C (tgt := 74) d_Model_isHere_69 (by decide) (show ¬ nI (kz - u3) = nI 6 from fun e => absurd ((nI_eq (by omega) (by omega)).mp e) (by omega)) ?_
                refine j_iconst (pc := 72) C (v := 0) d_Model_isHere_72 (by decide) ?_
                exact j_iret (pc := 73) C hr (by decide) u3 ⟨(show t2 ≤ u3 by omega), (show u3 ≤ t3 by omega), (Or.inl rfl)⟩ [1, 2, 0] rfl (by decide) (by decide) (by decide) d_Model_isHere_73
            · refine j_iinc (pc := 55) C (v := nI (kz + 1)) (lv' := [(2, .int (nI (kz + 1))), (0, .ref mo), (1, .ref wa)]) d_Model_isHere_55 0 rfl (nI_add _ _) (by decide) rfl ?_
              refine j_goto (pc := 58) C (tgt := 35) d_Model_isHere_58 (by decide) ?_
              exact ih32 ((kz + 1)) ⟨(show (kz + 1) ≤ t3 by omega), (show u3 ≤ (kz + 1) by omega)⟩ (show t3 - (kz + 1) < t3 - kz by omega)
        · refine j_iconst (pc := 28) C (v := 0) d_Model_isHere_28 (by decide) ?_
          exact j_iret (pc := 29) C hr (by decide) u3 ⟨(show t2 ≤ u3 by omega), (show u3 ≤ t3 by omega), (Or.inl rfl)⟩ [1, 2, 0] rfl (by decide) (by decide) (by decide) d_Model_isHere_29
    · refine j_callSi (pc := 11) C (c_M_isLetter l D y r2) kw_Model_217 ks_Model_isLetter ⟨by decide, by decide⟩ ⟨by decide, by decide⟩ (wr := [(wa, .inl (y 3, 6, .inl wf)), MB mo ma (nI t1) (nI u3) (nI t3) i4 i5 i6 i7 i8 i42 i49 i51 i53 i54 i59 i61 i64 i66 (nI t67) i76 i78, (ma 0, .inl (y 0, 1600, .inl g0))]) [] [0, 1, 2] rfl rfl (by decide) (by decide) (by decide) (As := [.int r2]) (rest := []) rfl (nb rfl) rfl d_Model_isHere_11 (fun r51 _ hr51 => ?_)
      have xh52 := hr51
      refine j_ws (ws' := [(wa, .inl (y 3, 6, .inl wf)), MB mo ma (nI t1) (nI u3) (nI t3) i4 i5 i6 i7 i8 i42 i49 i51 i53 i54 i59 i61 i64 i66 (nI t67) i76 i78, (ma 0, .inl (y 0, 1600, .inl g0))]) rfl ?_
      refine j_if_eq (pc := 14) C (tgt := 28) d_Model_isHere_14 (by decide) (fun c53 => ?_) (fun c53 => ?_)
      · refine j_iconst (pc := 28) C (v := 0) d_Model_isHere_28 (by decide) ?_
        exact j_iret (pc := 29) C hr (by decide) u3 ⟨(show t2 ≤ u3 by omega), (show u3 ≤ t3 by omega), (Or.inl rfl)⟩ [1, 2, 0] rfl (by decide) (by decide) (by decide) d_Model_isHere_29
      · refine j_aload_n (pc := 17) C d_Model_isHere_17 rfl 0 rfl ?_
        refine j_get (pc := 18) C gf_Model_207 1 rfl rfl d_Model_isHere_18 ?_
        refine j_aload_n (pc := 21) C d_Model_isHere_21 rfl 0 rfl ?_
        refine j_get (pc := 22) C gf_Model_221 1 rfl rfl d_Model_isHere_22 ?_
        refine j_icmp_ne (pc := 25) C (tgt := 30) d_Model_isHere_25 (by decide) (fun c54 => ?_) (fun c54 => ?_)
        · refine j_aload_n (pc := 30) C d_Model_isHere_30 rfl 0 rfl ?_
          refine j_get (pc := 31) C gf_Model_207 1 rfl rfl d_Model_isHere_31 ?_
          refine j_istore_n (pc := 34) C (lv' := [(2, .int (nI u3)), (0, .ref mo), (1, .ref wa)]) d_Model_isHere_34 rfl (by decide) rfl ?_
          refine j_loop (α := Nat) (fun a => t3 - a) (fun a => (a ≤ t3) ∧ (u3 ≤ a)) (fun a => [(wa, .inl (y 3, 6, .inl wf)), MB mo ma (nI t1) (nI u3) (nI t3) i4 i5 i6 i7 i8 i42 i49 i51 i53 i54 i59 i61 i64 i66 (nI t67) i76 i78, (ma 0, .inl (y 0, 1600, .inl g0))]) (fun a => [(2, .int (nI a)), (0, .ref mo), (1, .ref wa)]) (u3) rfl rfl ⟨xh5, (show u3 ≤ u3 by omega)⟩ ?_
          rintro kz hP73 ih74
          obtain ⟨hk__, hk2__⟩ := hP73
          have hk_ : kz ≤ t3 := hk__
          have hk2_ : u3 ≤ kz := hk2__
          refine j_ws (ws' := [(wa, .inl (y 3, 6, .inl wf)), MB mo ma (nI t1) (nI u3) (nI t3) i4 i5 i6 i7 i8 i42 i49 i51 i53 i54 i59 i61 i64 i66 (nI t67) i76 i78, (ma 0, .inl (y 0, 1600, .inl g0))]) rfl ?_
          refine j_lv (lv' := [(2, .int (nI kz)), (0, .ref mo), (1, .ref wa)]) rfl ?_
          refine j_iload_n (pc := 35) C d_Model_isHere_35 rfl 0 rfl ?_
          refine j_aload_n (pc := 36) C d_Model_isHere_36 rfl 1 rfl ?_
          refine j_get (pc := 37) C gf_Model_210 1 rfl rfl d_Model_isHere_37 ?_
          by_cases c75 : t3 ≤ kz
          · refine j_icmp_geT (pc := 40) C (tgt := 61) d_Model_isHere_40 (by decide) (show nI t3 ≤ nI kz from nI_le (by omega) (by omega)) ?_
            refine j_iload_n (pc := 61) C d_Model_isHere_61 rfl 0 rfl ?_
            refine j_aload_n (pc := 62) C d_Model_isHere_62 rfl 1 rfl ?_
            refine j_get (pc := 63) C gf_Model_207 1 rfl rfl d_Model_isHere_63 ?_
            refine j_isub (pc := 66) C (v := nI (kz - u3)) d_Model_isHere_66 (pk_sub (by omega)) ?_
            refine j_aload_n (pc := 67) C d_Model_isHere_67 rfl 2 rfl ?_
            refine j_alen (pc := 68) C 0 3 rfl rfl (v := 6) rfl d_Model_isHere_68 ?_
            by_cases c76 : (kz - u3) = 6
            · refine j_icmp_eqT (pc := 69) C (tgt := 74) d_Model_isHere_69 (by decide) (show nI (kz - u3) = nI 6 from (nI_eq (by omega) (by omega)).mpr (by omega)) ?_
              refine j_iconst (pc := 74) C (v := 0) d_Model_isHere_74 (by decide) ?_
              refine j_istore_n (pc := 75) C (lv' := [(3, .int 0), (2, .int (nI kz)), (0, .ref mo), (1, .ref wa)]) d_Model_isHere_75 rfl (by decide) rfl ?_
              refine j_loop (α := Nat) (fun a => 6 - a) (fun a => (a ≤ 6)) (fun a => [(wa, .inl (y 3, 6, .inl wf)), MB mo ma (nI t1) (nI u3) (nI t3) i4 i5 i6 i7 i8 i42 i49 i51 i53 i54 i59 i61 i64 i66 (nI t67) i76 i78, (ma 0, .inl (y 0, 1600, .inl g0))]) (fun a => [(3, .int (nI a)), (2, .int (nI kz)), (0, .ref mo), (1, .ref wa)]) (0) rfl rfl (show 0 ≤ 6 by omega) ?_
              rintro iz hP79 ih80
              have hi__ := hP79
              have hi_ : iz ≤ 6 := hi__
              refine j_ws (ws' := [(wa, .inl (y 3, 6, .inl wf)), MB mo ma (nI t1) (nI u3) (nI t3) i4 i5 i6 i7 i8 i42 i49 i51 i53 i54 i59 i61 i64 i66 (nI t67) i76 i78, (ma 0, .inl (y 0, 1600, .inl g0))]) rfl ?_
              refine j_lv (lv' := [(3, .int (nI iz)), (2, .int (nI kz)), (0, .ref mo), (1, .ref wa)]) rfl ?_
              refine j_iload_n (pc := 76) C d_Model_isHere_76 rfl 0 rfl ?_
              refine j_aload_n (pc := 77) C d_Model_isHere_77 rfl 3 rfl ?_
              refine j_alen (pc := 78) C 0 3 rfl rfl (v := 6) rfl d_Model_isHere_78 ?_
              by_cases c81 : 6 ≤ iz
              · refine j_icmp_geT (pc := 79) C (tgt := 107) d_Model_isHere_79 (by decide) (show nI 6 ≤ nI iz from nI_le (by omega) (by omega)) ?_
                refine j_iconst (pc := 107) C (v := 1) d_Model_isHere_107 (by decide) ?_
                exact j_iret (pc := 108) C hr (by decide) u3 ⟨(show t2 ≤ u3 by omega), (show u3 ≤ t3 by omega), (Or.inr ⟨rfl, show u3 + 6 ≤ t3 by omega⟩)⟩ [1, 2, 0] rfl (by decide) (by decide) (by decide) d_Model_isHere_108
              · refine j_icmp_geF (pc := 79) C (tgt := 107) d_Model_isHere_79 (by decide) (show ¬ nI 6 ≤ nI iz from nI_ge (by omega) (by omega)) ?_
                refine j_aload_n (pc := 82) C d_Model_isHere_82 rfl 2 rfl ?_
                refine j_get (pc := 83) C gf_Model_7 1 rfl rfl d_Model_isHere_83 ?_
                refine j_aload_n (pc := 86) C d_Model_isHere_86 rfl 2 rfl ?_
                refine j_get (pc := 87) C gf_Model_207 1 rfl rfl d_Model_isHere_87 ?_
                refine j_iload_n (pc := 90) C d_Model_isHere_90 rfl 0 rfl ?_
                refine j_iadd (pc := 91) C (v := nI (u3 + iz)) d_Model_isHere_91 (nI_add _ _) ?_
                refine j_iald (pc := 92) C 2 rfl (v := g0 (u3 + iz)) (vp_in_nI (by omega) (by decide)) (by rw [nI_clamp (by omega)]) d_Model_isHere_92 ?_
                refine j_aload_n (pc := 93) C d_Model_isHere_93 rfl 3 rfl ?_
                refine j_iload_n (pc := 94) C d_Model_isHere_94 rfl 0 rfl ?_
                refine j_cald (pc := 95) C 0 rfl (v := wf iz) (vp_in_nI (by omega) (by decide)) (by rw [nI_clamp (by omega)]) d_Model_isHere_95 ?_
                refine j_icmp_eq (pc := 96) C (tgt := 101) d_Model_isHere_96 (by decide) (fun c82 => ?_) (fun c82 => ?_)
                · refine j_iinc (pc := 101) C (v := nI (iz + 1)) (lv' := [(3, .int (nI (iz + 1))), (2, .int (nI kz)), (0, .ref mo), (1, .ref wa)]) d_Model_isHere_101 0 rfl (nI_add _ _) (by decide) rfl ?_
                  refine j_goto (pc := 104) C (tgt := 76) d_Model_isHere_104 (by decide) ?_
                  exact ih80 ((iz + 1)) (show (iz + 1) ≤ 6 by omega) (show 6 - (iz + 1) < 6 - iz by omega)
                · refine j_iconst (pc := 99) C (v := 0) d_Model_isHere_99 (by decide) ?_
                  exact j_iret (pc := 100) C hr (by decide) u3 ⟨(show t2 ≤ u3 by omega), (show u3 ≤ t3 by omega), (Or.inl rfl)⟩ [1, 2, 0] rfl (by decide) (by decide) (by decide) d_Model_isHere_100
            · refine j_icmp_eqF (pc := 69) C (tgt := 74) d_Model_isHere_69 (by decide) (show ¬ nI (kz - u3) = nI 6 from fun e => absurd ((nI_eq (by omega) (by omega)).mp e) (by omega)) ?_
              refine j_iconst (pc := 72) C (v := 0) d_Model_isHere_72 (by decide) ?_
              exact j_iret (pc := 73) C hr (by decide) u3 ⟨(show t2 ≤ u3 by omega), (show u3 ≤ t3 by omega), (Or.inl rfl)⟩ [1, 2, 0] rfl (by decide) (by decide) (by decide) d_Model_isHere_73
          · refine j_icmp_geF (pc := 40) C (tgt := 61) d_Model_isHere_40 (by decide) (show ¬ nI t3 ≤ nI kz from nI_ge (by omega) (by omega)) ?_
            refine j_aload_n (pc := 43) C d_Model_isHere_43 rfl 1 rfl ?_
            refine j_get (pc := 44) C gf_Model_7 1 rfl rfl d_Model_isHere_44 ?_
            refine j_iload_n (pc := 47) C d_Model_isHere_47 rfl 0 rfl ?_
            refine j_iald (pc := 48) C 2 rfl (v := g0 kz) (vp_in_nI (by omega) (by decide)) (by rw [nI_clamp (by omega)]) d_Model_isHere_48 ?_
            refine j_callSi (pc := 49) C (c_M_isLetter l D y (g0 kz)) kw_Model_217 ks_Model_isLetter ⟨by decide, by decide⟩ ⟨by decide, by decide⟩ (wr := [(wa, .inl (y 3, 6, .inl wf)), MB mo ma (nI t1) (nI u3) (nI t3) i4 i5 i6 i7 i8 i42 i49 i51 i53 i54 i59 i61 i64 i66 (nI t67) i76 i78, (ma 0, .inl (y 0, 1600, .inl g0))]) [] [0, 1, 2] rfl rfl (by decide) (by decide) (by decide) (As := [.int (g0 kz)]) (rest := []) rfl (nb rfl) rfl d_Model_isHere_49 (fun r83 _ hr83 => ?_)
            have xh84 := hr83
            refine j_ws (ws' := [(wa, .inl (y 3, 6, .inl wf)), MB mo ma (nI t1) (nI u3) (nI t3) i4 i5 i6 i7 i8 i42 i49 i51 i53 i54 i59 i61 i64 i66 (nI t67) i76 i78, (ma 0, .inl (y 0, 1600, .inl g0))]) rfl ?_
            refine j_if_eq (pc := 52) C (tgt := 61) d_Model_isHere_52 (by decide) (fun c85 => ?_) (fun c85 => ?_)
            · refine j_iload_n (pc := 61) C d_Model_isHere_61 rfl 0 rfl ?_
              refine j_aload_n (pc := 62) C d_Model_isHere_62 rfl 1 rfl ?_
              refine j_get (pc := 63) C gf_Model_207 1 rfl rfl d_Model_isHere_63 ?_
              refine j_isub (pc := 66) C (v := nI (kz - u3)) d_Model_isHere_66 (pk_sub (by omega)) ?_
              refine j_aload_n (pc := 67) C d_Model_isHere_67 rfl 2 rfl ?_
              refine j_alen (pc := 68) C 0 3 rfl rfl (v := 6) rfl d_Model_isHere_68 ?_
              by_cases c86 : (kz - u3) = 6
              · refine j_icmp_eqT (pc := 69) C (tgt := 74) d_Model_isHere_69 (by decide) (show nI (kz - u3) = nI 6 from (nI_eq (by omega) (by omega)).mpr (by omega)) ?_
                refine j_iconst (pc := 74) C (v := 0) d_Model_isHere_74 (by decide) ?_
                refine j_istore_n (pc := 75) C (lv' := [(3, .int 0), (2, .int (nI kz)), (0, .ref mo), (1, .ref wa)]) d_Model_isHere_75 rfl (by decide) rfl ?_
                refine j_loop (α := Nat) (fun a => 6 - a) (fun a => (a ≤ 6)) (fun a => [(wa, .inl (y 3, 6, .inl wf)), MB mo ma (nI t1) (nI u3) (nI t3) i4 i5 i6 i7 i8 i42 i49 i51 i53 i54 i59 i61 i64 i66 (nI t67) i76 i78, (ma 0, .inl (y 0, 1600, .inl g0))]) (fun a => [(3, .int (nI a)), (2, .int (nI kz)), (0, .ref mo), (1, .ref wa)]) (0) rfl rfl (show 0 ≤ 6 by omega) ?_
                rintro iz hP89 ih90
                have hi__ := hP89
                have hi_ : iz ≤ 6 := hi__
                refine j_ws (ws' := [(wa, .inl (y 3, 6, .inl wf)), MB mo ma (nI t1) (nI u3) (nI t3) i4 i5 i6 i7 i8 i42 i49 i51 i53 i54 i59 i61 i64 i66 (nI t67) i76 i78, (ma 0, .inl (y 0, 1600, .inl g0))]) rfl ?_
                refine j_lv (lv' := [(3, .int (nI iz)), (2, .int (nI kz)), (0, .ref mo), (1, .ref wa)]) rfl ?_
                refine j_iload_n (pc := 76) C d_Model_isHere_76 rfl 0 rfl ?_
                refine j_aload_n (pc := 77) C d_Model_isHere_77 rfl 3 rfl ?_
                refine j_alen (pc := 78) C 0 3 rfl rfl (v := 6) rfl d_Model_isHere_78 ?_
                by_cases c91 : 6 ≤ iz
                · refine j_icmp_geT (pc := 79) C (tgt := 107) d_Model_isHere_79 (by decide) (show nI 6 ≤ nI iz from nI_le (by omega) (by omega)) ?_
                  refine j_iconst (pc := 107) C (v := 1) d_Model_isHere_107 (by decide) ?_
                  exact j_iret (pc := 108) C hr (by decide) u3 ⟨(show t2 ≤ u3 by omega), (show u3 ≤ t3 by omega), (Or.inr ⟨rfl, show u3 + 6 ≤ t3 by omega⟩)⟩ [1, 2, 0] rfl (by decide) (by decide) (by decide) d_Model_isHere_108
                · refine j_icmp_geF (pc := 79) C (tgt := 107) d_Model_isHere_79 (by decide) (show ¬ nI 6 ≤ nI iz from nI_ge (by omega) (by omega)) ?_
                  refine j_aload_n (pc := 82) C d_Model_isHere_82 rfl 2 rfl ?_
                  refine j_get (pc := 83) C gf_Model_7 1 rfl rfl d_Model_isHere_83 ?_
                  refine j_aload_n (pc := 86) C d_Model_isHere_86 rfl 2 rfl ?_
                  refine j_get (pc := 87) C gf_Model_207 1 rfl rfl d_Model_isHere_87 ?_
                  refine j_iload_n (pc := 90) C d_Model_isHere_90 rfl 0 rfl ?_
                  refine j_iadd (pc := 91) C (v := nI (u3 + iz)) d_Model_isHere_91 (nI_add _ _) ?_
                  refine j_iald (pc := 92) C 2 rfl (v := g0 (u3 + iz)) (vp_in_nI (by omega) (by decide)) (by rw [nI_clamp (by omega)]) d_Model_isHere_92 ?_
                  refine j_aload_n (pc := 93) C d_Model_isHere_93 rfl 3 rfl ?_
                  refine j_iload_n (pc := 94) C d_Model_isHere_94 rfl 0 rfl ?_
                  refine j_cald (pc := 95) C 0 rfl (v := wf iz) (vp_in_nI (by omega) (by decide)) (by rw [nI_clamp (by omega)]) d_Model_isHere_95 ?_
                  refine j_icmp_eq (pc := 96) C (tgt := 101) d_Model_isHere_96 (by decide) (fun c92 => ?_) (fun c92 => ?_)
                  · refine j_iinc (pc := 101) C (v := nI (iz + 1)) (lv' := [(3, .int (nI (iz + 1))), (2, .int (nI kz)), (0, .ref mo), (1, .ref wa)]) d_Model_isHere_101 0 rfl (nI_add _ _) (by decide) rfl ?_
                    refine j_goto (pc := 104) C (tgt := 76) d_Model_isHere_104 (by decide) ?_
                    exact ih90 ((iz + 1)) (show (iz + 1) ≤ 6 by omega) (show 6 - (iz + 1) < 6 - iz by omega)
                  · refine j_iconst (pc := 99) C (v := 0) d_Model_isHere_99 (by decide) ?_
                    exact j_iret (pc := 100) C hr (by decide) u3 ⟨(show t2 ≤ u3 by omega), (show u3 ≤ t3 by omega), (Or.inl rfl)⟩ [1, 2, 0] rfl (by decide) (by decide) (by decide) d_Model_isHere_100
              · refine j_icmp_eqF (pc := 69) C (tgt := 74) d_Model_isHere_69 (by decide) (show ¬ nI (kz - u3) = nI 6 from fun e => absurd ((nI_eq (by omega) (by omega)).mp e) (by omega)) ?_
                refine j_iconst (pc := 72) C (v := 0) d_Model_isHere_72 (by decide) ?_
                exact j_iret (pc := 73) C hr (by decide) u3 ⟨(show t2 ≤ u3 by omega), (show u3 ≤ t3 by omega), (Or.inl rfl)⟩ [1, 2, 0] rfl (by decide) (by decide) (by decide) d_Model_isHere_73
            · refine j_iinc (pc := 55) C (v := nI (kz + 1)) (lv' := [(2, .int (nI (kz + 1))), (0, .ref mo), (1, .ref wa)]) d_Model_isHere_55 0 rfl (nI_add _ _) (by decide) rfl ?_
              refine j_goto (pc := 58) C (tgt := 35) d_Model_isHere_58 (by decide) ?_
              exact ih74 ((kz + 1)) ⟨(show (kz + 1) ≤ t3 by omega), (show u3 ≤ (kz + 1) by omega)⟩ (show t3 - (kz + 1) < t3 - kz by omega)
        · refine j_iconst (pc := 28) C (v := 0) d_Model_isHere_28 (by decide) ?_
          exact j_iret (pc := 29) C hr (by decide) u3 ⟨(show t2 ≤ u3 by omega), (show u3 ≤ t3 by omega), (Or.inl rfl)⟩ [1, 2, 0] rfl (by decide) (by decide) (by decide) d_Model_isHere_29
set_option maxHeartbeats 4000000 in
set_option maxRecDepth 100000 in
theorem c_M_takes_6 (l : Launch) (D : va_G) (y : Nat → ClassId) (mo : Nat) (wa : Nat) (ma : Nat → Nat) (t1 : Nat) (t2 : Nat) (t3 : Nat) (i4 : Int32) (i5 : Int32) (i6 : Int32) (i7 : Int32) (i8 : Int32) (i42 : Int32) (i49 : Int32) (i51 : Int32) (i53 : Int32) (i54 : Int32) (i59 : Int32) (i61 : Int32) (i64 : Int32) (i66 : Int32) (t67 : Nat) (i76 : Int64) (i78 : Int32) (g0 : Nat → Int32) (wf : Nat → Int32) (ha : t2 ≤ t3) (he : t3 ≤ 1600) : CT l D y ⟨"NineBoardsModel", "takes", "([C)Z"⟩ prog_13_method_10_code 2 (some .boolean) ({ frames := 2, cells := 0, slots := 0, locals := 43 } : Room) [.ref mo, .ref wa] [MB mo ma (nI t1) (nI t2) (nI t3) i4 i5 i6 i7 i8 i42 i49 i51 i53 i54 i59 i61 i64 i66 (nI t67) i76 i78, (ma 0, .inl (y 0, 1600, .inl g0)), (wa, .inl (y 3, 6, .inl wf))] (QI D [MB mo ma (nI t1) (nI t2) (nI t3) i4 i5 i6 i7 i8 i42 i49 i51 i53 i54 i59 i61 i64 i66 (nI t67) i76 i78, (ma 0, .inl (y 0, 1600, .inl g0)), (wa, .inl (y 3, 6, .inl wf))] (fun (r : Int32) (u : Nat × Int32) => t2 ≤ u.1 ∧ u.1 ≤ t3 ∧ (r = 0 ∨ (r = 1 ∧ t2 + 6 ≤ u.1))) (fun u => [MB mo ma (nI t1) (nI u.1) (nI t3) u.2 i5 i6 i7 i8 i42 i49 i51 i53 i54 i59 i61 i64 i66 (nI t67) i76 i78, (ma 0, .inl (y 0, 1600, .inl g0)), (wa, .inl (y 3, 6, .inl wf))])) := by
  refine CT.of (by decide) (nb rfl) ?_
  intro p e s m args below meth c C hr
  refine j_lv (lv' := [(0, .ref mo), (1, .ref wa)]) rfl ?_
  refine j_aload_n (pc := 0) C d_Model_takes_0 rfl 0 rfl ?_
  refine j_aload_n (pc := 1) C d_Model_takes_1 rfl 1 rfl ?_
  refine j_callVi (pc := 2) C (c_M_isHere_6 l D y mo wa ma t1 t2 t3 i4 i5 i6 i7 i8 i42 i49 i51 i53 i54 i59 i61 i64 i66 t67 i76 i78 g0 wf ha he) kw_Model_224 kv_Model_isHere 0 10 rfl rfl ⟨by decide, by decide⟩ ⟨by decide, by decide⟩ (wr := []) [0, 1, 2] [] rfl rfl (by decide) (by decide) (by decide) (As := [.ref wa]) (rest := []) rfl (nb rfl) rfl d_Model_takes_2 (fun r1 u2 hr1 => ?_)
  refine j_ws (ws' := [MB mo ma (nI t1) (nI u2) (nI t3) i4 i5 i6 i7 i8 i42 i49 i51 i53 i54 i59 i61 i64 i66 (nI t67) i76 i78, (ma 0, .inl (y 0, 1600, .inl g0)), (wa, .inl (y 3, 6, .inl wf))]) rfl ?_
  obtain ⟨xh3, xh4, xh5⟩ := hr1
  rcases xh5 with rfl | ⟨rfl, xh6⟩
  · refine j_if_neF (pc := 5) C (tgt := 10) d_Model_takes_5 (by decide) (by decide) ?_
    refine j_iconst (pc := 8) C (v := 0) d_Model_takes_8 (by decide) ?_
    exact j_iret (pc := 9) C hr (by decide) (u2, i4) ⟨(show t2 ≤ u2 by omega), (show u2 ≤ t3 by omega), (Or.inl rfl)⟩ [0, 1, 2] rfl (by decide) (by decide) (by decide) d_Model_takes_9
  · refine j_if_neT (pc := 5) C (tgt := 10) d_Model_takes_5 (by decide) (by decide) ?_
    refine j_aload_n (pc := 10) C d_Model_takes_10 rfl 0 rfl ?_
    refine j_dup (pc := 11) C d_Model_takes_11 rfl ?_
    refine j_get (pc := 12) C gf_Model_207 0 rfl rfl d_Model_takes_12 ?_
    refine j_aload_n (pc := 15) C d_Model_takes_15 rfl 1 rfl ?_
    refine j_alen (pc := 16) C 2 3 rfl rfl (v := 6) rfl d_Model_takes_16 ?_
    refine j_iadd (pc := 17) C (v := nI (u2 + 6)) d_Model_takes_17 (nI_add _ _) ?_
    refine j_put (pc := 18) C pf_Model_207 0 (ws' := [MB mo ma (nI t1) (nI (u2 + 6)) (nI t3) i4 i5 i6 i7 i8 i42 i49 i51 i53 i54 i59 i61 i64 i66 (nI t67) i76 i78, (ma 0, .inl (y 0, 1600, .inl g0)), (wa, .inl (y 3, 6, .inl wf))]) rfl rfl rfl (nl rfl) rfl d_Model_takes_18 ?_
    refine j_aload_n (pc := 21) C d_Model_takes_21 rfl 0 rfl ?_
    refine j_aload_n (pc := 22) C d_Model_takes_22 rfl 0 rfl ?_
    refine j_get (pc := 23) C gf_Model_207 0 rfl rfl d_Model_takes_23 ?_
    refine j_put (pc := 26) C pf_Model_221 0 (ws' := [MB mo ma (nI t1) (nI (u2 + 6)) (nI t3) (nI (u2 + 6)) i5 i6 i7 i8 i42 i49 i51 i53 i54 i59 i61 i64 i66 (nI t67) i76 i78, (ma 0, .inl (y 0, 1600, .inl g0)), (wa, .inl (y 3, 6, .inl wf))]) rfl rfl rfl (nl rfl) rfl d_Model_takes_26 ?_
    refine j_iconst (pc := 29) C (v := 1) d_Model_takes_29 (by decide) ?_
    exact j_iret (pc := 30) C hr (by decide) ((u2 + 6), nI (u2 + 6)) ⟨(show t2 ≤ (u2 + 6) by omega), (show (u2 + 6) ≤ t3 by omega), (Or.inr ⟨rfl, show t2 + 6 ≤ (u2 + 6) by omega⟩)⟩ [0, 1, 2] rfl (by decide) (by decide) (by decide) d_Model_takes_30
set_option maxHeartbeats 4000000 in
set_option maxRecDepth 100000 in
theorem c_M_asks_6 (l : Launch) (D : va_G) (y : Nat → ClassId) (mo : Nat) (wa : Nat) (ma : Nat → Nat) (t1 : Nat) (t2 : Nat) (t3 : Nat) (i4 : Int32) (i5 : Int32) (i6 : Int32) (i7 : Int32) (i8 : Int32) (i42 : Int32) (i49 : Int32) (i51 : Int32) (i53 : Int32) (i54 : Int32) (i59 : Int32) (i61 : Int32) (i64 : Int32) (i66 : Int32) (t67 : Nat) (i76 : Int64) (i78 : Int32) (g0 : Nat → Int32) (wf : Nat → Int32) (ha : t2 ≤ t3) (he : t3 ≤ 1600) : CT l D y ⟨"NineBoardsModel", "asks", "([C)V"⟩ prog_13_method_11_code 2 none ({ frames := 3, cells := 0, slots := 0, locals := 64 } : Room) [.ref mo, .ref wa] [MB mo ma (nI t1) (nI t2) (nI t3) i4 i5 i6 i7 i8 i42 i49 i51 i53 i54 i59 i61 i64 i66 (nI t67) i76 i78, (ma 0, .inl (y 0, 1600, .inl g0)), (wa, .inl (y 3, 6, .inl wf))] (QV D [MB mo ma (nI t1) (nI t2) (nI t3) i4 i5 i6 i7 i8 i42 i49 i51 i53 i54 i59 i61 i64 i66 (nI t67) i76 i78, (ma 0, .inl (y 0, 1600, .inl g0)), (wa, .inl (y 3, 6, .inl wf))] (fun (u : Nat × Int32 × Int32 × Int32) => t2 ≤ u.1 ∧ u.1 ≤ t3 ∧ (u.2.2.1 = 0 → i5 = 0 ∧ t2 + 6 ≤ u.1)) (fun u => [MB mo ma (nI t1) (nI u.1) (nI t3) u.2.1 u.2.2.1 u.2.2.2 i7 i8 i42 i49 i51 i53 i54 i59 i61 i64 i66 (nI t67) i76 i78, (ma 0, .inl (y 0, 1600, .inl g0)), (wa, .inl (y 3, 6, .inl wf))])) := by
  refine CT.of (by decide) (nb rfl) ?_
  intro p e s m args below meth c C hr
  refine j_lv (lv' := [(0, .ref mo), (1, .ref wa)]) rfl ?_
  refine j_aload_n (pc := 0) C d_Model_asks_0 rfl 0 rfl ?_
  refine j_get (pc := 1) C gf_Model_201 0 rfl rfl d_Model_asks_1 ?_
  refine j_if_ne (pc := 4) C (tgt := 24) d_Model_asks_4 (by decide) (fun c1 => ?_) (fun c1 => ?_)
  · exact j_vret (pc := 24) C hr (t2, i4, i5, i6) ⟨(show t2 ≤ t2 by omega), (show t2 ≤ t3 by omega), (fun e => absurd e c1)⟩ [0, 1, 2] rfl (by decide) (by decide) (by decide) d_Model_asks_24
  · refine j_aload_n (pc := 7) C d_Model_asks_7 rfl 0 rfl ?_
    refine j_aload_n (pc := 8) C d_Model_asks_8 rfl 1 rfl ?_
    refine j_callVi (pc := 9) C (c_M_takes_6 l D y mo wa ma t1 t2 t3 i4 i5 i6 i7 i8 i42 i49 i51 i53 i54 i59 i61 i64 i66 t67 i76 i78 g0 wf ha he) kw_Model_228 kv_Model_takes 0 10 rfl rfl ⟨by decide, by decide⟩ ⟨by decide, by decide⟩ (wr := []) [0, 1, 2] [] rfl rfl (by decide) (by decide) (by decide) (As := [.ref wa]) (rest := []) rfl (nb rfl) rfl d_Model_asks_9 (fun r2 u3 hr2 => ?_)
    refine j_ws (ws' := [MB mo ma (nI t1) (nI u3.1) (nI t3) u3.2 i5 i6 i7 i8 i42 i49 i51 i53 i54 i59 i61 i64 i66 (nI t67) i76 i78, (ma 0, .inl (y 0, 1600, .inl g0)), (wa, .inl (y 3, 6, .inl wf))]) rfl ?_
    obtain ⟨xh4, xh5, xh6⟩ := hr2
    rcases xh6 with rfl | ⟨rfl, xh7⟩
    · refine j_if_neF (pc := 12) C (tgt := 24) d_Model_asks_12 (by decide) (by decide) ?_
      refine j_aload_n (pc := 15) C d_Model_asks_15 rfl 0 rfl ?_
      refine j_iconst (pc := 16) C (v := 1) d_Model_asks_16 (by decide) ?_
      refine j_aload_n (pc := 17) C d_Model_asks_17 rfl 0 rfl ?_
      refine j_get (pc := 18) C gf_Model_207 0 rfl rfl d_Model_asks_18 ?_
      refine j_callVv (pc := 21) C (c_M_fail l D y mo ma t1 u3.1 t3 u3.2 i5 i6 i7 i8 i42 i49 i51 i53 i54 i59 i61 i64 i66 t67 i76 i78 1 (nI u3.1) (by decide)) kw_Model_230 kv_Model_fail 0 10 rfl rfl ⟨by decide, by decide⟩ ⟨by decide, by decide⟩ (wr := [(ma 0, .inl (y 0, 1600, .inl g0)), (wa, .inl (y 3, 6, .inl wf))]) [0] [1, 2] rfl rfl (by decide) (by decide) (by decide) (As := [.int 1, .int (nI u3.1)]) (rest := []) rfl (nb rfl) rfl d_Model_asks_21 (fun u8 hu9 => ?_)
      have xh10 := hu9
      refine j_ws (ws' := [(ma 0, .inl (y 0, 1600, .inl g0)), (wa, .inl (y 3, 6, .inl wf)), MB mo ma (nI t1) (nI u3.1) (nI t3) u3.2 u8.1 u8.2 i7 i8 i42 i49 i51 i53 i54 i59 i61 i64 i66 (nI t67) i76 i78]) rfl ?_
      exact j_vret (pc := 24) C hr (u3.1, u3.2, u8.1, u8.2) ⟨(show t2 ≤ u3.1 by omega), (show u3.1 ≤ t3 by omega), (fun e => absurd e xh10)⟩ [2, 0, 1] rfl (by decide) (by decide) (by decide) d_Model_asks_24
    · refine j_if_neT (pc := 12) C (tgt := 24) d_Model_asks_12 (by decide) (by decide) ?_
      exact j_vret (pc := 24) C hr (u3.1, u3.2, i5, i6) ⟨(show t2 ≤ u3.1 by omega), (show u3.1 ≤ t3 by omega), (fun e => by exact ⟨e, by omega⟩)⟩ [0, 1, 2] rfl (by decide) (by decide) (by decide) d_Model_asks_24
set_option maxHeartbeats 4000000 in
set_option maxRecDepth 100000 in
theorem c_M_isHere_7 (l : Launch) (D : va_G) (y : Nat → ClassId) (mo : Nat) (wa : Nat) (ma : Nat → Nat) (t1 : Nat) (t2 : Nat) (t3 : Nat) (i4 : Int32) (i5 : Int32) (i6 : Int32) (i7 : Int32) (i8 : Int32) (i42 : Int32) (i49 : Int32) (i51 : Int32) (i53 : Int32) (i54 : Int32) (i59 : Int32) (i61 : Int32) (i64 : Int32) (i66 : Int32) (t67 : Nat) (i76 : Int64) (i78 : Int32) (g0 : Nat → Int32) (wf : Nat → Int32) (ha : t2 ≤ t3) (he : t3 ≤ 1600) : CT l D y ⟨"NineBoardsModel", "isHere", "([C)Z"⟩ prog_13_method_9_code 4 (some .boolean) ({ frames := 1, cells := 0, slots := 0, locals := 20 } : Room) [.ref mo, .ref wa] [MB mo ma (nI t1) (nI t2) (nI t3) i4 i5 i6 i7 i8 i42 i49 i51 i53 i54 i59 i61 i64 i66 (nI t67) i76 i78, (ma 0, .inl (y 0, 1600, .inl g0)), (wa, .inl (y 3, 7, .inl wf))] (QI D [MB mo ma (nI t1) (nI t2) (nI t3) i4 i5 i6 i7 i8 i42 i49 i51 i53 i54 i59 i61 i64 i66 (nI t67) i76 i78, (ma 0, .inl (y 0, 1600, .inl g0)), (wa, .inl (y 3, 7, .inl wf))] (fun (r : Int32) (u : Nat) => t2 ≤ u ∧ u ≤ t3 ∧ (r = 0 ∨ (r = 1 ∧ u + 7 ≤ t3))) (fun u => [MB mo ma (nI t1) (nI u) (nI t3) i4 i5 i6 i7 i8 i42 i49 i51 i53 i54 i59 i61 i64 i66 (nI t67) i76 i78, (ma 0, .inl (y 0, 1600, .inl g0)), (wa, .inl (y 3, 7, .inl wf))])) := by
  refine CT.of (by decide) (nb rfl) ?_
  intro p e s m args below meth c C hr
  refine j_lv (lv' := [(0, .ref mo), (1, .ref wa)]) rfl ?_
  refine j_aload_n (pc := 0) C d_Model_isHere_0 rfl 0 rfl ?_
  refine j_get (pc := 1) C gf_Model_201 0 rfl rfl d_Model_isHere_1 ?_
  refine j_if_ne (pc := 4) C (tgt := 28) d_Model_isHere_4 (by decide) (fun c1 => ?_) (fun c1 => ?_)
  · refine j_iconst (pc := 28) C (v := 0) d_Model_isHere_28 (by decide) ?_
    exact j_iret (pc := 29) C hr (by decide) t2 ⟨(show t2 ≤ t2 by omega), (show t2 ≤ t3 by omega), (Or.inl rfl)⟩ [0, 1, 2] rfl (by decide) (by decide) (by decide) d_Model_isHere_29
  · refine j_aload_n (pc := 7) C d_Model_isHere_7 rfl 0 rfl ?_
    refine j_callVi (pc := 8) C (c_M_look l D y mo ma t1 t2 t3 i4 i5 i6 i7 i8 i42 i49 i51 i53 i54 i59 i61 i64 i66 t67 i76 i78 g0 ha he) kw_Model_213 kv_Model_look 0 10 rfl rfl ⟨by decide, by decide⟩ ⟨by decide, by decide⟩ (wr := [(wa, .inl (y 3, 7, .inl wf))]) [0, 1] [2] rfl rfl (by decide) (by decide) (by decide) (As := []) (rest := []) rfl (nb rfl) rfl d_Model_isHere_8 (fun r2 u3 hr2 => ?_)
    refine j_ws (ws' := [(wa, .inl (y 3, 7, .inl wf)), MB mo ma (nI t1) (nI u3) (nI t3) i4 i5 i6 i7 i8 i42 i49 i51 i53 i54 i59 i61 i64 i66 (nI t67) i76 i78, (ma 0, .inl (y 0, 1600, .inl g0))]) rfl ?_
    obtain ⟨xh4, xh5, xh6⟩ := hr2
    rcases xh6 with rfl | ⟨xh7, e8⟩
    · refine j_callSi (pc := 11) C (c_M_isLetter l D y (-1)) kw_Model_217 ks_Model_isLetter ⟨by decide, by decide⟩ ⟨by decide, by decide⟩ (wr := [(wa, .inl (y 3, 7, .inl wf)), MB mo ma (nI t1) (nI u3) (nI t3) i4 i5 i6 i7 i8 i42 i49 i51 i53 i54 i59 i61 i64 i66 (nI t67) i76 i78, (ma 0, .inl (y 0, 1600, .inl g0))]) [] [0, 1, 2] rfl rfl (by decide) (by decide) (by decide) (As := [.int (-1)]) (rest := []) rfl (nb rfl) rfl d_Model_isHere_11 (fun r9 _ hr9 => ?_)
      have xh10 := hr9
      refine j_ws (ws' := [(wa, .inl (y 3, 7, .inl wf)), MB mo ma (nI t1) (nI u3) (nI t3) i4 i5 i6 i7 i8 i42 i49 i51 i53 i54 i59 i61 i64 i66 (nI t67) i76 i78, (ma 0, .inl (y 0, 1600, .inl g0))]) rfl ?_
      refine j_if_eq (pc := 14) C (tgt := 28) d_Model_isHere_14 (by decide) (fun c11 => ?_) (fun c11 => ?_)
      · refine j_iconst (pc := 28) C (v := 0) d_Model_isHere_28 (by decide) ?_
        exact j_iret (pc := 29) C hr (by decide) u3 ⟨(show t2 ≤ u3 by omega), (show u3 ≤ t3 by omega), (Or.inl rfl)⟩ [1, 2, 0] rfl (by decide) (by decide) (by decide) d_Model_isHere_29
      · refine j_aload_n (pc := 17) C d_Model_isHere_17 rfl 0 rfl ?_
        refine j_get (pc := 18) C gf_Model_207 1 rfl rfl d_Model_isHere_18 ?_
        refine j_aload_n (pc := 21) C d_Model_isHere_21 rfl 0 rfl ?_
        refine j_get (pc := 22) C gf_Model_221 1 rfl rfl d_Model_isHere_22 ?_
        refine j_icmp_ne (pc := 25) C (tgt := 30) d_Model_isHere_25 (by decide) (fun c12 => ?_) (fun c12 => ?_)
        · refine j_aload_n (pc := 30) C d_Model_isHere_30 rfl 0 rfl ?_
          refine j_get (pc := 31) C gf_Model_207 1 rfl rfl d_Model_isHere_31 ?_
          refine j_istore_n (pc := 34) C (lv' := [(2, .int (nI u3)), (0, .ref mo), (1, .ref wa)]) d_Model_isHere_34 rfl (by decide) rfl ?_
          refine j_loop (α := Nat) (fun a => t3 - a) (fun a => (a ≤ t3) ∧ (u3 ≤ a)) (fun a => [(wa, .inl (y 3, 7, .inl wf)), MB mo ma (nI t1) (nI u3) (nI t3) i4 i5 i6 i7 i8 i42 i49 i51 i53 i54 i59 i61 i64 i66 (nI t67) i76 i78, (ma 0, .inl (y 0, 1600, .inl g0))]) (fun a => [(2, .int (nI a)), (0, .ref mo), (1, .ref wa)]) (u3) rfl rfl ⟨xh5, (show u3 ≤ u3 by omega)⟩ ?_
          rintro kz hP31 ih32
          obtain ⟨hk__, hk2__⟩ := hP31
          have hk_ : kz ≤ t3 := hk__
          have hk2_ : u3 ≤ kz := hk2__
          refine j_ws (ws' := [(wa, .inl (y 3, 7, .inl wf)), MB mo ma (nI t1) (nI u3) (nI t3) i4 i5 i6 i7 i8 i42 i49 i51 i53 i54 i59 i61 i64 i66 (nI t67) i76 i78, (ma 0, .inl (y 0, 1600, .inl g0))]) rfl ?_
          refine j_lv (lv' := [(2, .int (nI kz)), (0, .ref mo), (1, .ref wa)]) rfl ?_
          refine j_iload_n (pc := 35) C d_Model_isHere_35 rfl 0 rfl ?_
          refine j_aload_n (pc := 36) C d_Model_isHere_36 rfl 1 rfl ?_
          refine j_get (pc := 37) C gf_Model_210 1 rfl rfl d_Model_isHere_37 ?_
          by_cases c33 : t3 ≤ kz
          · refine j_icmp_geT (pc := 40) C (tgt := 61) d_Model_isHere_40 (by decide) (show nI t3 ≤ nI kz from nI_le (by omega) (by omega)) ?_
            refine j_iload_n (pc := 61) C d_Model_isHere_61 rfl 0 rfl ?_
            refine j_aload_n (pc := 62) C d_Model_isHere_62 rfl 1 rfl ?_
            refine j_get (pc := 63) C gf_Model_207 1 rfl rfl d_Model_isHere_63 ?_
            refine j_isub (pc := 66) C (v := nI (kz - u3)) d_Model_isHere_66 (pk_sub (by omega)) ?_
            refine j_aload_n (pc := 67) C d_Model_isHere_67 rfl 2 rfl ?_
            refine j_alen (pc := 68) C 0 3 rfl rfl (v := 7) rfl d_Model_isHere_68 ?_
            by_cases c34 : (kz - u3) = 7
            · refine j_icmp_eqT (pc := 69) C (tgt := 74) d_Model_isHere_69 (by decide) (show nI (kz - u3) = nI 7 from (nI_eq (by omega) (by omega)).mpr (by omega)) ?_
              refine j_iconst (pc := 74) C (v := 0) d_Model_isHere_74 (by decide) ?_
              refine j_istore_n (pc := 75) C (lv' := [(3, .int 0), (2, .int (nI kz)), (0, .ref mo), (1, .ref wa)]) d_Model_isHere_75 rfl (by decide) rfl ?_
              refine j_loop (α := Nat) (fun a => 7 - a) (fun a => (a ≤ 7)) (fun a => [(wa, .inl (y 3, 7, .inl wf)), MB mo ma (nI t1) (nI u3) (nI t3) i4 i5 i6 i7 i8 i42 i49 i51 i53 i54 i59 i61 i64 i66 (nI t67) i76 i78, (ma 0, .inl (y 0, 1600, .inl g0))]) (fun a => [(3, .int (nI a)), (2, .int (nI kz)), (0, .ref mo), (1, .ref wa)]) (0) rfl rfl (show 0 ≤ 7 by omega) ?_
              rintro iz hP37 ih38
              have hi__ := hP37
              have hi_ : iz ≤ 7 := hi__
              refine j_ws (ws' := [(wa, .inl (y 3, 7, .inl wf)), MB mo ma (nI t1) (nI u3) (nI t3) i4 i5 i6 i7 i8 i42 i49 i51 i53 i54 i59 i61 i64 i66 (nI t67) i76 i78, (ma 0, .inl (y 0, 1600, .inl g0))]) rfl ?_
              refine j_lv (lv' := [(3, .int (nI iz)), (2, .int (nI kz)), (0, .ref mo), (1, .ref wa)]) rfl ?_
              refine j_iload_n (pc := 76) C d_Model_isHere_76 rfl 0 rfl ?_
              refine j_aload_n (pc := 77) C d_Model_isHere_77 rfl 3 rfl ?_
              refine j_alen (pc := 78) C 0 3 rfl rfl (v := 7) rfl d_Model_isHere_78 ?_
              by_cases c39 : 7 ≤ iz
              · refine j_icmp_geT (pc := 79) C (tgt := 107) d_Model_isHere_79 (by decide) (show nI 7 ≤ nI iz from nI_le (by omega) (by omega)) ?_
                refine j_iconst (pc := 107) C (v := 1) d_Model_isHere_107 (by decide) ?_
                exact j_iret (pc := 108) C hr (by decide) u3 ⟨(show t2 ≤ u3 by omega), (show u3 ≤ t3 by omega), (Or.inr ⟨rfl, show u3 + 7 ≤ t3 by omega⟩)⟩ [1, 2, 0] rfl (by decide) (by decide) (by decide) d_Model_isHere_108
              · refine j_icmp_geF (pc := 79) C (tgt := 107) d_Model_isHere_79 (by decide) (show ¬ nI 7 ≤ nI iz from nI_ge (by omega) (by omega)) ?_
                refine j_aload_n (pc := 82) C d_Model_isHere_82 rfl 2 rfl ?_
                refine j_get (pc := 83) C gf_Model_7 1 rfl rfl d_Model_isHere_83 ?_
                refine j_aload_n (pc := 86) C d_Model_isHere_86 rfl 2 rfl ?_
                refine j_get (pc := 87) C gf_Model_207 1 rfl rfl d_Model_isHere_87 ?_
                refine j_iload_n (pc := 90) C d_Model_isHere_90 rfl 0 rfl ?_
                refine j_iadd (pc := 91) C (v := nI (u3 + iz)) d_Model_isHere_91 (nI_add _ _) ?_
                refine j_iald (pc := 92) C 2 rfl (v := g0 (u3 + iz)) (vp_in_nI (by omega) (by decide)) (by rw [nI_clamp (by omega)]) d_Model_isHere_92 ?_
                refine j_aload_n (pc := 93) C d_Model_isHere_93 rfl 3 rfl ?_
                refine j_iload_n (pc := 94) C d_Model_isHere_94 rfl 0 rfl ?_
                refine j_cald (pc := 95) C 0 rfl (v := wf iz) (vp_in_nI (by omega) (by decide)) (by rw [nI_clamp (by omega)]) d_Model_isHere_95 ?_
                refine j_icmp_eq (pc := 96) C (tgt := 101) d_Model_isHere_96 (by decide) (fun c40 => ?_) (fun c40 => ?_)
                · refine j_iinc (pc := 101) C (v := nI (iz + 1)) (lv' := [(3, .int (nI (iz + 1))), (2, .int (nI kz)), (0, .ref mo), (1, .ref wa)]) d_Model_isHere_101 0 rfl (nI_add _ _) (by decide) rfl ?_
                  refine j_goto (pc := 104) C (tgt := 76) d_Model_isHere_104 (by decide) ?_
                  exact ih38 ((iz + 1)) (show (iz + 1) ≤ 7 by omega) (show 7 - (iz + 1) < 7 - iz by omega)
                · refine j_iconst (pc := 99) C (v := 0) d_Model_isHere_99 (by decide) ?_
                  exact j_iret (pc := 100) C hr (by decide) u3 ⟨(show t2 ≤ u3 by omega), (show u3 ≤ t3 by omega), (Or.inl rfl)⟩ [1, 2, 0] rfl (by decide) (by decide) (by decide) d_Model_isHere_100
            · refine j_icmp_eqF (pc := 69) C (tgt := 74) d_Model_isHere_69 (by decide) (show ¬ nI (kz - u3) = nI 7 from fun e => absurd ((nI_eq (by omega) (by omega)).mp e) (by omega)) ?_
              refine j_iconst (pc := 72) C (v := 0) d_Model_isHere_72 (by decide) ?_
              exact j_iret (pc := 73) C hr (by decide) u3 ⟨(show t2 ≤ u3 by omega), (show u3 ≤ t3 by omega), (Or.inl rfl)⟩ [1, 2, 0] rfl (by decide) (by decide) (by decide) d_Model_isHere_73
          · refine j_icmp_geF (pc := 40) C (tgt := 61) d_Model_isHere_40 (by decide) (show ¬ nI t3 ≤ nI kz from nI_ge (by omega) (by omega)) ?_
            refine j_aload_n (pc := 43) C d_Model_isHere_43 rfl 1 rfl ?_
            refine j_get (pc := 44) C gf_Model_7 1 rfl rfl d_Model_isHere_44 ?_
            refine j_iload_n (pc := 47) C d_Model_isHere_47 rfl 0 rfl ?_
            refine j_iald (pc := 48) C 2 rfl (v := g0 kz) (vp_in_nI (by omega) (by decide)) (by rw [nI_clamp (by omega)]) d_Model_isHere_48 ?_
            refine j_callSi (pc := 49) C (c_M_isLetter l D y (g0 kz)) kw_Model_217 ks_Model_isLetter ⟨by decide, by decide⟩ ⟨by decide, by decide⟩ (wr := [(wa, .inl (y 3, 7, .inl wf)), MB mo ma (nI t1) (nI u3) (nI t3) i4 i5 i6 i7 i8 i42 i49 i51 i53 i54 i59 i61 i64 i66 (nI t67) i76 i78, (ma 0, .inl (y 0, 1600, .inl g0))]) [] [0, 1, 2] rfl rfl (by decide) (by decide) (by decide) (As := [.int (g0 kz)]) (rest := []) rfl (nb rfl) rfl d_Model_isHere_49 (fun r41 _ hr41 => ?_)
            have xh42 := hr41
            refine j_ws (ws' := [(wa, .inl (y 3, 7, .inl wf)), MB mo ma (nI t1) (nI u3) (nI t3) i4 i5 i6 i7 i8 i42 i49 i51 i53 i54 i59 i61 i64 i66 (nI t67) i76 i78, (ma 0, .inl (y 0, 1600, .inl g0))]) rfl ?_
            refine j_if_eq (pc := 52) C (tgt := 61) d_Model_isHere_52 (by decide) (fun c43 => ?_) (fun c43 => ?_)
            · refine j_iload_n (pc := 61) C d_Model_isHere_61 rfl 0 rfl ?_
              refine j_aload_n (pc := 62) C d_Model_isHere_62 rfl 1 rfl ?_
              refine j_get (pc := 63) C gf_Model_207 1 rfl rfl d_Model_isHere_63 ?_
              refine j_isub (pc := 66) C (v := nI (kz - u3)) d_Model_isHere_66 (pk_sub (by omega)) ?_
              refine j_aload_n (pc := 67) C d_Model_isHere_67 rfl 2 rfl ?_
              refine j_alen (pc := 68) C 0 3 rfl rfl (v := 7) rfl d_Model_isHere_68 ?_
              by_cases c44 : (kz - u3) = 7
              · refine j_icmp_eqT (pc := 69) C (tgt := 74) d_Model_isHere_69 (by decide) (show nI (kz - u3) = nI 7 from (nI_eq (by omega) (by omega)).mpr (by omega)) ?_
                refine j_iconst (pc := 74) C (v := 0) d_Model_isHere_74 (by decide) ?_
                refine j_istore_n (pc := 75) C (lv' := [(3, .int 0), (2, .int (nI kz)), (0, .ref mo), (1, .ref wa)]) d_Model_isHere_75 rfl (by decide) rfl ?_
                refine j_loop (α := Nat) (fun a => 7 - a) (fun a => (a ≤ 7)) (fun a => [(wa, .inl (y 3, 7, .inl wf)), MB mo ma (nI t1) (nI u3) (nI t3) i4 i5 i6 i7 i8 i42 i49 i51 i53 i54 i59 i61 i64 i66 (nI t67) i76 i78, (ma 0, .inl (y 0, 1600, .inl g0))]) (fun a => [(3, .int (nI a)), (2, .int (nI kz)), (0, .ref mo), (1, .ref wa)]) (0) rfl rfl (show 0 ≤ 7 by omega) ?_
                rintro iz hP47 ih48
                have hi__ := hP47
                have hi_ : iz ≤ 7 := hi__
                refine j_ws (ws' := [(wa, .inl (y 3, 7, .inl wf)), MB mo ma (nI t1) (nI u3) (nI t3) i4 i5 i6 i7 i8 i42 i49 i51 i53 i54 i59 i61 i64 i66 (nI t67) i76 i78, (ma 0, .inl (y 0, 1600, .inl g0))]) rfl ?_
                refine j_lv (lv' := [(3, .int (nI iz)), (2, .int (nI kz)), (0, .ref mo), (1, .ref wa)]) rfl ?_
                refine j_iload_n (pc := 76) C d_Model_isHere_76 rfl 0 rfl ?_
                refine j_aload_n (pc := 77) C d_Model_isHere_77 rfl 3 rfl ?_
                refine j_alen (pc := 78) C 0 3 rfl rfl (v := 7) rfl d_Model_isHere_78 ?_
                by_cases c49 : 7 ≤ iz
                · refine j_icmp_geT (pc := 79) C (tgt := 107) d_Model_isHere_79 (by decide) (show nI 7 ≤ nI iz from nI_le (by omega) (by omega)) ?_
                  refine j_iconst (pc := 107) C (v := 1) d_Model_isHere_107 (by decide) ?_
                  exact j_iret (pc := 108) C hr (by decide) u3 ⟨(show t2 ≤ u3 by omega), (show u3 ≤ t3 by omega), (Or.inr ⟨rfl, show u3 + 7 ≤ t3 by omega⟩)⟩ [1, 2, 0] rfl (by decide) (by decide) (by decide) d_Model_isHere_108
                · refine j_icmp_geF (pc := 79) C (tgt := 107) d_Model_isHere_79 (by decide) (show ¬ nI 7 ≤ nI iz from nI_ge (by omega) (by omega)) ?_
                  refine j_aload_n (pc := 82) C d_Model_isHere_82 rfl 2 rfl ?_
                  refine j_get (pc := 83) C gf_Model_7 1 rfl rfl d_Model_isHere_83 ?_
                  refine j_aload_n (pc := 86) C d_Model_isHere_86 rfl 2 rfl ?_
                  refine j_get (pc := 87) C gf_Model_207 1 rfl rfl d_Model_isHere_87 ?_
                  refine j_iload_n (pc := 90) C d_Model_isHere_90 rfl 0 rfl ?_
                  refine j_iadd (pc := 91) C (v := nI (u3 + iz)) d_Model_isHere_91 (nI_add _ _) ?_
                  refine j_iald (pc := 92) C 2 rfl (v := g0 (u3 + iz)) (vp_in_nI (by omega) (by decide)) (by rw [nI_clamp (by omega)]) d_Model_isHere_92 ?_
                  refine j_aload_n (pc := 93) C d_Model_isHere_93 rfl 3 rfl ?_
                  refine j_iload_n (pc := 94) C d_Model_isHere_94 rfl 0 rfl ?_
                  refine j_cald (pc := 95) C 0 rfl (v := wf iz) (vp_in_nI (by omega) (by decide)) (by rw [nI_clamp (by omega)]) d_Model_isHere_95 ?_
                  refine j_icmp_eq (pc := 96) C (tgt := 101) d_Model_isHere_96 (by decide) (fun c50 => ?_) (fun c50 => ?_)
                  · refine j_iinc (pc := 101) C (v := nI (iz + 1)) (lv' := [(3, .int (nI (iz + 1))), (2, .int (nI kz)), (0, .ref mo), (1, .ref wa)]) d_Model_isHere_101 0 rfl (nI_add _ _) (by decide) rfl ?_
                    refine j_goto (pc := 104) C (tgt := 76) d_Model_isHere_104 (by decide) ?_
                    exact ih48 ((iz + 1)) (show (iz + 1) ≤ 7 by omega) (show 7 - (iz + 1) < 7 - iz by omega)
                  · refine j_iconst (pc := 99) C (v := 0) d_Model_isHere_99 (by decide) ?_
                    exact j_iret (pc := 100) C hr (by decide) u3 ⟨(show t2 ≤ u3 by omega), (show u3 ≤ t3 by omega), (Or.inl rfl)⟩ [1, 2, 0] rfl (by decide) (by decide) (by decide) d_Model_isHere_100
              · refine j_icmp_eqF (pc := 69) C (tgt := 74) d_Model_isHere_69 (by decide) (show ¬ nI (kz - u3) = nI 7 from fun e => absurd ((nI_eq (by omega) (by omega)).mp e) (by omega)) ?_
                refine j_iconst (pc := 72) C (v := 0) d_Model_isHere_72 (by decide) ?_
                exact j_iret (pc := 73) C hr (by decide) u3 ⟨(show t2 ≤ u3 by omega), (show u3 ≤ t3 by omega), (Or.inl rfl)⟩ [1, 2, 0] rfl (by decide) (by decide) (by decide) d_Model_isHere_73
            · refine j_iinc (pc := 55) C (v := nI (kz + 1)) (lv' := [(2, .int (nI (kz + 1))), (0, .ref mo), (1, .ref wa)]) d_Model_isHere_55 0 rfl (nI_add _ _) (by decide) rfl ?_
              refine j_goto (pc := 58) C (tgt := 35) d_Model_isHere_58 (by decide) ?_
              exact ih32 ((kz + 1)) ⟨(show (kz + 1) ≤ t3 by omega), (show u3 ≤ (kz + 1) by omega)⟩ (show t3 - (kz + 1) < t3 - kz by omega)
        · refine j_iconst (pc := 28) C (v := 0) d_Model_isHere_28 (by decide) ?_
          exact j_iret (pc := 29) C hr (by decide) u3 ⟨(show t2 ≤ u3 by omega), (show u3 ≤ t3 by omega), (Or.inl rfl)⟩ [1, 2, 0] rfl (by decide) (by decide) (by decide) d_Model_isHere_29
    · refine j_callSi (pc := 11) C (c_M_isLetter l D y r2) kw_Model_217 ks_Model_isLetter ⟨by decide, by decide⟩ ⟨by decide, by decide⟩ (wr := [(wa, .inl (y 3, 7, .inl wf)), MB mo ma (nI t1) (nI u3) (nI t3) i4 i5 i6 i7 i8 i42 i49 i51 i53 i54 i59 i61 i64 i66 (nI t67) i76 i78, (ma 0, .inl (y 0, 1600, .inl g0))]) [] [0, 1, 2] rfl rfl (by decide) (by decide) (by decide) (As := [.int r2]) (rest := []) rfl (nb rfl) rfl d_Model_isHere_11 (fun r51 _ hr51 => ?_)
      have xh52 := hr51
      refine j_ws (ws' := [(wa, .inl (y 3, 7, .inl wf)), MB mo ma (nI t1) (nI u3) (nI t3) i4 i5 i6 i7 i8 i42 i49 i51 i53 i54 i59 i61 i64 i66 (nI t67) i76 i78, (ma 0, .inl (y 0, 1600, .inl g0))]) rfl ?_
      refine j_if_eq (pc := 14) C (tgt := 28) d_Model_isHere_14 (by decide) (fun c53 => ?_) (fun c53 => ?_)
      · refine j_iconst (pc := 28) C (v := 0) d_Model_isHere_28 (by decide) ?_
        exact j_iret (pc := 29) C hr (by decide) u3 ⟨(show t2 ≤ u3 by omega), (show u3 ≤ t3 by omega), (Or.inl rfl)⟩ [1, 2, 0] rfl (by decide) (by decide) (by decide) d_Model_isHere_29
      · refine j_aload_n (pc := 17) C d_Model_isHere_17 rfl 0 rfl ?_
        refine j_get (pc := 18) C gf_Model_207 1 rfl rfl d_Model_isHere_18 ?_
        refine j_aload_n (pc := 21) C d_Model_isHere_21 rfl 0 rfl ?_
        refine j_get (pc := 22) C gf_Model_221 1 rfl rfl d_Model_isHere_22 ?_
        refine j_icmp_ne (pc := 25) C (tgt := 30) d_Model_isHere_25 (by decide) (fun c54 => ?_) (fun c54 => ?_)
        · refine j_aload_n (pc := 30) C d_Model_isHere_30 rfl 0 rfl ?_
          refine j_get (pc := 31) C gf_Model_207 1 rfl rfl d_Model_isHere_31 ?_
          refine j_istore_n (pc := 34) C (lv' := [(2, .int (nI u3)), (0, .ref mo), (1, .ref wa)]) d_Model_isHere_34 rfl (by decide) rfl ?_
          refine j_loop (α := Nat) (fun a => t3 - a) (fun a => (a ≤ t3) ∧ (u3 ≤ a)) (fun a => [(wa, .inl (y 3, 7, .inl wf)), MB mo ma (nI t1) (nI u3) (nI t3) i4 i5 i6 i7 i8 i42 i49 i51 i53 i54 i59 i61 i64 i66 (nI t67) i76 i78, (ma 0, .inl (y 0, 1600, .inl g0))]) (fun a => [(2, .int (nI a)), (0, .ref mo), (1, .ref wa)]) (u3) rfl rfl ⟨xh5, (show u3 ≤ u3 by omega)⟩ ?_
          rintro kz hP73 ih74
          obtain ⟨hk__, hk2__⟩ := hP73
          have hk_ : kz ≤ t3 := hk__
          have hk2_ : u3 ≤ kz := hk2__
          refine j_ws (ws' := [(wa, .inl (y 3, 7, .inl wf)), MB mo ma (nI t1) (nI u3) (nI t3) i4 i5 i6 i7 i8 i42 i49 i51 i53 i54 i59 i61 i64 i66 (nI t67) i76 i78, (ma 0, .inl (y 0, 1600, .inl g0))]) rfl ?_
          refine j_lv (lv' := [(2, .int (nI kz)), (0, .ref mo), (1, .ref wa)]) rfl ?_
          refine j_iload_n (pc := 35) C d_Model_isHere_35 rfl 0 rfl ?_
          refine j_aload_n (pc := 36) C d_Model_isHere_36 rfl 1 rfl ?_
          refine j_get (pc := 37) C gf_Model_210 1 rfl rfl d_Model_isHere_37 ?_
          by_cases c75 : t3 ≤ kz
          · refine j_icmp_geT (pc := 40) C (tgt := 61) d_Model_isHere_40 (by decide) (show nI t3 ≤ nI kz from nI_le (by omega) (by omega)) ?_
            refine j_iload_n (pc := 61) C d_Model_isHere_61 rfl 0 rfl ?_
            refine j_aload_n (pc := 62) C d_Model_isHere_62 rfl 1 rfl ?_
            refine j_get (pc := 63) C gf_Model_207 1 rfl rfl d_Model_isHere_63 ?_
            refine j_isub (pc := 66) C (v := nI (kz - u3)) d_Model_isHere_66 (pk_sub (by omega)) ?_
            refine j_aload_n (pc := 67) C d_Model_isHere_67 rfl 2 rfl ?_
            refine j_alen (pc := 68) C 0 3 rfl rfl (v := 7) rfl d_Model_isHere_68 ?_
            by_cases c76 : (kz - u3) = 7
            · refine j_icmp_eqT (pc := 69) C (tgt := 74) d_Model_isHere_69 (by decide) (show nI (kz - u3) = nI 7 from (nI_eq (by omega) (by omega)).mpr (by omega)) ?_
              refine j_iconst (pc := 74) C (v := 0) d_Model_isHere_74 (by decide) ?_
              refine j_istore_n (pc := 75) C (lv' := [(3, .int 0), (2, .int (nI kz)), (0, .ref mo), (1, .ref wa)]) d_Model_isHere_75 rfl (by decide) rfl ?_
              refine j_loop (α := Nat) (fun a => 7 - a) (fun a => (a ≤ 7)) (fun a => [(wa, .inl (y 3, 7, .inl wf)), MB mo ma (nI t1) (nI u3) (nI t3) i4 i5 i6 i7 i8 i42 i49 i51 i53 i54 i59 i61 i64 i66 (nI t67) i76 i78, (ma 0, .inl (y 0, 1600, .inl g0))]) (fun a => [(3, .int (nI a)), (2, .int (nI kz)), (0, .ref mo), (1, .ref wa)]) (0) rfl rfl (show 0 ≤ 7 by omega) ?_
              rintro iz hP79 ih80
              have hi__ := hP79
              have hi_ : iz ≤ 7 := hi__
              refine j_ws (ws' := [(wa, .inl (y 3, 7, .inl wf)), MB mo ma (nI t1) (nI u3) (nI t3) i4 i5 i6 i7 i8 i42 i49 i51 i53 i54 i59 i61 i64 i66 (nI t67) i76 i78, (ma 0, .inl (y 0, 1600, .inl g0))]) rfl ?_
              refine j_lv (lv' := [(3, .int (nI iz)), (2, .int (nI kz)), (0, .ref mo), (1, .ref wa)]) rfl ?_
              refine j_iload_n (pc := 76) C d_Model_isHere_76 rfl 0 rfl ?_
              refine j_aload_n (pc := 77) C d_Model_isHere_77 rfl 3 rfl ?_
              refine j_alen (pc := 78) C 0 3 rfl rfl (v := 7) rfl d_Model_isHere_78 ?_
              by_cases c81 : 7 ≤ iz
              · refine j_icmp_geT (pc := 79) C (tgt := 107) d_Model_isHere_79 (by decide) (show nI 7 ≤ nI iz from nI_le (by omega) (by omega)) ?_
                refine j_iconst (pc := 107) C (v := 1) d_Model_isHere_107 (by decide) ?_
                exact j_iret (pc := 108) C hr (by decide) u3 ⟨(show t2 ≤ u3 by omega), (show u3 ≤ t3 by omega), (Or.inr ⟨rfl, show u3 + 7 ≤ t3 by omega⟩)⟩ [1, 2, 0] rfl (by decide) (by decide) (by decide) d_Model_isHere_108
              · refine j_icmp_geF (pc := 79) C (tgt := 107) d_Model_isHere_79 (by decide) (show ¬ nI 7 ≤ nI iz from nI_ge (by omega) (by omega)) ?_
                refine j_aload_n (pc := 82) C d_Model_isHere_82 rfl 2 rfl ?_
                refine j_get (pc := 83) C gf_Model_7 1 rfl rfl d_Model_isHere_83 ?_
                refine j_aload_n (pc := 86) C d_Model_isHere_86 rfl 2 rfl ?_
                refine j_get (pc := 87) C gf_Model_207 1 rfl rfl d_Model_isHere_87 ?_
                refine j_iload_n (pc := 90) C d_Model_isHere_90 rfl 0 rfl ?_
                refine j_iadd (pc := 91) C (v := nI (u3 + iz)) d_Model_isHere_91 (nI_add _ _) ?_
                refine j_iald (pc := 92) C 2 rfl (v := g0 (u3 + iz)) (vp_in_nI (by omega) (by decide)) (by rw [nI_clamp (by omega)]) d_Model_isHere_92 ?_
                refine j_aload_n (pc := 93) C d_Model_isHere_93 rfl 3 rfl ?_
                refine j_iload_n (pc := 94) C d_Model_isHere_94 rfl 0 rfl ?_
                refine j_cald (pc := 95) C 0 rfl (v := wf iz) (vp_in_nI (by omega) (by decide)) (by rw [nI_clamp (by omega)]) d_Model_isHere_95 ?_
                refine j_icmp_eq (pc := 96) C (tgt := 101) d_Model_isHere_96 (by decide) (fun c82 => ?_) (fun c82 => ?_)
                · refine j_iinc (pc := 101) C (v := nI (iz + 1)) (lv' := [(3, .int (nI (iz + 1))), (2, .int (nI kz)), (0, .ref mo), (1, .ref wa)]) d_Model_isHere_101 0 rfl (nI_add _ _) (by decide) rfl ?_
                  refine j_goto (pc := 104) C (tgt := 76) d_Model_isHere_104 (by decide) ?_
                  exact ih80 ((iz + 1)) (show (iz + 1) ≤ 7 by omega) (show 7 - (iz + 1) < 7 - iz by omega)
                · refine j_iconst (pc := 99) C (v := 0) d_Model_isHere_99 (by decide) ?_
                  exact j_iret (pc := 100) C hr (by decide) u3 ⟨(show t2 ≤ u3 by omega), (show u3 ≤ t3 by omega), (Or.inl rfl)⟩ [1, 2, 0] rfl (by decide) (by decide) (by decide) d_Model_isHere_100
            · refine j_icmp_eqF (pc := 69) C (tgt := 74) d_Model_isHere_69 (by decide) (show ¬ nI (kz - u3) = nI 7 from fun e => absurd ((nI_eq (by omega) (by omega)).mp e) (by omega)) ?_
              refine j_iconst (pc := 72) C (v := 0) d_Model_isHere_72 (by decide) ?_
              exact j_iret (pc := 73) C hr (by decide) u3 ⟨(show t2 ≤ u3 by omega), (show u3 ≤ t3 by omega), (Or.inl rfl)⟩ [1, 2, 0] rfl (by decide) (by decide) (by decide) d_Model_isHere_73
          · refine j_icmp_geF (pc := 40) C (tgt := 61) d_Model_isHere_40 (by decide) (show ¬ nI t3 ≤ nI kz from nI_ge (by omega) (by omega)) ?_
            refine j_aload_n (pc := 43) C d_Model_isHere_43 rfl 1 rfl ?_
            refine j_get (pc := 44) C gf_Model_7 1 rfl rfl d_Model_isHere_44 ?_
            refine j_iload_n (pc := 47) C d_Model_isHere_47 rfl 0 rfl ?_
            refine j_iald (pc := 48) C 2 rfl (v := g0 kz) (vp_in_nI (by omega) (by decide)) (by rw [nI_clamp (by omega)]) d_Model_isHere_48 ?_
            refine j_callSi (pc := 49) C (c_M_isLetter l D y (g0 kz)) kw_Model_217 ks_Model_isLetter ⟨by decide, by decide⟩ ⟨by decide, by decide⟩ (wr := [(wa, .inl (y 3, 7, .inl wf)), MB mo ma (nI t1) (nI u3) (nI t3) i4 i5 i6 i7 i8 i42 i49 i51 i53 i54 i59 i61 i64 i66 (nI t67) i76 i78, (ma 0, .inl (y 0, 1600, .inl g0))]) [] [0, 1, 2] rfl rfl (by decide) (by decide) (by decide) (As := [.int (g0 kz)]) (rest := []) rfl (nb rfl) rfl d_Model_isHere_49 (fun r83 _ hr83 => ?_)
            have xh84 := hr83
            refine j_ws (ws' := [(wa, .inl (y 3, 7, .inl wf)), MB mo ma (nI t1) (nI u3) (nI t3) i4 i5 i6 i7 i8 i42 i49 i51 i53 i54 i59 i61 i64 i66 (nI t67) i76 i78, (ma 0, .inl (y 0, 1600, .inl g0))]) rfl ?_
            refine j_if_eq (pc := 52) C (tgt := 61) d_Model_isHere_52 (by decide) (fun c85 => ?_) (fun c85 => ?_)
            · refine j_iload_n (pc := 61) C d_Model_isHere_61 rfl 0 rfl ?_
              refine j_aload_n (pc := 62) C d_Model_isHere_62 rfl 1 rfl ?_
              refine j_get (pc := 63) C gf_Model_207 1 rfl rfl d_Model_isHere_63 ?_
              refine j_isub (pc := 66) C (v := nI (kz - u3)) d_Model_isHere_66 (pk_sub (by omega)) ?_
              refine j_aload_n (pc := 67) C d_Model_isHere_67 rfl 2 rfl ?_
              refine j_alen (pc := 68) C 0 3 rfl rfl (v := 7) rfl d_Model_isHere_68 ?_
              by_cases c86 : (kz - u3) = 7
              · refine j_icmp_eqT (pc := 69) C (tgt := 74) d_Model_isHere_69 (by decide) (show nI (kz - u3) = nI 7 from (nI_eq (by omega) (by omega)).mpr (by omega)) ?_
                refine j_iconst (pc := 74) C (v := 0) d_Model_isHere_74 (by decide) ?_
                refine j_istore_n (pc := 75) C (lv' := [(3, .int 0), (2, .int (nI kz)), (0, .ref mo), (1, .ref wa)]) d_Model_isHere_75 rfl (by decide) rfl ?_
                refine j_loop (α := Nat) (fun a => 7 - a) (fun a => (a ≤ 7)) (fun a => [(wa, .inl (y 3, 7, .inl wf)), MB mo ma (nI t1) (nI u3) (nI t3) i4 i5 i6 i7 i8 i42 i49 i51 i53 i54 i59 i61 i64 i66 (nI t67) i76 i78, (ma 0, .inl (y 0, 1600, .inl g0))]) (fun a => [(3, .int (nI a)), (2, .int (nI kz)), (0, .ref mo), (1, .ref wa)]) (0) rfl rfl (show 0 ≤ 7 by omega) ?_
                rintro iz hP89 ih90
                have hi__ := hP89
                have hi_ : iz ≤ 7 := hi__
                refine j_ws (ws' := [(wa, .inl (y 3, 7, .inl wf)), MB mo ma (nI t1) (nI u3) (nI t3) i4 i5 i6 i7 i8 i42 i49 i51 i53 i54 i59 i61 i64 i66 (nI t67) i76 i78, (ma 0, .inl (y 0, 1600, .inl g0))]) rfl ?_
                refine j_lv (lv' := [(3, .int (nI iz)), (2, .int (nI kz)), (0, .ref mo), (1, .ref wa)]) rfl ?_
                refine j_iload_n (pc := 76) C d_Model_isHere_76 rfl 0 rfl ?_
                refine j_aload_n (pc := 77) C d_Model_isHere_77 rfl 3 rfl ?_
                refine j_alen (pc := 78) C 0 3 rfl rfl (v := 7) rfl d_Model_isHere_78 ?_
                by_cases c91 : 7 ≤ iz
                · refine j_icmp_geT (pc := 79) C (tgt := 107) d_Model_isHere_79 (by decide) (show nI 7 ≤ nI iz from nI_le (by omega) (by omega)) ?_
                  refine j_iconst (pc := 107) C (v := 1) d_Model_isHere_107 (by decide) ?_
                  exact j_iret (pc := 108) C hr (by decide) u3 ⟨(show t2 ≤ u3 by omega), (show u3 ≤ t3 by omega), (Or.inr ⟨rfl, show u3 + 7 ≤ t3 by omega⟩)⟩ [1, 2, 0] rfl (by decide) (by decide) (by decide) d_Model_isHere_108
                · refine j_icmp_geF (pc := 79) C (tgt := 107) d_Model_isHere_79 (by decide) (show ¬ nI 7 ≤ nI iz from nI_ge (by omega) (by omega)) ?_
                  refine j_aload_n (pc := 82) C d_Model_isHere_82 rfl 2 rfl ?_
                  refine j_get (pc := 83) C gf_Model_7 1 rfl rfl d_Model_isHere_83 ?_
                  refine j_aload_n (pc := 86) C d_Model_isHere_86 rfl 2 rfl ?_
                  refine j_get (pc := 87) C gf_Model_207 1 rfl rfl d_Model_isHere_87 ?_
                  refine j_iload_n (pc := 90) C d_Model_isHere_90 rfl 0 rfl ?_
                  refine j_iadd (pc := 91) C (v := nI (u3 + iz)) d_Model_isHere_91 (nI_add _ _) ?_
                  refine j_iald (pc := 92) C 2 rfl (v := g0 (u3 + iz)) (vp_in_nI (by omega) (by decide)) (by rw [nI_clamp (by omega)]) d_Model_isHere_92 ?_
                  refine j_aload_n (pc := 93) C d_Model_isHere_93 rfl 3 rfl ?_
                  refine j_iload_n (pc := 94) C d_Model_isHere_94 rfl 0 rfl ?_
                  refine j_cald (pc := 95) C 0 rfl (v := wf iz) (vp_in_nI (by omega) (by decide)) (by rw [nI_clamp (by omega)]) d_Model_isHere_95 ?_
                  refine j_icmp_eq (pc := 96) C (tgt := 101) d_Model_isHere_96 (by decide) (fun c92 => ?_) (fun c92 => ?_)
                  · refine j_iinc (pc := 101) C (v := nI (iz + 1)) (lv' := [(3, .int (nI (iz + 1))), (2, .int (nI kz)), (0, .ref mo), (1, .ref wa)]) d_Model_isHere_101 0 rfl (nI_add _ _) (by decide) rfl ?_
                    refine j_goto (pc := 104) C (tgt := 76) d_Model_isHere_104 (by decide) ?_
                    exact ih90 ((iz + 1)) (show (iz + 1) ≤ 7 by omega) (show 7 - (iz + 1) < 7 - iz by omega)
                  · refine j_iconst (pc := 99) C (v := 0) d_Model_isHere_99 (by decide) ?_
                    exact j_iret (pc := 100) C hr (by decide) u3 ⟨(show t2 ≤ u3 by omega), (show u3 ≤ t3 by omega), (Or.inl rfl)⟩ [1, 2, 0] rfl (by decide) (by decide) (by decide) d_Model_isHere_100
              · refine j_icmp_eqF (pc := 69) C (tgt := 74) d_Model_isHere_69 (by decide) (show ¬ nI (kz - u3) = nI 7 from fun e => absurd ((nI_eq (by omega) (by omega)).mp e) (by omega)) ?_
                refine j_iconst (pc := 72) C (v := 0) d_Model_isHere_72 (by decide) ?_
                exact j_iret (pc := 73) C hr (by decide) u3 ⟨(show t2 ≤ u3 by omega), (show u3 ≤ t3 by omega), (Or.inl rfl)⟩ [1, 2, 0] rfl (by decide) (by decide) (by decide) d_Model_isHere_73
            · refine j_iinc (pc := 55) C (v := nI (kz + 1)) (lv' := [(2, .int (nI (kz + 1))), (0, .ref mo), (1, .ref wa)]) d_Model_isHere_55 0 rfl (nI_add _ _) (by decide) rfl ?_
              refine j_goto (pc := 58) C (tgt := 35) d_Model_isHere_58 (by decide) ?_
              exact ih74 ((kz + 1)) ⟨(show (kz + 1) ≤ t3 by omega), (show u3 ≤ (kz + 1) by omega)⟩ (show t3 - (kz + 1) < t3 - kz by omega)
        · refine j_iconst (pc := 28) C (v := 0) d_Model_isHere_28 (by decide) ?_
          exact j_iret (pc := 29) C hr (by decide) u3 ⟨(show t2 ≤ u3 by omega), (show u3 ≤ t3 by omega), (Or.inl rfl)⟩ [1, 2, 0] rfl (by decide) (by decide) (by decide) d_Model_isHere_29
set_option maxHeartbeats 4000000 in
set_option maxRecDepth 100000 in
theorem c_M_takes_7 (l : Launch) (D : va_G) (y : Nat → ClassId) (mo : Nat) (wa : Nat) (ma : Nat → Nat) (t1 : Nat) (t2 : Nat) (t3 : Nat) (i4 : Int32) (i5 : Int32) (i6 : Int32) (i7 : Int32) (i8 : Int32) (i42 : Int32) (i49 : Int32) (i51 : Int32) (i53 : Int32) (i54 : Int32) (i59 : Int32) (i61 : Int32) (i64 : Int32) (i66 : Int32) (t67 : Nat) (i76 : Int64) (i78 : Int32) (g0 : Nat → Int32) (wf : Nat → Int32) (ha : t2 ≤ t3) (he : t3 ≤ 1600) : CT l D y ⟨"NineBoardsModel", "takes", "([C)Z"⟩ prog_13_method_10_code 2 (some .boolean) ({ frames := 2, cells := 0, slots := 0, locals := 43 } : Room) [.ref mo, .ref wa] [MB mo ma (nI t1) (nI t2) (nI t3) i4 i5 i6 i7 i8 i42 i49 i51 i53 i54 i59 i61 i64 i66 (nI t67) i76 i78, (ma 0, .inl (y 0, 1600, .inl g0)), (wa, .inl (y 3, 7, .inl wf))] (QI D [MB mo ma (nI t1) (nI t2) (nI t3) i4 i5 i6 i7 i8 i42 i49 i51 i53 i54 i59 i61 i64 i66 (nI t67) i76 i78, (ma 0, .inl (y 0, 1600, .inl g0)), (wa, .inl (y 3, 7, .inl wf))] (fun (r : Int32) (u : Nat × Int32) => t2 ≤ u.1 ∧ u.1 ≤ t3 ∧ (r = 0 ∨ (r = 1 ∧ t2 + 7 ≤ u.1))) (fun u => [MB mo ma (nI t1) (nI u.1) (nI t3) u.2 i5 i6 i7 i8 i42 i49 i51 i53 i54 i59 i61 i64 i66 (nI t67) i76 i78, (ma 0, .inl (y 0, 1600, .inl g0)), (wa, .inl (y 3, 7, .inl wf))])) := by
  refine CT.of (by decide) (nb rfl) ?_
  intro p e s m args below meth c C hr
  refine j_lv (lv' := [(0, .ref mo), (1, .ref wa)]) rfl ?_
  refine j_aload_n (pc := 0) C d_Model_takes_0 rfl 0 rfl ?_
  refine j_aload_n (pc := 1) C d_Model_takes_1 rfl 1 rfl ?_
  refine j_callVi (pc := 2) C (c_M_isHere_7 l D y mo wa ma t1 t2 t3 i4 i5 i6 i7 i8 i42 i49 i51 i53 i54 i59 i61 i64 i66 t67 i76 i78 g0 wf ha he) kw_Model_224 kv_Model_isHere 0 10 rfl rfl ⟨by decide, by decide⟩ ⟨by decide, by decide⟩ (wr := []) [0, 1, 2] [] rfl rfl (by decide) (by decide) (by decide) (As := [.ref wa]) (rest := []) rfl (nb rfl) rfl d_Model_takes_2 (fun r1 u2 hr1 => ?_)
  refine j_ws (ws' := [MB mo ma (nI t1) (nI u2) (nI t3) i4 i5 i6 i7 i8 i42 i49 i51 i53 i54 i59 i61 i64 i66 (nI t67) i76 i78, (ma 0, .inl (y 0, 1600, .inl g0)), (wa, .inl (y 3, 7, .inl wf))]) rfl ?_
  obtain ⟨xh3, xh4, xh5⟩ := hr1
  rcases xh5 with rfl | ⟨rfl, xh6⟩
  · refine j_if_neF (pc := 5) C (tgt := 10) d_Model_takes_5 (by decide) (by decide) ?_
    refine j_iconst (pc := 8) C (v := 0) d_Model_takes_8 (by decide) ?_
    exact j_iret (pc := 9) C hr (by decide) (u2, i4) ⟨(show t2 ≤ u2 by omega), (show u2 ≤ t3 by omega), (Or.inl rfl)⟩ [0, 1, 2] rfl (by decide) (by decide) (by decide) d_Model_takes_9
  · refine j_if_neT (pc := 5) C (tgt := 10) d_Model_takes_5 (by decide) (by decide) ?_
    refine j_aload_n (pc := 10) C d_Model_takes_10 rfl 0 rfl ?_
    refine j_dup (pc := 11) C d_Model_takes_11 rfl ?_
    refine j_get (pc := 12) C gf_Model_207 0 rfl rfl d_Model_takes_12 ?_
    refine j_aload_n (pc := 15) C d_Model_takes_15 rfl 1 rfl ?_
    refine j_alen (pc := 16) C 2 3 rfl rfl (v := 7) rfl d_Model_takes_16 ?_
    refine j_iadd (pc := 17) C (v := nI (u2 + 7)) d_Model_takes_17 (nI_add _ _) ?_
    refine j_put (pc := 18) C pf_Model_207 0 (ws' := [MB mo ma (nI t1) (nI (u2 + 7)) (nI t3) i4 i5 i6 i7 i8 i42 i49 i51 i53 i54 i59 i61 i64 i66 (nI t67) i76 i78, (ma 0, .inl (y 0, 1600, .inl g0)), (wa, .inl (y 3, 7, .inl wf))]) rfl rfl rfl (nl rfl) rfl d_Model_takes_18 ?_
    refine j_aload_n (pc := 21) C d_Model_takes_21 rfl 0 rfl ?_
    refine j_aload_n (pc := 22) C d_Model_takes_22 rfl 0 rfl ?_
    refine j_get (pc := 23) C gf_Model_207 0 rfl rfl d_Model_takes_23 ?_
    refine j_put (pc := 26) C pf_Model_221 0 (ws' := [MB mo ma (nI t1) (nI (u2 + 7)) (nI t3) (nI (u2 + 7)) i5 i6 i7 i8 i42 i49 i51 i53 i54 i59 i61 i64 i66 (nI t67) i76 i78, (ma 0, .inl (y 0, 1600, .inl g0)), (wa, .inl (y 3, 7, .inl wf))]) rfl rfl rfl (nl rfl) rfl d_Model_takes_26 ?_
    refine j_iconst (pc := 29) C (v := 1) d_Model_takes_29 (by decide) ?_
    exact j_iret (pc := 30) C hr (by decide) ((u2 + 7), nI (u2 + 7)) ⟨(show t2 ≤ (u2 + 7) by omega), (show (u2 + 7) ≤ t3 by omega), (Or.inr ⟨rfl, show t2 + 7 ≤ (u2 + 7) by omega⟩)⟩ [0, 1, 2] rfl (by decide) (by decide) (by decide) d_Model_takes_30
set_option maxHeartbeats 4000000 in
set_option maxRecDepth 100000 in
theorem c_M_asks_7 (l : Launch) (D : va_G) (y : Nat → ClassId) (mo : Nat) (wa : Nat) (ma : Nat → Nat) (t1 : Nat) (t2 : Nat) (t3 : Nat) (i4 : Int32) (i5 : Int32) (i6 : Int32) (i7 : Int32) (i8 : Int32) (i42 : Int32) (i49 : Int32) (i51 : Int32) (i53 : Int32) (i54 : Int32) (i59 : Int32) (i61 : Int32) (i64 : Int32) (i66 : Int32) (t67 : Nat) (i76 : Int64) (i78 : Int32) (g0 : Nat → Int32) (wf : Nat → Int32) (ha : t2 ≤ t3) (he : t3 ≤ 1600) : CT l D y ⟨"NineBoardsModel", "asks", "([C)V"⟩ prog_13_method_11_code 2 none ({ frames := 3, cells := 0, slots := 0, locals := 64 } : Room) [.ref mo, .ref wa] [MB mo ma (nI t1) (nI t2) (nI t3) i4 i5 i6 i7 i8 i42 i49 i51 i53 i54 i59 i61 i64 i66 (nI t67) i76 i78, (ma 0, .inl (y 0, 1600, .inl g0)), (wa, .inl (y 3, 7, .inl wf))] (QV D [MB mo ma (nI t1) (nI t2) (nI t3) i4 i5 i6 i7 i8 i42 i49 i51 i53 i54 i59 i61 i64 i66 (nI t67) i76 i78, (ma 0, .inl (y 0, 1600, .inl g0)), (wa, .inl (y 3, 7, .inl wf))] (fun (u : Nat × Int32 × Int32 × Int32) => t2 ≤ u.1 ∧ u.1 ≤ t3 ∧ (u.2.2.1 = 0 → i5 = 0 ∧ t2 + 7 ≤ u.1)) (fun u => [MB mo ma (nI t1) (nI u.1) (nI t3) u.2.1 u.2.2.1 u.2.2.2 i7 i8 i42 i49 i51 i53 i54 i59 i61 i64 i66 (nI t67) i76 i78, (ma 0, .inl (y 0, 1600, .inl g0)), (wa, .inl (y 3, 7, .inl wf))])) := by
  refine CT.of (by decide) (nb rfl) ?_
  intro p e s m args below meth c C hr
  refine j_lv (lv' := [(0, .ref mo), (1, .ref wa)]) rfl ?_
  refine j_aload_n (pc := 0) C d_Model_asks_0 rfl 0 rfl ?_
  refine j_get (pc := 1) C gf_Model_201 0 rfl rfl d_Model_asks_1 ?_
  refine j_if_ne (pc := 4) C (tgt := 24) d_Model_asks_4 (by decide) (fun c1 => ?_) (fun c1 => ?_)
  · exact j_vret (pc := 24) C hr (t2, i4, i5, i6) ⟨(show t2 ≤ t2 by omega), (show t2 ≤ t3 by omega), (fun e => absurd e c1)⟩ [0, 1, 2] rfl (by decide) (by decide) (by decide) d_Model_asks_24
  · refine j_aload_n (pc := 7) C d_Model_asks_7 rfl 0 rfl ?_
    refine j_aload_n (pc := 8) C d_Model_asks_8 rfl 1 rfl ?_
    refine j_callVi (pc := 9) C (c_M_takes_7 l D y mo wa ma t1 t2 t3 i4 i5 i6 i7 i8 i42 i49 i51 i53 i54 i59 i61 i64 i66 t67 i76 i78 g0 wf ha he) kw_Model_228 kv_Model_takes 0 10 rfl rfl ⟨by decide, by decide⟩ ⟨by decide, by decide⟩ (wr := []) [0, 1, 2] [] rfl rfl (by decide) (by decide) (by decide) (As := [.ref wa]) (rest := []) rfl (nb rfl) rfl d_Model_asks_9 (fun r2 u3 hr2 => ?_)
    refine j_ws (ws' := [MB mo ma (nI t1) (nI u3.1) (nI t3) u3.2 i5 i6 i7 i8 i42 i49 i51 i53 i54 i59 i61 i64 i66 (nI t67) i76 i78, (ma 0, .inl (y 0, 1600, .inl g0)), (wa, .inl (y 3, 7, .inl wf))]) rfl ?_
    obtain ⟨xh4, xh5, xh6⟩ := hr2
    rcases xh6 with rfl | ⟨rfl, xh7⟩
    · refine j_if_neF (pc := 12) C (tgt := 24) d_Model_asks_12 (by decide) (by decide) ?_
      refine j_aload_n (pc := 15) C d_Model_asks_15 rfl 0 rfl ?_
      refine j_iconst (pc := 16) C (v := 1) d_Model_asks_16 (by decide) ?_
      refine j_aload_n (pc := 17) C d_Model_asks_17 rfl 0 rfl ?_
      refine j_get (pc := 18) C gf_Model_207 0 rfl rfl d_Model_asks_18 ?_
      refine j_callVv (pc := 21) C (c_M_fail l D y mo ma t1 u3.1 t3 u3.2 i5 i6 i7 i8 i42 i49 i51 i53 i54 i59 i61 i64 i66 t67 i76 i78 1 (nI u3.1) (by decide)) kw_Model_230 kv_Model_fail 0 10 rfl rfl ⟨by decide, by decide⟩ ⟨by decide, by decide⟩ (wr := [(ma 0, .inl (y 0, 1600, .inl g0)), (wa, .inl (y 3, 7, .inl wf))]) [0] [1, 2] rfl rfl (by decide) (by decide) (by decide) (As := [.int 1, .int (nI u3.1)]) (rest := []) rfl (nb rfl) rfl d_Model_asks_21 (fun u8 hu9 => ?_)
      have xh10 := hu9
      refine j_ws (ws' := [(ma 0, .inl (y 0, 1600, .inl g0)), (wa, .inl (y 3, 7, .inl wf)), MB mo ma (nI t1) (nI u3.1) (nI t3) u3.2 u8.1 u8.2 i7 i8 i42 i49 i51 i53 i54 i59 i61 i64 i66 (nI t67) i76 i78]) rfl ?_
      exact j_vret (pc := 24) C hr (u3.1, u3.2, u8.1, u8.2) ⟨(show t2 ≤ u3.1 by omega), (show u3.1 ≤ t3 by omega), (fun e => absurd e xh10)⟩ [2, 0, 1] rfl (by decide) (by decide) (by decide) d_Model_asks_24
    · refine j_if_neT (pc := 12) C (tgt := 24) d_Model_asks_12 (by decide) (by decide) ?_
      exact j_vret (pc := 24) C hr (u3.1, u3.2, i5, i6) ⟨(show t2 ≤ u3.1 by omega), (show u3.1 ≤ t3 by omega), (fun e => by exact ⟨e, by omega⟩)⟩ [0, 1, 2] rfl (by decide) (by decide) (by decide) d_Model_asks_24
theorem d_Model_takesSign_0 : decode prog_13_method_12_code 0 = .ok (.aload_n 0, 1) := by decide +kernel
theorem d_Model_takesSign_1 : decode prog_13_method_12_code 1 = .ok (.getfield 201, 3) := by decide +kernel
theorem d_Model_takesSign_4 : decode prog_13_method_12_code 4 = .ok (.ifCond .ne 11, 3) := by decide +kernel
theorem d_Model_takesSign_15 : decode prog_13_method_12_code 15 = .ok (.iconst 0, 1) := by decide +kernel
theorem d_Model_takesSign_16 : decode prog_13_method_12_code 16 = .ok (.ireturn, 1) := by decide +kernel
theorem d_Model_takesSign_7 : decode prog_13_method_12_code 7 = .ok (.aload_n 0, 1) := by decide +kernel
theorem d_Model_takesSign_8 : decode prog_13_method_12_code 8 = .ok (.invokevirtual 213, 3) := by decide +kernel
theorem d_Model_takesSign_11 : decode prog_13_method_12_code 11 = .ok (.iload_n 1, 1) := by decide +kernel
theorem d_Model_takesSign_12 : decode prog_13_method_12_code 12 = .ok (.if_icmp .eq 5, 3) := by decide +kernel
theorem d_Model_takesSign_17 : decode prog_13_method_12_code 17 = .ok (.aload_n 0, 1) := by decide +kernel
theorem d_Model_takesSign_18 : decode prog_13_method_12_code 18 = .ok (.dup, 1) := by decide +kernel
theorem d_Model_takesSign_19 : decode prog_13_method_12_code 19 = .ok (.getfield 207, 3) := by decide +kernel
theorem d_Model_takesSign_22 : decode prog_13_method_12_code 22 = .ok (.iconst 1, 1) := by decide +kernel
theorem d_Model_takesSign_23 : decode prog_13_method_12_code 23 = .ok (.iadd, 1) := by decide +kernel
theorem d_Model_takesSign_24 : decode prog_13_method_12_code 24 = .ok (.putfield 207, 3) := by decide +kernel
theorem d_Model_takesSign_27 : decode prog_13_method_12_code 27 = .ok (.iconst 1, 1) := by decide +kernel
theorem d_Model_takesSign_28 : decode prog_13_method_12_code 28 = .ok (.ireturn, 1) := by decide +kernel
set_option maxHeartbeats 4000000 in
set_option maxRecDepth 100000 in
theorem c_M_takesSign (l : Launch) (D : va_G) (y : Nat → ClassId) (mo : Nat) (ma : Nat → Nat) (t1 : Nat) (t2 : Nat) (t3 : Nat) (i4 : Int32) (i5 : Int32) (i6 : Int32) (i7 : Int32) (i8 : Int32) (i42 : Int32) (i49 : Int32) (i51 : Int32) (i53 : Int32) (i54 : Int32) (i59 : Int32) (i61 : Int32) (i64 : Int32) (i66 : Int32) (t67 : Nat) (i76 : Int64) (i78 : Int32) (g0 : Nat → Int32) (v : Int32) (ha : t2 ≤ t3) (he : t3 ≤ 1600) (hs : ¬ v = -1) : CT l D y ⟨"NineBoardsModel", "takesSign", "(I)Z"⟩ prog_13_method_12_code 2 (some .boolean) ({ frames := 1, cells := 0, slots := 0, locals := 20 } : Room) [.ref mo, .int v] [MB mo ma (nI t1) (nI t2) (nI t3) i4 i5 i6 i7 i8 i42 i49 i51 i53 i54 i59 i61 i64 i66 (nI t67) i76 i78, (ma 0, .inl (y 0, 1600, .inl g0))] (QI D [MB mo ma (nI t1) (nI t2) (nI t3) i4 i5 i6 i7 i8 i42 i49 i51 i53 i54 i59 i61 i64 i66 (nI t67) i76 i78, (ma 0, .inl (y 0, 1600, .inl g0))] (fun (r : Int32) (u : Nat) => t2 ≤ u ∧ u ≤ t3 ∧ (r = 0 ∨ (r = 1 ∧ t2 < u))) (fun u => [MB mo ma (nI t1) (nI u) (nI t3) i4 i5 i6 i7 i8 i42 i49 i51 i53 i54 i59 i61 i64 i66 (nI t67) i76 i78, (ma 0, .inl (y 0, 1600, .inl g0))])) := by
  refine CT.of (by decide) (nb rfl) ?_
  intro p e s m args below meth c C hr
  refine j_lv (lv' := [(0, .ref mo), (1, .int v)]) rfl ?_
  refine j_aload_n (pc := 0) C d_Model_takesSign_0 rfl 0 rfl ?_
  refine j_get (pc := 1) C gf_Model_201 0 rfl rfl d_Model_takesSign_1 ?_
  refine j_if_ne (pc := 4) C (tgt := 15) d_Model_takesSign_4 (by decide) (fun c1 => ?_) (fun c1 => ?_)
  · refine j_iconst (pc := 15) C (v := 0) d_Model_takesSign_15 (by decide) ?_
    exact j_iret (pc := 16) C hr (by decide) t2 ⟨(show t2 ≤ t2 by omega), (show t2 ≤ t3 by omega), (Or.inl rfl)⟩ [0, 1] rfl (by decide) (by decide) (by decide) d_Model_takesSign_16
  · refine j_aload_n (pc := 7) C d_Model_takesSign_7 rfl 0 rfl ?_
    refine j_callVi (pc := 8) C (c_M_look l D y mo ma t1 t2 t3 i4 i5 i6 i7 i8 i42 i49 i51 i53 i54 i59 i61 i64 i66 t67 i76 i78 g0 ha he) kw_Model_213 kv_Model_look 0 10 rfl rfl ⟨by decide, by decide⟩ ⟨by decide, by decide⟩ (wr := []) [0, 1] [] rfl rfl (by decide) (by decide) (by decide) (As := []) (rest := []) rfl (nb rfl) rfl d_Model_takesSign_8 (fun r2 u3 hr2 => ?_)
    refine j_ws (ws' := [MB mo ma (nI t1) (nI u3) (nI t3) i4 i5 i6 i7 i8 i42 i49 i51 i53 i54 i59 i61 i64 i66 (nI t67) i76 i78, (ma 0, .inl (y 0, 1600, .inl g0))]) rfl ?_
    obtain ⟨xh4, xh5, xh6⟩ := hr2
    rcases xh6 with rfl | ⟨xh7, e8⟩
    · refine j_iload_n (pc := 11) C d_Model_takesSign_11 rfl 1 rfl ?_
      refine j_icmp_eq (pc := 12) C (tgt := 17) d_Model_takesSign_12 (by decide) (fun c9 => ?_) (fun c9 => ?_)
      · exact absurd c9.symm hs
      · refine j_iconst (pc := 15) C (v := 0) d_Model_takesSign_15 (by decide) ?_
        exact j_iret (pc := 16) C hr (by decide) u3 ⟨(show t2 ≤ u3 by omega), (show u3 ≤ t3 by omega), (Or.inl rfl)⟩ [0, 1] rfl (by decide) (by decide) (by decide) d_Model_takesSign_16
    · refine j_iload_n (pc := 11) C d_Model_takesSign_11 rfl 1 rfl ?_
      refine j_icmp_eq (pc := 12) C (tgt := 17) d_Model_takesSign_12 (by decide) (fun c10 => ?_) (fun c10 => ?_)
      · refine j_aload_n (pc := 17) C d_Model_takesSign_17 rfl 0 rfl ?_
        refine j_dup (pc := 18) C d_Model_takesSign_18 rfl ?_
        refine j_get (pc := 19) C gf_Model_207 0 rfl rfl d_Model_takesSign_19 ?_
        refine j_iconst (pc := 22) C (v := 1) d_Model_takesSign_22 (by decide) ?_
        refine j_iadd (pc := 23) C (v := nI (u3 + 1)) d_Model_takesSign_23 (nI_add _ _) ?_
        refine j_put (pc := 24) C pf_Model_207 0 (ws' := [MB mo ma (nI t1) (nI (u3 + 1)) (nI t3) i4 i5 i6 i7 i8 i42 i49 i51 i53 i54 i59 i61 i64 i66 (nI t67) i76 i78, (ma 0, .inl (y 0, 1600, .inl g0))]) rfl rfl rfl (nl rfl) rfl d_Model_takesSign_24 ?_
        refine j_iconst (pc := 27) C (v := 1) d_Model_takesSign_27 (by decide) ?_
        exact j_iret (pc := 28) C hr (by decide) (u3 + 1) ⟨(show t2 ≤ (u3 + 1) by omega), (show (u3 + 1) ≤ t3 by omega), (Or.inr ⟨rfl, show t2 < (u3 + 1) by omega⟩)⟩ [0, 1] rfl (by decide) (by decide) (by decide) d_Model_takesSign_28
      · refine j_iconst (pc := 15) C (v := 0) d_Model_takesSign_15 (by decide) ?_
        exact j_iret (pc := 16) C hr (by decide) u3 ⟨(show t2 ≤ u3 by omega), (show u3 ≤ t3 by omega), (Or.inl rfl)⟩ [0, 1] rfl (by decide) (by decide) (by decide) d_Model_takesSign_16
theorem d_Model_asksSign_0 : decode prog_13_method_13_code 0 = .ok (.aload_n 0, 1) := by decide +kernel
theorem d_Model_asksSign_1 : decode prog_13_method_13_code 1 = .ok (.getfield 201, 3) := by decide +kernel
theorem d_Model_asksSign_4 : decode prog_13_method_13_code 4 = .ok (.ifCond .ne 20, 3) := by decide +kernel
theorem d_Model_asksSign_24 : decode prog_13_method_13_code 24 = .ok (.return_, 1) := by decide +kernel
theorem d_Model_asksSign_7 : decode prog_13_method_13_code 7 = .ok (.aload_n 0, 1) := by decide +kernel
theorem d_Model_asksSign_8 : decode prog_13_method_13_code 8 = .ok (.iload_n 1, 1) := by decide +kernel
theorem d_Model_asksSign_9 : decode prog_13_method_13_code 9 = .ok (.invokevirtual 234, 3) := by decide +kernel
theorem kw_Model_234 : KW "NineBoardsModel" 234 ⟨"NineBoardsModel", "takesSign", "(I)Z"⟩ prog_13_method_12_code 2 (some .boolean) 1 := ⟨(mt_6 (List.mem_of_getElem? (i := 141) rfl) rfl), (mt_1 (List.mem_of_getElem? (i := 16) rfl) rfl), (mt_6 (List.mem_of_getElem? (i := 144) rfl) rfl), by decide +kernel⟩
theorem kv_Model_takesSign : Cond.instanceMethod ⟨"NineBoardsModel", "takesSign", "(I)Z"⟩ ∈ TB ∧ Cond.selects "NineBoardsModel" ⟨"NineBoardsModel", "takesSign", "(I)Z"⟩ ⟨"NineBoardsModel", "takesSign", "(I)Z"⟩ ∈ TB := ⟨(mt_6 (List.mem_of_getElem? (i := 143) rfl) rfl), (ms_0 (List.mem_map.mpr ⟨(⟨"NineBoardsModel", "takesSign", "(I)Z"⟩, 79), List.mem_of_getElem? (i := 57) (by decide +kernel), rfl⟩) rfl)⟩
theorem d_Model_asksSign_12 : decode prog_13_method_13_code 12 = .ok (.ifCond .ne 12, 3) := by decide +kernel
theorem d_Model_asksSign_15 : decode prog_13_method_13_code 15 = .ok (.aload_n 0, 1) := by decide +kernel
theorem d_Model_asksSign_16 : decode prog_13_method_13_code 16 = .ok (.iconst 1, 1) := by decide +kernel
theorem d_Model_asksSign_17 : decode prog_13_method_13_code 17 = .ok (.aload_n 0, 1) := by decide +kernel
theorem d_Model_asksSign_18 : decode prog_13_method_13_code 18 = .ok (.getfield 207, 3) := by decide +kernel
theorem d_Model_asksSign_21 : decode prog_13_method_13_code 21 = .ok (.invokevirtual 230, 3) := by decide +kernel
set_option maxHeartbeats 4000000 in
set_option maxRecDepth 100000 in
theorem c_M_asksSign (l : Launch) (D : va_G) (y : Nat → ClassId) (mo : Nat) (ma : Nat → Nat) (t1 : Nat) (t2 : Nat) (t3 : Nat) (i4 : Int32) (i5 : Int32) (i6 : Int32) (i7 : Int32) (i8 : Int32) (i42 : Int32) (i49 : Int32) (i51 : Int32) (i53 : Int32) (i54 : Int32) (i59 : Int32) (i61 : Int32) (i64 : Int32) (i66 : Int32) (t67 : Nat) (i76 : Int64) (i78 : Int32) (g0 : Nat → Int32) (v : Int32) (ha : t2 ≤ t3) (he : t3 ≤ 1600) (hs : ¬ v = -1) : CT l D y ⟨"NineBoardsModel", "asksSign", "(I)V"⟩ prog_13_method_13_code 2 none ({ frames := 2, cells := 0, slots := 0, locals := 41 } : Room) [.ref mo, .int v] [MB mo ma (nI t1) (nI t2) (nI t3) i4 i5 i6 i7 i8 i42 i49 i51 i53 i54 i59 i61 i64 i66 (nI t67) i76 i78, (ma 0, .inl (y 0, 1600, .inl g0))] (QV D [MB mo ma (nI t1) (nI t2) (nI t3) i4 i5 i6 i7 i8 i42 i49 i51 i53 i54 i59 i61 i64 i66 (nI t67) i76 i78, (ma 0, .inl (y 0, 1600, .inl g0))] (fun (u : Nat × Int32 × Int32) => t2 ≤ u.1 ∧ u.1 ≤ t3 ∧ (u.2.1 = 0 → i5 = 0 ∧ t2 < u.1)) (fun u => [MB mo ma (nI t1) (nI u.1) (nI t3) i4 u.2.1 u.2.2 i7 i8 i42 i49 i51 i53 i54 i59 i61 i64 i66 (nI t67) i76 i78, (ma 0, .inl (y 0, 1600, .inl g0))])) := by
  refine CT.of (by decide) (nb rfl) ?_
  intro p e s m args below meth c C hr
  refine j_lv (lv' := [(0, .ref mo), (1, .int v)]) rfl ?_
  refine j_aload_n (pc := 0) C d_Model_asksSign_0 rfl 0 rfl ?_
  refine j_get (pc := 1) C gf_Model_201 0 rfl rfl d_Model_asksSign_1 ?_
  refine j_if_ne (pc := 4) C (tgt := 24) d_Model_asksSign_4 (by decide) (fun c1 => ?_) (fun c1 => ?_)
  · exact j_vret (pc := 24) C hr (t2, i5, i6) ⟨(show t2 ≤ t2 by omega), (show t2 ≤ t3 by omega), (fun e => absurd e c1)⟩ [0, 1] rfl (by decide) (by decide) (by decide) d_Model_asksSign_24
  · refine j_aload_n (pc := 7) C d_Model_asksSign_7 rfl 0 rfl ?_
    refine j_iload_n (pc := 8) C d_Model_asksSign_8 rfl 1 rfl ?_
    refine j_callVi (pc := 9) C (c_M_takesSign l D y mo ma t1 t2 t3 i4 i5 i6 i7 i8 i42 i49 i51 i53 i54 i59 i61 i64 i66 t67 i76 i78 g0 v ha he hs) kw_Model_234 kv_Model_takesSign 0 10 rfl rfl ⟨by decide, by decide⟩ ⟨by decide, by decide⟩ (wr := []) [0, 1] [] rfl rfl (by decide) (by decide) (by decide) (As := [.int v]) (rest := []) rfl (nb rfl) rfl d_Model_asksSign_9 (fun r2 u3 hr2 => ?_)
    refine j_ws (ws' := [MB mo ma (nI t1) (nI u3) (nI t3) i4 i5 i6 i7 i8 i42 i49 i51 i53 i54 i59 i61 i64 i66 (nI t67) i76 i78, (ma 0, .inl (y 0, 1600, .inl g0))]) rfl ?_
    obtain ⟨xh4, xh5, xh6⟩ := hr2
    rcases xh6 with rfl | ⟨rfl, xh7⟩
    · refine j_if_neF (pc := 12) C (tgt := 24) d_Model_asksSign_12 (by decide) (by decide) ?_
      refine j_aload_n (pc := 15) C d_Model_asksSign_15 rfl 0 rfl ?_
      refine j_iconst (pc := 16) C (v := 1) d_Model_asksSign_16 (by decide) ?_
      refine j_aload_n (pc := 17) C d_Model_asksSign_17 rfl 0 rfl ?_
      refine j_get (pc := 18) C gf_Model_207 0 rfl rfl d_Model_asksSign_18 ?_
      refine j_callVv (pc := 21) C (c_M_fail l D y mo ma t1 u3 t3 i4 i5 i6 i7 i8 i42 i49 i51 i53 i54 i59 i61 i64 i66 t67 i76 i78 1 (nI u3) (by decide)) kw_Model_230 kv_Model_fail 0 10 rfl rfl ⟨by decide, by decide⟩ ⟨by decide, by decide⟩ (wr := [(ma 0, .inl (y 0, 1600, .inl g0))]) [0] [1] rfl rfl (by decide) (by decide) (by decide) (As := [.int 1, .int (nI u3)]) (rest := []) rfl (nb rfl) rfl d_Model_asksSign_21 (fun u8 hu9 => ?_)
      have xh10 := hu9
      refine j_ws (ws' := [(ma 0, .inl (y 0, 1600, .inl g0)), MB mo ma (nI t1) (nI u3) (nI t3) i4 u8.1 u8.2 i7 i8 i42 i49 i51 i53 i54 i59 i61 i64 i66 (nI t67) i76 i78]) rfl ?_
      exact j_vret (pc := 24) C hr (u3, u8.1, u8.2) ⟨(show t2 ≤ u3 by omega), (show u3 ≤ t3 by omega), (fun e => absurd e xh10)⟩ [1, 0] rfl (by decide) (by decide) (by decide) d_Model_asksSign_24
    · refine j_if_neT (pc := 12) C (tgt := 24) d_Model_asksSign_12 (by decide) (by decide) ?_
      exact j_vret (pc := 24) C hr (u3, i5, i6) ⟨(show t2 ≤ u3 by omega), (show u3 ≤ t3 by omega), (fun e => by exact ⟨e, by omega⟩)⟩ [0, 1] rfl (by decide) (by decide) (by decide) d_Model_asksSign_24
