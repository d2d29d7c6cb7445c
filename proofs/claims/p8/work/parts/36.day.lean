theorem d_Model_todays_0 : decode prog_13_method_66_code 0 = .ok (.aload_n 0, 1) := by decide +kernel
theorem d_Model_todays_1 : decode prog_13_method_66_code 1 = .ok (.invokevirtual 448, 3) := by decide +kernel
theorem kw_Model_448 : KW "NineBoardsModel" 448 ⟨"NineBoardsModel", "villages", "()I"⟩ prog_13_method_55_code 1 (some .int) 0 := ⟨(mt_7 (List.mem_of_getElem? (i := 39) rfl) rfl), (mt_1 (List.mem_of_getElem? (i := 16) rfl) rfl), (mt_7 (List.mem_of_getElem? (i := 42) rfl) rfl), by decide +kernel⟩
theorem kv_Model_villages : Cond.instanceMethod ⟨"NineBoardsModel", "villages", "()I"⟩ ∈ TB ∧ Cond.selects "NineBoardsModel" ⟨"NineBoardsModel", "villages", "()I"⟩ ⟨"NineBoardsModel", "villages", "()I"⟩ ∈ TB := ⟨(mt_7 (List.mem_of_getElem? (i := 41) rfl) rfl), (ms_0 (List.mem_map.mpr ⟨(⟨"NineBoardsModel", "villages", "()I"⟩, 79), List.mem_of_getElem? (i := 89) (by decide +kernel), rfl⟩) rfl)⟩
theorem d_Model_todays_4 : decode prog_13_method_66_code 4 = .ok (.ifCond .ne 7, 3) := by decide +kernel
theorem d_Model_todays_11 : decode prog_13_method_66_code 11 = .ok (.aload_n 0, 1) := by decide +kernel
theorem d_Model_todays_12 : decode prog_13_method_66_code 12 = .ok (.getfield 158, 3) := by decide +kernel
theorem d_Model_todays_15 : decode prog_13_method_66_code 15 = .ok (.iconst 0, 1) := by decide +kernel
theorem d_Model_todays_16 : decode prog_13_method_66_code 16 = .ok (.iaload, 1) := by decide +kernel
theorem d_Model_todays_17 : decode prog_13_method_66_code 17 = .ok (.aload_n 0, 1) := by decide +kernel
theorem d_Model_todays_18 : decode prog_13_method_66_code 18 = .ok (.invokevirtual 448, 3) := by decide +kernel
theorem d_Model_todays_21 : decode prog_13_method_66_code 21 = .ok (.irem, 1) := by decide +kernel
theorem d_Model_todays_22 : decode prog_13_method_66_code 22 = .ok (.ireturn, 1) := by decide +kernel
theorem d_Model_todays_7 : decode prog_13_method_66_code 7 = .ok (.iconst (-1), 1) := by decide +kernel
theorem d_Model_todays_8 : decode prog_13_method_66_code 8 = .ok (.goto 14, 3) := by decide +kernel
set_option maxHeartbeats 4000000 in
set_option maxRecDepth 100000 in
theorem c_M_todays (l : Launch) (D : va_G) (y : Nat → ClassId) (mo : Nat) (ma : Nat → Nat) (t1 : Nat) (i2 : Int32) (i3 : Int32) (i4 : Int32) (i5 : Int32) (i6 : Int32) (i7 : Int32) (i8 : Int32) (i42 : Int32) (i49 : Int32) (i51 : Int32) (i53 : Int32) (i54 : Int32) (i59 : Int32) (i61 : Int32) (i64 : Int32) (i66 : Int32) (t67 : Nat) (i76 : Int64) (i78 : Int32) (g43 : Nat → Int32) (g62 : Nat → Int32) (c1 : Nat) (dy : Nat) (hc1 : g43 5 = nI c1) (bc1 : c1 ≤ 6) (hD : g62 0 = nI dy) (bD : dy ≤ 2000) : CT l D y ⟨"NineBoardsModel", "todays", "()I"⟩ prog_13_method_66_code 1 (some .int) ({ frames := 1, cells := 0, slots := 0, locals := 20 } : Room) [.ref mo] [MB mo ma (nI t1) i2 i3 i4 i5 i6 i7 i8 i42 i49 i51 i53 i54 i59 i61 i64 i66 (nI t67) i76 i78, (ma 43, .inl (y 0, 8, .inl g43)), (ma 62, .inl (y 0, 63, .inl g62))] (QI D [MB mo ma (nI t1) i2 i3 i4 i5 i6 i7 i8 i42 i49 i51 i53 i54 i59 i61 i64 i66 (nI t67) i76 i78, (ma 43, .inl (y 0, 8, .inl g43)), (ma 62, .inl (y 0, 63, .inl g62))] (fun (r : Int32) (u : Unit) => ((r = -1 ∧ c1 = 0) ∨ ∃ q, q < c1 ∧ r = nI q)) (fun _ => [MB mo ma (nI t1) i2 i3 i4 i5 i6 i7 i8 i42 i49 i51 i53 i54 i59 i61 i64 i66 (nI t67) i76 i78, (ma 43, .inl (y 0, 8, .inl g43)), (ma 62, .inl (y 0, 63, .inl g62))])) := by
  refine CT.of (by decide) (nb rfl) ?_
  intro p e s m args below meth c C hr
  refine j_lv (lv' := [(0, .ref mo)]) rfl ?_
  refine j_aload_n (pc := 0) C d_Model_todays_0 rfl 0 rfl ?_
  refine j_callVi (pc := 1) C (c_M_villages l D y mo ma t1 i2 i3 i4 i5 i6 i7 i8 i42 i49 i51 i53 i54 i59 i61 i64 i66 t67 i76 i78 g43 c1 hc1 bc1) kw_Model_448 kv_Model_villages 0 10 rfl rfl ⟨by decide, by decide⟩ ⟨by decide, by decide⟩ (wr := [(ma 62, .inl (y 0, 63, .inl g62))]) [0, 1] [2] rfl rfl (by decide) (by decide) (by decide) (As := []) (rest := []) rfl (nb rfl) rfl d_Model_todays_1 (fun r1 _ hr1 => ?_)
  obtain rfl := hr1
  refine j_ws (ws' := [(ma 62, .inl (y 0, 63, .inl g62)), MB mo ma (nI t1) i2 i3 i4 i5 i6 i7 i8 i42 i49 i51 i53 i54 i59 i61 i64 i66 (nI t67) i76 i78, (ma 43, .inl (y 0, 8, .inl g43))]) rfl ?_
  by_cases c2 : ¬ c1 = 0
  · refine j_if_neT (pc := 4) C (tgt := 11) d_Model_todays_4 (by decide) (show ¬ nI c1 = nI 0 from fun e => absurd ((nI_eq (by omega) (by omega)).mp e) (by omega)) ?_
    refine j_aload_n (pc := 11) C d_Model_todays_11 rfl 0 rfl ?_
    refine j_get (pc := 12) C gf_Model_158 1 rfl rfl d_Model_todays_12 ?_
    refine j_iconst (pc := 15) C (v := 0) d_Model_todays_15 (by decide) ?_
    refine j_iald (pc := 16) C 0 rfl (v := nI dy) (vin (by decide)) (by exact hD) d_Model_todays_16 ?_
    refine j_aload_n (pc := 17) C d_Model_todays_17 rfl 0 rfl ?_
    refine j_callVi (pc := 18) C (c_M_villages l D y mo ma t1 i2 i3 i4 i5 i6 i7 i8 i42 i49 i51 i53 i54 i59 i61 i64 i66 t67 i76 i78 g43 c1 hc1 bc1) kw_Model_448 kv_Model_villages 0 10 rfl rfl ⟨by decide, by decide⟩ ⟨by decide, by decide⟩ (wr := [(ma 62, .inl (y 0, 63, .inl g62))]) [1, 2] [0] rfl rfl (by decide) (by decide) (by decide) (As := []) (rest := [.int (nI dy)]) rfl (nb rfl) rfl d_Model_todays_18 (fun r3 _ hr3 => ?_)
    obtain rfl := hr3
    refine j_ws (ws' := [(ma 62, .inl (y 0, 63, .inl g62)), MB mo ma (nI t1) i2 i3 i4 i5 i6 i7 i8 i42 i49 i51 i53 i54 i59 i61 i64 i66 (nI t67) i76 i78, (ma 43, .inl (y 0, 8, .inl g43))]) rfl ?_
    refine j_irem (pc := 21) C (v := nI (dy % c1)) d_Model_todays_21 (nI_ne0 (by omega) (by omega)) (pk_rem (by omega) (by omega) (by omega)) ?_
    exact j_iret (pc := 22) C hr rfl () (Or.inr ⟨dy % c1, Nat.mod_lt _ (by omega), rfl⟩) [1, 2, 0] rfl (by decide) (by decide) (by decide) d_Model_todays_22
  · refine j_if_neF (pc := 4) C (tgt := 11) d_Model_todays_4 (by decide) (show nI c1 = nI 0 from (nI_eq (by omega) (by omega)).mpr (by omega)) ?_
    refine j_iconst (pc := 7) C (v := (-1)) d_Model_todays_7 (by decide) ?_
    refine j_goto (pc := 8) C (tgt := 22) d_Model_todays_8 (by decide) ?_
    exact j_iret (pc := 22) C hr rfl () (Or.inl ⟨rfl, by omega⟩) [1, 2, 0] rfl (by decide) (by decide) (by decide) d_Model_todays_22
theorem d_Model_acts_0 : decode prog_13_method_67_code 0 = .ok (.iload_n 1, 1) := by decide +kernel
theorem d_Model_acts_1 : decode prog_13_method_67_code 1 = .ok (.ifCond .ne 4, 3) := by decide +kernel
theorem d_Model_acts_5 : decode prog_13_method_67_code 5 = .ok (.aload_n 0, 1) := by decide +kernel
theorem d_Model_acts_6 : decode prog_13_method_67_code 6 = .ok (.aload_n 0, 1) := by decide +kernel
theorem d_Model_acts_7 : decode prog_13_method_67_code 7 = .ok (.getfield 130, 3) := by decide +kernel
theorem gf_Model_130 : GF "NineBoardsModel" 130 10 47 := ⟨_, _, _, rfl, ci_Model, by decide, (mt_5 (List.mem_of_getElem? (i := 135) rfl) rfl)⟩
theorem d_Model_acts_10 : decode prog_13_method_67_code 10 = .ok (.bipush 6, 2) := by decide +kernel
theorem d_Model_acts_12 : decode prog_13_method_67_code 12 = .ok (.aload_n 0, 1) := by decide +kernel
theorem d_Model_acts_13 : decode prog_13_method_67_code 13 = .ok (.invokevirtual 451, 3) := by decide +kernel
theorem kw_Model_451 : KW "NineBoardsModel" 451 ⟨"NineBoardsModel", "todays", "()I"⟩ prog_13_method_66_code 1 (some .int) 0 := ⟨(mt_7 (List.mem_of_getElem? (i := 95) rfl) rfl), (mt_1 (List.mem_of_getElem? (i := 16) rfl) rfl), (mt_7 (List.mem_of_getElem? (i := 98) rfl) rfl), by decide +kernel⟩
theorem kv_Model_todays : Cond.instanceMethod ⟨"NineBoardsModel", "todays", "()I"⟩ ∈ TB ∧ Cond.selects "NineBoardsModel" ⟨"NineBoardsModel", "todays", "()I"⟩ ⟨"NineBoardsModel", "todays", "()I"⟩ ∈ TB := ⟨(mt_7 (List.mem_of_getElem? (i := 97) rfl) rfl), (ms_0 (List.mem_map.mpr ⟨(⟨"NineBoardsModel", "todays", "()I"⟩, 79), List.mem_of_getElem? (i := 97) (by decide +kernel), rfl⟩) rfl)⟩
theorem d_Model_acts_16 : decode prog_13_method_67_code 16 = .ok (.iadd, 1) := by decide +kernel
theorem d_Model_acts_17 : decode prog_13_method_67_code 17 = .ok (.iaload, 1) := by decide +kernel
theorem d_Model_acts_18 : decode prog_13_method_67_code 18 = .ok (.iload_n 1, 1) := by decide +kernel
theorem d_Model_acts_19 : decode prog_13_method_67_code 19 = .ok (.iconst 1, 1) := by decide +kernel
theorem d_Model_acts_20 : decode prog_13_method_67_code 20 = .ok (.if_icmp .ne 7, 3) := by decide +kernel
theorem d_Model_acts_27 : decode prog_13_method_67_code 27 = .ok (.iconst 1, 1) := by decide +kernel
theorem d_Model_acts_28 : decode prog_13_method_67_code 28 = .ok (.invokevirtual 454, 3) := by decide +kernel
theorem kw_Model_454 : KW "NineBoardsModel" 454 ⟨"NineBoardsModel", "alters", "(II)V"⟩ prog_13_method_60_code 3 none 2 := ⟨(mt_7 (List.mem_of_getElem? (i := 128) rfl) rfl), (mt_1 (List.mem_of_getElem? (i := 16) rfl) rfl), (mt_7 (List.mem_of_getElem? (i := 131) rfl) rfl), by decide +kernel⟩
theorem kv_Model_alters : Cond.instanceMethod ⟨"NineBoardsModel", "alters", "(II)V"⟩ ∈ TB ∧ Cond.selects "NineBoardsModel" ⟨"NineBoardsModel", "alters", "(II)V"⟩ ⟨"NineBoardsModel", "alters", "(II)V"⟩ ∈ TB := ⟨(mt_7 (List.mem_of_getElem? (i := 130) rfl) rfl), (ms_0 (List.mem_map.mpr ⟨(⟨"NineBoardsModel", "alters", "(II)V"⟩, 79), List.mem_of_getElem? (i := 103) (by decide +kernel), rfl⟩) rfl)⟩
theorem d_Model_acts_31 : decode prog_13_method_67_code 31 = .ok (.aload_n 0, 1) := by decide +kernel
theorem d_Model_acts_32 : decode prog_13_method_67_code 32 = .ok (.getfield 158, 3) := by decide +kernel
theorem d_Model_acts_35 : decode prog_13_method_67_code 35 = .ok (.iconst 2, 1) := by decide +kernel
theorem d_Model_acts_36 : decode prog_13_method_67_code 36 = .ok (.iload_n 1, 1) := by decide +kernel
theorem d_Model_acts_37 : decode prog_13_method_67_code 37 = .ok (.iastore, 1) := by decide +kernel
theorem d_Model_acts_38 : decode prog_13_method_67_code 38 = .ok (.return_, 1) := by decide +kernel
theorem d_Model_acts_23 : decode prog_13_method_67_code 23 = .ok (.iconst (-1), 1) := by decide +kernel
theorem d_Model_acts_24 : decode prog_13_method_67_code 24 = .ok (.goto 4, 3) := by decide +kernel
theorem d_Model_acts_4 : decode prog_13_method_67_code 4 = .ok (.return_, 1) := by decide +kernel
set_option maxHeartbeats 4000000 in
set_option maxRecDepth 100000 in
theorem c_M_acts (l : Launch) (D : va_G) (y : Nat → ClassId) (mo : Nat) (ma : Nat → Nat) (t1 : Nat) (i2 : Int32) (i3 : Int32) (i4 : Int32) (i5 : Int32) (i6 : Int32) (i7 : Int32) (i8 : Int32) (i42 : Int32) (i49 : Int32) (i51 : Int32) (i53 : Int32) (i54 : Int32) (i59 : Int32) (i61 : Int32) (i64 : Int32) (i66 : Int32) (t67 : Nat) (i76 : Int64) (i78 : Int32) (g43 : Nat → Int32) (g46 : Nat → Int32) (g47 : Nat → Int32) (g62 : Nat → Int32) (v : Int32) (c1 : Nat) (dy : Nat) (hc1 : g43 5 = nI c1) (bc1 : c1 ≤ 6) (hG : ∀ j, j < 9 → g46 (54 + 6 * j + 5) = -1 ∨ ∃ q, q < 9 ∧ g46 (54 + 6 * j + 5) = nI q) (hO : ∀ j, j < 6 → ∃ q, q < 9 ∧ g47 (6 + j) = nI q) (hD : g62 0 = nI dy) (bD : dy ≤ 2000) (hv : (v = 0 ∨ 0 < c1)) : CT l D y ⟨"NineBoardsModel", "acts", "(I)V"⟩ prog_13_method_67_code 2 none ({ frames := 2, cells := 0, slots := 0, locals := 43 } : Room) [.ref mo, .int v] [MB mo ma (nI t1) i2 i3 i4 i5 i6 i7 i8 i42 i49 i51 i53 i54 i59 i61 i64 i66 (nI t67) i76 i78, (ma 43, .inl (y 0, 8, .inl g43)), (ma 46, .inl (y 0, 108, .inl g46)), (ma 47, .inl (y 0, 12, .inl g47)), (ma 62, .inl (y 0, 63, .inl g62))] (QV D [MB mo ma (nI t1) i2 i3 i4 i5 i6 i7 i8 i42 i49 i51 i53 i54 i59 i61 i64 i66 (nI t67) i76 i78, (ma 43, .inl (y 0, 8, .inl g43)), (ma 46, .inl (y 0, 108, .inl g46)), (ma 47, .inl (y 0, 12, .inl g47)), (ma 62, .inl (y 0, 63, .inl g62))] (fun (u : (Nat → Int32)) => u 0 = nI dy) (fun u => [MB mo ma (nI t1) i2 i3 i4 i5 i6 i7 i8 i42 i49 i51 i53 i54 i59 i61 i64 i66 (nI t67) i76 i78, (ma 43, .inl (y 0, 8, .inl g43)), (ma 46, .inl (y 0, 108, .inl g46)), (ma 47, .inl (y 0, 12, .inl g47)), (ma 62, .inl (y 0, 63, .inl u))])) := by
  refine CT.of (by decide) (nb rfl) ?_
  intro p e s m args below meth c C hr
  refine j_lv (lv' := [(0, .ref mo), (1, .int v)]) rfl ?_
  refine j_iload_n (pc := 0) C d_Model_acts_0 rfl 1 rfl ?_
  refine j_if_ne (pc := 1) C (tgt := 5) d_Model_acts_1 (by decide) (fun c2 => ?_) (fun c2 => ?_)
  · refine j_aload_n (pc := 5) C d_Model_acts_5 rfl 0 rfl ?_
    refine j_aload_n (pc := 6) C d_Model_acts_6 rfl 0 rfl ?_
    refine j_get (pc := 7) C gf_Model_130 0 rfl rfl d_Model_acts_7 ?_
    refine j_bipush (pc := 10) C (v := 6) d_Model_acts_10 (by decide) ?_
    refine j_aload_n (pc := 12) C d_Model_acts_12 rfl 0 rfl ?_
    refine j_callVi (pc := 13) C (c_M_todays l D y mo ma t1 i2 i3 i4 i5 i6 i7 i8 i42 i49 i51 i53 i54 i59 i61 i64 i66 t67 i76 i78 g43 g62 c1 dy hc1 bc1 hD bD) kw_Model_451 kv_Model_todays 0 10 rfl rfl ⟨by decide, by decide⟩ ⟨by decide, by decide⟩ (wr := [(ma 46, .inl (y 0, 108, .inl g46)), (ma 47, .inl (y 0, 12, .inl g47))]) [0, 1, 4] [2, 3] rfl rfl (by decide) (by decide) (by decide) (As := []) (rest := [.int 6, .ref (ma 47), .ref mo]) rfl (nb rfl) rfl d_Model_acts_13 (fun r3 _ hr3 => ?_)
    refine j_ws (ws' := [(ma 46, .inl (y 0, 108, .inl g46)), (ma 47, .inl (y 0, 12, .inl g47)), MB mo ma (nI t1) i2 i3 i4 i5 i6 i7 i8 i42 i49 i51 i53 i54 i59 i61 i64 i66 (nI t67) i76 i78, (ma 43, .inl (y 0, 8, .inl g43)), (ma 62, .inl (y 0, 63, .inl g62))]) rfl ?_
    rcases hr3 with ⟨rfl, xh5⟩ | ⟨q6, xh7, rfl⟩
    · exact absurd (hv.resolve_left c2) (by omega)
    · refine j_iadd (pc := 16) C (v := nI (6 + q6)) d_Model_acts_16 (nI_add _ _) ?_
      obtain ⟨q8, xh9, e10⟩ := hO q6 (by omega)
      refine j_iald (pc := 17) C 1 rfl (v := nI q8) (vp_in_nI (by omega) (by decide)) (by rw [nI_clamp (by omega)]; exact e10) d_Model_acts_17 ?_
      refine j_iload_n (pc := 18) C d_Model_acts_18 rfl 1 rfl ?_
      refine j_iconst (pc := 19) C (v := 1) d_Model_acts_19 (by decide) ?_
      refine j_icmp_ne (pc := 20) C (tgt := 27) d_Model_acts_20 (by decide) (fun c11 => ?_) (fun c11 => ?_)
      · refine j_iconst (pc := 27) C (v := 1) d_Model_acts_27 (by decide) ?_
        refine j_callVv (pc := 28) C (c_M_alters l D y mo ma t1 i2 i3 i4 i5 i6 i7 i8 i42 i49 i51 i53 i54 i59 i61 i64 i66 t67 i76 i78 g46 g62 q8 1 dy (by omega) (by omega) hD) kw_Model_454 kv_Model_alters 0 10 rfl rfl ⟨by decide, by decide⟩ ⟨by decide, by decide⟩ (wr := [(ma 47, .inl (y 0, 12, .inl g47)), (ma 43, .inl (y 0, 8, .inl g43))]) [2, 0, 4] [1, 3] rfl rfl (by decide) (by decide) (by decide) (As := [.int (nI q8), .int 1]) (rest := []) rfl (nb rfl) rfl d_Model_acts_28 (fun u12 hu13 => ?_)
        have xh14 := hu13
        refine j_ws (ws' := [(ma 47, .inl (y 0, 12, .inl g47)), (ma 43, .inl (y 0, 8, .inl g43)), MB mo ma (nI t1) i2 i3 i4 i5 i6 i7 i8 i42 i49 i51 i53 i54 i59 i61 i64 i66 (nI t67) i76 i78, (ma 46, .inl (y 0, 108, .inl g46)), (ma 62, .inl (y 0, 63, .inl u12))]) rfl ?_
        refine j_aload_n (pc := 31) C d_Model_acts_31 rfl 0 rfl ?_
        refine j_get (pc := 32) C gf_Model_158 2 rfl rfl d_Model_acts_32 ?_
        refine j_iconst (pc := 35) C (v := 2) d_Model_acts_35 (by decide) ?_
        refine j_iload_n (pc := 36) C d_Model_acts_36 rfl 1 rfl ?_
        refine j_iast (pc := 37) C 4 rfl (ws' := [(ma 47, .inl (y 0, 12, .inl g47)), (ma 43, .inl (y 0, 8, .inl g43)), MB mo ma (nI t1) i2 i3 i4 i5 i6 i7 i8 i42 i49 i51 i53 i54 i59 i61 i64 i66 (nI t67) i76 i78, (ma 46, .inl (y 0, 108, .inl g46)), (ma 62, .inl (y 0, 63, .inl (upd u12 2 v)))]) (vin (by decide)) rfl d_Model_acts_37 ?_
        refine j_genW (fun f15 => [(ma 47, .inl (y 0, 12, .inl g47)), (ma 43, .inl (y 0, 8, .inl g43)), MB mo ma (nI t1) i2 i3 i4 i5 i6 i7 i8 i42 i49 i51 i53 i54 i59 i61 i64 i66 (nI t67) i76 i78, (ma 46, .inl (y 0, 108, .inl g46)), (ma 62, .inl (y 0, 63, .inl f15))]) (upd u12 2 v) rfl (fun f15 => (f15 0 = nI dy)) (show upd u12 2 v 0 = nI dy by rw [pk_un (by omega)]; exact xh14) ?_
        rintro f15 xh16
        refine j_ws (ws' := [(ma 47, .inl (y 0, 12, .inl g47)), (ma 43, .inl (y 0, 8, .inl g43)), MB mo ma (nI t1) i2 i3 i4 i5 i6 i7 i8 i42 i49 i51 i53 i54 i59 i61 i64 i66 (nI t67) i76 i78, (ma 46, .inl (y 0, 108, .inl g46)), (ma 62, .inl (y 0, 63, .inl f15))]) rfl ?_
        have xh16 : f15 0 = nI dy := xh16
        exact j_vret (pc := 38) C hr f15 xh16 [2, 1, 3, 0, 4] rfl (by decide) (by decide) (by decide) d_Model_acts_38
      · refine j_iconst (pc := 23) C (v := (-1)) d_Model_acts_23 (by decide) ?_
        refine j_goto (pc := 24) C (tgt := 28) d_Model_acts_24 (by decide) ?_
        refine j_callVv (pc := 28) C (c_M_alters l D y mo ma t1 i2 i3 i4 i5 i6 i7 i8 i42 i49 i51 i53 i54 i59 i61 i64 i66 t67 i76 i78 g46 g62 q8 (-1) dy (by omega) (by omega) hD) kw_Model_454 kv_Model_alters 0 10 rfl rfl ⟨by decide, by decide⟩ ⟨by decide, by decide⟩ (wr := [(ma 47, .inl (y 0, 12, .inl g47)), (ma 43, .inl (y 0, 8, .inl g43))]) [2, 0, 4] [1, 3] rfl rfl (by decide) (by decide) (by decide) (As := [.int (nI q8), .int (-1)]) (rest := []) rfl (nb rfl) rfl d_Model_acts_28 (fun u17 hu18 => ?_)
        have xh19 := hu18
        refine j_ws (ws' := [(ma 47, .inl (y 0, 12, .inl g47)), (ma 43, .inl (y 0, 8, .inl g43)), MB mo ma (nI t1) i2 i3 i4 i5 i6 i7 i8 i42 i49 i51 i53 i54 i59 i61 i64 i66 (nI t67) i76 i78, (ma 46, .inl (y 0, 108, .inl g46)), (ma 62, .inl (y 0, 63, .inl u17))]) rfl ?_
        refine j_aload_n (pc := 31) C d_Model_acts_31 rfl 0 rfl ?_
        refine j_get (pc := 32) C gf_Model_158 2 rfl rfl d_Model_acts_32 ?_
        refine j_iconst (pc := 35) C (v := 2) d_Model_acts_35 (by decide) ?_
        refine j_iload_n (pc := 36) C d_Model_acts_36 rfl 1 rfl ?_
        refine j_iast (pc := 37) C 4 rfl (ws' := [(ma 47, .inl (y 0, 12, .inl g47)), (ma 43, .inl (y 0, 8, .inl g43)), MB mo ma (nI t1) i2 i3 i4 i5 i6 i7 i8 i42 i49 i51 i53 i54 i59 i61 i64 i66 (nI t67) i76 i78, (ma 46, .inl (y 0, 108, .inl g46)), (ma 62, .inl (y 0, 63, .inl (upd u17 2 v)))]) (vin (by decide)) rfl d_Model_acts_37 ?_
        refine j_genW (fun f20 => [(ma 47, .inl (y 0, 12, .inl g47)), (ma 43, .inl (y 0, 8, .inl g43)), MB mo ma (nI t1) i2 i3 i4 i5 i6 i7 i8 i42 i49 i51 i53 i54 i59 i61 i64 i66 (nI t67) i76 i78, (ma 46, .inl (y 0, 108, .inl g46)), (ma 62, .inl (y 0, 63, .inl f20))]) (upd u17 2 v) rfl (fun f20 => (f20 0 = nI dy)) (show upd u17 2 v 0 = nI dy by rw [pk_un (by omega)]; exact xh19) ?_
        rintro f20 xh21
        refine j_ws (ws' := [(ma 47, .inl (y 0, 12, .inl g47)), (ma 43, .inl (y 0, 8, .inl g43)), MB mo ma (nI t1) i2 i3 i4 i5 i6 i7 i8 i42 i49 i51 i53 i54 i59 i61 i64 i66 (nI t67) i76 i78, (ma 46, .inl (y 0, 108, .inl g46)), (ma 62, .inl (y 0, 63, .inl f20))]) rfl ?_
        have xh21 : f20 0 = nI dy := xh21
        exact j_vret (pc := 38) C hr f20 xh21 [2, 1, 3, 0, 4] rfl (by decide) (by decide) (by decide) d_Model_acts_38
  · exact j_vret (pc := 4) C hr g62 hD [0, 1, 2, 3, 4] rfl (by decide) (by decide) (by decide) d_Model_acts_4
theorem d_Model_mayDo_0 : decode prog_13_method_68_code 0 = .ok (.iload_n 2, 1) := by decide +kernel
theorem d_Model_mayDo_1 : decode prog_13_method_68_code 1 = .ok (.ifCond .eq 31, 3) := by decide +kernel
theorem d_Model_mayDo_32 : decode prog_13_method_68_code 32 = .ok (.iconst 1, 1) := by decide +kernel
theorem d_Model_mayDo_33 : decode prog_13_method_68_code 33 = .ok (.goto 4, 3) := by decide +kernel
theorem d_Model_mayDo_37 : decode prog_13_method_68_code 37 = .ok (.ireturn, 1) := by decide +kernel
theorem d_Model_mayDo_4 : decode prog_13_method_68_code 4 = .ok (.aload_n 0, 1) := by decide +kernel
theorem d_Model_mayDo_5 : decode prog_13_method_68_code 5 = .ok (.invokevirtual 448, 3) := by decide +kernel
theorem d_Model_mayDo_8 : decode prog_13_method_68_code 8 = .ok (.ifCond .le 28, 3) := by decide +kernel
theorem d_Model_mayDo_36 : decode prog_13_method_68_code 36 = .ok (.iconst 0, 1) := by decide +kernel
theorem d_Model_mayDo_11 : decode prog_13_method_68_code 11 = .ok (.aload_n 0, 1) := by decide +kernel
theorem d_Model_mayDo_12 : decode prog_13_method_68_code 12 = .ok (.iload_n 1, 1) := by decide +kernel
theorem d_Model_mayDo_13 : decode prog_13_method_68_code 13 = .ok (.iload_n 2, 1) := by decide +kernel
theorem d_Model_mayDo_14 : decode prog_13_method_68_code 14 = .ok (.aload_n 0, 1) := by decide +kernel
theorem d_Model_mayDo_15 : decode prog_13_method_68_code 15 = .ok (.getfield 130, 3) := by decide +kernel
theorem d_Model_mayDo_18 : decode prog_13_method_68_code 18 = .ok (.bipush 6, 2) := by decide +kernel
theorem d_Model_mayDo_20 : decode prog_13_method_68_code 20 = .ok (.aload_n 0, 1) := by decide +kernel
theorem d_Model_mayDo_21 : decode prog_13_method_68_code 21 = .ok (.invokevirtual 451, 3) := by decide +kernel
theorem d_Model_mayDo_24 : decode prog_13_method_68_code 24 = .ok (.iadd, 1) := by decide +kernel
theorem d_Model_mayDo_25 : decode prog_13_method_68_code 25 = .ok (.iaload, 1) := by decide +kernel
theorem d_Model_mayDo_26 : decode prog_13_method_68_code 26 = .ok (.invokevirtual 457, 3) := by decide +kernel
theorem kw_Model_457 : KW "NineBoardsModel" 457 ⟨"NineBoardsModel", "isAllowed", "(III)Z"⟩ prog_13_method_61_code 4 (some .boolean) 3 := ⟨(mt_7 (List.mem_of_getElem? (i := 99) rfl) rfl), (mt_1 (List.mem_of_getElem? (i := 16) rfl) rfl), (mt_7 (List.mem_of_getElem? (i := 102) rfl) rfl), by decide +kernel⟩
theorem kv_Model_isAllowed : Cond.instanceMethod ⟨"NineBoardsModel", "isAllowed", "(III)Z"⟩ ∈ TB ∧ Cond.selects "NineBoardsModel" ⟨"NineBoardsModel", "isAllowed", "(III)Z"⟩ ⟨"NineBoardsModel", "isAllowed", "(III)Z"⟩ ∈ TB := ⟨(mt_7 (List.mem_of_getElem? (i := 101) rfl) rfl), (ms_0 (List.mem_map.mpr ⟨(⟨"NineBoardsModel", "isAllowed", "(III)Z"⟩, 79), List.mem_of_getElem? (i := 98) (by decide +kernel), rfl⟩) rfl)⟩
theorem d_Model_mayDo_29 : decode prog_13_method_68_code 29 = .ok (.ifCond .eq 7, 3) := by decide +kernel
set_option maxHeartbeats 4000000 in
set_option maxRecDepth 100000 in
theorem c_M_mayDo (l : Launch) (D : va_G) (y : Nat → ClassId) (mo : Nat) (ma : Nat → Nat) (t1 : Nat) (i2 : Int32) (i3 : Int32) (i4 : Int32) (i5 : Int32) (i6 : Int32) (i7 : Int32) (i8 : Int32) (i42 : Int32) (i49 : Int32) (i51 : Int32) (i53 : Int32) (i54 : Int32) (i59 : Int32) (i61 : Int32) (i64 : Int32) (i66 : Int32) (t67 : Nat) (i76 : Int64) (i78 : Int32) (g43 : Nat → Int32) (g46 : Nat → Int32) (g47 : Nat → Int32) (g62 : Nat → Int32) (v1 : Int32) (v : Int32) (c1 : Nat) (dy : Nat) (hc1 : g43 5 = nI c1) (bc1 : c1 ≤ 6) (hG : ∀ j, j < 9 → g46 (54 + 6 * j + 5) = -1 ∨ ∃ q, q < 9 ∧ g46 (54 + 6 * j + 5) = nI q) (hO : ∀ j, j < 6 → ∃ q, q < 9 ∧ g47 (6 + j) = nI q) (hD : g62 0 = nI dy) (bD : dy ≤ 2000) : CT l D y ⟨"NineBoardsModel", "mayDo", "(II)Z"⟩ prog_13_method_68_code 3 (some .boolean) ({ frames := 3, cells := 0, slots := 0, locals := 72 } : Room) [.ref mo, .int v1, .int v] [MB mo ma (nI t1) i2 i3 i4 i5 i6 i7 i8 i42 i49 i51 i53 i54 i59 i61 i64 i66 (nI t67) i76 i78, (ma 43, .inl (y 0, 8, .inl g43)), (ma 46, .inl (y 0, 108, .inl g46)), (ma 47, .inl (y 0, 12, .inl g47)), (ma 62, .inl (y 0, 63, .inl g62))] (QI D [MB mo ma (nI t1) i2 i3 i4 i5 i6 i7 i8 i42 i49 i51 i53 i54 i59 i61 i64 i66 (nI t67) i76 i78, (ma 43, .inl (y 0, 8, .inl g43)), (ma 46, .inl (y 0, 108, .inl g46)), (ma 47, .inl (y 0, 12, .inl g47)), (ma 62, .inl (y 0, 63, .inl g62))] (fun (r : Int32) (u : Unit) => (r = 0 ∨ r = 1) ∧ (r = 1 → (v = 0 ∨ 0 < c1))) (fun _ => [MB mo ma (nI t1) i2 i3 i4 i5 i6 i7 i8 i42 i49 i51 i53 i54 i59 i61 i64 i66 (nI t67) i76 i78, (ma 43, .inl (y 0, 8, .inl g43)), (ma 46, .inl (y 0, 108, .inl g46)), (ma 47, .inl (y 0, 12, .inl g47)), (ma 62, .inl (y 0, 63, .inl g62))])) := by
  refine CT.of (by decide) (nb rfl) ?_
  intro p e s m args below meth c C hr
  refine j_lv (lv' := [(0, .ref mo), (1, .int v1), (2, .int v)]) rfl ?_
  refine j_iload_n (pc := 0) C d_Model_mayDo_0 rfl 2 rfl ?_
  refine j_if_eq (pc := 1) C (tgt := 32) d_Model_mayDo_1 (by decide) (fun c2 => ?_) (fun c2 => ?_)
  · refine j_iconst (pc := 32) C (v := 1) d_Model_mayDo_32 (by decide) ?_
    refine j_goto (pc := 33) C (tgt := 37) d_Model_mayDo_33 (by decide) ?_
    exact j_iret (pc := 37) C hr (by decide) () ⟨(by decide), (fun _ => Or.inl c2)⟩ [0, 1, 2, 3, 4] rfl (by decide) (by decide) (by decide) d_Model_mayDo_37
  · refine j_aload_n (pc := 4) C d_Model_mayDo_4 rfl 0 rfl ?_
    refine j_callVi (pc := 5) C (c_M_villages l D y mo ma t1 i2 i3 i4 i5 i6 i7 i8 i42 i49 i51 i53 i54 i59 i61 i64 i66 t67 i76 i78 g43 c1 hc1 bc1) kw_Model_448 kv_Model_villages 0 10 rfl rfl ⟨by decide, by decide⟩ ⟨by decide, by decide⟩ (wr := [(ma 46, .inl (y 0, 108, .inl g46)), (ma 47, .inl (y 0, 12, .inl g47)), (ma 62, .inl (y 0, 63, .inl g62))]) [0, 1] [2, 3, 4] rfl rfl (by decide) (by decide) (by decide) (As := []) (rest := []) rfl (nb rfl) rfl d_Model_mayDo_5 (fun r3 _ hr3 => ?_)
    obtain rfl := hr3
    refine j_ws (ws' := [(ma 46, .inl (y 0, 108, .inl g46)), (ma 47, .inl (y 0, 12, .inl g47)), (ma 62, .inl (y 0, 63, .inl g62)), MB mo ma (nI t1) i2 i3 i4 i5 i6 i7 i8 i42 i49 i51 i53 i54 i59 i61 i64 i66 (nI t67) i76 i78, (ma 43, .inl (y 0, 8, .inl g43))]) rfl ?_
    by_cases c4 : c1 ≤ 0
    · refine j_if_leT (pc := 8) C (tgt := 36) d_Model_mayDo_8 (by decide) (show nI c1 ≤ nI 0 from nI_le (by omega) (by omega)) ?_
      refine j_iconst (pc := 36) C (v := 0) d_Model_mayDo_36 (by decide) ?_
      exact j_iret (pc := 37) C hr (by decide) () ⟨(by decide), (fun e => absurd e (by decide))⟩ [3, 4, 0, 1, 2] rfl (by decide) (by decide) (by decide) d_Model_mayDo_37
    · refine j_if_leF (pc := 8) C (tgt := 36) d_Model_mayDo_8 (by decide) (show ¬ nI c1 ≤ nI 0 from nI_ge (by omega) (by omega)) ?_
      refine j_aload_n (pc := 11) C d_Model_mayDo_11 rfl 0 rfl ?_
      refine j_iload_n (pc := 12) C d_Model_mayDo_12 rfl 1 rfl ?_
      refine j_iload_n (pc := 13) C d_Model_mayDo_13 rfl 2 rfl ?_
      refine j_aload_n (pc := 14) C d_Model_mayDo_14 rfl 0 rfl ?_
      refine j_get (pc := 15) C gf_Model_130 3 rfl rfl d_Model_mayDo_15 ?_
      refine j_bipush (pc := 18) C (v := 6) d_Model_mayDo_18 (by decide) ?_
      refine j_aload_n (pc := 20) C d_Model_mayDo_20 rfl 0 rfl ?_
      refine j_callVi (pc := 21) C (c_M_todays l D y mo ma t1 i2 i3 i4 i5 i6 i7 i8 i42 i49 i51 i53 i54 i59 i61 i64 i66 t67 i76 i78 g43 g62 c1 dy hc1 bc1 hD bD) kw_Model_451 kv_Model_todays 0 10 rfl rfl ⟨by decide, by decide⟩ ⟨by decide, by decide⟩ (wr := [(ma 46, .inl (y 0, 108, .inl g46)), (ma 47, .inl (y 0, 12, .inl g47))]) [3, 4, 2] [0, 1] rfl rfl (by decide) (by decide) (by decide) (As := []) (rest := [.int 6, .ref (ma 47), .int v, .int v1, .ref mo]) rfl (nb rfl) rfl d_Model_mayDo_21 (fun r5 _ hr5 => ?_)
      refine j_ws (ws' := [(ma 46, .inl (y 0, 108, .inl g46)), (ma 47, .inl (y 0, 12, .inl g47)), MB mo ma (nI t1) i2 i3 i4 i5 i6 i7 i8 i42 i49 i51 i53 i54 i59 i61 i64 i66 (nI t67) i76 i78, (ma 43, .inl (y 0, 8, .inl g43)), (ma 62, .inl (y 0, 63, .inl g62))]) rfl ?_
      rcases hr5 with ⟨rfl, xh7⟩ | ⟨q8, xh9, rfl⟩
      · exact absurd c4 (by omega)
      · refine j_iadd (pc := 24) C (v := nI (6 + q8)) d_Model_mayDo_24 (nI_add _ _) ?_
        obtain ⟨q10, xh11, e12⟩ := hO q8 (by omega)
        refine j_iald (pc := 25) C 1 rfl (v := nI q10) (vp_in_nI (by omega) (by decide)) (by rw [nI_clamp (by omega)]; exact e12) d_Model_mayDo_25 ?_
        refine j_callVi (pc := 26) C (c_M_isAllowed l D y mo ma t1 i2 i3 i4 i5 i6 i7 i8 i42 i49 i51 i53 i54 i59 i61 i64 i66 t67 i76 i78 g46 g62 v1 v q10 (by omega) (by omega)) kw_Model_457 kv_Model_isAllowed 0 10 rfl rfl ⟨by decide, by decide⟩ ⟨by decide, by decide⟩ (wr := [(ma 47, .inl (y 0, 12, .inl g47)), (ma 43, .inl (y 0, 8, .inl g43))]) [2, 0, 4] [1, 3] rfl rfl (by decide) (by decide) (by decide) (As := [.int v1, .int v, .int (nI q10)]) (rest := []) rfl (nb rfl) rfl d_Model_mayDo_26 (fun r13 _ hr13 => ?_)
        have xh14 := hr13
        refine j_ws (ws' := [(ma 47, .inl (y 0, 12, .inl g47)), (ma 43, .inl (y 0, 8, .inl g43)), MB mo ma (nI t1) i2 i3 i4 i5 i6 i7 i8 i42 i49 i51 i53 i54 i59 i61 i64 i66 (nI t67) i76 i78, (ma 46, .inl (y 0, 108, .inl g46)), (ma 62, .inl (y 0, 63, .inl g62))]) rfl ?_
        refine j_if_eq (pc := 29) C (tgt := 36) d_Model_mayDo_29 (by decide) (fun c15 => ?_) (fun c15 => ?_)
        · refine j_iconst (pc := 36) C (v := 0) d_Model_mayDo_36 (by decide) ?_
          exact j_iret (pc := 37) C hr (by decide) () ⟨(by decide), (fun e => absurd e (by decide))⟩ [2, 1, 3, 0, 4] rfl (by decide) (by decide) (by decide) d_Model_mayDo_37
        · refine j_iconst (pc := 32) C (v := 1) d_Model_mayDo_32 (by decide) ?_
          refine j_goto (pc := 33) C (tgt := 37) d_Model_mayDo_33 (by decide) ?_
          exact j_iret (pc := 37) C hr (by decide) () ⟨(by decide), (fun _ => Or.inr (by omega))⟩ [2, 1, 3, 0, 4] rfl (by decide) (by decide) (by decide) d_Model_mayDo_37
theorem d_Model_worths_0 : decode prog_13_method_65_code 0 = .ok (.aload_n 0, 1) := by decide +kernel
theorem d_Model_worths_1 : decode prog_13_method_65_code 1 = .ok (.invokevirtual 427, 3) := by decide +kernel
theorem d_Model_worths_4 : decode prog_13_method_65_code 4 = .ok (.aload_n 0, 1) := by decide +kernel
theorem d_Model_worths_5 : decode prog_13_method_65_code 5 = .ok (.getfield 124, 3) := by decide +kernel
theorem d_Model_worths_8 : decode prog_13_method_65_code 8 = .ok (.bipush 10, 2) := by decide +kernel
theorem d_Model_worths_10 : decode prog_13_method_65_code 10 = .ok (.iaload, 1) := by decide +kernel
theorem d_Model_worths_11 : decode prog_13_method_65_code 11 = .ok (.if_icmp .ge 13, 3) := by decide +kernel
theorem d_Model_worths_24 : decode prog_13_method_65_code 24 = .ok (.iconst 0, 1) := by decide +kernel
theorem d_Model_worths_25 : decode prog_13_method_65_code 25 = .ok (.iload_n 1, 1) := by decide +kernel
theorem d_Model_worths_26 : decode prog_13_method_65_code 26 = .ok (.ifCond .eq 13, 3) := by decide +kernel
theorem d_Model_worths_39 : decode prog_13_method_65_code 39 = .ok (.iconst 0, 1) := by decide +kernel
theorem d_Model_worths_40 : decode prog_13_method_65_code 40 = .ok (.iadd, 1) := by decide +kernel
theorem d_Model_worths_41 : decode prog_13_method_65_code 41 = .ok (.istore_n 2, 1) := by decide +kernel
theorem d_Model_worths_42 : decode prog_13_method_65_code 42 = .ok (.iconst 0, 1) := by decide +kernel
theorem d_Model_worths_43 : decode prog_13_method_65_code 43 = .ok (.istore_n 3, 1) := by decide +kernel
theorem d_Model_worths_44 : decode prog_13_method_65_code 44 = .ok (.iload_n 3, 1) := by decide +kernel
theorem d_Model_worths_45 : decode prog_13_method_65_code 45 = .ok (.aload_n 0, 1) := by decide +kernel
theorem d_Model_worths_46 : decode prog_13_method_65_code 46 = .ok (.invokevirtual 448, 3) := by decide +kernel
theorem d_Model_worths_49 : decode prog_13_method_65_code 49 = .ok (.if_icmp .ge 20, 3) := by decide +kernel
theorem d_Model_worths_69 : decode prog_13_method_65_code 69 = .ok (.iconst 0, 1) := by decide +kernel
theorem d_Model_worths_70 : decode prog_13_method_65_code 70 = .ok (.istore_n 3, 1) := by decide +kernel
theorem d_Model_worths_71 : decode prog_13_method_65_code 71 = .ok (.iload_n 3, 1) := by decide +kernel
theorem d_Model_worths_72 : decode prog_13_method_65_code 72 = .ok (.aload_n 0, 1) := by decide +kernel
theorem d_Model_worths_73 : decode prog_13_method_65_code 73 = .ok (.getfield 117, 3) := by decide +kernel
theorem d_Model_worths_76 : decode prog_13_method_65_code 76 = .ok (.bipush 6, 2) := by decide +kernel
theorem d_Model_worths_78 : decode prog_13_method_65_code 78 = .ok (.iaload, 1) := by decide +kernel
theorem d_Model_worths_79 : decode prog_13_method_65_code 79 = .ok (.if_icmp .ge 136, 3) := by decide +kernel
theorem d_Model_worths_215 : decode prog_13_method_65_code 215 = .ok (.iconst 0, 1) := by decide +kernel
theorem d_Model_worths_216 : decode prog_13_method_65_code 216 = .ok (.istore_n 3, 1) := by decide +kernel
theorem d_Model_worths_217 : decode prog_13_method_65_code 217 = .ok (.iload_n 3, 1) := by decide +kernel
theorem d_Model_worths_218 : decode prog_13_method_65_code 218 = .ok (.aload_n 0, 1) := by decide +kernel
theorem d_Model_worths_219 : decode prog_13_method_65_code 219 = .ok (.invokevirtual 448, 3) := by decide +kernel
theorem d_Model_worths_222 : decode prog_13_method_65_code 222 = .ok (.if_icmp .ge 30, 3) := by decide +kernel
theorem d_Model_worths_252 : decode prog_13_method_65_code 252 = .ok (.return_, 1) := by decide +kernel
theorem d_Model_worths_225 : decode prog_13_method_65_code 225 = .ok (.aload_n 0, 1) := by decide +kernel
theorem d_Model_worths_226 : decode prog_13_method_65_code 226 = .ok (.getfield 158, 3) := by decide +kernel
theorem d_Model_worths_229 : decode prog_13_method_65_code 229 = .ok (.bipush 35, 2) := by decide +kernel
theorem d_Model_worths_231 : decode prog_13_method_65_code 231 = .ok (.iload_n 3, 1) := by decide +kernel
theorem d_Model_worths_232 : decode prog_13_method_65_code 232 = .ok (.iadd, 1) := by decide +kernel
theorem d_Model_worths_233 : decode prog_13_method_65_code 233 = .ok (.dup2, 1) := by decide +kernel
theorem d_Model_worths_234 : decode prog_13_method_65_code 234 = .ok (.iaload, 1) := by decide +kernel
theorem d_Model_worths_235 : decode prog_13_method_65_code 235 = .ok (.aload_n 0, 1) := by decide +kernel
theorem d_Model_worths_236 : decode prog_13_method_65_code 236 = .ok (.getfield 158, 3) := by decide +kernel
theorem d_Model_worths_239 : decode prog_13_method_65_code 239 = .ok (.bipush 41, 2) := by decide +kernel
theorem d_Model_worths_241 : decode prog_13_method_65_code 241 = .ok (.iload_n 3, 1) := by decide +kernel
theorem d_Model_worths_242 : decode prog_13_method_65_code 242 = .ok (.iadd, 1) := by decide +kernel
theorem d_Model_worths_243 : decode prog_13_method_65_code 243 = .ok (.iaload, 1) := by decide +kernel
theorem d_Model_worths_244 : decode prog_13_method_65_code 244 = .ok (.iadd, 1) := by decide +kernel
theorem d_Model_worths_245 : decode prog_13_method_65_code 245 = .ok (.iastore, 1) := by decide +kernel
theorem d_Model_worths_246 : decode prog_13_method_65_code 246 = .ok (.iinc 3 1, 3) := by decide +kernel
theorem d_Model_worths_249 : decode prog_13_method_65_code 249 = .ok (.goto (-32), 3) := by decide +kernel
theorem d_Model_worths_82 : decode prog_13_method_65_code 82 = .ok (.bipush 112, 2) := by decide +kernel
theorem d_Model_worths_84 : decode prog_13_method_65_code 84 = .ok (.bipush 7, 2) := by decide +kernel
theorem d_Model_worths_86 : decode prog_13_method_65_code 86 = .ok (.iload_n 3, 1) := by decide +kernel
theorem d_Model_worths_87 : decode prog_13_method_65_code 87 = .ok (.imul, 1) := by decide +kernel
theorem d_Model_worths_88 : decode prog_13_method_65_code 88 = .ok (.iadd, 1) := by decide +kernel
theorem d_Model_worths_89 : decode prog_13_method_65_code 89 = .ok (.istore 4, 2) := by decide +kernel
theorem d_Model_worths_91 : decode prog_13_method_65_code 91 = .ok (.aload_n 0, 1) := by decide +kernel
theorem d_Model_worths_92 : decode prog_13_method_65_code 92 = .ok (.getfield 158, 3) := by decide +kernel
theorem d_Model_worths_95 : decode prog_13_method_65_code 95 = .ok (.iconst 0, 1) := by decide +kernel
theorem d_Model_worths_96 : decode prog_13_method_65_code 96 = .ok (.iaload, 1) := by decide +kernel
theorem d_Model_worths_97 : decode prog_13_method_65_code 97 = .ok (.i2l, 1) := by decide +kernel
theorem d_Model_worths_98 : decode prog_13_method_65_code 98 = .ok (.aload_n 0, 1) := by decide +kernel
theorem d_Model_worths_99 : decode prog_13_method_65_code 99 = .ok (.getfield 133, 3) := by decide +kernel
theorem gf_Model_133 : GF "NineBoardsModel" 133 10 48 := ⟨_, _, _, rfl, ci_Model, by decide, (mt_5 (List.mem_of_getElem? (i := 136) rfl) rfl)⟩
theorem d_Model_worths_102 : decode prog_13_method_65_code 102 = .ok (.iload 4, 2) := by decide +kernel
theorem d_Model_worths_104 : decode prog_13_method_65_code 104 = .ok (.iconst 4, 1) := by decide +kernel
theorem d_Model_worths_105 : decode prog_13_method_65_code 105 = .ok (.iadd, 1) := by decide +kernel
theorem d_Model_worths_106 : decode prog_13_method_65_code 106 = .ok (.iaload, 1) := by decide +kernel
theorem d_Model_worths_107 : decode prog_13_method_65_code 107 = .ok (.i2l, 1) := by decide +kernel
theorem d_Model_worths_108 : decode prog_13_method_65_code 108 = .ok (.aload_n 0, 1) := by decide +kernel
theorem d_Model_worths_109 : decode prog_13_method_65_code 109 = .ok (.getfield 133, 3) := by decide +kernel
theorem d_Model_worths_112 : decode prog_13_method_65_code 112 = .ok (.iload 4, 2) := by decide +kernel
theorem d_Model_worths_114 : decode prog_13_method_65_code 114 = .ok (.iconst 5, 1) := by decide +kernel
theorem d_Model_worths_115 : decode prog_13_method_65_code 115 = .ok (.iadd, 1) := by decide +kernel
theorem d_Model_worths_116 : decode prog_13_method_65_code 116 = .ok (.iaload, 1) := by decide +kernel
theorem d_Model_worths_117 : decode prog_13_method_65_code 117 = .ok (.i2l, 1) := by decide +kernel
theorem d_Model_worths_118 : decode prog_13_method_65_code 118 = .ok (.invokestatic 240, 3) := by decide +kernel
theorem d_Model_worths_121 : decode prog_13_method_65_code 121 = .ok (.ifCond .eq 88, 3) := by decide +kernel
theorem d_Model_worths_209 : decode prog_13_method_65_code 209 = .ok (.iinc 3 1, 3) := by decide +kernel
theorem d_Model_worths_212 : decode prog_13_method_65_code 212 = .ok (.goto (-141), 3) := by decide +kernel
theorem d_Model_worths_124 : decode prog_13_method_65_code 124 = .ok (.aload_n 0, 1) := by decide +kernel
theorem d_Model_worths_125 : decode prog_13_method_65_code 125 = .ok (.getfield 161, 3) := by decide +kernel
theorem d_Model_worths_128 : decode prog_13_method_65_code 128 = .ok (.aload_n 0, 1) := by decide +kernel
theorem d_Model_worths_129 : decode prog_13_method_65_code 129 = .ok (.getfield 133, 3) := by decide +kernel
theorem d_Model_worths_132 : decode prog_13_method_65_code 132 = .ok (.iload 4, 2) := by decide +kernel
theorem d_Model_worths_134 : decode prog_13_method_65_code 134 = .ok (.iconst 1, 1) := by decide +kernel
theorem d_Model_worths_135 : decode prog_13_method_65_code 135 = .ok (.iadd, 1) := by decide +kernel
theorem d_Model_worths_136 : decode prog_13_method_65_code 136 = .ok (.iaload, 1) := by decide +kernel
theorem d_Model_worths_137 : decode prog_13_method_65_code 137 = .ok (.iaload, 1) := by decide +kernel
theorem d_Model_worths_138 : decode prog_13_method_65_code 138 = .ok (.i2l, 1) := by decide +kernel
theorem d_Model_worths_139 : decode prog_13_method_65_code 139 = .ok (.aload_n 0, 1) := by decide +kernel
theorem d_Model_worths_140 : decode prog_13_method_65_code 140 = .ok (.getfield 133, 3) := by decide +kernel
theorem d_Model_worths_143 : decode prog_13_method_65_code 143 = .ok (.iload 4, 2) := by decide +kernel
theorem d_Model_worths_145 : decode prog_13_method_65_code 145 = .ok (.iconst 2, 1) := by decide +kernel
theorem d_Model_worths_146 : decode prog_13_method_65_code 146 = .ok (.iadd, 1) := by decide +kernel
theorem d_Model_worths_147 : decode prog_13_method_65_code 147 = .ok (.iaload, 1) := by decide +kernel
theorem d_Model_worths_148 : decode prog_13_method_65_code 148 = .ok (.i2l, 1) := by decide +kernel
theorem d_Model_worths_149 : decode prog_13_method_65_code 149 = .ok (.aload_n 0, 1) := by decide +kernel
theorem d_Model_worths_150 : decode prog_13_method_65_code 150 = .ok (.getfield 133, 3) := by decide +kernel
theorem d_Model_worths_153 : decode prog_13_method_65_code 153 = .ok (.iload 4, 2) := by decide +kernel
theorem d_Model_worths_155 : decode prog_13_method_65_code 155 = .ok (.iconst 3, 1) := by decide +kernel
theorem d_Model_worths_156 : decode prog_13_method_65_code 156 = .ok (.iadd, 1) := by decide +kernel
theorem d_Model_worths_157 : decode prog_13_method_65_code 157 = .ok (.iaload, 1) := by decide +kernel
theorem d_Model_worths_158 : decode prog_13_method_65_code 158 = .ok (.i2l, 1) := by decide +kernel
theorem d_Model_worths_159 : decode prog_13_method_65_code 159 = .ok (.invokestatic 240, 3) := by decide +kernel
theorem d_Model_worths_162 : decode prog_13_method_65_code 162 = .ok (.ifCond .ne 6, 3) := by decide +kernel
theorem d_Model_worths_168 : decode prog_13_method_65_code 168 = .ok (.aload_n 0, 1) := by decide +kernel
theorem d_Model_worths_169 : decode prog_13_method_65_code 169 = .ok (.getfield 158, 3) := by decide +kernel
theorem d_Model_worths_172 : decode prog_13_method_65_code 172 = .ok (.bipush 47, 2) := by decide +kernel
theorem d_Model_worths_174 : decode prog_13_method_65_code 174 = .ok (.iload_n 3, 1) := by decide +kernel
theorem d_Model_worths_175 : decode prog_13_method_65_code 175 = .ok (.iadd, 1) := by decide +kernel
theorem d_Model_worths_176 : decode prog_13_method_65_code 176 = .ok (.dup2, 1) := by decide +kernel
theorem d_Model_worths_177 : decode prog_13_method_65_code 177 = .ok (.iaload, 1) := by decide +kernel
theorem d_Model_worths_178 : decode prog_13_method_65_code 178 = .ok (.iconst 1, 1) := by decide +kernel
theorem d_Model_worths_179 : decode prog_13_method_65_code 179 = .ok (.iadd, 1) := by decide +kernel
theorem d_Model_worths_180 : decode prog_13_method_65_code 180 = .ok (.iastore, 1) := by decide +kernel
theorem d_Model_worths_181 : decode prog_13_method_65_code 181 = .ok (.aload_n 0, 1) := by decide +kernel
theorem d_Model_worths_182 : decode prog_13_method_65_code 182 = .ok (.getfield 158, 3) := by decide +kernel
theorem d_Model_worths_185 : decode prog_13_method_65_code 185 = .ok (.bipush 41, 2) := by decide +kernel
theorem d_Model_worths_187 : decode prog_13_method_65_code 187 = .ok (.aload_n 0, 1) := by decide +kernel
theorem d_Model_worths_188 : decode prog_13_method_65_code 188 = .ok (.getfield 133, 3) := by decide +kernel
theorem d_Model_worths_191 : decode prog_13_method_65_code 191 = .ok (.iload 4, 2) := by decide +kernel
theorem d_Model_worths_193 : decode prog_13_method_65_code 193 = .ok (.iaload, 1) := by decide +kernel
theorem d_Model_worths_194 : decode prog_13_method_65_code 194 = .ok (.iadd, 1) := by decide +kernel
theorem d_Model_worths_195 : decode prog_13_method_65_code 195 = .ok (.dup2, 1) := by decide +kernel
theorem d_Model_worths_196 : decode prog_13_method_65_code 196 = .ok (.iaload, 1) := by decide +kernel
theorem d_Model_worths_197 : decode prog_13_method_65_code 197 = .ok (.aload_n 0, 1) := by decide +kernel
theorem d_Model_worths_198 : decode prog_13_method_65_code 198 = .ok (.getfield 133, 3) := by decide +kernel
theorem d_Model_worths_201 : decode prog_13_method_65_code 201 = .ok (.iload 4, 2) := by decide +kernel
theorem d_Model_worths_203 : decode prog_13_method_65_code 203 = .ok (.bipush 6, 2) := by decide +kernel
theorem d_Model_worths_205 : decode prog_13_method_65_code 205 = .ok (.iadd, 1) := by decide +kernel
theorem d_Model_worths_206 : decode prog_13_method_65_code 206 = .ok (.iaload, 1) := by decide +kernel
theorem d_Model_worths_207 : decode prog_13_method_65_code 207 = .ok (.iadd, 1) := by decide +kernel
theorem d_Model_worths_208 : decode prog_13_method_65_code 208 = .ok (.iastore, 1) := by decide +kernel
theorem d_Model_worths_165 : decode prog_13_method_65_code 165 = .ok (.goto 44, 3) := by decide +kernel
theorem d_Model_worths_52 : decode prog_13_method_65_code 52 = .ok (.aload_n 0, 1) := by decide +kernel
theorem d_Model_worths_53 : decode prog_13_method_65_code 53 = .ok (.getfield 158, 3) := by decide +kernel
theorem d_Model_worths_56 : decode prog_13_method_65_code 56 = .ok (.bipush 41, 2) := by decide +kernel
theorem d_Model_worths_58 : decode prog_13_method_65_code 58 = .ok (.iload_n 3, 1) := by decide +kernel
theorem d_Model_worths_59 : decode prog_13_method_65_code 59 = .ok (.iadd, 1) := by decide +kernel
theorem d_Model_worths_60 : decode prog_13_method_65_code 60 = .ok (.iload_n 2, 1) := by decide +kernel
theorem d_Model_worths_61 : decode prog_13_method_65_code 61 = .ok (.ineg, 1) := by decide +kernel
theorem d_Model_worths_62 : decode prog_13_method_65_code 62 = .ok (.iastore, 1) := by decide +kernel
theorem d_Model_worths_63 : decode prog_13_method_65_code 63 = .ok (.iinc 3 1, 3) := by decide +kernel
theorem d_Model_worths_66 : decode prog_13_method_65_code 66 = .ok (.goto (-22), 3) := by decide +kernel
theorem d_Model_worths_29 : decode prog_13_method_65_code 29 = .ok (.aload_n 0, 1) := by decide +kernel
theorem d_Model_worths_30 : decode prog_13_method_65_code 30 = .ok (.getfield 124, 3) := by decide +kernel
theorem d_Model_worths_33 : decode prog_13_method_65_code 33 = .ok (.bipush 13, 2) := by decide +kernel
theorem d_Model_worths_35 : decode prog_13_method_65_code 35 = .ok (.iaload, 1) := by decide +kernel
theorem d_Model_worths_36 : decode prog_13_method_65_code 36 = .ok (.goto 4, 3) := by decide +kernel
theorem d_Model_worths_14 : decode prog_13_method_65_code 14 = .ok (.aload_n 0, 1) := by decide +kernel
theorem d_Model_worths_15 : decode prog_13_method_65_code 15 = .ok (.getfield 124, 3) := by decide +kernel
theorem d_Model_worths_18 : decode prog_13_method_65_code 18 = .ok (.bipush 11, 2) := by decide +kernel
theorem d_Model_worths_20 : decode prog_13_method_65_code 20 = .ok (.iaload, 1) := by decide +kernel
theorem d_Model_worths_21 : decode prog_13_method_65_code 21 = .ok (.goto 4, 3) := by decide +kernel
set_option maxHeartbeats 4000000 in
set_option maxRecDepth 100000 in
theorem c_M_worths (l : Launch) (D : va_G) (y : Nat → ClassId) (mo : Nat) (ma : Nat → Nat) (t1 : Nat) (i2 : Int32) (i3 : Int32) (i4 : Int32) (i5 : Int32) (i6 : Int32) (i7 : Int32) (i8 : Int32) (i42 : Int32) (i49 : Int32) (i51 : Int32) (i53 : Int32) (i54 : Int32) (i59 : Int32) (i61 : Int32) (i64 : Int32) (i66 : Int32) (t67 : Nat) (i76 : Int64) (i78 : Int32) (g43 : Nat → Int32) (g45 : Nat → Int32) (g48 : Nat → Int32) (g62 : Nat → Int32) (g63 : Nat → Int32) (v : Int32) (c1 : Nat) (c2 : Nat) (dy : Nat) (hc1 : g43 5 = nI c1) (bc1 : c1 ≤ 6) (hc2 : g43 6 = nI c2) (bc2 : c2 ≤ 16) (hL : ¬ g45 7 = 0) (hTh : ∀ j, j < 16 → (∃ q, q < 6 ∧ g48 (112 + 7 * j) = nI q) ∧ ∃ q, q < 9 ∧ g48 (112 + 7 * j + 1) = nI q) (hD : g62 0 = nI dy) (bD : dy ≤ 2000) : CT l D y ⟨"NineBoardsModel", "worths", "(Z)V"⟩ prog_13_method_65_code 5 none ({ frames := 1, cells := 0, slots := 0, locals := 25 } : Room) [.ref mo, .int v] [MB mo ma (nI t1) i2 i3 i4 i5 i6 i7 i8 i42 i49 i51 i53 i54 i59 i61 i64 i66 (nI t67) i76 i78, (ma 43, .inl (y 0, 8, .inl g43)), (ma 45, .inl (y 0, 14, .inl g45)), (ma 48, .inl (y 0, 224, .inl g48)), (ma 62, .inl (y 0, 63, .inl g62)), (ma 63, .inl (y 0, 9, .inl g63))] (QV D [MB mo ma (nI t1) i2 i3 i4 i5 i6 i7 i8 i42 i49 i51 i53 i54 i59 i61 i64 i66 (nI t67) i76 i78, (ma 43, .inl (y 0, 8, .inl g43)), (ma 45, .inl (y 0, 14, .inl g45)), (ma 48, .inl (y 0, 224, .inl g48)), (ma 62, .inl (y 0, 63, .inl g62)), (ma 63, .inl (y 0, 9, .inl g63))] (fun (u : (Nat → Int32)) => u 0 = nI dy) (fun u => [MB mo ma (nI t1) i2 i3 i4 i5 i6 i7 i8 i42 i49 i51 i53 i54 i59 i61 i64 i66 (nI t67) i76 i78, (ma 43, .inl (y 0, 8, .inl g43)), (ma 45, .inl (y 0, 14, .inl g45)), (ma 48, .inl (y 0, 224, .inl g48)), (ma 62, .inl (y 0, 63, .inl u)), (ma 63, .inl (y 0, 9, .inl g63))])) := by
  refine CT.of (by decide) (nb rfl) ?_
  intro p e s m args below meth c C hr
  refine j_lv (lv' := [(0, .ref mo), (1, .int v)]) rfl ?_
  refine j_aload_n (pc := 0) C d_Model_worths_0 rfl 0 rfl ?_
  refine j_callVi (pc := 1) C (c_M_level l D y mo ma t1 i2 i3 i4 i5 i6 i7 i8 i42 i49 i51 i53 i54 i59 i61 i64 i66 t67 i76 i78 g45 g62 hL) kw_Model_427 kv_Model_level 0 10 rfl rfl ⟨by decide, by decide⟩ ⟨by decide, by decide⟩ (wr := [(ma 43, .inl (y 0, 8, .inl g43)), (ma 48, .inl (y 0, 224, .inl g48)), (ma 63, .inl (y 0, 9, .inl g63))]) [0, 2, 4] [1, 3, 5] rfl rfl (by decide +kernel) (by decide +kernel) (by decide +kernel) (As := []) (rest := []) rfl (nb rfl) rfl d_Model_worths_1 (fun r1 _ hr1 => ?_)
  refine j_ws (ws' := [(ma 43, .inl (y 0, 8, .inl g43)), (ma 48, .inl (y 0, 224, .inl g48)), (ma 63, .inl (y 0, 9, .inl g63)), MB mo ma (nI t1) i2 i3 i4 i5 i6 i7 i8 i42 i49 i51 i53 i54 i59 i61 i64 i66 (nI t67) i76 i78, (ma 45, .inl (y 0, 14, .inl g45)), (ma 62, .inl (y 0, 63, .inl g62))]) rfl ?_
  refine j_aload_n (pc := 4) C d_Model_worths_4 rfl 0 rfl ?_
  refine j_get (pc := 5) C gf_Model_124 3 rfl rfl d_Model_worths_5 ?_
  refine j_bipush (pc := 8) C (v := 10) d_Model_worths_8 (by decide) ?_
  refine j_iald (pc := 10) C 4 rfl (v := g45 10) (vin (by decide)) rfl d_Model_worths_10 ?_
  refine j_icmp_ge (pc := 11) C (tgt := 24) d_Model_worths_11 (by decide) (fun c3 => ?_) (fun c3 => ?_)
  · refine j_iconst (pc := 24) C (v := 0) d_Model_worths_24 (by decide) ?_
    refine j_iload_n (pc := 25) C d_Model_worths_25 rfl 1 rfl ?_
    refine j_if_eq (pc := 26) C (tgt := 39) d_Model_worths_26 (by decide) (fun c4 => ?_) (fun c4 => ?_)
    · refine j_iconst (pc := 39) C (v := 0) d_Model_worths_39 (by decide) ?_
      refine j_iadd (pc := 40) C (v := 0) d_Model_worths_40 (by decide) ?_
      refine j_istore_n (pc := 41) C (lv' := [(2, .int 0), (0, .ref mo), (1, .int v)]) d_Model_worths_41 rfl (by decide) rfl ?_
      refine j_iconst (pc := 42) C (v := 0) d_Model_worths_42 (by decide) ?_
      refine j_istore_n (pc := 43) C (lv' := [(3, .int 0), (2, .int 0), (0, .ref mo), (1, .int v)]) d_Model_worths_43 rfl (by decide) rfl ?_
      refine j_loop (α := Nat × (Nat → Int32)) (fun a => c1 - a.1) (fun a => (a.1 ≤ c1) ∧ (a.2 0 = nI dy)) (fun a => [(ma 43, .inl (y 0, 8, .inl g43)), (ma 48, .inl (y 0, 224, .inl g48)), (ma 63, .inl (y 0, 9, .inl g63)), MB mo ma (nI t1) i2 i3 i4 i5 i6 i7 i8 i42 i49 i51 i53 i54 i59 i61 i64 i66 (nI t67) i76 i78, (ma 45, .inl (y 0, 14, .inl g45)), (ma 62, .inl (y 0, 63, .inl a.2))]) (fun a => [(3, .int (nI a.1)), (2, .int 0), (0, .ref mo), (1, .int v)]) (0, g62) rfl rfl ⟨(show 0 ≤ c1 by omega), hD⟩ ?_
      rintro ⟨iz, nz⟩ hP71 ih72
      obtain ⟨hi__, hn__⟩ := hP71
      have hi_ : iz ≤ c1 := hi__
      have hn_ : nz 0 = nI dy := hn__
      refine j_ws (ws' := [(ma 43, .inl (y 0, 8, .inl g43)), (ma 48, .inl (y 0, 224, .inl g48)), (ma 63, .inl (y 0, 9, .inl g63)), MB mo ma (nI t1) i2 i3 i4 i5 i6 i7 i8 i42 i49 i51 i53 i54 i59 i61 i64 i66 (nI t67) i76 i78, (ma 45, .inl (y 0, 14, .inl g45)), (ma 62, .inl (y 0, 63, .inl nz))]) rfl ?_
      refine j_lv (lv' := [(3, .int (nI iz)), (2, .int 0), (0, .ref mo), (1, .int v)]) rfl ?_
      refine j_iload_n (pc := 44) C d_Model_worths_44 rfl 0 rfl ?_
      refine j_aload_n (pc := 45) C d_Model_worths_45 rfl 2 rfl ?_
      refine j_callVi (pc := 46) C (c_M_villages l D y mo ma t1 i2 i3 i4 i5 i6 i7 i8 i42 i49 i51 i53 i54 i59 i61 i64 i66 t67 i76 i78 g43 c1 hc1 bc1) kw_Model_448 kv_Model_villages 0 10 rfl rfl ⟨by decide, by decide⟩ ⟨by decide, by decide⟩ (wr := [(ma 48, .inl (y 0, 224, .inl g48)), (ma 63, .inl (y 0, 9, .inl g63)), (ma 45, .inl (y 0, 14, .inl g45)), (ma 62, .inl (y 0, 63, .inl nz))]) [3, 0] [1, 2, 4, 5] rfl rfl (by decide +kernel) (by decide +kernel) (by decide +kernel) (As := []) (rest := [.int (nI iz)]) rfl (nb rfl) rfl d_Model_worths_46 (fun r73 _ hr73 => ?_)
      obtain rfl := hr73
      refine j_ws (ws' := [(ma 48, .inl (y 0, 224, .inl g48)), (ma 63, .inl (y 0, 9, .inl g63)), (ma 45, .inl (y 0, 14, .inl g45)), (ma 62, .inl (y 0, 63, .inl nz)), MB mo ma (nI t1) i2 i3 i4 i5 i6 i7 i8 i42 i49 i51 i53 i54 i59 i61 i64 i66 (nI t67) i76 i78, (ma 43, .inl (y 0, 8, .inl g43))]) rfl ?_
      by_cases c74 : c1 ≤ iz
      · refine j_icmp_geT (pc := 49) C (tgt := 69) d_Model_worths_49 (by decide) (show nI c1 ≤ nI iz from nI_le (by omega) (by omega)) ?_
        refine j_iconst (pc := 69) C (v := 0) d_Model_worths_69 (by decide) ?_
        refine j_istore_n (pc := 70) C (lv' := [(3, .int 0), (2, .int 0), (0, .ref mo), (1, .int v)]) d_Model_worths_70 rfl (by decide) rfl ?_
        refine j_loop (α := Nat × (Nat → Int32)) (fun a => c2 - a.1) (fun a => (a.1 ≤ c2) ∧ (a.2 0 = nI dy)) (fun a => [(ma 48, .inl (y 0, 224, .inl g48)), (ma 63, .inl (y 0, 9, .inl g63)), (ma 45, .inl (y 0, 14, .inl g45)), (ma 62, .inl (y 0, 63, .inl a.2)), MB mo ma (nI t1) i2 i3 i4 i5 i6 i7 i8 i42 i49 i51 i53 i54 i59 i61 i64 i66 (nI t67) i76 i78, (ma 43, .inl (y 0, 8, .inl g43))]) (fun a => [(3, .int (nI a.1)), (2, .int 0), (0, .ref mo), (1, .int v)]) (0, nz) rfl rfl ⟨(show 0 ≤ c2 by omega), hn_⟩ ?_
        rintro ⟨iz, nz⟩ hP105 ih106
        obtain ⟨hi__, hn__⟩ := hP105
        have hi_ : iz ≤ c2 := hi__
        have hn_ : nz 0 = nI dy := hn__
        refine j_ws (ws' := [(ma 48, .inl (y 0, 224, .inl g48)), (ma 63, .inl (y 0, 9, .inl g63)), (ma 45, .inl (y 0, 14, .inl g45)), (ma 62, .inl (y 0, 63, .inl nz)), MB mo ma (nI t1) i2 i3 i4 i5 i6 i7 i8 i42 i49 i51 i53 i54 i59 i61 i64 i66 (nI t67) i76 i78, (ma 43, .inl (y 0, 8, .inl g43))]) rfl ?_
        refine j_lv (lv' := [(3, .int (nI iz)), (2, .int 0), (0, .ref mo), (1, .int v)]) rfl ?_
        refine j_iload_n (pc := 71) C d_Model_worths_71 rfl 0 rfl ?_
        refine j_aload_n (pc := 72) C d_Model_worths_72 rfl 2 rfl ?_
        refine j_get (pc := 73) C gf_Model_117 4 rfl rfl d_Model_worths_73 ?_
        refine j_bipush (pc := 76) C (v := 6) d_Model_worths_76 (by decide) ?_
        refine j_iald (pc := 78) C 5 rfl (v := nI c2) (vin (by decide)) (by exact hc2) d_Model_worths_78 ?_
        by_cases c107 : c2 ≤ iz
        · refine j_icmp_geT (pc := 79) C (tgt := 215) d_Model_worths_79 (by decide) (show nI c2 ≤ nI iz from nI_le (by omega) (by omega)) ?_
          refine j_iconst (pc := 215) C (v := 0) d_Model_worths_215 (by decide) ?_
          refine j_istore_n (pc := 216) C (lv' := [(3, .int 0), (2, .int 0), (0, .ref mo), (1, .int v)]) d_Model_worths_216 rfl (by decide) rfl ?_
          refine j_loop (α := Nat × (Nat → Int32)) (fun a => c1 - a.1) (fun a => (a.1 ≤ c1) ∧ (a.2 0 = nI dy)) (fun a => [(ma 48, .inl (y 0, 224, .inl g48)), (ma 63, .inl (y 0, 9, .inl g63)), (ma 45, .inl (y 0, 14, .inl g45)), (ma 62, .inl (y 0, 63, .inl a.2)), MB mo ma (nI t1) i2 i3 i4 i5 i6 i7 i8 i42 i49 i51 i53 i54 i59 i61 i64 i66 (nI t67) i76 i78, (ma 43, .inl (y 0, 8, .inl g43))]) (fun a => [(3, .int (nI a.1)), (2, .int 0), (0, .ref mo), (1, .int v)]) (0, nz) rfl rfl ⟨(show 0 ≤ c1 by omega), hn_⟩ ?_
          rintro ⟨iz, nz⟩ hP113 ih114
          obtain ⟨hi__, hn__⟩ := hP113
          have hi_ : iz ≤ c1 := hi__
          have hn_ : nz 0 = nI dy := hn__
          refine j_ws (ws' := [(ma 48, .inl (y 0, 224, .inl g48)), (ma 63, .inl (y 0, 9, .inl g63)), (ma 45, .inl (y 0, 14, .inl g45)), (ma 62, .inl (y 0, 63, .inl nz)), MB mo ma (nI t1) i2 i3 i4 i5 i6 i7 i8 i42 i49 i51 i53 i54 i59 i61 i64 i66 (nI t67) i76 i78, (ma 43, .inl (y 0, 8, .inl g43))]) rfl ?_
          refine j_lv (lv' := [(3, .int (nI iz)), (2, .int 0), (0, .ref mo), (1, .int v)]) rfl ?_
          refine j_iload_n (pc := 217) C d_Model_worths_217 rfl 0 rfl ?_
          refine j_aload_n (pc := 218) C d_Model_worths_218 rfl 2 rfl ?_
          refine j_callVi (pc := 219) C (c_M_villages l D y mo ma t1 i2 i3 i4 i5 i6 i7 i8 i42 i49 i51 i53 i54 i59 i61 i64 i66 t67 i76 i78 g43 c1 hc1 bc1) kw_Model_448 kv_Model_villages 0 10 rfl rfl ⟨by decide, by decide⟩ ⟨by decide, by decide⟩ (wr := [(ma 48, .inl (y 0, 224, .inl g48)), (ma 63, .inl (y 0, 9, .inl g63)), (ma 45, .inl (y 0, 14, .inl g45)), (ma 62, .inl (y 0, 63, .inl nz))]) [4, 5] [0, 1, 2, 3] rfl rfl (by decide +kernel) (by decide +kernel) (by decide +kernel) (As := []) (rest := [.int (nI iz)]) rfl (nb rfl) rfl d_Model_worths_219 (fun r115 _ hr115 => ?_)
          obtain rfl := hr115
          refine j_ws (ws' := [(ma 48, .inl (y 0, 224, .inl g48)), (ma 63, .inl (y 0, 9, .inl g63)), (ma 45, .inl (y 0, 14, .inl g45)), (ma 62, .inl (y 0, 63, .inl nz)), MB mo ma (nI t1) i2 i3 i4 i5 i6 i7 i8 i42 i49 i51 i53 i54 i59 i61 i64 i66 (nI t67) i76 i78, (ma 43, .inl (y 0, 8, .inl g43))]) rfl ?_
          by_cases c116 : c1 ≤ iz
          · refine j_icmp_geT (pc := 222) C (tgt := 252) d_Model_worths_222 (by decide) (show nI c1 ≤ nI iz from nI_le (by omega) (by omega)) ?_
            exact j_vret (pc := 252) C hr nz hn_ [4, 5, 2, 0, 3, 1] rfl (by decide) (by decide) (by decide) d_Model_worths_252
          · refine j_icmp_geF (pc := 222) C (tgt := 252) d_Model_worths_222 (by decide) (show ¬ nI c1 ≤ nI iz from nI_ge (by omega) (by omega)) ?_
            refine j_aload_n (pc := 225) C d_Model_worths_225 rfl 2 rfl ?_
            refine j_get (pc := 226) C gf_Model_158 4 rfl rfl d_Model_worths_226 ?_
            refine j_bipush (pc := 229) C (v := 35) d_Model_worths_229 (by decide) ?_
            refine j_iload_n (pc := 231) C d_Model_worths_231 rfl 0 rfl ?_
            refine j_iadd (pc := 232) C (v := nI (35 + iz)) d_Model_worths_232 (nI_add _ _) ?_
            refine j_dup2 (pc := 233) C d_Model_worths_233 rfl rfl ?_
            refine j_iald (pc := 234) C 3 rfl (v := nz (35 + iz)) (vp_in_nI (by omega) (by decide)) (by rw [nI_clamp (by omega)]) d_Model_worths_234 ?_
            refine j_aload_n (pc := 235) C d_Model_worths_235 rfl 2 rfl ?_
            refine j_get (pc := 236) C gf_Model_158 4 rfl rfl d_Model_worths_236 ?_
            refine j_bipush (pc := 239) C (v := 41) d_Model_worths_239 (by decide) ?_
            refine j_iload_n (pc := 241) C d_Model_worths_241 rfl 0 rfl ?_
            refine j_iadd (pc := 242) C (v := nI (41 + iz)) d_Model_worths_242 (nI_add _ _) ?_
            refine j_iald (pc := 243) C 3 rfl (v := nz (41 + iz)) (vp_in_nI (by omega) (by decide)) (by rw [nI_clamp (by omega)]) d_Model_worths_243 ?_
            refine j_iadd (pc := 244) C (v := (nz (35 + iz)) + (nz (41 + iz))) d_Model_worths_244 rfl ?_
            refine j_anyI (fun v117 => ?_)
            refine j_iast (pc := 245) C 3 rfl (ws' := [(ma 48, .inl (y 0, 224, .inl g48)), (ma 63, .inl (y 0, 9, .inl g63)), (ma 45, .inl (y 0, 14, .inl g45)), (ma 62, .inl (y 0, 63, .inl (upd nz (35 + iz) v117))), MB mo ma (nI t1) i2 i3 i4 i5 i6 i7 i8 i42 i49 i51 i53 i54 i59 i61 i64 i66 (nI t67) i76 i78, (ma 43, .inl (y 0, 8, .inl g43))]) (vp_in_nI (by omega) (by decide)) (by rw [nI_clamp (by omega)]; rfl) d_Model_worths_245 ?_
            refine j_genW (fun f118 => [(ma 48, .inl (y 0, 224, .inl g48)), (ma 63, .inl (y 0, 9, .inl g63)), (ma 45, .inl (y 0, 14, .inl g45)), (ma 62, .inl (y 0, 63, .inl f118)), MB mo ma (nI t1) i2 i3 i4 i5 i6 i7 i8 i42 i49 i51 i53 i54 i59 i61 i64 i66 (nI t67) i76 i78, (ma 43, .inl (y 0, 8, .inl g43))]) (upd nz (35 + iz) v117) rfl (fun f118 => (f118 0 = nI dy)) (show upd nz (35 + iz) v117 0 = nI dy by rw [pk_un (by omega)]; exact hn_) ?_
            rintro f118 xh119
            refine j_ws (ws' := [(ma 48, .inl (y 0, 224, .inl g48)), (ma 63, .inl (y 0, 9, .inl g63)), (ma 45, .inl (y 0, 14, .inl g45)), (ma 62, .inl (y 0, 63, .inl f118)), MB mo ma (nI t1) i2 i3 i4 i5 i6 i7 i8 i42 i49 i51 i53 i54 i59 i61 i64 i66 (nI t67) i76 i78, (ma 43, .inl (y 0, 8, .inl g43))]) rfl ?_
            have xh119 : f118 0 = nI dy := xh119
            refine j_iinc (pc := 246) C (v := nI (iz + 1)) (lv' := [(3, .int (nI (iz + 1))), (2, .int 0), (0, .ref mo), (1, .int v)]) d_Model_worths_246 0 rfl (nI_add _ _) (by decide) rfl ?_
            refine j_goto (pc := 249) C (tgt := 217) d_Model_worths_249 (by decide) ?_
            exact ih114 ((iz + 1), f118) ⟨(show (iz + 1) ≤ c1 by omega), xh119⟩ (show c1 - (iz + 1) < c1 - iz by omega)
        · refine j_icmp_geF (pc := 79) C (tgt := 215) d_Model_worths_79 (by decide) (show ¬ nI c2 ≤ nI iz from nI_ge (by omega) (by omega)) ?_
          refine j_bipush (pc := 82) C (v := 112) d_Model_worths_82 (by decide) ?_
          refine j_bipush (pc := 84) C (v := 7) d_Model_worths_84 (by decide) ?_
          refine j_iload_n (pc := 86) C d_Model_worths_86 rfl 0 rfl ?_
          refine j_imul (pc := 87) C (v := nI (7 * iz)) d_Model_worths_87 (pk_mul _ _) ?_
          refine j_iadd (pc := 88) C (v := nI (112 + (7 * iz))) d_Model_worths_88 (nI_add _ _) ?_
          refine j_istore (pc := 89) C (lv' := [(4, .int (nI (112 + (7 * iz)))), (3, .int (nI iz)), (2, .int 0), (0, .ref mo), (1, .int v)]) d_Model_worths_89 (by decide) rfl ?_
          refine j_aload_n (pc := 91) C d_Model_worths_91 rfl 3 rfl ?_
          refine j_get (pc := 92) C gf_Model_158 4 rfl rfl d_Model_worths_92 ?_
          refine j_iconst (pc := 95) C (v := 0) d_Model_worths_95 (by decide) ?_
          refine j_iald (pc := 96) C 3 rfl (v := nI dy) (vin (by decide)) (by exact hn_) d_Model_worths_96 ?_
          refine j_i2l (pc := 97) C (v := (nI dy).toInt64) d_Model_worths_97 rfl ?_
          refine j_aload_n (pc := 98) C d_Model_worths_98 rfl 3 rfl ?_
          refine j_get (pc := 99) C gf_Model_133 4 rfl rfl d_Model_worths_99 ?_
          refine j_iload (pc := 102) C d_Model_worths_102 0 rfl ?_
          refine j_iconst (pc := 104) C (v := 4) d_Model_worths_104 (by decide) ?_
          refine j_iadd (pc := 105) C (v := nI ((112 + (7 * iz)) + 4)) d_Model_worths_105 (nI_add _ _) ?_
          refine j_iald (pc := 106) C 0 rfl (v := g48 ((112 + (7 * iz)) + 4)) (vp_in_nI (by omega) (by decide)) (by rw [nI_clamp (by omega)]) d_Model_worths_106 ?_
          refine j_i2l (pc := 107) C (v := (g48 ((112 + (7 * iz)) + 4)).toInt64) d_Model_worths_107 rfl ?_
          refine j_aload_n (pc := 108) C d_Model_worths_108 rfl 3 rfl ?_
          refine j_get (pc := 109) C gf_Model_133 4 rfl rfl d_Model_worths_109 ?_
          refine j_iload (pc := 112) C d_Model_worths_112 0 rfl ?_
          refine j_iconst (pc := 114) C (v := 5) d_Model_worths_114 (by decide) ?_
          refine j_iadd (pc := 115) C (v := nI ((112 + (7 * iz)) + 5)) d_Model_worths_115 (nI_add _ _) ?_
          refine j_iald (pc := 116) C 0 rfl (v := g48 ((112 + (7 * iz)) + 5)) (vp_in_nI (by omega) (by decide)) (by rw [nI_clamp (by omega)]) d_Model_worths_116 ?_
          refine j_i2l (pc := 117) C (v := (g48 ((112 + (7 * iz)) + 5)).toInt64) d_Model_worths_117 rfl ?_
          refine j_callSi (pc := 118) C (c_isIn_any l D y ((nI dy).toInt64) ((g48 ((112 + (7 * iz)) + 4)).toInt64) ((g48 ((112 + (7 * iz)) + 5)).toInt64)) kw_Model_240 ks_Model_isIn ⟨by decide, by decide⟩ ⟨by decide, by decide⟩ (wr := [(ma 48, .inl (y 0, 224, .inl g48)), (ma 63, .inl (y 0, 9, .inl g63)), (ma 45, .inl (y 0, 14, .inl g45)), (ma 62, .inl (y 0, 63, .inl nz)), MB mo ma (nI t1) i2 i3 i4 i5 i6 i7 i8 i42 i49 i51 i53 i54 i59 i61 i64 i66 (nI t67) i76 i78, (ma 43, .inl (y 0, 8, .inl g43))]) [] [0, 1, 2, 3, 4, 5] rfl rfl (by decide +kernel) (by decide +kernel) (by decide +kernel) (As := [.long ((nI dy).toInt64), .long ((g48 ((112 + (7 * iz)) + 4)).toInt64), .long ((g48 ((112 + (7 * iz)) + 5)).toInt64)]) (rest := []) rfl (nb rfl) rfl d_Model_worths_118 (fun r120 _ hr120 => ?_)
          have xh121 := hr120
          refine j_ws (ws' := [(ma 48, .inl (y 0, 224, .inl g48)), (ma 63, .inl (y 0, 9, .inl g63)), (ma 45, .inl (y 0, 14, .inl g45)), (ma 62, .inl (y 0, 63, .inl nz)), MB mo ma (nI t1) i2 i3 i4 i5 i6 i7 i8 i42 i49 i51 i53 i54 i59 i61 i64 i66 (nI t67) i76 i78, (ma 43, .inl (y 0, 8, .inl g43))]) rfl ?_
          refine j_if_eq (pc := 121) C (tgt := 209) d_Model_worths_121 (by decide) (fun c122 => ?_) (fun c122 => ?_)
          · refine j_iinc (pc := 209) C (v := nI (iz + 1)) (lv' := [(3, .int (nI (iz + 1))), (4, .int (nI (112 + (7 * iz)))), (2, .int 0), (0, .ref mo), (1, .int v)]) d_Model_worths_209 1 rfl (nI_add _ _) (by decide) rfl ?_
            refine j_goto (pc := 212) C (tgt := 71) d_Model_worths_212 (by decide) ?_
            refine j_locs (lv' := [(3, .int (nI (iz + 1))), (2, .int 0), (0, .ref mo), (1, .int v)]) [0, 2, 3, 4] rfl ?_
            exact ih106 ((iz + 1), nz) ⟨(show (iz + 1) ≤ c2 by omega), hn_⟩ (show c2 - (iz + 1) < c2 - iz by omega)
          · refine j_aload_n (pc := 124) C d_Model_worths_124 rfl 3 rfl ?_
            refine j_get (pc := 125) C gf_Model_161 4 rfl rfl d_Model_worths_125 ?_
            refine j_aload_n (pc := 128) C d_Model_worths_128 rfl 3 rfl ?_
            refine j_get (pc := 129) C gf_Model_133 4 rfl rfl d_Model_worths_129 ?_
            refine j_iload (pc := 132) C d_Model_worths_132 0 rfl ?_
            refine j_iconst (pc := 134) C (v := 1) d_Model_worths_134 (by decide) ?_
            refine j_iadd (pc := 135) C (v := nI ((112 + (7 * iz)) + 1)) d_Model_worths_135 (nI_add _ _) ?_
            obtain ⟨q123, xh124, e125⟩ := (hTh iz (by omega)).2
            refine j_iald (pc := 136) C 0 rfl (v := nI q123) (vp_in_nI (by omega) (by decide)) (by rw [nI_clamp (by omega)]; exact e125) d_Model_worths_136 ?_
            refine j_iald (pc := 137) C 1 rfl (v := g63 q123) (vp_in_nI (by omega) (by decide)) (by rw [nI_clamp (by omega)]) d_Model_worths_137 ?_
            refine j_i2l (pc := 138) C (v := (g63 q123).toInt64) d_Model_worths_138 rfl ?_
            refine j_aload_n (pc := 139) C d_Model_worths_139 rfl 3 rfl ?_
            refine j_get (pc := 140) C gf_Model_133 4 rfl rfl d_Model_worths_140 ?_
            refine j_iload (pc := 143) C d_Model_worths_143 0 rfl ?_
            refine j_iconst (pc := 145) C (v := 2) d_Model_worths_145 (by decide) ?_
            refine j_iadd (pc := 146) C (v := nI ((112 + (7 * iz)) + 2)) d_Model_worths_146 (nI_add _ _) ?_
            refine j_iald (pc := 147) C 0 rfl (v := g48 ((112 + (7 * iz)) + 2)) (vp_in_nI (by omega) (by decide)) (by rw [nI_clamp (by omega)]) d_Model_worths_147 ?_
            refine j_i2l (pc := 148) C (v := (g48 ((112 + (7 * iz)) + 2)).toInt64) d_Model_worths_148 rfl ?_
            refine j_aload_n (pc := 149) C d_Model_worths_149 rfl 3 rfl ?_
            refine j_get (pc := 150) C gf_Model_133 4 rfl rfl d_Model_worths_150 ?_
            refine j_iload (pc := 153) C d_Model_worths_153 0 rfl ?_
            refine j_iconst (pc := 155) C (v := 3) d_Model_worths_155 (by decide) ?_
            refine j_iadd (pc := 156) C (v := nI ((112 + (7 * iz)) + 3)) d_Model_worths_156 (nI_add _ _) ?_
            refine j_iald (pc := 157) C 0 rfl (v := g48 ((112 + (7 * iz)) + 3)) (vp_in_nI (by omega) (by decide)) (by rw [nI_clamp (by omega)]) d_Model_worths_157 ?_
            refine j_i2l (pc := 158) C (v := (g48 ((112 + (7 * iz)) + 3)).toInt64) d_Model_worths_158 rfl ?_
            refine j_callSi (pc := 159) C (c_isIn_any l D y ((g63 q123).toInt64) ((g48 ((112 + (7 * iz)) + 2)).toInt64) ((g48 ((112 + (7 * iz)) + 3)).toInt64)) kw_Model_240 ks_Model_isIn ⟨by decide, by decide⟩ ⟨by decide, by decide⟩ (wr := [(ma 48, .inl (y 0, 224, .inl g48)), (ma 63, .inl (y 0, 9, .inl g63)), (ma 45, .inl (y 0, 14, .inl g45)), (ma 62, .inl (y 0, 63, .inl nz)), MB mo ma (nI t1) i2 i3 i4 i5 i6 i7 i8 i42 i49 i51 i53 i54 i59 i61 i64 i66 (nI t67) i76 i78, (ma 43, .inl (y 0, 8, .inl g43))]) [] [0, 1, 2, 3, 4, 5] rfl rfl (by decide +kernel) (by decide +kernel) (by decide +kernel) (As := [.long ((g63 q123).toInt64), .long ((g48 ((112 + (7 * iz)) + 2)).toInt64), .long ((g48 ((112 + (7 * iz)) + 3)).toInt64)]) (rest := []) rfl (nb rfl) rfl d_Model_worths_159 (fun r126 _ hr126 => ?_)
            have xh127 := hr126
            refine j_ws (ws' := [(ma 48, .inl (y 0, 224, .inl g48)), (ma 63, .inl (y 0, 9, .inl g63)), (ma 45, .inl (y 0, 14, .inl g45)), (ma 62, .inl (y 0, 63, .inl nz)), MB mo ma (nI t1) i2 i3 i4 i5 i6 i7 i8 i42 i49 i51 i53 i54 i59 i61 i64 i66 (nI t67) i76 i78, (ma 43, .inl (y 0, 8, .inl g43))]) rfl ?_
            refine j_if_ne (pc := 162) C (tgt := 168) d_Model_worths_162 (by decide) (fun c128 => ?_) (fun c128 => ?_)
            · refine j_aload_n (pc := 168) C d_Model_worths_168 rfl 3 rfl ?_
              refine j_get (pc := 169) C gf_Model_158 4 rfl rfl d_Model_worths_169 ?_
              refine j_bipush (pc := 172) C (v := 47) d_Model_worths_172 (by decide) ?_
              refine j_iload_n (pc := 174) C d_Model_worths_174 rfl 1 rfl ?_
              refine j_iadd (pc := 175) C (v := nI (47 + iz)) d_Model_worths_175 (nI_add _ _) ?_
              refine j_dup2 (pc := 176) C d_Model_worths_176 rfl rfl ?_
              refine j_iald (pc := 177) C 3 rfl (v := nz (47 + iz)) (vp_in_nI (by omega) (by decide)) (by rw [nI_clamp (by omega)]) d_Model_worths_177 ?_
              refine j_iconst (pc := 178) C (v := 1) d_Model_worths_178 (by decide) ?_
              refine j_iadd (pc := 179) C (v := (nz (47 + iz)) + 1) d_Model_worths_179 rfl ?_
              refine j_iast (pc := 180) C 3 rfl (ws' := [(ma 48, .inl (y 0, 224, .inl g48)), (ma 63, .inl (y 0, 9, .inl g63)), (ma 45, .inl (y 0, 14, .inl g45)), (ma 62, .inl (y 0, 63, .inl (upd nz (47 + iz) ((nz (47 + iz)) + 1)))), MB mo ma (nI t1) i2 i3 i4 i5 i6 i7 i8 i42 i49 i51 i53 i54 i59 i61 i64 i66 (nI t67) i76 i78, (ma 43, .inl (y 0, 8, .inl g43))]) (vp_in_nI (by omega) (by decide)) (by rw [nI_clamp (by omega)]; rfl) d_Model_worths_180 ?_
              refine j_genW (fun f129 => [(ma 48, .inl (y 0, 224, .inl g48)), (ma 63, .inl (y 0, 9, .inl g63)), (ma 45, .inl (y 0, 14, .inl g45)), (ma 62, .inl (y 0, 63, .inl f129)), MB mo ma (nI t1) i2 i3 i4 i5 i6 i7 i8 i42 i49 i51 i53 i54 i59 i61 i64 i66 (nI t67) i76 i78, (ma 43, .inl (y 0, 8, .inl g43))]) (upd nz (47 + iz) ((nz (47 + iz)) + 1)) rfl (fun f129 => (f129 0 = nI dy)) (show upd nz (47 + iz) ((nz (47 + iz)) + 1) 0 = nI dy by rw [pk_un (by omega)]; exact hn_) ?_
              rintro f129 xh130
              refine j_ws (ws' := [(ma 48, .inl (y 0, 224, .inl g48)), (ma 63, .inl (y 0, 9, .inl g63)), (ma 45, .inl (y 0, 14, .inl g45)), (ma 62, .inl (y 0, 63, .inl f129)), MB mo ma (nI t1) i2 i3 i4 i5 i6 i7 i8 i42 i49 i51 i53 i54 i59 i61 i64 i66 (nI t67) i76 i78, (ma 43, .inl (y 0, 8, .inl g43))]) rfl ?_
              have xh130 : f129 0 = nI dy := xh130
              refine j_aload_n (pc := 181) C d_Model_worths_181 rfl 3 rfl ?_
              refine j_get (pc := 182) C gf_Model_158 4 rfl rfl d_Model_worths_182 ?_
              refine j_bipush (pc := 185) C (v := 41) d_Model_worths_185 (by decide) ?_
              refine j_aload_n (pc := 187) C d_Model_worths_187 rfl 3 rfl ?_
              refine j_get (pc := 188) C gf_Model_133 4 rfl rfl d_Model_worths_188 ?_
              refine j_iload (pc := 191) C d_Model_worths_191 0 rfl ?_
              obtain ⟨q131, xh132, e133⟩ := (hTh iz (by omega)).1
              refine j_iald (pc := 193) C 0 rfl (v := nI q131) (vp_in_nI (by omega) (by decide)) (by rw [nI_clamp (by omega)]; exact e133) d_Model_worths_193 ?_
              refine j_iadd (pc := 194) C (v := nI (41 + q131)) d_Model_worths_194 (nI_add _ _) ?_
              refine j_dup2 (pc := 195) C d_Model_worths_195 rfl rfl ?_
              refine j_iald (pc := 196) C 3 rfl (v := f129 (41 + q131)) (vp_in_nI (by omega) (by decide)) (by rw [nI_clamp (by omega)]) d_Model_worths_196 ?_
              refine j_aload_n (pc := 197) C d_Model_worths_197 rfl 3 rfl ?_
              refine j_get (pc := 198) C gf_Model_133 4 rfl rfl d_Model_worths_198 ?_
              refine j_iload (pc := 201) C d_Model_worths_201 0 rfl ?_
              refine j_bipush (pc := 203) C (v := 6) d_Model_worths_203 (by decide) ?_
              refine j_iadd (pc := 205) C (v := nI ((112 + (7 * iz)) + 6)) d_Model_worths_205 (nI_add _ _) ?_
              refine j_iald (pc := 206) C 0 rfl (v := g48 ((112 + (7 * iz)) + 6)) (vp_in_nI (by omega) (by decide)) (by rw [nI_clamp (by omega)]) d_Model_worths_206 ?_
              refine j_iadd (pc := 207) C (v := (f129 (41 + q131)) + (g48 ((112 + (7 * iz)) + 6))) d_Model_worths_207 rfl ?_
              refine j_anyI (fun v134 => ?_)
              refine j_iast (pc := 208) C 3 rfl (ws' := [(ma 48, .inl (y 0, 224, .inl g48)), (ma 63, .inl (y 0, 9, .inl g63)), (ma 45, .inl (y 0, 14, .inl g45)), (ma 62, .inl (y 0, 63, .inl (upd f129 (41 + q131) v134))), MB mo ma (nI t1) i2 i3 i4 i5 i6 i7 i8 i42 i49 i51 i53 i54 i59 i61 i64 i66 (nI t67) i76 i78, (ma 43, .inl (y 0, 8, .inl g43))]) (vp_in_nI (by omega) (by decide)) (by rw [nI_clamp (by omega)]; rfl) d_Model_worths_208 ?_
              refine j_genW (fun f135 => [(ma 48, .inl (y 0, 224, .inl g48)), (ma 63, .inl (y 0, 9, .inl g63)), (ma 45, .inl (y 0, 14, .inl g45)), (ma 62, .inl (y 0, 63, .inl f135)), MB mo ma (nI t1) i2 i3 i4 i5 i6 i7 i8 i42 i49 i51 i53 i54 i59 i61 i64 i66 (nI t67) i76 i78, (ma 43, .inl (y 0, 8, .inl g43))]) (upd f129 (41 + q131) v134) rfl (fun f135 => (f135 0 = nI dy)) (show upd f129 (41 + q131) v134 0 = nI dy by rw [pk_un (by omega)]; exact xh130) ?_
              rintro f135 xh136
              refine j_ws (ws' := [(ma 48, .inl (y 0, 224, .inl g48)), (ma 63, .inl (y 0, 9, .inl g63)), (ma 45, .inl (y 0, 14, .inl g45)), (ma 62, .inl (y 0, 63, .inl f135)), MB mo ma (nI t1) i2 i3 i4 i5 i6 i7 i8 i42 i49 i51 i53 i54 i59 i61 i64 i66 (nI t67) i76 i78, (ma 43, .inl (y 0, 8, .inl g43))]) rfl ?_
              have xh136 : f135 0 = nI dy := xh136
              refine j_iinc (pc := 209) C (v := nI (iz + 1)) (lv' := [(3, .int (nI (iz + 1))), (4, .int (nI (112 + (7 * iz)))), (2, .int 0), (0, .ref mo), (1, .int v)]) d_Model_worths_209 1 rfl (nI_add _ _) (by decide) rfl ?_
              refine j_goto (pc := 212) C (tgt := 71) d_Model_worths_212 (by decide) ?_
              refine j_locs (lv' := [(3, .int (nI (iz + 1))), (2, .int 0), (0, .ref mo), (1, .int v)]) [0, 2, 3, 4] rfl ?_
              exact ih106 ((iz + 1), f135) ⟨(show (iz + 1) ≤ c2 by omega), xh136⟩ (show c2 - (iz + 1) < c2 - iz by omega)
            · refine j_goto (pc := 165) C (tgt := 209) d_Model_worths_165 (by decide) ?_
              refine j_iinc (pc := 209) C (v := nI (iz + 1)) (lv' := [(3, .int (nI (iz + 1))), (4, .int (nI (112 + (7 * iz)))), (2, .int 0), (0, .ref mo), (1, .int v)]) d_Model_worths_209 1 rfl (nI_add _ _) (by decide) rfl ?_
              refine j_goto (pc := 212) C (tgt := 71) d_Model_worths_212 (by decide) ?_
              refine j_locs (lv' := [(3, .int (nI (iz + 1))), (2, .int 0), (0, .ref mo), (1, .int v)]) [0, 2, 3, 4] rfl ?_
              exact ih106 ((iz + 1), nz) ⟨(show (iz + 1) ≤ c2 by omega), hn_⟩ (show c2 - (iz + 1) < c2 - iz by omega)
      · refine j_icmp_geF (pc := 49) C (tgt := 69) d_Model_worths_49 (by decide) (show ¬ nI c1 ≤ nI iz from nI_ge (by omega) (by omega)) ?_
        refine j_aload_n (pc := 52) C d_Model_worths_52 rfl 2 rfl ?_
        refine j_get (pc := 53) C gf_Model_158 4 rfl rfl d_Model_worths_53 ?_
        refine j_bipush (pc := 56) C (v := 41) d_Model_worths_56 (by decide) ?_
        refine j_iload_n (pc := 58) C d_Model_worths_58 rfl 0 rfl ?_
        refine j_iadd (pc := 59) C (v := nI (41 + iz)) d_Model_worths_59 (nI_add _ _) ?_
        refine j_iload_n (pc := 60) C d_Model_worths_60 rfl 1 rfl ?_
        refine j_ineg (pc := 61) C (v := 0) d_Model_worths_61 (by decide) ?_
        refine j_iast (pc := 62) C 3 rfl (ws' := [(ma 48, .inl (y 0, 224, .inl g48)), (ma 63, .inl (y 0, 9, .inl g63)), (ma 45, .inl (y 0, 14, .inl g45)), (ma 62, .inl (y 0, 63, .inl (upd nz (41 + iz) 0))), MB mo ma (nI t1) i2 i3 i4 i5 i6 i7 i8 i42 i49 i51 i53 i54 i59 i61 i64 i66 (nI t67) i76 i78, (ma 43, .inl (y 0, 8, .inl g43))]) (vp_in_nI (by omega) (by decide)) (by rw [nI_clamp (by omega)]; rfl) d_Model_worths_62 ?_
        refine j_genW (fun f137 => [(ma 48, .inl (y 0, 224, .inl g48)), (ma 63, .inl (y 0, 9, .inl g63)), (ma 45, .inl (y 0, 14, .inl g45)), (ma 62, .inl (y 0, 63, .inl f137)), MB mo ma (nI t1) i2 i3 i4 i5 i6 i7 i8 i42 i49 i51 i53 i54 i59 i61 i64 i66 (nI t67) i76 i78, (ma 43, .inl (y 0, 8, .inl g43))]) (upd nz (41 + iz) 0) rfl (fun f137 => (f137 0 = nI dy)) (show upd nz (41 + iz) 0 0 = nI dy by rw [pk_un (by omega)]; exact hn_) ?_
        rintro f137 xh138
        refine j_ws (ws' := [(ma 48, .inl (y 0, 224, .inl g48)), (ma 63, .inl (y 0, 9, .inl g63)), (ma 45, .inl (y 0, 14, .inl g45)), (ma 62, .inl (y 0, 63, .inl f137)), MB mo ma (nI t1) i2 i3 i4 i5 i6 i7 i8 i42 i49 i51 i53 i54 i59 i61 i64 i66 (nI t67) i76 i78, (ma 43, .inl (y 0, 8, .inl g43))]) rfl ?_
        have xh138 : f137 0 = nI dy := xh138
        refine j_iinc (pc := 63) C (v := nI (iz + 1)) (lv' := [(3, .int (nI (iz + 1))), (2, .int 0), (0, .ref mo), (1, .int v)]) d_Model_worths_63 0 rfl (nI_add _ _) (by decide) rfl ?_
        refine j_goto (pc := 66) C (tgt := 44) d_Model_worths_66 (by decide) ?_
        refine j_sub (ws' := [(ma 43, .inl (y 0, 8, .inl g43)), (ma 48, .inl (y 0, 224, .inl g48)), (ma 63, .inl (y 0, 9, .inl g63)), MB mo ma (nI t1) i2 i3 i4 i5 i6 i7 i8 i42 i49 i51 i53 i54 i59 i61 i64 i66 (nI t67) i76 i78, (ma 45, .inl (y 0, 14, .inl g45)), (ma 62, .inl (y 0, 63, .inl f137))]) [5, 0, 1, 4, 2, 3] rfl (by decide +kernel) ?_
        exact ih72 ((iz + 1), f137) ⟨(show (iz + 1) ≤ c1 by omega), xh138⟩ (show c1 - (iz + 1) < c1 - iz by omega)
    · refine j_aload_n (pc := 29) C d_Model_worths_29 rfl 0 rfl ?_
      refine j_get (pc := 30) C gf_Model_124 3 rfl rfl d_Model_worths_30 ?_
      refine j_bipush (pc := 33) C (v := 13) d_Model_worths_33 (by decide) ?_
      refine j_iald (pc := 35) C 4 rfl (v := g45 13) (vin (by decide)) rfl d_Model_worths_35 ?_
      refine j_goto (pc := 36) C (tgt := 40) d_Model_worths_36 (by decide) ?_
      refine j_iadd (pc := 40) C (v := 0 + (g45 13)) d_Model_worths_40 rfl ?_
      refine j_istore_n (pc := 41) C (lv' := [(2, .int (0 + (g45 13))), (0, .ref mo), (1, .int v)]) d_Model_worths_41 rfl (by decide) rfl ?_
      refine j_iconst (pc := 42) C (v := 0) d_Model_worths_42 (by decide) ?_
      refine j_istore_n (pc := 43) C (lv' := [(3, .int 0), (2, .int (0 + (g45 13))), (0, .ref mo), (1, .int v)]) d_Model_worths_43 rfl (by decide) rfl ?_
      refine j_loop (α := Nat × (Nat → Int32)) (fun a => c1 - a.1) (fun a => (a.1 ≤ c1) ∧ (a.2 0 = nI dy)) (fun a => [(ma 43, .inl (y 0, 8, .inl g43)), (ma 48, .inl (y 0, 224, .inl g48)), (ma 63, .inl (y 0, 9, .inl g63)), MB mo ma (nI t1) i2 i3 i4 i5 i6 i7 i8 i42 i49 i51 i53 i54 i59 i61 i64 i66 (nI t67) i76 i78, (ma 45, .inl (y 0, 14, .inl g45)), (ma 62, .inl (y 0, 63, .inl a.2))]) (fun a => [(3, .int (nI a.1)), (2, .int (0 + (g45 13))), (0, .ref mo), (1, .int v)]) (0, g62) rfl rfl ⟨(show 0 ≤ c1 by omega), hD⟩ ?_
      rintro ⟨iz, nz⟩ hP205 ih206
      obtain ⟨hi__, hn__⟩ := hP205
      have hi_ : iz ≤ c1 := hi__
      have hn_ : nz 0 = nI dy := hn__
      refine j_ws (ws' := [(ma 43, .inl (y 0, 8, .inl g43)), (ma 48, .inl (y 0, 224, .inl g48)), (ma 63, .inl (y 0, 9, .inl g63)), MB mo ma (nI t1) i2 i3 i4 i5 i6 i7 i8 i42 i49 i51 i53 i54 i59 i61 i64 i66 (nI t67) i76 i78, (ma 45, .inl (y 0, 14, .inl g45)), (ma 62, .inl (y 0, 63, .inl nz))]) rfl ?_
      refine j_lv (lv' := [(3, .int (nI iz)), (2, .int (0 + (g45 13))), (0, .ref mo), (1, .int v)]) rfl ?_
      refine j_iload_n (pc := 44) C d_Model_worths_44 rfl 0 rfl ?_
      refine j_aload_n (pc := 45) C d_Model_worths_45 rfl 2 rfl ?_
      refine j_callVi (pc := 46) C (c_M_villages l D y mo ma t1 i2 i3 i4 i5 i6 i7 i8 i42 i49 i51 i53 i54 i59 i61 i64 i66 t67 i76 i78 g43 c1 hc1 bc1) kw_Model_448 kv_Model_villages 0 10 rfl rfl ⟨by decide, by decide⟩ ⟨by decide, by decide⟩ (wr := [(ma 48, .inl (y 0, 224, .inl g48)), (ma 63, .inl (y 0, 9, .inl g63)), (ma 45, .inl (y 0, 14, .inl g45)), (ma 62, .inl (y 0, 63, .inl nz))]) [3, 0] [1, 2, 4, 5] rfl rfl (by decide +kernel) (by decide +kernel) (by decide +kernel) (As := []) (rest := [.int (nI iz)]) rfl (nb rfl) rfl d_Model_worths_46 (fun r207 _ hr207 => ?_)
      obtain rfl := hr207
      refine j_ws (ws' := [(ma 48, .inl (y 0, 224, .inl g48)), (ma 63, .inl (y 0, 9, .inl g63)), (ma 45, .inl (y 0, 14, .inl g45)), (ma 62, .inl (y 0, 63, .inl nz)), MB mo ma (nI t1) i2 i3 i4 i5 i6 i7 i8 i42 i49 i51 i53 i54 i59 i61 i64 i66 (nI t67) i76 i78, (ma 43, .inl (y 0, 8, .inl g43))]) rfl ?_
      by_cases c208 : c1 ≤ iz
      · refine j_icmp_geT (pc := 49) C (tgt := 69) d_Model_worths_49 (by decide) (show nI c1 ≤ nI iz from nI_le (by omega) (by omega)) ?_
        refine j_iconst (pc := 69) C (v := 0) d_Model_worths_69 (by decide) ?_
        refine j_istore_n (pc := 70) C (lv' := [(3, .int 0), (2, .int (0 + (g45 13))), (0, .ref mo), (1, .int v)]) d_Model_worths_70 rfl (by decide) rfl ?_
        refine j_loop (α := Nat × (Nat → Int32)) (fun a => c2 - a.1) (fun a => (a.1 ≤ c2) ∧ (a.2 0 = nI dy)) (fun a => [(ma 48, .inl (y 0, 224, .inl g48)), (ma 63, .inl (y 0, 9, .inl g63)), (ma 45, .inl (y 0, 14, .inl g45)), (ma 62, .inl (y 0, 63, .inl a.2)), MB mo ma (nI t1) i2 i3 i4 i5 i6 i7 i8 i42 i49 i51 i53 i54 i59 i61 i64 i66 (nI t67) i76 i78, (ma 43, .inl (y 0, 8, .inl g43))]) (fun a => [(3, .int (nI a.1)), (2, .int (0 + (g45 13))), (0, .ref mo), (1, .int v)]) (0, nz) rfl rfl ⟨(show 0 ≤ c2 by omega), hn_⟩ ?_
        rintro ⟨iz, nz⟩ hP239 ih240
        obtain ⟨hi__, hn__⟩ := hP239
        have hi_ : iz ≤ c2 := hi__
        have hn_ : nz 0 = nI dy := hn__
        refine j_ws (ws' := [(ma 48, .inl (y 0, 224, .inl g48)), (ma 63, .inl (y 0, 9, .inl g63)), (ma 45, .inl (y 0, 14, .inl g45)), (ma 62, .inl (y 0, 63, .inl nz)), MB mo ma (nI t1) i2 i3 i4 i5 i6 i7 i8 i42 i49 i51 i53 i54 i59 i61 i64 i66 (nI t67) i76 i78, (ma 43, .inl (y 0, 8, .inl g43))]) rfl ?_
        refine j_lv (lv' := [(3, .int (nI iz)), (2, .int (0 + (g45 13))), (0, .ref mo), (1, .int v)]) rfl ?_
        refine j_iload_n (pc := 71) C d_Model_worths_71 rfl 0 rfl ?_
        refine j_aload_n (pc := 72) C d_Model_worths_72 rfl 2 rfl ?_
        refine j_get (pc := 73) C gf_Model_117 4 rfl rfl d_Model_worths_73 ?_
        refine j_bipush (pc := 76) C (v := 6) d_Model_worths_76 (by decide) ?_
        refine j_iald (pc := 78) C 5 rfl (v := nI c2) (vin (by decide)) (by exact hc2) d_Model_worths_78 ?_
        by_cases c241 : c2 ≤ iz
        · refine j_icmp_geT (pc := 79) C (tgt := 215) d_Model_worths_79 (by decide) (show nI c2 ≤ nI iz from nI_le (by omega) (by omega)) ?_
          refine j_iconst (pc := 215) C (v := 0) d_Model_worths_215 (by decide) ?_
          refine j_istore_n (pc := 216) C (lv' := [(3, .int 0), (2, .int (0 + (g45 13))), (0, .ref mo), (1, .int v)]) d_Model_worths_216 rfl (by decide) rfl ?_
          refine j_loop (α := Nat × (Nat → Int32)) (fun a => c1 - a.1) (fun a => (a.1 ≤ c1) ∧ (a.2 0 = nI dy)) (fun a => [(ma 48, .inl (y 0, 224, .inl g48)), (ma 63, .inl (y 0, 9, .inl g63)), (ma 45, .inl (y 0, 14, .inl g45)), (ma 62, .inl (y 0, 63, .inl a.2)), MB mo ma (nI t1) i2 i3 i4 i5 i6 i7 i8 i42 i49 i51 i53 i54 i59 i61 i64 i66 (nI t67) i76 i78, (ma 43, .inl (y 0, 8, .inl g43))]) (fun a => [(3, .int (nI a.1)), (2, .int (0 + (g45 13))), (0, .ref mo), (1, .int v)]) (0, nz) rfl rfl ⟨(show 0 ≤ c1 by omega), hn_⟩ ?_
          rintro ⟨iz, nz⟩ hP247 ih248
          obtain ⟨hi__, hn__⟩ := hP247
          have hi_ : iz ≤ c1 := hi__
          have hn_ : nz 0 = nI dy := hn__
          refine j_ws (ws' := [(ma 48, .inl (y 0, 224, .inl g48)), (ma 63, .inl (y 0, 9, .inl g63)), (ma 45, .inl (y 0, 14, .inl g45)), (ma 62, .inl (y 0, 63, .inl nz)), MB mo ma (nI t1) i2 i3 i4 i5 i6 i7 i8 i42 i49 i51 i53 i54 i59 i61 i64 i66 (nI t67) i76 i78, (ma 43, .inl (y 0, 8, .inl g43))]) rfl ?_
          refine j_lv (lv' := [(3, .int (nI iz)), (2, .int (0 + (g45 13))), (0, .ref mo), (1, .int v)]) rfl ?_
          refine j_iload_n (pc := 217) C d_Model_worths_217 rfl 0 rfl ?_
          refine j_aload_n (pc := 218) C d_Model_worths_218 rfl 2 rfl ?_
          refine j_callVi (pc := 219) C (c_M_villages l D y mo ma t1 i2 i3 i4 i5 i6 i7 i8 i42 i49 i51 i53 i54 i59 i61 i64 i66 t67 i76 i78 g43 c1 hc1 bc1) kw_Model_448 kv_Model_villages 0 10 rfl rfl ⟨by decide, by decide⟩ ⟨by decide, by decide⟩ (wr := [(ma 48, .inl (y 0, 224, .inl g48)), (ma 63, .inl (y 0, 9, .inl g63)), (ma 45, .inl (y 0, 14, .inl g45)), (ma 62, .inl (y 0, 63, .inl nz))]) [4, 5] [0, 1, 2, 3] rfl rfl (by decide +kernel) (by decide +kernel) (by decide +kernel) (As := []) (rest := [.int (nI iz)]) rfl (nb rfl) rfl d_Model_worths_219 (fun r249 _ hr249 => ?_)
          obtain rfl := hr249
          refine j_ws (ws' := [(ma 48, .inl (y 0, 224, .inl g48)), (ma 63, .inl (y 0, 9, .inl g63)), (ma 45, .inl (y 0, 14, .inl g45)), (ma 62, .inl (y 0, 63, .inl nz)), MB mo ma (nI t1) i2 i3 i4 i5 i6 i7 i8 i42 i49 i51 i53 i54 i59 i61 i64 i66 (nI t67) i76 i78, (ma 43, .inl (y 0, 8, .inl g43))]) rfl ?_
          by_cases c250 : c1 ≤ iz
          · refine j_icmp_geT (pc := 222) C (tgt := 252) d_Model_worths_222 (by decide) (show nI c1 ≤ nI iz from nI_le (by omega) (by omega)) ?_
            exact j_vret (pc := 252) C hr nz hn_ [4, 5, 2, 0, 3, 1] rfl (by decide) (by decide) (by decide) d_Model_worths_252
          · refine j_icmp_geF (pc := 222) C (tgt := 252) d_Model_worths_222 (by decide) (show ¬ nI c1 ≤ nI iz from nI_ge (by omega) (by omega)) ?_
            refine j_aload_n (pc := 225) C d_Model_worths_225 rfl 2 rfl ?_
            refine j_get (pc := 226) C gf_Model_158 4 rfl rfl d_Model_worths_226 ?_
            refine j_bipush (pc := 229) C (v := 35) d_Model_worths_229 (by decide) ?_
            refine j_iload_n (pc := 231) C d_Model_worths_231 rfl 0 rfl ?_
            refine j_iadd (pc := 232) C (v := nI (35 + iz)) d_Model_worths_232 (nI_add _ _) ?_
            refine j_dup2 (pc := 233) C d_Model_worths_233 rfl rfl ?_
            refine j_iald (pc := 234) C 3 rfl (v := nz (35 + iz)) (vp_in_nI (by omega) (by decide)) (by rw [nI_clamp (by omega)]) d_Model_worths_234 ?_
            refine j_aload_n (pc := 235) C d_Model_worths_235 rfl 2 rfl ?_
            refine j_get (pc := 236) C gf_Model_158 4 rfl rfl d_Model_worths_236 ?_
            refine j_bipush (pc := 239) C (v := 41) d_Model_worths_239 (by decide) ?_
            refine j_iload_n (pc := 241) C d_Model_worths_241 rfl 0 rfl ?_
            refine j_iadd (pc := 242) C (v := nI (41 + iz)) d_Model_worths_242 (nI_add _ _) ?_
            refine j_iald (pc := 243) C 3 rfl (v := nz (41 + iz)) (vp_in_nI (by omega) (by decide)) (by rw [nI_clamp (by omega)]) d_Model_worths_243 ?_
            refine j_iadd (pc := 244) C (v := (nz (35 + iz)) + (nz (41 + iz))) d_Model_worths_244 rfl ?_
            refine j_anyI (fun v251 => ?_)
            refine j_iast (pc := 245) C 3 rfl (ws' := [(ma 48, .inl (y 0, 224, .inl g48)), (ma 63, .inl (y 0, 9, .inl g63)), (ma 45, .inl (y 0, 14, .inl g45)), (ma 62, .inl (y 0, 63, .inl (upd nz (35 + iz) v251))), MB mo ma (nI t1) i2 i3 i4 i5 i6 i7 i8 i42 i49 i51 i53 i54 i59 i61 i64 i66 (nI t67) i76 i78, (ma 43, .inl (y 0, 8, .inl g43))]) (vp_in_nI (by omega) (by decide)) (by rw [nI_clamp (by omega)]; rfl) d_Model_worths_245 ?_
            refine j_genW (fun f252 => [(ma 48, .inl (y 0, 224, .inl g48)), (ma 63, .inl (y 0, 9, .inl g63)), (ma 45, .inl (y 0, 14, .inl g45)), (ma 62, .inl (y 0, 63, .inl f252)), MB mo ma (nI t1) i2 i3 i4 i5 i6 i7 i8 i42 i49 i51 i53 i54 i59 i61 i64 i66 (nI t67) i76 i78, (ma 43, .inl (y 0, 8, .inl g43))]) (upd nz (35 + iz) v251) rfl (fun f252 => (f252 0 = nI dy)) (show upd nz (35 + iz) v251 0 = nI dy by rw [pk_un (by omega)]; exact hn_) ?_
            rintro f252 xh253
            refine j_ws (ws' := [(ma 48, .inl (y 0, 224, .inl g48)), (ma 63, .inl (y 0, 9, .inl g63)), (ma 45, .inl (y 0, 14, .inl g45)), (ma 62, .inl (y 0, 63, .inl f252)), MB mo ma (nI t1) i2 i3 i4 i5 i6 i7 i8 i42 i49 i51 i53 i54 i59 i61 i64 i66 (nI t67) i76 i78, (ma 43, .inl (y 0, 8, .inl g43))]) rfl ?_
            have xh253 : f252 0 = nI dy := xh253
            refine j_iinc (pc := 246) C (v := nI (iz + 1)) (lv' := [(3, .int (nI (iz + 1))), (2, .int (0 + (g45 13))), (0, .ref mo), (1, .int v)]) d_Model_worths_246 0 rfl (nI_add _ _) (by decide) rfl ?_
            refine j_goto (pc := 249) C (tgt := 217) d_Model_worths_249 (by decide) ?_
            exact ih248 ((iz + 1), f252) ⟨(show (iz + 1) ≤ c1 by omega), xh253⟩ (show c1 - (iz + 1) < c1 - iz by omega)
        · refine j_icmp_geF (pc := 79) C (tgt := 215) d_Model_worths_79 (by decide) (show ¬ nI c2 ≤ nI iz from nI_ge (by omega) (by omega)) ?_
          refine j_bipush (pc := 82) C (v := 112) d_Model_worths_82 (by decide) ?_
          refine j_bipush (pc := 84) C (v := 7) d_Model_worths_84 (by decide) ?_
          refine j_iload_n (pc := 86) C d_Model_worths_86 rfl 0 rfl ?_
          refine j_imul (pc := 87) C (v := nI (7 * iz)) d_Model_worths_87 (pk_mul _ _) ?_
          refine j_iadd (pc := 88) C (v := nI (112 + (7 * iz))) d_Model_worths_88 (nI_add _ _) ?_
          refine j_istore (pc := 89) C (lv' := [(4, .int (nI (112 + (7 * iz)))), (3, .int (nI iz)), (2, .int (0 + (g45 13))), (0, .ref mo), (1, .int v)]) d_Model_worths_89 (by decide) rfl ?_
          refine j_aload_n (pc := 91) C d_Model_worths_91 rfl 3 rfl ?_
          refine j_get (pc := 92) C gf_Model_158 4 rfl rfl d_Model_worths_92 ?_
          refine j_iconst (pc := 95) C (v := 0) d_Model_worths_95 (by decide) ?_
          refine j_iald (pc := 96) C 3 rfl (v := nI dy) (vin (by decide)) (by exact hn_) d_Model_worths_96 ?_
          refine j_i2l (pc := 97) C (v := (nI dy).toInt64) d_Model_worths_97 rfl ?_
          refine j_aload_n (pc := 98) C d_Model_worths_98 rfl 3 rfl ?_
          refine j_get (pc := 99) C gf_Model_133 4 rfl rfl d_Model_worths_99 ?_
          refine j_iload (pc := 102) C d_Model_worths_102 0 rfl ?_
          refine j_iconst (pc := 104) C (v := 4) d_Model_worths_104 (by decide) ?_
          refine j_iadd (pc := 105) C (v := nI ((112 + (7 * iz)) + 4)) d_Model_worths_105 (nI_add _ _) ?_
          refine j_iald (pc := 106) C 0 rfl (v := g48 ((112 + (7 * iz)) + 4)) (vp_in_nI (by omega) (by decide)) (by rw [nI_clamp (by omega)]) d_Model_worths_106 ?_
          refine j_i2l (pc := 107) C (v := (g48 ((112 + (7 * iz)) + 4)).toInt64) d_Model_worths_107 rfl ?_
          refine j_aload_n (pc := 108) C d_Model_worths_108 rfl 3 rfl ?_
          refine j_get (pc := 109) C gf_Model_133 4 rfl rfl d_Model_worths_109 ?_
          refine j_iload (pc := 112) C d_Model_worths_112 0 rfl ?_
          refine j_iconst (pc := 114) C (v := 5) d_Model_worths_114 (by decide) ?_
          refine j_iadd (pc := 115) C (v := nI ((112 + (7 * iz)) + 5)) d_Model_worths_115 (nI_add _ _) ?_
          refine j_iald (pc := 116) C 0 rfl (v := g48 ((112 + (7 * iz)) + 5)) (vp_in_nI (by omega) (by decide)) (by rw [nI_clamp (by omega)]) d_Model_worths_116 ?_
          refine j_i2l (pc := 117) C (v := (g48 ((112 + (7 * iz)) + 5)).toInt64) d_Model_worths_117 rfl ?_
          refine j_callSi (pc := 118) C (c_isIn_any l D y ((nI dy).toInt64) ((g48 ((112 + (7 * iz)) + 4)).toInt64) ((g48 ((112 + (7 * iz)) + 5)).toInt64)) kw_Model_240 ks_Model_isIn ⟨by decide, by decide⟩ ⟨by decide, by decide⟩ (wr := [(ma 48, .inl (y 0, 224, .inl g48)), (ma 63, .inl (y 0, 9, .inl g63)), (ma 45, .inl (y 0, 14, .inl g45)), (ma 62, .inl (y 0, 63, .inl nz)), MB mo ma (nI t1) i2 i3 i4 i5 i6 i7 i8 i42 i49 i51 i53 i54 i59 i61 i64 i66 (nI t67) i76 i78, (ma 43, .inl (y 0, 8, .inl g43))]) [] [0, 1, 2, 3, 4, 5] rfl rfl (by decide +kernel) (by decide +kernel) (by decide +kernel) (As := [.long ((nI dy).toInt64), .long ((g48 ((112 + (7 * iz)) + 4)).toInt64), .long ((g48 ((112 + (7 * iz)) + 5)).toInt64)]) (rest := []) rfl (nb rfl) rfl d_Model_worths_118 (fun r254 _ hr254 => ?_)
          have xh255 := hr254
          refine j_ws (ws' := [(ma 48, .inl (y 0, 224, .inl g48)), (ma 63, .inl (y 0, 9, .inl g63)), (ma 45, .inl (y 0, 14, .inl g45)), (ma 62, .inl (y 0, 63, .inl nz)), MB mo ma (nI t1) i2 i3 i4 i5 i6 i7 i8 i42 i49 i51 i53 i54 i59 i61 i64 i66 (nI t67) i76 i78, (ma 43, .inl (y 0, 8, .inl g43))]) rfl ?_
          refine j_if_eq (pc := 121) C (tgt := 209) d_Model_worths_121 (by decide) (fun c256 => ?_) (fun c256 => ?_)
          · refine j_iinc (pc := 209) C (v := nI (iz + 1)) (lv' := [(3, .int (nI (iz + 1))), (4, .int (nI (112 + (7 * iz)))), (2, .int (0 + (g45 13))), (0, .ref mo), (1, .int v)]) d_Model_worths_209 1 rfl (nI_add _ _) (by decide) rfl ?_
            refine j_goto (pc := 212) C (tgt := 71) d_Model_worths_212 (by decide) ?_
            refine j_locs (lv' := [(3, .int (nI (iz + 1))), (2, .int (0 + (g45 13))), (0, .ref mo), (1, .int v)]) [0, 2, 3, 4] rfl ?_
            exact ih240 ((iz + 1), nz) ⟨(show (iz + 1) ≤ c2 by omega), hn_⟩ (show c2 - (iz + 1) < c2 - iz by omega)
          · refine j_aload_n (pc := 124) C d_Model_worths_124 rfl 3 rfl ?_
            refine j_get (pc := 125) C gf_Model_161 4 rfl rfl d_Model_worths_125 ?_
            refine j_aload_n (pc := 128) C d_Model_worths_128 rfl 3 rfl ?_
            refine j_get (pc := 129) C gf_Model_133 4 rfl rfl d_Model_worths_129 ?_
            refine j_iload (pc := 132) C d_Model_worths_132 0 rfl ?_
            refine j_iconst (pc := 134) C (v := 1) d_Model_worths_134 (by decide) ?_
            refine j_iadd (pc := 135) C (v := nI ((112 + (7 * iz)) + 1)) d_Model_worths_135 (nI_add _ _) ?_
            obtain ⟨q257, xh258, e259⟩ := (hTh iz (by omega)).2
            refine j_iald (pc := 136) C 0 rfl (v := nI q257) (vp_in_nI (by omega) (by decide)) (by rw [nI_clamp (by omega)]; exact e259) d_Model_worths_136 ?_
            refine j_iald (pc := 137) C 1 rfl (v := g63 q257) (vp_in_nI (by omega) (by decide)) (by rw [nI_clamp (by omega)]) d_Model_worths_137 ?_
            refine j_i2l (pc := 138) C (v := (g63 q257).toInt64) d_Model_worths_138 rfl ?_
            refine j_aload_n (pc := 139) C d_Model_worths_139 rfl 3 rfl ?_
            refine j_get (pc := 140) C gf_Model_133 4 rfl rfl d_Model_worths_140 ?_
            refine j_iload (pc := 143) C d_Model_worths_143 0 rfl ?_
            refine j_iconst (pc := 145) C (v := 2) d_Model_worths_145 (by decide) ?_
            refine j_iadd (pc := 146) C (v := nI ((112 + (7 * iz)) + 2)) d_Model_worths_146 (nI_add _ _) ?_
            refine j_iald (pc := 147) C 0 rfl (v := g48 ((112 + (7 * iz)) + 2)) (vp_in_nI (by omega) (by decide)) (by rw [nI_clamp (by omega)]) d_Model_worths_147 ?_
            refine j_i2l (pc := 148) C (v := (g48 ((112 + (7 * iz)) + 2)).toInt64) d_Model_worths_148 rfl ?_
            refine j_aload_n (pc := 149) C d_Model_worths_149 rfl 3 rfl ?_
            refine j_get (pc := 150) C gf_Model_133 4 rfl rfl d_Model_worths_150 ?_
            refine j_iload (pc := 153) C d_Model_worths_153 0 rfl ?_
            refine j_iconst (pc := 155) C (v := 3) d_Model_worths_155 (by decide) ?_
            refine j_iadd (pc := 156) C (v := nI ((112 + (7 * iz)) + 3)) d_Model_worths_156 (nI_add _ _) ?_
            refine j_iald (pc := 157) C 0 rfl (v := g48 ((112 + (7 * iz)) + 3)) (vp_in_nI (by omega) (by decide)) (by rw [nI_clamp (by omega)]) d_Model_worths_157 ?_
            refine j_i2l (pc := 158) C (v := (g48 ((112 + (7 * iz)) + 3)).toInt64) d_Model_worths_158 rfl ?_
            refine j_callSi (pc := 159) C (c_isIn_any l D y ((g63 q257).toInt64) ((g48 ((112 + (7 * iz)) + 2)).toInt64) ((g48 ((112 + (7 * iz)) + 3)).toInt64)) kw_Model_240 ks_Model_isIn ⟨by decide, by decide⟩ ⟨by decide, by decide⟩ (wr := [(ma 48, .inl (y 0, 224, .inl g48)), (ma 63, .inl (y 0, 9, .inl g63)), (ma 45, .inl (y 0, 14, .inl g45)), (ma 62, .inl (y 0, 63, .inl nz)), MB mo ma (nI t1) i2 i3 i4 i5 i6 i7 i8 i42 i49 i51 i53 i54 i59 i61 i64 i66 (nI t67) i76 i78, (ma 43, .inl (y 0, 8, .inl g43))]) [] [0, 1, 2, 3, 4, 5] rfl rfl (by decide +kernel) (by decide +kernel) (by decide +kernel) (As := [.long ((g63 q257).toInt64), .long ((g48 ((112 + (7 * iz)) + 2)).toInt64), .long ((g48 ((112 + (7 * iz)) + 3)).toInt64)]) (rest := []) rfl (nb rfl) rfl d_Model_worths_159 (fun r260 _ hr260 => ?_)
            have xh261 := hr260
            refine j_ws (ws' := [(ma 48, .inl (y 0, 224, .inl g48)), (ma 63, .inl (y 0, 9, .inl g63)), (ma 45, .inl (y 0, 14, .inl g45)), (ma 62, .inl (y 0, 63, .inl nz)), MB mo ma (nI t1) i2 i3 i4 i5 i6 i7 i8 i42 i49 i51 i53 i54 i59 i61 i64 i66 (nI t67) i76 i78, (ma 43, .inl (y 0, 8, .inl g43))]) rfl ?_
            refine j_if_ne (pc := 162) C (tgt := 168) d_Model_worths_162 (by decide) (fun c262 => ?_) (fun c262 => ?_)
            · refine j_aload_n (pc := 168) C d_Model_worths_168 rfl 3 rfl ?_
              refine j_get (pc := 169) C gf_Model_158 4 rfl rfl d_Model_worths_169 ?_
              refine j_bipush (pc := 172) C (v := 47) d_Model_worths_172 (by decide) ?_
              refine j_iload_n (pc := 174) C d_Model_worths_174 rfl 1 rfl ?_
              refine j_iadd (pc := 175) C (v := nI (47 + iz)) d_Model_worths_175 (nI_add _ _) ?_
              refine j_dup2 (pc := 176) C d_Model_worths_176 rfl rfl ?_
              refine j_iald (pc := 177) C 3 rfl (v := nz (47 + iz)) (vp_in_nI (by omega) (by decide)) (by rw [nI_clamp (by omega)]) d_Model_worths_177 ?_
              refine j_iconst (pc := 178) C (v := 1) d_Model_worths_178 (by decide) ?_
              refine j_iadd (pc := 179) C (v := (nz (47 + iz)) + 1) d_Model_worths_179 rfl ?_
              refine j_iast (pc := 180) C 3 rfl (ws' := [(ma 48, .inl (y 0, 224, .inl g48)), (ma 63, .inl (y 0, 9, .inl g63)), (ma 45, .inl (y 0, 14, .inl g45)), (ma 62, .inl (y 0, 63, .inl (upd nz (47 + iz) ((nz (47 + iz)) + 1)))), MB mo ma (nI t1) i2 i3 i4 i5 i6 i7 i8 i42 i49 i51 i53 i54 i59 i61 i64 i66 (nI t67) i76 i78, (ma 43, .inl (y 0, 8, .inl g43))]) (vp_in_nI (by omega) (by decide)) (by rw [nI_clamp (by omega)]; rfl) d_Model_worths_180 ?_
              refine j_genW (fun f263 => [(ma 48, .inl (y 0, 224, .inl g48)), (ma 63, .inl (y 0, 9, .inl g63)), (ma 45, .inl (y 0, 14, .inl g45)), (ma 62, .inl (y 0, 63, .inl f263)), MB mo ma (nI t1) i2 i3 i4 i5 i6 i7 i8 i42 i49 i51 i53 i54 i59 i61 i64 i66 (nI t67) i76 i78, (ma 43, .inl (y 0, 8, .inl g43))]) (upd nz (47 + iz) ((nz (47 + iz)) + 1)) rfl (fun f263 => (f263 0 = nI dy)) (show upd nz (47 + iz) ((nz (47 + iz)) + 1) 0 = nI dy by rw [pk_un (by omega)]; exact hn_) ?_
              rintro f263 xh264
              refine j_ws (ws' := [(ma 48, .inl (y 0, 224, .inl g48)), (ma 63, .inl (y 0, 9, .inl g63)), (ma 45, .inl (y 0, 14, .inl g45)), (ma 62, .inl (y 0, 63, .inl f263)), MB mo ma (nI t1) i2 i3 i4 i5 i6 i7 i8 i42 i49 i51 i53 i54 i59 i61 i64 i66 (nI t67) i76 i78, (ma 43, .inl (y 0, 8, .inl g43))]) rfl ?_
              have xh264 : f263 0 = nI dy := xh264
              refine j_aload_n (pc := 181) C d_Model_worths_181 rfl 3 rfl ?_
              refine j_get (pc := 182) C gf_Model_158 4 rfl rfl d_Model_worths_182 ?_
              refine j_bipush (pc := 185) C (v := 41) d_Model_worths_185 (by decide) ?_
              refine j_aload_n (pc := 187) C d_Model_worths_187 rfl 3 rfl ?_
              refine j_get (pc := 188) C gf_Model_133 4 rfl rfl d_Model_worths_188 ?_
              refine j_iload (pc := 191) C d_Model_worths_191 0 rfl ?_
              obtain ⟨q265, xh266, e267⟩ := (hTh iz (by omega)).1
              refine j_iald (pc := 193) C 0 rfl (v := nI q265) (vp_in_nI (by omega) (by decide)) (by rw [nI_clamp (by omega)]; exact e267) d_Model_worths_193 ?_
              refine j_iadd (pc := 194) C (v := nI (41 + q265)) d_Model_worths_194 (nI_add _ _) ?_
              refine j_dup2 (pc := 195) C d_Model_worths_195 rfl rfl ?_
              refine j_iald (pc := 196) C 3 rfl (v := f263 (41 + q265)) (vp_in_nI (by omega) (by decide)) (by rw [nI_clamp (by omega)]) d_Model_worths_196 ?_
              refine j_aload_n (pc := 197) C d_Model_worths_197 rfl 3 rfl ?_
              refine j_get (pc := 198) C gf_Model_133 4 rfl rfl d_Model_worths_198 ?_
              refine j_iload (pc := 201) C d_Model_worths_201 0 rfl ?_
              refine j_bipush (pc := 203) C (v := 6) d_Model_worths_203 (by decide) ?_
              refine j_iadd (pc := 205) C (v := nI ((112 + (7 * iz)) + 6)) d_Model_worths_205 (nI_add _ _) ?_
              refine j_iald (pc := 206) C 0 rfl (v := g48 ((112 + (7 * iz)) + 6)) (vp_in_nI (by omega) (by decide)) (by rw [nI_clamp (by omega)]) d_Model_worths_206 ?_
              refine j_iadd (pc := 207) C (v := (f263 (41 + q265)) + (g48 ((112 + (7 * iz)) + 6))) d_Model_worths_207 rfl ?_
              refine j_anyI (fun v268 => ?_)
              refine j_iast (pc := 208) C 3 rfl (ws' := [(ma 48, .inl (y 0, 224, .inl g48)), (ma 63, .inl (y 0, 9, .inl g63)), (ma 45, .inl (y 0, 14, .inl g45)), (ma 62, .inl (y 0, 63, .inl (upd f263 (41 + q265) v268))), MB mo ma (nI t1) i2 i3 i4 i5 i6 i7 i8 i42 i49 i51 i53 i54 i59 i61 i64 i66 (nI t67) i76 i78, (ma 43, .inl (y 0, 8, .inl g43))]) (vp_in_nI (by omega) (by decide)) (by rw [nI_clamp (by omega)]; rfl) d_Model_worths_208 ?_
              refine j_genW (fun f269 => [(ma 48, .inl (y 0, 224, .inl g48)), (ma 63, .inl (y 0, 9, .inl g63)), (ma 45, .inl (y 0, 14, .inl g45)), (ma 62, .inl (y 0, 63, .inl f269)), MB mo ma (nI t1) i2 i3 i4 i5 i6 i7 i8 i42 i49 i51 i53 i54 i59 i61 i64 i66 (nI t67) i76 i78, (ma 43, .inl (y 0, 8, .inl g43))]) (upd f263 (41 + q265) v268) rfl (fun f269 => (f269 0 = nI dy)) (show upd f263 (41 + q265) v268 0 = nI dy by rw [pk_un (by omega)]; exact xh264) ?_
              rintro f269 xh270
              refine j_ws (ws' := [(ma 48, .inl (y 0, 224, .inl g48)), (ma 63, .inl (y 0, 9, .inl g63)), (ma 45, .inl (y 0, 14, .inl g45)), (ma 62, .inl (y 0, 63, .inl f269)), MB mo ma (nI t1) i2 i3 i4 i5 i6 i7 i8 i42 i49 i51 i53 i54 i59 i61 i64 i66 (nI t67) i76 i78, (ma 43, .inl (y 0, 8, .inl g43))]) rfl ?_
              have xh270 : f269 0 = nI dy := xh270
              refine j_iinc (pc := 209) C (v := nI (iz + 1)) (lv' := [(3, .int (nI (iz + 1))), (4, .int (nI (112 + (7 * iz)))), (2, .int (0 + (g45 13))), (0, .ref mo), (1, .int v)]) d_Model_worths_209 1 rfl (nI_add _ _) (by decide) rfl ?_
              refine j_goto (pc := 212) C (tgt := 71) d_Model_worths_212 (by decide) ?_
              refine j_locs (lv' := [(3, .int (nI (iz + 1))), (2, .int (0 + (g45 13))), (0, .ref mo), (1, .int v)]) [0, 2, 3, 4] rfl ?_
              exact ih240 ((iz + 1), f269) ⟨(show (iz + 1) ≤ c2 by omega), xh270⟩ (show c2 - (iz + 1) < c2 - iz by omega)
            · refine j_goto (pc := 165) C (tgt := 209) d_Model_worths_165 (by decide) ?_
              refine j_iinc (pc := 209) C (v := nI (iz + 1)) (lv' := [(3, .int (nI (iz + 1))), (4, .int (nI (112 + (7 * iz)))), (2, .int (0 + (g45 13))), (0, .ref mo), (1, .int v)]) d_Model_worths_209 1 rfl (nI_add _ _) (by decide) rfl ?_
              refine j_goto (pc := 212) C (tgt := 71) d_Model_worths_212 (by decide) ?_
              refine j_locs (lv' := [(3, .int (nI (iz + 1))), (2, .int (0 + (g45 13))), (0, .ref mo), (1, .int v)]) [0, 2, 3, 4] rfl ?_
              exact ih240 ((iz + 1), nz) ⟨(show (iz + 1) ≤ c2 by omega), hn_⟩ (show c2 - (iz + 1) < c2 - iz by omega)
      · refine j_icmp_geF (pc := 49) C (tgt := 69) d_Model_worths_49 (by decide) (show ¬ nI c1 ≤ nI iz from nI_ge (by omega) (by omega)) ?_
        refine j_aload_n (pc := 52) C d_Model_worths_52 rfl 2 rfl ?_
        refine j_get (pc := 53) C gf_Model_158 4 rfl rfl d_Model_worths_53 ?_
        refine j_bipush (pc := 56) C (v := 41) d_Model_worths_56 (by decide) ?_
        refine j_iload_n (pc := 58) C d_Model_worths_58 rfl 0 rfl ?_
        refine j_iadd (pc := 59) C (v := nI (41 + iz)) d_Model_worths_59 (nI_add _ _) ?_
        refine j_iload_n (pc := 60) C d_Model_worths_60 rfl 1 rfl ?_
        refine j_ineg (pc := 61) C (v := -(0 + (g45 13))) d_Model_worths_61 rfl ?_
        refine j_iast (pc := 62) C 3 rfl (ws' := [(ma 48, .inl (y 0, 224, .inl g48)), (ma 63, .inl (y 0, 9, .inl g63)), (ma 45, .inl (y 0, 14, .inl g45)), (ma 62, .inl (y 0, 63, .inl (upd nz (41 + iz) (-(0 + (g45 13)))))), MB mo ma (nI t1) i2 i3 i4 i5 i6 i7 i8 i42 i49 i51 i53 i54 i59 i61 i64 i66 (nI t67) i76 i78, (ma 43, .inl (y 0, 8, .inl g43))]) (vp_in_nI (by omega) (by decide)) (by rw [nI_clamp (by omega)]; rfl) d_Model_worths_62 ?_
        refine j_genW (fun f271 => [(ma 48, .inl (y 0, 224, .inl g48)), (ma 63, .inl (y 0, 9, .inl g63)), (ma 45, .inl (y 0, 14, .inl g45)), (ma 62, .inl (y 0, 63, .inl f271)), MB mo ma (nI t1) i2 i3 i4 i5 i6 i7 i8 i42 i49 i51 i53 i54 i59 i61 i64 i66 (nI t67) i76 i78, (ma 43, .inl (y 0, 8, .inl g43))]) (upd nz (41 + iz) (-(0 + (g45 13)))) rfl (fun f271 => (f271 0 = nI dy)) (show upd nz (41 + iz) (-(0 + (g45 13))) 0 = nI dy by rw [pk_un (by omega)]; exact hn_) ?_
        rintro f271 xh272
        refine j_ws (ws' := [(ma 48, .inl (y 0, 224, .inl g48)), (ma 63, .inl (y 0, 9, .inl g63)), (ma 45, .inl (y 0, 14, .inl g45)), (ma 62, .inl (y 0, 63, .inl f271)), MB mo ma (nI t1) i2 i3 i4 i5 i6 i7 i8 i42 i49 i51 i53 i54 i59 i61 i64 i66 (nI t67) i76 i78, (ma 43, .inl (y 0, 8, .inl g43))]) rfl ?_
        have xh272 : f271 0 = nI dy := xh272
        refine j_iinc (pc := 63) C (v := nI (iz + 1)) (lv' := [(3, .int (nI (iz + 1))), (2, .int (0 + (g45 13))), (0, .ref mo), (1, .int v)]) d_Model_worths_63 0 rfl (nI_add _ _) (by decide) rfl ?_
        refine j_goto (pc := 66) C (tgt := 44) d_Model_worths_66 (by decide) ?_
        refine j_sub (ws' := [(ma 43, .inl (y 0, 8, .inl g43)), (ma 48, .inl (y 0, 224, .inl g48)), (ma 63, .inl (y 0, 9, .inl g63)), MB mo ma (nI t1) i2 i3 i4 i5 i6 i7 i8 i42 i49 i51 i53 i54 i59 i61 i64 i66 (nI t67) i76 i78, (ma 45, .inl (y 0, 14, .inl g45)), (ma 62, .inl (y 0, 63, .inl f271))]) [5, 0, 1, 4, 2, 3] rfl (by decide +kernel) ?_
        exact ih206 ((iz + 1), f271) ⟨(show (iz + 1) ≤ c1 by omega), xh272⟩ (show c1 - (iz + 1) < c1 - iz by omega)
  · refine j_aload_n (pc := 14) C d_Model_worths_14 rfl 0 rfl ?_
    refine j_get (pc := 15) C gf_Model_124 3 rfl rfl d_Model_worths_15 ?_
    refine j_bipush (pc := 18) C (v := 11) d_Model_worths_18 (by decide) ?_
    refine j_iald (pc := 20) C 4 rfl (v := g45 11) (vin (by decide)) rfl d_Model_worths_20 ?_
    refine j_goto (pc := 21) C (tgt := 25) d_Model_worths_21 (by decide) ?_
    refine j_iload_n (pc := 25) C d_Model_worths_25 rfl 1 rfl ?_
    refine j_if_eq (pc := 26) C (tgt := 39) d_Model_worths_26 (by decide) (fun c273 => ?_) (fun c273 => ?_)
    · refine j_iconst (pc := 39) C (v := 0) d_Model_worths_39 (by decide) ?_
      refine j_iadd (pc := 40) C (v := (g45 11) + 0) d_Model_worths_40 rfl ?_
      refine j_istore_n (pc := 41) C (lv' := [(2, .int ((g45 11) + 0)), (0, .ref mo), (1, .int v)]) d_Model_worths_41 rfl (by decide) rfl ?_
      refine j_iconst (pc := 42) C (v := 0) d_Model_worths_42 (by decide) ?_
      refine j_istore_n (pc := 43) C (lv' := [(3, .int 0), (2, .int ((g45 11) + 0)), (0, .ref mo), (1, .int v)]) d_Model_worths_43 rfl (by decide) rfl ?_
      refine j_loop (α := Nat × (Nat → Int32)) (fun a => c1 - a.1) (fun a => (a.1 ≤ c1) ∧ (a.2 0 = nI dy)) (fun a => [(ma 43, .inl (y 0, 8, .inl g43)), (ma 48, .inl (y 0, 224, .inl g48)), (ma 63, .inl (y 0, 9, .inl g63)), MB mo ma (nI t1) i2 i3 i4 i5 i6 i7 i8 i42 i49 i51 i53 i54 i59 i61 i64 i66 (nI t67) i76 i78, (ma 45, .inl (y 0, 14, .inl g45)), (ma 62, .inl (y 0, 63, .inl a.2))]) (fun a => [(3, .int (nI a.1)), (2, .int ((g45 11) + 0)), (0, .ref mo), (1, .int v)]) (0, g62) rfl rfl ⟨(show 0 ≤ c1 by omega), hD⟩ ?_
      rintro ⟨iz, nz⟩ hP340 ih341
      obtain ⟨hi__, hn__⟩ := hP340
      have hi_ : iz ≤ c1 := hi__
      have hn_ : nz 0 = nI dy := hn__
      refine j_ws (ws' := [(ma 43, .inl (y 0, 8, .inl g43)), (ma 48, .inl (y 0, 224, .inl g48)), (ma 63, .inl (y 0, 9, .inl g63)), MB mo ma (nI t1) i2 i3 i4 i5 i6 i7 i8 i42 i49 i51 i53 i54 i59 i61 i64 i66 (nI t67) i76 i78, (ma 45, .inl (y 0, 14, .inl g45)), (ma 62, .inl (y 0, 63, .inl nz))]) rfl ?_
      refine j_lv (lv' := [(3, .int (nI iz)), (2, .int ((g45 11) + 0)), (0, .ref mo), (1, .int v)]) rfl ?_
      refine j_iload_n (pc := 44) C d_Model_worths_44 rfl 0 rfl ?_
      refine j_aload_n (pc := 45) C d_Model_worths_45 rfl 2 rfl ?_
      refine j_callVi (pc := 46) C (c_M_villages l D y mo ma t1 i2 i3 i4 i5 i6 i7 i8 i42 i49 i51 i53 i54 i59 i61 i64 i66 t67 i76 i78 g43 c1 hc1 bc1) kw_Model_448 kv_Model_villages 0 10 rfl rfl ⟨by decide, by decide⟩ ⟨by decide, by decide⟩ (wr := [(ma 48, .inl (y 0, 224, .inl g48)), (ma 63, .inl (y 0, 9, .inl g63)), (ma 45, .inl (y 0, 14, .inl g45)), (ma 62, .inl (y 0, 63, .inl nz))]) [3, 0] [1, 2, 4, 5] rfl rfl (by decide +kernel) (by decide +kernel) (by decide +kernel) (As := []) (rest := [.int (nI iz)]) rfl (nb rfl) rfl d_Model_worths_46 (fun r342 _ hr342 => ?_)
      obtain rfl := hr342
      refine j_ws (ws' := [(ma 48, .inl (y 0, 224, .inl g48)), (ma 63, .inl (y 0, 9, .inl g63)), (ma 45, .inl (y 0, 14, .inl g45)), (ma 62, .inl (y 0, 63, .inl nz)), MB mo ma (nI t1) i2 i3 i4 i5 i6 i7 i8 i42 i49 i51 i53 i54 i59 i61 i64 i66 (nI t67) i76 i78, (ma 43, .inl (y 0, 8, .inl g43))]) rfl ?_
      by_cases c343 : c1 ≤ iz
      · refine j_icmp_geT (pc := 49) C (tgt := 69) d_Model_worths_49 (by decide) (show nI c1 ≤ nI iz from nI_le (by omega) (by omega)) ?_
        refine j_iconst (pc := 69) C (v := 0) d_Model_worths_69 (by decide) ?_
        refine j_istore_n (pc := 70) C (lv' := [(3, .int 0), (2, .int ((g45 11) + 0)), (0, .ref mo), (1, .int v)]) d_Model_worths_70 rfl (by decide) rfl ?_
        refine j_loop (α := Nat × (Nat → Int32)) (fun a => c2 - a.1) (fun a => (a.1 ≤ c2) ∧ (a.2 0 = nI dy)) (fun a => [(ma 48, .inl (y 0, 224, .inl g48)), (ma 63, .inl (y 0, 9, .inl g63)), (ma 45, .inl (y 0, 14, .inl g45)), (ma 62, .inl (y 0, 63, .inl a.2)), MB mo ma (nI t1) i2 i3 i4 i5 i6 i7 i8 i42 i49 i51 i53 i54 i59 i61 i64 i66 (nI t67) i76 i78, (ma 43, .inl (y 0, 8, .inl g43))]) (fun a => [(3, .int (nI a.1)), (2, .int ((g45 11) + 0)), (0, .ref mo), (1, .int v)]) (0, nz) rfl rfl ⟨(show 0 ≤ c2 by omega), hn_⟩ ?_
        rintro ⟨iz, nz⟩ hP374 ih375
        obtain ⟨hi__, hn__⟩ := hP374
        have hi_ : iz ≤ c2 := hi__
        have hn_ : nz 0 = nI dy := hn__
        refine j_ws (ws' := [(ma 48, .inl (y 0, 224, .inl g48)), (ma 63, .inl (y 0, 9, .inl g63)), (ma 45, .inl (y 0, 14, .inl g45)), (ma 62, .inl (y 0, 63, .inl nz)), MB mo ma (nI t1) i2 i3 i4 i5 i6 i7 i8 i42 i49 i51 i53 i54 i59 i61 i64 i66 (nI t67) i76 i78, (ma 43, .inl (y 0, 8, .inl g43))]) rfl ?_
        refine j_lv (lv' := [(3, .int (nI iz)), (2, .int ((g45 11) + 0)), (0, .ref mo), (1, .int v)]) rfl ?_
        refine j_iload_n (pc := 71) C d_Model_worths_71 rfl 0 rfl ?_
        refine j_aload_n (pc := 72) C d_Model_worths_72 rfl 2 rfl ?_
        refine j_get (pc := 73) C gf_Model_117 4 rfl rfl d_Model_worths_73 ?_
        refine j_bipush (pc := 76) C (v := 6) d_Model_worths_76 (by decide) ?_
        refine j_iald (pc := 78) C 5 rfl (v := nI c2) (vin (by decide)) (by exact hc2) d_Model_worths_78 ?_
        by_cases c376 : c2 ≤ iz
        · refine j_icmp_geT (pc := 79) C (tgt := 215) d_Model_worths_79 (by decide) (show nI c2 ≤ nI iz from nI_le (by omega) (by omega)) ?_
          refine j_iconst (pc := 215) C (v := 0) d_Model_worths_215 (by decide) ?_
          refine j_istore_n (pc := 216) C (lv' := [(3, .int 0), (2, .int ((g45 11) + 0)), (0, .ref mo), (1, .int v)]) d_Model_worths_216 rfl (by decide) rfl ?_
          refine j_loop (α := Nat × (Nat → Int32)) (fun a => c1 - a.1) (fun a => (a.1 ≤ c1) ∧ (a.2 0 = nI dy)) (fun a => [(ma 48, .inl (y 0, 224, .inl g48)), (ma 63, .inl (y 0, 9, .inl g63)), (ma 45, .inl (y 0, 14, .inl g45)), (ma 62, .inl (y 0, 63, .inl a.2)), MB mo ma (nI t1) i2 i3 i4 i5 i6 i7 i8 i42 i49 i51 i53 i54 i59 i61 i64 i66 (nI t67) i76 i78, (ma 43, .inl (y 0, 8, .inl g43))]) (fun a => [(3, .int (nI a.1)), (2, .int ((g45 11) + 0)), (0, .ref mo), (1, .int v)]) (0, nz) rfl rfl ⟨(show 0 ≤ c1 by omega), hn_⟩ ?_
          rintro ⟨iz, nz⟩ hP382 ih383
          obtain ⟨hi__, hn__⟩ := hP382
          have hi_ : iz ≤ c1 := hi__
          have hn_ : nz 0 = nI dy := hn__
          refine j_ws (ws' := [(ma 48, .inl (y 0, 224, .inl g48)), (ma 63, .inl (y 0, 9, .inl g63)), (ma 45, .inl (y 0, 14, .inl g45)), (ma 62, .inl (y 0, 63, .inl nz)), MB mo ma (nI t1) i2 i3 i4 i5 i6 i7 i8 i42 i49 i51 i53 i54 i59 i61 i64 i66 (nI t67) i76 i78, (ma 43, .inl (y 0, 8, .inl g43))]) rfl ?_
          refine j_lv (lv' := [(3, .int (nI iz)), (2, .int ((g45 11) + 0)), (0, .ref mo), (1, .int v)]) rfl ?_
          refine j_iload_n (pc := 217) C d_Model_worths_217 rfl 0 rfl ?_
          refine j_aload_n (pc := 218) C d_Model_worths_218 rfl 2 rfl ?_
          refine j_callVi (pc := 219) C (c_M_villages l D y mo ma t1 i2 i3 i4 i5 i6 i7 i8 i42 i49 i51 i53 i54 i59 i61 i64 i66 t67 i76 i78 g43 c1 hc1 bc1) kw_Model_448 kv_Model_villages 0 10 rfl rfl ⟨by decide, by decide⟩ ⟨by decide, by decide⟩ (wr := [(ma 48, .inl (y 0, 224, .inl g48)), (ma 63, .inl (y 0, 9, .inl g63)), (ma 45, .inl (y 0, 14, .inl g45)), (ma 62, .inl (y 0, 63, .inl nz))]) [4, 5] [0, 1, 2, 3] rfl rfl (by decide +kernel) (by decide +kernel) (by decide +kernel) (As := []) (rest := [.int (nI iz)]) rfl (nb rfl) rfl d_Model_worths_219 (fun r384 _ hr384 => ?_)
          obtain rfl := hr384
          refine j_ws (ws' := [(ma 48, .inl (y 0, 224, .inl g48)), (ma 63, .inl (y 0, 9, .inl g63)), (ma 45, .inl (y 0, 14, .inl g45)), (ma 62, .inl (y 0, 63, .inl nz)), MB mo ma (nI t1) i2 i3 i4 i5 i6 i7 i8 i42 i49 i51 i53 i54 i59 i61 i64 i66 (nI t67) i76 i78, (ma 43, .inl (y 0, 8, .inl g43))]) rfl ?_
          by_cases c385 : c1 ≤ iz
          · refine j_icmp_geT (pc := 222) C (tgt := 252) d_Model_worths_222 (by decide) (show nI c1 ≤ nI iz from nI_le (by omega) (by omega)) ?_
            exact j_vret (pc := 252) C hr nz hn_ [4, 5, 2, 0, 3, 1] rfl (by decide) (by decide) (by decide) d_Model_worths_252
          · refine j_icmp_geF (pc := 222) C (tgt := 252) d_Model_worths_222 (by decide) (show ¬ nI c1 ≤ nI iz from nI_ge (by omega) (by omega)) ?_
            refine j_aload_n (pc := 225) C d_Model_worths_225 rfl 2 rfl ?_
            refine j_get (pc := 226) C gf_Model_158 4 rfl rfl d_Model_worths_226 ?_
            refine j_bipush (pc := 229) C (v := 35) d_Model_worths_229 (by decide) ?_
            refine j_iload_n (pc := 231) C d_Model_worths_231 rfl 0 rfl ?_
            refine j_iadd (pc := 232) C (v := nI (35 + iz)) d_Model_worths_232 (nI_add _ _) ?_
            refine j_dup2 (pc := 233) C d_Model_worths_233 rfl rfl ?_
            refine j_iald (pc := 234) C 3 rfl (v := nz (35 + iz)) (vp_in_nI (by omega) (by decide)) (by rw [nI_clamp (by omega)]) d_Model_worths_234 ?_
            refine j_aload_n (pc := 235) C d_Model_worths_235 rfl 2 rfl ?_
            refine j_get (pc := 236) C gf_Model_158 4 rfl rfl d_Model_worths_236 ?_
            refine j_bipush (pc := 239) C (v := 41) d_Model_worths_239 (by decide) ?_
            refine j_iload_n (pc := 241) C d_Model_worths_241 rfl 0 rfl ?_
            refine j_iadd (pc := 242) C (v := nI (41 + iz)) d_Model_worths_242 (nI_add _ _) ?_
            refine j_iald (pc := 243) C 3 rfl (v := nz (41 + iz)) (vp_in_nI (by omega) (by decide)) (by rw [nI_clamp (by omega)]) d_Model_worths_243 ?_
            refine j_iadd (pc := 244) C (v := (nz (35 + iz)) + (nz (41 + iz))) d_Model_worths_244 rfl ?_
            refine j_anyI (fun v386 => ?_)
            refine j_iast (pc := 245) C 3 rfl (ws' := [(ma 48, .inl (y 0, 224, .inl g48)), (ma 63, .inl (y 0, 9, .inl g63)), (ma 45, .inl (y 0, 14, .inl g45)), (ma 62, .inl (y 0, 63, .inl (upd nz (35 + iz) v386))), MB mo ma (nI t1) i2 i3 i4 i5 i6 i7 i8 i42 i49 i51 i53 i54 i59 i61 i64 i66 (nI t67) i76 i78, (ma 43, .inl (y 0, 8, .inl g43))]) (vp_in_nI (by omega) (by decide)) (by rw [nI_clamp (by omega)]; rfl) d_Model_worths_245 ?_
            refine j_genW (fun f387 => [(ma 48, .inl (y 0, 224, .inl g48)), (ma 63, .inl (y 0, 9, .inl g63)), (ma 45, .inl (y 0, 14, .inl g45)), (ma 62, .inl (y 0, 63, .inl f387)), MB mo ma (nI t1) i2 i3 i4 i5 i6 i7 i8 i42 i49 i51 i53 i54 i59 i61 i64 i66 (nI t67) i76 i78, (ma 43, .inl (y 0, 8, .inl g43))]) (upd nz (35 + iz) v386) rfl (fun f387 => (f387 0 = nI dy)) (show upd nz (35 + iz) v386 0 = nI dy by rw [pk_un (by omega)]; exact hn_) ?_
            rintro f387 xh388
            refine j_ws (ws' := [(ma 48, .inl (y 0, 224, .inl g48)), (ma 63, .inl (y 0, 9, .inl g63)), (ma 45, .inl (y 0, 14, .inl g45)), (ma 62, .inl (y 0, 63, .inl f387)), MB mo ma (nI t1) i2 i3 i4 i5 i6 i7 i8 i42 i49 i51 i53 i54 i59 i61 i64 i66 (nI t67) i76 i78, (ma 43, .inl (y 0, 8, .inl g43))]) rfl ?_
            have xh388 : f387 0 = nI dy := xh388
            refine j_iinc (pc := 246) C (v := nI (iz + 1)) (lv' := [(3, .int (nI (iz + 1))), (2, .int ((g45 11) + 0)), (0, .ref mo), (1, .int v)]) d_Model_worths_246 0 rfl (nI_add _ _) (by decide) rfl ?_
            refine j_goto (pc := 249) C (tgt := 217) d_Model_worths_249 (by decide) ?_
            exact ih383 ((iz + 1), f387) ⟨(show (iz + 1) ≤ c1 by omega), xh388⟩ (show c1 - (iz + 1) < c1 - iz by omega)
        · refine j_icmp_geF (pc := 79) C (tgt := 215) d_Model_worths_79 (by decide) (show ¬ nI c2 ≤ nI iz from nI_ge (by omega) (by omega)) ?_
          refine j_bipush (pc := 82) C (v := 112) d_Model_worths_82 (by decide) ?_
          refine j_bipush (pc := 84) C (v := 7) d_Model_worths_84 (by decide) ?_
          refine j_iload_n (pc := 86) C d_Model_worths_86 rfl 0 rfl ?_
          refine j_imul (pc := 87) C (v := nI (7 * iz)) d_Model_worths_87 (pk_mul _ _) ?_
          refine j_iadd (pc := 88) C (v := nI (112 + (7 * iz))) d_Model_worths_88 (nI_add _ _) ?_
          refine j_istore (pc := 89) C (lv' := [(4, .int (nI (112 + (7 * iz)))), (3, .int (nI iz)), (2, .int ((g45 11) + 0)), (0, .ref mo), (1, .int v)]) d_Model_worths_89 (by decide) rfl ?_
          refine j_aload_n (pc := 91) C d_Model_worths_91 rfl 3 rfl ?_
          refine j_get (pc := 92) C gf_Model_158 4 rfl rfl d_Model_worths_92 ?_
          refine j_iconst (pc := 95) C (v := 0) d_Model_worths_95 (by decide) ?_
          refine j_iald (pc := 96) C 3 rfl (v := nI dy) (vin (by decide)) (by exact hn_) d_Model_worths_96 ?_
          refine j_i2l (pc := 97) C (v := (nI dy).toInt64) d_Model_worths_97 rfl ?_
          refine j_aload_n (pc := 98) C d_Model_worths_98 rfl 3 rfl ?_
          refine j_get (pc := 99) C gf_Model_133 4 rfl rfl d_Model_worths_99 ?_
          refine j_iload (pc := 102) C d_Model_worths_102 0 rfl ?_
          refine j_iconst (pc := 104) C (v := 4) d_Model_worths_104 (by decide) ?_
          refine j_iadd (pc := 105) C (v := nI ((112 + (7 * iz)) + 4)) d_Model_worths_105 (nI_add _ _) ?_
          refine j_iald (pc := 106) C 0 rfl (v := g48 ((112 + (7 * iz)) + 4)) (vp_in_nI (by omega) (by decide)) (by rw [nI_clamp (by omega)]) d_Model_worths_106 ?_
          refine j_i2l (pc := 107) C (v := (g48 ((112 + (7 * iz)) + 4)).toInt64) d_Model_worths_107 rfl ?_
          refine j_aload_n (pc := 108) C d_Model_worths_108 rfl 3 rfl ?_
          refine j_get (pc := 109) C gf_Model_133 4 rfl rfl d_Model_worths_109 ?_
          refine j_iload (pc := 112) C d_Model_worths_112 0 rfl ?_
          refine j_iconst (pc := 114) C (v := 5) d_Model_worths_114 (by decide) ?_
          refine j_iadd (pc := 115) C (v := nI ((112 + (7 * iz)) + 5)) d_Model_worths_115 (nI_add _ _) ?_
          refine j_iald (pc := 116) C 0 rfl (v := g48 ((112 + (7 * iz)) + 5)) (vp_in_nI (by omega) (by decide)) (by rw [nI_clamp (by omega)]) d_Model_worths_116 ?_
          refine j_i2l (pc := 117) C (v := (g48 ((112 + (7 * iz)) + 5)).toInt64) d_Model_worths_117 rfl ?_
          refine j_callSi (pc := 118) C (c_isIn_any l D y ((nI dy).toInt64) ((g48 ((112 + (7 * iz)) + 4)).toInt64) ((g48 ((112 + (7 * iz)) + 5)).toInt64)) kw_Model_240 ks_Model_isIn ⟨by decide, by decide⟩ ⟨by decide, by decide⟩ (wr := [(ma 48, .inl (y 0, 224, .inl g48)), (ma 63, .inl (y 0, 9, .inl g63)), (ma 45, .inl (y 0, 14, .inl g45)), (ma 62, .inl (y 0, 63, .inl nz)), MB mo ma (nI t1) i2 i3 i4 i5 i6 i7 i8 i42 i49 i51 i53 i54 i59 i61 i64 i66 (nI t67) i76 i78, (ma 43, .inl (y 0, 8, .inl g43))]) [] [0, 1, 2, 3, 4, 5] rfl rfl (by decide +kernel) (by decide +kernel) (by decide +kernel) (As := [.long ((nI dy).toInt64), .long ((g48 ((112 + (7 * iz)) + 4)).toInt64), .long ((g48 ((112 + (7 * iz)) + 5)).toInt64)]) (rest := []) rfl (nb rfl) rfl d_Model_worths_118 (fun r389 _ hr389 => ?_)
          have xh390 := hr389
          refine j_ws (ws' := [(ma 48, .inl (y 0, 224, .inl g48)), (ma 63, .inl (y 0, 9, .inl g63)), (ma 45, .inl (y 0, 14, .inl g45)), (ma 62, .inl (y 0, 63, .inl nz)), MB mo ma (nI t1) i2 i3 i4 i5 i6 i7 i8 i42 i49 i51 i53 i54 i59 i61 i64 i66 (nI t67) i76 i78, (ma 43, .inl (y 0, 8, .inl g43))]) rfl ?_
          refine j_if_eq (pc := 121) C (tgt := 209) d_Model_worths_121 (by decide) (fun c391 => ?_) (fun c391 => ?_)
          · refine j_iinc (pc := 209) C (v := nI (iz + 1)) (lv' := [(3, .int (nI (iz + 1))), (4, .int (nI (112 + (7 * iz)))), (2, .int ((g45 11) + 0)), (0, .ref mo), (1, .int v)]) d_Model_worths_209 1 rfl (nI_add _ _) (by decide) rfl ?_
            refine j_goto (pc := 212) C (tgt := 71) d_Model_worths_212 (by decide) ?_
            refine j_locs (lv' := [(3, .int (nI (iz + 1))), (2, .int ((g45 11) + 0)), (0, .ref mo), (1, .int v)]) [0, 2, 3, 4] rfl ?_
            exact ih375 ((iz + 1), nz) ⟨(show (iz + 1) ≤ c2 by omega), hn_⟩ (show c2 - (iz + 1) < c2 - iz by omega)
          · refine j_aload_n (pc := 124) C d_Model_worths_124 rfl 3 rfl ?_
            refine j_get (pc := 125) C gf_Model_161 4 rfl rfl d_Model_worths_125 ?_
            refine j_aload_n (pc := 128) C d_Model_worths_128 rfl 3 rfl ?_
            refine j_get (pc := 129) C gf_Model_133 4 rfl rfl d_Model_worths_129 ?_
            refine j_iload (pc := 132) C d_Model_worths_132 0 rfl ?_
            refine j_iconst (pc := 134) C (v := 1) d_Model_worths_134 (by decide) ?_
            refine j_iadd (pc := 135) C (v := nI ((112 + (7 * iz)) + 1)) d_Model_worths_135 (nI_add _ _) ?_
            obtain ⟨q392, xh393, e394⟩ := (hTh iz (by omega)).2
            refine j_iald (pc := 136) C 0 rfl (v := nI q392) (vp_in_nI (by omega) (by decide)) (by rw [nI_clamp (by omega)]; exact e394) d_Model_worths_136 ?_
            refine j_iald (pc := 137) C 1 rfl (v := g63 q392) (vp_in_nI (by omega) (by decide)) (by rw [nI_clamp (by omega)]) d_Model_worths_137 ?_
            refine j_i2l (pc := 138) C (v := (g63 q392).toInt64) d_Model_worths_138 rfl ?_
            refine j_aload_n (pc := 139) C d_Model_worths_139 rfl 3 rfl ?_
            refine j_get (pc := 140) C gf_Model_133 4 rfl rfl d_Model_worths_140 ?_
            refine j_iload (pc := 143) C d_Model_worths_143 0 rfl ?_
            refine j_iconst (pc := 145) C (v := 2) d_Model_worths_145 (by decide) ?_
            refine j_iadd (pc := 146) C (v := nI ((112 + (7 * iz)) + 2)) d_Model_worths_146 (nI_add _ _) ?_
            refine j_iald (pc := 147) C 0 rfl (v := g48 ((112 + (7 * iz)) + 2)) (vp_in_nI (by omega) (by decide)) (by rw [nI_clamp (by omega)]) d_Model_worths_147 ?_
            refine j_i2l (pc := 148) C (v := (g48 ((112 + (7 * iz)) + 2)).toInt64) d_Model_worths_148 rfl ?_
            refine j_aload_n (pc := 149) C d_Model_worths_149 rfl 3 rfl ?_
            refine j_get (pc := 150) C gf_Model_133 4 rfl rfl d_Model_worths_150 ?_
            refine j_iload (pc := 153) C d_Model_worths_153 0 rfl ?_
            refine j_iconst (pc := 155) C (v := 3) d_Model_worths_155 (by decide) ?_
            refine j_iadd (pc := 156) C (v := nI ((112 + (7 * iz)) + 3)) d_Model_worths_156 (nI_add _ _) ?_
            refine j_iald (pc := 157) C 0 rfl (v := g48 ((112 + (7 * iz)) + 3)) (vp_in_nI (by omega) (by decide)) (by rw [nI_clamp (by omega)]) d_Model_worths_157 ?_
            refine j_i2l (pc := 158) C (v := (g48 ((112 + (7 * iz)) + 3)).toInt64) d_Model_worths_158 rfl ?_
            refine j_callSi (pc := 159) C (c_isIn_any l D y ((g63 q392).toInt64) ((g48 ((112 + (7 * iz)) + 2)).toInt64) ((g48 ((112 + (7 * iz)) + 3)).toInt64)) kw_Model_240 ks_Model_isIn ⟨by decide, by decide⟩ ⟨by decide, by decide⟩ (wr := [(ma 48, .inl (y 0, 224, .inl g48)), (ma 63, .inl (y 0, 9, .inl g63)), (ma 45, .inl (y 0, 14, .inl g45)), (ma 62, .inl (y 0, 63, .inl nz)), MB mo ma (nI t1) i2 i3 i4 i5 i6 i7 i8 i42 i49 i51 i53 i54 i59 i61 i64 i66 (nI t67) i76 i78, (ma 43, .inl (y 0, 8, .inl g43))]) [] [0, 1, 2, 3, 4, 5] rfl rfl (by decide +kernel) (by decide +kernel) (by decide +kernel) (As := [.long ((g63 q392).toInt64), .long ((g48 ((112 + (7 * iz)) + 2)).toInt64), .long ((g48 ((112 + (7 * iz)) + 3)).toInt64)]) (rest := []) rfl (nb rfl) rfl d_Model_worths_159 (fun r395 _ hr395 => ?_)
            have xh396 := hr395
            refine j_ws (ws' := [(ma 48, .inl (y 0, 224, .inl g48)), (ma 63, .inl (y 0, 9, .inl g63)), (ma 45, .inl (y 0, 14, .inl g45)), (ma 62, .inl (y 0, 63, .inl nz)), MB mo ma (nI t1) i2 i3 i4 i5 i6 i7 i8 i42 i49 i51 i53 i54 i59 i61 i64 i66 (nI t67) i76 i78, (ma 43, .inl (y 0, 8, .inl g43))]) rfl ?_
            refine j_if_ne (pc := 162) C (tgt := 168) d_Model_worths_162 (by decide) (fun c397 => ?_) (fun c397 => ?_)
            · refine j_aload_n (pc := 168) C d_Model_worths_168 rfl 3 rfl ?_
              refine j_get (pc := 169) C gf_Model_158 4 rfl rfl d_Model_worths_169 ?_
              refine j_bipush (pc := 172) C (v := 47) d_Model_worths_172 (by decide) ?_
              refine j_iload_n (pc := 174) C d_Model_worths_174 rfl 1 rfl ?_
              refine j_iadd (pc := 175) C (v := nI (47 + iz)) d_Model_worths_175 (nI_add _ _) ?_
              refine j_dup2 (pc := 176) C d_Model_worths_176 rfl rfl ?_
              refine j_iald (pc := 177) C 3 rfl (v := nz (47 + iz)) (vp_in_nI (by omega) (by decide)) (by rw [nI_clamp (by omega)]) d_Model_worths_177 ?_
              refine j_iconst (pc := 178) C (v := 1) d_Model_worths_178 (by decide) ?_
              refine j_iadd (pc := 179) C (v := (nz (47 + iz)) + 1) d_Model_worths_179 rfl ?_
              refine j_iast (pc := 180) C 3 rfl (ws' := [(ma 48, .inl (y 0, 224, .inl g48)), (ma 63, .inl (y 0, 9, .inl g63)), (ma 45, .inl (y 0, 14, .inl g45)), (ma 62, .inl (y 0, 63, .inl (upd nz (47 + iz) ((nz (47 + iz)) + 1)))), MB mo ma (nI t1) i2 i3 i4 i5 i6 i7 i8 i42 i49 i51 i53 i54 i59 i61 i64 i66 (nI t67) i76 i78, (ma 43, .inl (y 0, 8, .inl g43))]) (vp_in_nI (by omega) (by decide)) (by rw [nI_clamp (by omega)]; rfl) d_Model_worths_180 ?_
              refine j_genW (fun f398 => [(ma 48, .inl (y 0, 224, .inl g48)), (ma 63, .inl (y 0, 9, .inl g63)), (ma 45, .inl (y 0, 14, .inl g45)), (ma 62, .inl (y 0, 63, .inl f398)), MB mo ma (nI t1) i2 i3 i4 i5 i6 i7 i8 i42 i49 i51 i53 i54 i59 i61 i64 i66 (nI t67) i76 i78, (ma 43, .inl (y 0, 8, .inl g43))]) (upd nz (47 + iz) ((nz (47 + iz)) + 1)) rfl (fun f398 => (f398 0 = nI dy)) (show upd nz (47 + iz) ((nz (47 + iz)) + 1) 0 = nI dy by rw [pk_un (by omega)]; exact hn_) ?_
              rintro f398 xh399
              refine j_ws (ws' := [(ma 48, .inl (y 0, 224, .inl g48)), (ma 63, .inl (y 0, 9, .inl g63)), (ma 45, .inl (y 0, 14, .inl g45)), (ma 62, .inl (y 0, 63, .inl f398)), MB mo ma (nI t1) i2 i3 i4 i5 i6 i7 i8 i42 i49 i51 i53 i54 i59 i61 i64 i66 (nI t67) i76 i78, (ma 43, .inl (y 0, 8, .inl g43))]) rfl ?_
              have xh399 : f398 0 = nI dy := xh399
              refine j_aload_n (pc := 181) C d_Model_worths_181 rfl 3 rfl ?_
              refine j_get (pc := 182) C gf_Model_158 4 rfl rfl d_Model_worths_182 ?_
              refine j_bipush (pc := 185) C (v := 41) d_Model_worths_185 (by decide) ?_
              refine j_aload_n (pc := 187) C d_Model_worths_187 rfl 3 rfl ?_
              refine j_get (pc := 188) C gf_Model_133 4 rfl rfl d_Model_worths_188 ?_
              refine j_iload (pc := 191) C d_Model_worths_191 0 rfl ?_
              obtain ⟨q400, xh401, e402⟩ := (hTh iz (by omega)).1
              refine j_iald (pc := 193) C 0 rfl (v := nI q400) (vp_in_nI (by omega) (by decide)) (by rw [nI_clamp (by omega)]; exact e402) d_Model_worths_193 ?_
              refine j_iadd (pc := 194) C (v := nI (41 + q400)) d_Model_worths_194 (nI_add _ _) ?_
              refine j_dup2 (pc := 195) C d_Model_worths_195 rfl rfl ?_
              refine j_iald (pc := 196) C 3 rfl (v := f398 (41 + q400)) (vp_in_nI (by omega) (by decide)) (by rw [nI_clamp (by omega)]) d_Model_worths_196 ?_
              refine j_aload_n (pc := 197) C d_Model_worths_197 rfl 3 rfl ?_
              refine j_get (pc := 198) C gf_Model_133 4 rfl rfl d_Model_worths_198 ?_
              refine j_iload (pc := 201) C d_Model_worths_201 0 rfl ?_
              refine j_bipush (pc := 203) C (v := 6) d_Model_worths_203 (by decide) ?_
              refine j_iadd (pc := 205) C (v := nI ((112 + (7 * iz)) + 6)) d_Model_worths_205 (nI_add _ _) ?_
              refine j_iald (pc := 206) C 0 rfl (v := g48 ((112 + (7 * iz)) + 6)) (vp_in_nI (by omega) (by decide)) (by rw [nI_clamp (by omega)]) d_Model_worths_206 ?_
              refine j_iadd (pc := 207) C (v := (f398 (41 + q400)) + (g48 ((112 + (7 * iz)) + 6))) d_Model_worths_207 rfl ?_
              refine j_anyI (fun v403 => ?_)
              refine j_iast (pc := 208) C 3 rfl (ws' := [(ma 48, .inl (y 0, 224, .inl g48)), (ma 63, .inl (y 0, 9, .inl g63)), (ma 45, .inl (y 0, 14, .inl g45)), (ma 62, .inl (y 0, 63, .inl (upd f398 (41 + q400) v403))), MB mo ma (nI t1) i2 i3 i4 i5 i6 i7 i8 i42 i49 i51 i53 i54 i59 i61 i64 i66 (nI t67) i76 i78, (ma 43, .inl (y 0, 8, .inl g43))]) (vp_in_nI (by omega) (by decide)) (by rw [nI_clamp (by omega)]; rfl) d_Model_worths_208 ?_
              refine j_genW (fun f404 => [(ma 48, .inl (y 0, 224, .inl g48)), (ma 63, .inl (y 0, 9, .inl g63)), (ma 45, .inl (y 0, 14, .inl g45)), (ma 62, .inl (y 0, 63, .inl f404)), MB mo ma (nI t1) i2 i3 i4 i5 i6 i7 i8 i42 i49 i51 i53 i54 i59 i61 i64 i66 (nI t67) i76 i78, (ma 43, .inl (y 0, 8, .inl g43))]) (upd f398 (41 + q400) v403) rfl (fun f404 => (f404 0 = nI dy)) (show upd f398 (41 + q400) v403 0 = nI dy by rw [pk_un (by omega)]; exact xh399) ?_
              rintro f404 xh405
              refine j_ws (ws' := [(ma 48, .inl (y 0, 224, .inl g48)), (ma 63, .inl (y 0, 9, .inl g63)), (ma 45, .inl (y 0, 14, .inl g45)), (ma 62, .inl (y 0, 63, .inl f404)), MB mo ma (nI t1) i2 i3 i4 i5 i6 i7 i8 i42 i49 i51 i53 i54 i59 i61 i64 i66 (nI t67) i76 i78, (ma 43, .inl (y 0, 8, .inl g43))]) rfl ?_
              have xh405 : f404 0 = nI dy := xh405
              refine j_iinc (pc := 209) C (v := nI (iz + 1)) (lv' := [(3, .int (nI (iz + 1))), (4, .int (nI (112 + (7 * iz)))), (2, .int ((g45 11) + 0)), (0, .ref mo), (1, .int v)]) d_Model_worths_209 1 rfl (nI_add _ _) (by decide) rfl ?_
              refine j_goto (pc := 212) C (tgt := 71) d_Model_worths_212 (by decide) ?_
              refine j_locs (lv' := [(3, .int (nI (iz + 1))), (2, .int ((g45 11) + 0)), (0, .ref mo), (1, .int v)]) [0, 2, 3, 4] rfl ?_
              exact ih375 ((iz + 1), f404) ⟨(show (iz + 1) ≤ c2 by omega), xh405⟩ (show c2 - (iz + 1) < c2 - iz by omega)
            · refine j_goto (pc := 165) C (tgt := 209) d_Model_worths_165 (by decide) ?_
              refine j_iinc (pc := 209) C (v := nI (iz + 1)) (lv' := [(3, .int (nI (iz + 1))), (4, .int (nI (112 + (7 * iz)))), (2, .int ((g45 11) + 0)), (0, .ref mo), (1, .int v)]) d_Model_worths_209 1 rfl (nI_add _ _) (by decide) rfl ?_
              refine j_goto (pc := 212) C (tgt := 71) d_Model_worths_212 (by decide) ?_
              refine j_locs (lv' := [(3, .int (nI (iz + 1))), (2, .int ((g45 11) + 0)), (0, .ref mo), (1, .int v)]) [0, 2, 3, 4] rfl ?_
              exact ih375 ((iz + 1), nz) ⟨(show (iz + 1) ≤ c2 by omega), hn_⟩ (show c2 - (iz + 1) < c2 - iz by omega)
      · refine j_icmp_geF (pc := 49) C (tgt := 69) d_Model_worths_49 (by decide) (show ¬ nI c1 ≤ nI iz from nI_ge (by omega) (by omega)) ?_
        refine j_aload_n (pc := 52) C d_Model_worths_52 rfl 2 rfl ?_
        refine j_get (pc := 53) C gf_Model_158 4 rfl rfl d_Model_worths_53 ?_
        refine j_bipush (pc := 56) C (v := 41) d_Model_worths_56 (by decide) ?_
        refine j_iload_n (pc := 58) C d_Model_worths_58 rfl 0 rfl ?_
        refine j_iadd (pc := 59) C (v := nI (41 + iz)) d_Model_worths_59 (nI_add _ _) ?_
        refine j_iload_n (pc := 60) C d_Model_worths_60 rfl 1 rfl ?_
        refine j_ineg (pc := 61) C (v := -((g45 11) + 0)) d_Model_worths_61 rfl ?_
        refine j_iast (pc := 62) C 3 rfl (ws' := [(ma 48, .inl (y 0, 224, .inl g48)), (ma 63, .inl (y 0, 9, .inl g63)), (ma 45, .inl (y 0, 14, .inl g45)), (ma 62, .inl (y 0, 63, .inl (upd nz (41 + iz) (-((g45 11) + 0))))), MB mo ma (nI t1) i2 i3 i4 i5 i6 i7 i8 i42 i49 i51 i53 i54 i59 i61 i64 i66 (nI t67) i76 i78, (ma 43, .inl (y 0, 8, .inl g43))]) (vp_in_nI (by omega) (by decide)) (by rw [nI_clamp (by omega)]; rfl) d_Model_worths_62 ?_
        refine j_genW (fun f406 => [(ma 48, .inl (y 0, 224, .inl g48)), (ma 63, .inl (y 0, 9, .inl g63)), (ma 45, .inl (y 0, 14, .inl g45)), (ma 62, .inl (y 0, 63, .inl f406)), MB mo ma (nI t1) i2 i3 i4 i5 i6 i7 i8 i42 i49 i51 i53 i54 i59 i61 i64 i66 (nI t67) i76 i78, (ma 43, .inl (y 0, 8, .inl g43))]) (upd nz (41 + iz) (-((g45 11) + 0))) rfl (fun f406 => (f406 0 = nI dy)) (show upd nz (41 + iz) (-((g45 11) + 0)) 0 = nI dy by rw [pk_un (by omega)]; exact hn_) ?_
        rintro f406 xh407
        refine j_ws (ws' := [(ma 48, .inl (y 0, 224, .inl g48)), (ma 63, .inl (y 0, 9, .inl g63)), (ma 45, .inl (y 0, 14, .inl g45)), (ma 62, .inl (y 0, 63, .inl f406)), MB mo ma (nI t1) i2 i3 i4 i5 i6 i7 i8 i42 i49 i51 i53 i54 i59 i61 i64 i66 (nI t67) i76 i78, (ma 43, .inl (y 0, 8, .inl g43))]) rfl ?_
        have xh407 : f406 0 = nI dy := xh407
        refine j_iinc (pc := 63) C (v := nI (iz + 1)) (lv' := [(3, .int (nI (iz + 1))), (2, .int ((g45 11) + 0)), (0, .ref mo), (1, .int v)]) d_Model_worths_63 0 rfl (nI_add _ _) (by decide) rfl ?_
        refine j_goto (pc := 66) C (tgt := 44) d_Model_worths_66 (by decide) ?_
        refine j_sub (ws' := [(ma 43, .inl (y 0, 8, .inl g43)), (ma 48, .inl (y 0, 224, .inl g48)), (ma 63, .inl (y 0, 9, .inl g63)), MB mo ma (nI t1) i2 i3 i4 i5 i6 i7 i8 i42 i49 i51 i53 i54 i59 i61 i64 i66 (nI t67) i76 i78, (ma 45, .inl (y 0, 14, .inl g45)), (ma 62, .inl (y 0, 63, .inl f406))]) [5, 0, 1, 4, 2, 3] rfl (by decide +kernel) ?_
        exact ih341 ((iz + 1), f406) ⟨(show (iz + 1) ≤ c1 by omega), xh407⟩ (show c1 - (iz + 1) < c1 - iz by omega)
    · refine j_aload_n (pc := 29) C d_Model_worths_29 rfl 0 rfl ?_
      refine j_get (pc := 30) C gf_Model_124 3 rfl rfl d_Model_worths_30 ?_
      refine j_bipush (pc := 33) C (v := 13) d_Model_worths_33 (by decide) ?_
      refine j_iald (pc := 35) C 4 rfl (v := g45 13) (vin (by decide)) rfl d_Model_worths_35 ?_
      refine j_goto (pc := 36) C (tgt := 40) d_Model_worths_36 (by decide) ?_
      refine j_iadd (pc := 40) C (v := (g45 11) + (g45 13)) d_Model_worths_40 rfl ?_
      refine j_istore_n (pc := 41) C (lv' := [(2, .int ((g45 11) + (g45 13))), (0, .ref mo), (1, .int v)]) d_Model_worths_41 rfl (by decide) rfl ?_
      refine j_iconst (pc := 42) C (v := 0) d_Model_worths_42 (by decide) ?_
      refine j_istore_n (pc := 43) C (lv' := [(3, .int 0), (2, .int ((g45 11) + (g45 13))), (0, .ref mo), (1, .int v)]) d_Model_worths_43 rfl (by decide) rfl ?_
      refine j_loop (α := Nat × (Nat → Int32)) (fun a => c1 - a.1) (fun a => (a.1 ≤ c1) ∧ (a.2 0 = nI dy)) (fun a => [(ma 43, .inl (y 0, 8, .inl g43)), (ma 48, .inl (y 0, 224, .inl g48)), (ma 63, .inl (y 0, 9, .inl g63)), MB mo ma (nI t1) i2 i3 i4 i5 i6 i7 i8 i42 i49 i51 i53 i54 i59 i61 i64 i66 (nI t67) i76 i78, (ma 45, .inl (y 0, 14, .inl g45)), (ma 62, .inl (y 0, 63, .inl a.2))]) (fun a => [(3, .int (nI a.1)), (2, .int ((g45 11) + (g45 13))), (0, .ref mo), (1, .int v)]) (0, g62) rfl rfl ⟨(show 0 ≤ c1 by omega), hD⟩ ?_
      rintro ⟨iz, nz⟩ hP474 ih475
      obtain ⟨hi__, hn__⟩ := hP474
      have hi_ : iz ≤ c1 := hi__
      have hn_ : nz 0 = nI dy := hn__
      refine j_ws (ws' := [(ma 43, .inl (y 0, 8, .inl g43)), (ma 48, .inl (y 0, 224, .inl g48)), (ma 63, .inl (y 0, 9, .inl g63)), MB mo ma (nI t1) i2 i3 i4 i5 i6 i7 i8 i42 i49 i51 i53 i54 i59 i61 i64 i66 (nI t67) i76 i78, (ma 45, .inl (y 0, 14, .inl g45)), (ma 62, .inl (y 0, 63, .inl nz))]) rfl ?_
      refine j_lv (lv' := [(3, .int (nI iz)), (2, .int ((g45 11) + (g45 13))), (0, .ref mo), (1, .int v)]) rfl ?_
      refine j_iload_n (pc := 44) C d_Model_worths_44 rfl 0 rfl ?_
      refine j_aload_n (pc := 45) C d_Model_worths_45 rfl 2 rfl ?_
      refine j_callVi (pc := 46) C (c_M_villages l D y mo ma t1 i2 i3 i4 i5 i6 i7 i8 i42 i49 i51 i53 i54 i59 i61 i64 i66 t67 i76 i78 g43 c1 hc1 bc1) kw_Model_448 kv_Model_villages 0 10 rfl rfl ⟨by decide, by decide⟩ ⟨by decide, by decide⟩ (wr := [(ma 48, .inl (y 0, 224, .inl g48)), (ma 63, .inl (y 0, 9, .inl g63)), (ma 45, .inl (y 0, 14, .inl g45)), (ma 62, .inl (y 0, 63, .inl nz))]) [3, 0] [1, 2, 4, 5] rfl rfl (by decide +kernel) (by decide +kernel) (by decide +kernel) (As := []) (rest := [.int (nI iz)]) rfl (nb rfl) rfl d_Model_worths_46 (fun r476 _ hr476 => ?_)
      obtain rfl := hr476
      refine j_ws (ws' := [(ma 48, .inl (y 0, 224, .inl g48)), (ma 63, .inl (y 0, 9, .inl g63)), (ma 45, .inl (y 0, 14, .inl g45)), (ma 62, .inl (y 0, 63, .inl nz)), MB mo ma (nI t1) i2 i3 i4 i5 i6 i7 i8 i42 i49 i51 i53 i54 i59 i61 i64 i66 (nI t67) i76 i78, (ma 43, .inl (y 0, 8, .inl g43))]) rfl ?_
      by_cases c477 : c1 ≤ iz
      · refine j_icmp_geT (pc := 49) C (tgt := 69) d_Model_worths_49 (by decide) (show nI c1 ≤ nI iz from nI_le (by omega) (by omega)) ?_
        refine j_iconst (pc := 69) C (v := 0) d_Model_worths_69 (by decide) ?_
        refine j_istore_n (pc := 70) C (lv' := [(3, .int 0), (2, .int ((g45 11) + (g45 13))), (0, .ref mo), (1, .int v)]) d_Model_worths_70 rfl (by decide) rfl ?_
        refine j_loop (α := Nat × (Nat → Int32)) (fun a => c2 - a.1) (fun a => (a.1 ≤ c2) ∧ (a.2 0 = nI dy)) (fun a => [(ma 48, .inl (y 0, 224, .inl g48)), (ma 63, .inl (y 0, 9, .inl g63)), (ma 45, .inl (y 0, 14, .inl g45)), (ma 62, .inl (y 0, 63, .inl a.2)), MB mo ma (nI t1) i2 i3 i4 i5 i6 i7 i8 i42 i49 i51 i53 i54 i59 i61 i64 i66 (nI t67) i76 i78, (ma 43, .inl (y 0, 8, .inl g43))]) (fun a => [(3, .int (nI a.1)), (2, .int ((g45 11) + (g45 13))), (0, .ref mo), (1, .int v)]) (0, nz) rfl rfl ⟨(show 0 ≤ c2 by omega), hn_⟩ ?_
        rintro ⟨iz, nz⟩ hP508 ih509
        obtain ⟨hi__, hn__⟩ := hP508
        have hi_ : iz ≤ c2 := hi__
        have hn_ : nz 0 = nI dy := hn__
        refine j_ws (ws' := [(ma 48, .inl (y 0, 224, .inl g48)), (ma 63, .inl (y 0, 9, .inl g63)), (ma 45, .inl (y 0, 14, .inl g45)), (ma 62, .inl (y 0, 63, .inl nz)), MB mo ma (nI t1) i2 i3 i4 i5 i6 i7 i8 i42 i49 i51 i53 i54 i59 i61 i64 i66 (nI t67) i76 i78, (ma 43, .inl (y 0, 8, .inl g43))]) rfl ?_
        refine j_lv (lv' := [(3, .int (nI iz)), (2, .int ((g45 11) + (g45 13))), (0, .ref mo), (1, .int v)]) rfl ?_
        refine j_iload_n (pc := 71) C d_Model_worths_71 rfl 0 rfl ?_
        refine j_aload_n (pc := 72) C d_Model_worths_72 rfl 2 rfl ?_
        refine j_get (pc := 73) C gf_Model_117 4 rfl rfl d_Model_worths_73 ?_
        refine j_bipush (pc := 76) C (v := 6) d_Model_worths_76 (by decide) ?_
        refine j_iald (pc := 78) C 5 rfl (v := nI c2) (vin (by decide)) (by exact hc2) d_Model_worths_78 ?_
        by_cases c510 : c2 ≤ iz
        · refine j_icmp_geT (pc := 79) C (tgt := 215) d_Model_worths_79 (by decide) (show nI c2 ≤ nI iz from nI_le (by omega) (by omega)) ?_
          refine j_iconst (pc := 215) C (v := 0) d_Model_worths_215 (by decide) ?_
          refine j_istore_n (pc := 216) C (lv' := [(3, .int 0), (2, .int ((g45 11) + (g45 13))), (0, .ref mo), (1, .int v)]) d_Model_worths_216 rfl (by decide) rfl ?_
          refine j_loop (α := Nat × (Nat → Int32)) (fun a => c1 - a.1) (fun a => (a.1 ≤ c1) ∧ (a.2 0 = nI dy)) (fun a => [(ma 48, .inl (y 0, 224, .inl g48)), (ma 63, .inl (y 0, 9, .inl g63)), (ma 45, .inl (y 0, 14, .inl g45)), (ma 62, .inl (y 0, 63, .inl a.2)), MB mo ma (nI t1) i2 i3 i4 i5 i6 i7 i8 i42 i49 i51 i53 i54 i59 i61 i64 i66 (nI t67) i76 i78, (ma 43, .inl (y 0, 8, .inl g43))]) (fun a => [(3, .int (nI a.1)), (2, .int ((g45 11) + (g45 13))), (0, .ref mo), (1, .int v)]) (0, nz) rfl rfl ⟨(show 0 ≤ c1 by omega), hn_⟩ ?_
          rintro ⟨iz, nz⟩ hP516 ih517
          obtain ⟨hi__, hn__⟩ := hP516
          have hi_ : iz ≤ c1 := hi__
          have hn_ : nz 0 = nI dy := hn__
          refine j_ws (ws' := [(ma 48, .inl (y 0, 224, .inl g48)), (ma 63, .inl (y 0, 9, .inl g63)), (ma 45, .inl (y 0, 14, .inl g45)), (ma 62, .inl (y 0, 63, .inl nz)), MB mo ma (nI t1) i2 i3 i4 i5 i6 i7 i8 i42 i49 i51 i53 i54 i59 i61 i64 i66 (nI t67) i76 i78, (ma 43, .inl (y 0, 8, .inl g43))]) rfl ?_
          refine j_lv (lv' := [(3, .int (nI iz)), (2, .int ((g45 11) + (g45 13))), (0, .ref mo), (1, .int v)]) rfl ?_
          refine j_iload_n (pc := 217) C d_Model_worths_217 rfl 0 rfl ?_
          refine j_aload_n (pc := 218) C d_Model_worths_218 rfl 2 rfl ?_
          refine j_callVi (pc := 219) C (c_M_villages l D y mo ma t1 i2 i3 i4 i5 i6 i7 i8 i42 i49 i51 i53 i54 i59 i61 i64 i66 t67 i76 i78 g43 c1 hc1 bc1) kw_Model_448 kv_Model_villages 0 10 rfl rfl ⟨by decide, by decide⟩ ⟨by decide, by decide⟩ (wr := [(ma 48, .inl (y 0, 224, .inl g48)), (ma 63, .inl (y 0, 9, .inl g63)), (ma 45, .inl (y 0, 14, .inl g45)), (ma 62, .inl (y 0, 63, .inl nz))]) [4, 5] [0, 1, 2, 3] rfl rfl (by decide +kernel) (by decide +kernel) (by decide +kernel) (As := []) (rest := [.int (nI iz)]) rfl (nb rfl) rfl d_Model_worths_219 (fun r518 _ hr518 => ?_)
          obtain rfl := hr518
          refine j_ws (ws' := [(ma 48, .inl (y 0, 224, .inl g48)), (ma 63, .inl (y 0, 9, .inl g63)), (ma 45, .inl (y 0, 14, .inl g45)), (ma 62, .inl (y 0, 63, .inl nz)), MB mo ma (nI t1) i2 i3 i4 i5 i6 i7 i8 i42 i49 i51 i53 i54 i59 i61 i64 i66 (nI t67) i76 i78, (ma 43, .inl (y 0, 8, .inl g43))]) rfl ?_
          by_cases c519 : c1 ≤ iz
          · refine j_icmp_geT (pc := 222) C (tgt := 252) d_Model_worths_222 (by decide) (show nI c1 ≤ nI iz from nI_le (by omega) (by omega)) ?_
            exact j_vret (pc := 252) C hr nz hn_ [4, 5, 2, 0, 3, 1] rfl (by decide) (by decide) (by decide) d_Model_worths_252
          · refine j_icmp_geF (pc := 222) C (tgt := 252) d_Model_worths_222 (by decide) (show ¬ nI c1 ≤ nI iz from nI_ge (by omega) (by omega)) ?_
            refine j_aload_n (pc := 225) C d_Model_worths_225 rfl 2 rfl ?_
            refine j_get (pc := 226) C gf_Model_158 4 rfl rfl d_Model_worths_226 ?_
            refine j_bipush (pc := 229) C (v := 35) d_Model_worths_229 (by decide) ?_
            refine j_iload_n (pc := 231) C d_Model_worths_231 rfl 0 rfl ?_
            refine j_iadd (pc := 232) C (v := nI (35 + iz)) d_Model_worths_232 (nI_add _ _) ?_
            refine j_dup2 (pc := 233) C d_Model_worths_233 rfl rfl ?_
            refine j_iald (pc := 234) C 3 rfl (v := nz (35 + iz)) (vp_in_nI (by omega) (by decide)) (by rw [nI_clamp (by omega)]) d_Model_worths_234 ?_
            refine j_aload_n (pc := 235) C d_Model_worths_235 rfl 2 rfl ?_
            refine j_get (pc := 236) C gf_Model_158 4 rfl rfl d_Model_worths_236 ?_
            refine j_bipush (pc := 239) C (v := 41) d_Model_worths_239 (by decide) ?_
            refine j_iload_n (pc := 241) C d_Model_worths_241 rfl 0 rfl ?_
            refine j_iadd (pc := 242) C (v := nI (41 + iz)) d_Model_worths_242 (nI_add _ _) ?_
            refine j_iald (pc := 243) C 3 rfl (v := nz (41 + iz)) (vp_in_nI (by omega) (by decide)) (by rw [nI_clamp (by omega)]) d_Model_worths_243 ?_
            refine j_iadd (pc := 244) C (v := (nz (35 + iz)) + (nz (41 + iz))) d_Model_worths_244 rfl ?_
            refine j_anyI (fun v520 => ?_)
            refine j_iast (pc := 245) C 3 rfl (ws' := [(ma 48, .inl (y 0, 224, .inl g48)), (ma 63, .inl (y 0, 9, .inl g63)), (ma 45, .inl (y 0, 14, .inl g45)), (ma 62, .inl (y 0, 63, .inl (upd nz (35 + iz) v520))), MB mo ma (nI t1) i2 i3 i4 i5 i6 i7 i8 i42 i49 i51 i53 i54 i59 i61 i64 i66 (nI t67) i76 i78, (ma 43, .inl (y 0, 8, .inl g43))]) (vp_in_nI (by omega) (by decide)) (by rw [nI_clamp (by omega)]; rfl) d_Model_worths_245 ?_
            refine j_genW (fun f521 => [(ma 48, .inl (y 0, 224, .inl g48)), (ma 63, .inl (y 0, 9, .inl g63)), (ma 45, .inl (y 0, 14, .inl g45)), (ma 62, .inl (y 0, 63, .inl f521)), MB mo ma (nI t1) i2 i3 i4 i5 i6 i7 i8 i42 i49 i51 i53 i54 i59 i61 i64 i66 (nI t67) i76 i78, (ma 43, .inl (y 0, 8, .inl g43))]) (upd nz (35 + iz) v520) rfl (fun f521 => (f521 0 = nI dy)) (show upd nz (35 + iz) v520 0 = nI dy by rw [pk_un (by omega)]; exact hn_) ?_
            rintro f521 xh522
            refine j_ws (ws' := [(ma 48, .inl (y 0, 224, .inl g48)), (ma 63, .inl (y 0, 9, .inl g63)), (ma 45, .inl (y 0, 14, .inl g45)), (ma 62, .inl (y 0, 63, .inl f521)), MB mo ma (nI t1) i2 i3 i4 i5 i6 i7 i8 i42 i49 i51 i53 i54 i59 i61 i64 i66 (nI t67) i76 i78, (ma 43, .inl (y 0, 8, .inl g43))]) rfl ?_
            have xh522 : f521 0 = nI dy := xh522
            refine j_iinc (pc := 246) C (v := nI (iz + 1)) (lv' := [(3, .int (nI (iz + 1))), (2, .int ((g45 11) + (g45 13))), (0, .ref mo), (1, .int v)]) d_Model_worths_246 0 rfl (nI_add _ _) (by decide) rfl ?_
            refine j_goto (pc := 249) C (tgt := 217) d_Model_worths_249 (by decide) ?_
            exact ih517 ((iz + 1), f521) ⟨(show (iz + 1) ≤ c1 by omega), xh522⟩ (show c1 - (iz + 1) < c1 - iz by omega)
        · refine j_icmp_geF (pc := 79) C (tgt := 215) d_Model_worths_79 (by decide) (show ¬ nI c2 ≤ nI iz from nI_ge (by omega) (by omega)) ?_
          refine j_bipush (pc := 82) C (v := 112) d_Model_worths_82 (by decide) ?_
          refine j_bipush (pc := 84) C (v := 7) d_Model_worths_84 (by decide) ?_
          refine j_iload_n (pc := 86) C d_Model_worths_86 rfl 0 rfl ?_
          refine j_imul (pc := 87) C (v := nI (7 * iz)) d_Model_worths_87 (pk_mul _ _) ?_
          refine j_iadd (pc := 88) C (v := nI (112 + (7 * iz))) d_Model_worths_88 (nI_add _ _) ?_
          refine j_istore (pc := 89) C (lv' := [(4, .int (nI (112 + (7 * iz)))), (3, .int (nI iz)), (2, .int ((g45 11) + (g45 13))), (0, .ref mo), (1, .int v)]) d_Model_worths_89 (by decide) rfl ?_
          refine j_aload_n (pc := 91) C d_Model_worths_91 rfl 3 rfl ?_
          refine j_get (pc := 92) C gf_Model_158 4 rfl rfl d_Model_worths_92 ?_
          refine j_iconst (pc := 95) C (v := 0) d_Model_worths_95 (by decide) ?_
          refine j_iald (pc := 96) C 3 rfl (v := nI dy) (vin (by decide)) (by exact hn_) d_Model_worths_96 ?_
          refine j_i2l (pc := 97) C (v := (nI dy).toInt64) d_Model_worths_97 rfl ?_
          refine j_aload_n (pc := 98) C d_Model_worths_98 rfl 3 rfl ?_
          refine j_get (pc := 99) C gf_Model_133 4 rfl rfl d_Model_worths_99 ?_
          refine j_iload (pc := 102) C d_Model_worths_102 0 rfl ?_
          refine j_iconst (pc := 104) C (v := 4) d_Model_worths_104 (by decide) ?_
          refine j_iadd (pc := 105) C (v := nI ((112 + (7 * iz)) + 4)) d_Model_worths_105 (nI_add _ _) ?_
          refine j_iald (pc := 106) C 0 rfl (v := g48 ((112 + (7 * iz)) + 4)) (vp_in_nI (by omega) (by decide)) (by rw [nI_clamp (by omega)]) d_Model_worths_106 ?_
          refine j_i2l (pc := 107) C (v := (g48 ((112 + (7 * iz)) + 4)).toInt64) d_Model_worths_107 rfl ?_
          refine j_aload_n (pc := 108) C d_Model_worths_108 rfl 3 rfl ?_
          refine j_get (pc := 109) C gf_Model_133 4 rfl rfl d_Model_worths_109 ?_
          refine j_iload (pc := 112) C d_Model_worths_112 0 rfl ?_
          refine j_iconst (pc := 114) C (v := 5) d_Model_worths_114 (by decide) ?_
          refine j_iadd (pc := 115) C (v := nI ((112 + (7 * iz)) + 5)) d_Model_worths_115 (nI_add _ _) ?_
          refine j_iald (pc := 116) C 0 rfl (v := g48 ((112 + (7 * iz)) + 5)) (vp_in_nI (by omega) (by decide)) (by rw [nI_clamp (by omega)]) d_Model_worths_116 ?_
          refine j_i2l (pc := 117) C (v := (g48 ((112 + (7 * iz)) + 5)).toInt64) d_Model_worths_117 rfl ?_
          refine j_callSi (pc := 118) C (c_isIn_any l D y ((nI dy).toInt64) ((g48 ((112 + (7 * iz)) + 4)).toInt64) ((g48 ((112 + (7 * iz)) + 5)).toInt64)) kw_Model_240 ks_Model_isIn ⟨by decide, by decide⟩ ⟨by decide, by decide⟩ (wr := [(ma 48, .inl (y 0, 224, .inl g48)), (ma 63, .inl (y 0, 9, .inl g63)), (ma 45, .inl (y 0, 14, .inl g45)), (ma 62, .inl (y 0, 63, .inl nz)), MB mo ma (nI t1) i2 i3 i4 i5 i6 i7 i8 i42 i49 i51 i53 i54 i59 i61 i64 i66 (nI t67) i76 i78, (ma 43, .inl (y 0, 8, .inl g43))]) [] [0, 1, 2, 3, 4, 5] rfl rfl (by decide +kernel) (by decide +kernel) (by decide +kernel) (As := [.long ((nI dy).toInt64), .long ((g48 ((112 + (7 * iz)) + 4)).toInt64), .long ((g48 ((112 + (7 * iz)) + 5)).toInt64)]) (rest := []) rfl (nb rfl) rfl d_Model_worths_118 (fun r523 _ hr523 => ?_)
          have xh524 := hr523
          refine j_ws (ws' := [(ma 48, .inl (y 0, 224, .inl g48)), (ma 63, .inl (y 0, 9, .inl g63)), (ma 45, .inl (y 0, 14, .inl g45)), (ma 62, .inl (y 0, 63, .inl nz)), MB mo ma (nI t1) i2 i3 i4 i5 i6 i7 i8 i42 i49 i51 i53 i54 i59 i61 i64 i66 (nI t67) i76 i78, (ma 43, .inl (y 0, 8, .inl g43))]) rfl ?_
          refine j_if_eq (pc := 121) C (tgt := 209) d_Model_worths_121 (by decide) (fun c525 => ?_) (fun c525 => ?_)
          · refine j_iinc (pc := 209) C (v := nI (iz + 1)) (lv' := [(3, .int (nI (iz + 1))), (4, .int (nI (112 + (7 * iz)))), (2, .int ((g45 11) + (g45 13))), (0, .ref mo), (1, .int v)]) d_Model_worths_209 1 rfl (nI_add _ _) (by decide) rfl ?_
            refine j_goto (pc := 212) C (tgt := 71) d_Model_worths_212 (by decide) ?_
            refine j_locs (lv' := [(3, .int (nI (iz + 1))), (2, .int ((g45 11) + (g45 13))), (0, .ref mo), (1, .int v)]) [0, 2, 3, 4] rfl ?_
            exact ih509 ((iz + 1), nz) ⟨(show (iz + 1) ≤ c2 by omega), hn_⟩ (show c2 - (iz + 1) < c2 - iz by omega)
          · refine j_aload_n (pc := 124) C d_Model_worths_124 rfl 3 rfl ?_
            refine j_get (pc := 125) C gf_Model_161 4 rfl rfl d_Model_worths_125 ?_
            refine j_aload_n (pc := 128) C d_Model_worths_128 rfl 3 rfl ?_
            refine j_get (pc := 129) C gf_Model_133 4 rfl rfl d_Model_worths_129 ?_
            refine j_iload (pc := 132) C d_Model_worths_132 0 rfl ?_
            refine j_iconst (pc := 134) C (v := 1) d_Model_worths_134 (by decide) ?_
            refine j_iadd (pc := 135) C (v := nI ((112 + (7 * iz)) + 1)) d_Model_worths_135 (nI_add _ _) ?_
            obtain ⟨q526, xh527, e528⟩ := (hTh iz (by omega)).2
            refine j_iald (pc := 136) C 0 rfl (v := nI q526) (vp_in_nI (by omega) (by decide)) (by rw [nI_clamp (by omega)]; exact e528) d_Model_worths_136 ?_
            refine j_iald (pc := 137) C 1 rfl (v := g63 q526) (vp_in_nI (by omega) (by decide)) (by rw [nI_clamp (by omega)]) d_Model_worths_137 ?_
            refine j_i2l (pc := 138) C (v := (g63 q526).toInt64) d_Model_worths_138 rfl ?_
            refine j_aload_n (pc := 139) C d_Model_worths_139 rfl 3 rfl ?_
            refine j_get (pc := 140) C gf_Model_133 4 rfl rfl d_Model_worths_140 ?_
            refine j_iload (pc := 143) C d_Model_worths_143 0 rfl ?_
            refine j_iconst (pc := 145) C (v := 2) d_Model_worths_145 (by decide) ?_
            refine j_iadd (pc := 146) C (v := nI ((112 + (7 * iz)) + 2)) d_Model_worths_146 (nI_add _ _) ?_
            refine j_iald (pc := 147) C 0 rfl (v := g48 ((112 + (7 * iz)) + 2)) (vp_in_nI (by omega) (by decide)) (by rw [nI_clamp (by omega)]) d_Model_worths_147 ?_
            refine j_i2l (pc := 148) C (v := (g48 ((112 + (7 * iz)) + 2)).toInt64) d_Model_worths_148 rfl ?_
            refine j_aload_n (pc := 149) C d_Model_worths_149 rfl 3 rfl ?_
            refine j_get (pc := 150) C gf_Model_133 4 rfl rfl d_Model_worths_150 ?_
            refine j_iload (pc := 153) C d_Model_worths_153 0 rfl ?_
            refine j_iconst (pc := 155) C (v := 3) d_Model_worths_155 (by decide) ?_
            refine j_iadd (pc := 156) C (v := nI ((112 + (7 * iz)) + 3)) d_Model_worths_156 (nI_add _ _) ?_
            refine j_iald (pc := 157) C 0 rfl (v := g48 ((112 + (7 * iz)) + 3)) (vp_in_nI (by omega) (by decide)) (by rw [nI_clamp (by omega)]) d_Model_worths_157 ?_
            refine j_i2l (pc := 158) C (v := (g48 ((112 + (7 * iz)) + 3)).toInt64) d_Model_worths_158 rfl ?_
            refine j_callSi (pc := 159) C (c_isIn_any l D y ((g63 q526).toInt64) ((g48 ((112 + (7 * iz)) + 2)).toInt64) ((g48 ((112 + (7 * iz)) + 3)).toInt64)) kw_Model_240 ks_Model_isIn ⟨by decide, by decide⟩ ⟨by decide, by decide⟩ (wr := [(ma 48, .inl (y 0, 224, .inl g48)), (ma 63, .inl (y 0, 9, .inl g63)), (ma 45, .inl (y 0, 14, .inl g45)), (ma 62, .inl (y 0, 63, .inl nz)), MB mo ma (nI t1) i2 i3 i4 i5 i6 i7 i8 i42 i49 i51 i53 i54 i59 i61 i64 i66 (nI t67) i76 i78, (ma 43, .inl (y 0, 8, .inl g43))]) [] [0, 1, 2, 3, 4, 5] rfl rfl (by decide +kernel) (by decide +kernel) (by decide +kernel) (As := [.long ((g63 q526).toInt64), .long ((g48 ((112 + (7 * iz)) + 2)).toInt64), .long ((g48 ((112 + (7 * iz)) + 3)).toInt64)]) (rest := []) rfl (nb rfl) rfl d_Model_worths_159 (fun r529 _ hr529 => ?_)
            have xh530 := hr529
            refine j_ws (ws' := [(ma 48, .inl (y 0, 224, .inl g48)), (ma 63, .inl (y 0, 9, .inl g63)), (ma 45, .inl (y 0, 14, .inl g45)), (ma 62, .inl (y 0, 63, .inl nz)), MB mo ma (nI t1) i2 i3 i4 i5 i6 i7 i8 i42 i49 i51 i53 i54 i59 i61 i64 i66 (nI t67) i76 i78, (ma 43, .inl (y 0, 8, .inl g43))]) rfl ?_
            refine j_if_ne (pc := 162) C (tgt := 168) d_Model_worths_162 (by decide) (fun c531 => ?_) (fun c531 => ?_)
            · refine j_aload_n (pc := 168) C d_Model_worths_168 rfl 3 rfl ?_
              refine j_get (pc := 169) C gf_Model_158 4 rfl rfl d_Model_worths_169 ?_
              refine j_bipush (pc := 172) C (v := 47) d_Model_worths_172 (by decide) ?_
              refine j_iload_n (pc := 174) C d_Model_worths_174 rfl 1 rfl ?_
              refine j_iadd (pc := 175) C (v := nI (47 + iz)) d_Model_worths_175 (nI_add _ _) ?_
              refine j_dup2 (pc := 176) C d_Model_worths_176 rfl rfl ?_
              refine j_iald (pc := 177) C 3 rfl (v := nz (47 + iz)) (vp_in_nI (by omega) (by decide)) (by rw [nI_clamp (by omega)]) d_Model_worths_177 ?_
              refine j_iconst (pc := 178) C (v := 1) d_Model_worths_178 (by decide) ?_
              refine j_iadd (pc := 179) C (v := (nz (47 + iz)) + 1) d_Model_worths_179 rfl ?_
              refine j_iast (pc := 180) C 3 rfl (ws' := [(ma 48, .inl (y 0, 224, .inl g48)), (ma 63, .inl (y 0, 9, .inl g63)), (ma 45, .inl (y 0, 14, .inl g45)), (ma 62, .inl (y 0, 63, .inl (upd nz (47 + iz) ((nz (47 + iz)) + 1)))), MB mo ma (nI t1) i2 i3 i4 i5 i6 i7 i8 i42 i49 i51 i53 i54 i59 i61 i64 i66 (nI t67) i76 i78, (ma 43, .inl (y 0, 8, .inl g43))]) (vp_in_nI (by omega) (by decide)) (by rw [nI_clamp (by omega)]; rfl) d_Model_worths_180 ?_
              refine j_genW (fun f532 => [(ma 48, .inl (y 0, 224, .inl g48)), (ma 63, .inl (y 0, 9, .inl g63)), (ma 45, .inl (y 0, 14, .inl g45)), (ma 62, .inl (y 0, 63, .inl f532)), MB mo ma (nI t1) i2 i3 i4 i5 i6 i7 i8 i42 i49 i51 i53 i54 i59 i61 i64 i66 (nI t67) i76 i78, (ma 43, .inl (y 0, 8, .inl g43))]) (upd nz (47 + iz) ((nz (47 + iz)) + 1)) rfl (fun f532 => (f532 0 = nI dy)) (show upd nz (47 + iz) ((nz (47 + iz)) + 1) 0 = nI dy by rw [pk_un (by omega)]; exact hn_) ?_
              rintro f532 xh533
              refine j_ws (ws' := [(ma 48, .inl (y 0, 224, .inl g48)), (ma 63, .inl (y 0, 9, .inl g63)), (ma 45, .inl (y 0, 14, .inl g45)), (ma 62, .inl (y 0, 63, .inl f532)), MB mo ma (nI t1) i2 i3 i4 i5 i6 i7 i8 i42 i49 i51 i53 i54 i59 i61 i64 i66 (nI t67) i76 i78, (ma 43, .inl (y 0, 8, .inl g43))]) rfl ?_
              have xh533 : f532 0 = nI dy := xh533
              refine j_aload_n (pc := 181) C d_Model_worths_181 rfl 3 rfl ?_
              refine j_get (pc := 182) C gf_Model_158 4 rfl rfl d_Model_worths_182 ?_
              refine j_bipush (pc := 185) C (v := 41) d_Model_worths_185 (by decide) ?_
              refine j_aload_n (pc := 187) C d_Model_worths_187 rfl 3 rfl ?_
              refine j_get (pc := 188) C gf_Model_133 4 rfl rfl d_Model_worths_188 ?_
              refine j_iload (pc := 191) C d_Model_worths_191 0 rfl ?_
              obtain ⟨q534, xh535, e536⟩ := (hTh iz (by omega)).1
              refine j_iald (pc := 193) C 0 rfl (v := nI q534) (vp_in_nI (by omega) (by decide)) (by rw [nI_clamp (by omega)]; exact e536) d_Model_worths_193 ?_
              refine j_iadd (pc := 194) C (v := nI (41 + q534)) d_Model_worths_194 (nI_add _ _) ?_
              refine j_dup2 (pc := 195) C d_Model_worths_195 rfl rfl ?_
              refine j_iald (pc := 196) C 3 rfl (v := f532 (41 + q534)) (vp_in_nI (by omega) (by decide)) (by rw [nI_clamp (by omega)]) d_Model_worths_196 ?_
              refine j_aload_n (pc := 197) C d_Model_worths_197 rfl 3 rfl ?_
              refine j_get (pc := 198) C gf_Model_133 4 rfl rfl d_Model_worths_198 ?_
              refine j_iload (pc := 201) C d_Model_worths_201 0 rfl ?_
              refine j_bipush (pc := 203) C (v := 6) d_Model_worths_203 (by decide) ?_
              refine j_iadd (pc := 205) C (v := nI ((112 + (7 * iz)) + 6)) d_Model_worths_205 (nI_add _ _) ?_
              refine j_iald (pc := 206) C 0 rfl (v := g48 ((112 + (7 * iz)) + 6)) (vp_in_nI (by omega) (by decide)) (by rw [nI_clamp (by omega)]) d_Model_worths_206 ?_
              refine j_iadd (pc := 207) C (v := (f532 (41 + q534)) + (g48 ((112 + (7 * iz)) + 6))) d_Model_worths_207 rfl ?_
              refine j_anyI (fun v537 => ?_)
              refine j_iast (pc := 208) C 3 rfl (ws' := [(ma 48, .inl (y 0, 224, .inl g48)), (ma 63, .inl (y 0, 9, .inl g63)), (ma 45, .inl (y 0, 14, .inl g45)), (ma 62, .inl (y 0, 63, .inl (upd f532 (41 + q534) v537))), MB mo ma (nI t1) i2 i3 i4 i5 i6 i7 i8 i42 i49 i51 i53 i54 i59 i61 i64 i66 (nI t67) i76 i78, (ma 43, .inl (y 0, 8, .inl g43))]) (vp_in_nI (by omega) (by decide)) (by rw [nI_clamp (by omega)]; rfl) d_Model_worths_208 ?_
              refine j_genW (fun f538 => [(ma 48, .inl (y 0, 224, .inl g48)), (ma 63, .inl (y 0, 9, .inl g63)), (ma 45, .inl (y 0, 14, .inl g45)), (ma 62, .inl (y 0, 63, .inl f538)), MB mo ma (nI t1) i2 i3 i4 i5 i6 i7 i8 i42 i49 i51 i53 i54 i59 i61 i64 i66 (nI t67) i76 i78, (ma 43, .inl (y 0, 8, .inl g43))]) (upd f532 (41 + q534) v537) rfl (fun f538 => (f538 0 = nI dy)) (show upd f532 (41 + q534) v537 0 = nI dy by rw [pk_un (by omega)]; exact xh533) ?_
              rintro f538 xh539
              refine j_ws (ws' := [(ma 48, .inl (y 0, 224, .inl g48)), (ma 63, .inl (y 0, 9, .inl g63)), (ma 45, .inl (y 0, 14, .inl g45)), (ma 62, .inl (y 0, 63, .inl f538)), MB mo ma (nI t1) i2 i3 i4 i5 i6 i7 i8 i42 i49 i51 i53 i54 i59 i61 i64 i66 (nI t67) i76 i78, (ma 43, .inl (y 0, 8, .inl g43))]) rfl ?_
              have xh539 : f538 0 = nI dy := xh539
              refine j_iinc (pc := 209) C (v := nI (iz + 1)) (lv' := [(3, .int (nI (iz + 1))), (4, .int (nI (112 + (7 * iz)))), (2, .int ((g45 11) + (g45 13))), (0, .ref mo), (1, .int v)]) d_Model_worths_209 1 rfl (nI_add _ _) (by decide) rfl ?_
              refine j_goto (pc := 212) C (tgt := 71) d_Model_worths_212 (by decide) ?_
              refine j_locs (lv' := [(3, .int (nI (iz + 1))), (2, .int ((g45 11) + (g45 13))), (0, .ref mo), (1, .int v)]) [0, 2, 3, 4] rfl ?_
              exact ih509 ((iz + 1), f538) ⟨(show (iz + 1) ≤ c2 by omega), xh539⟩ (show c2 - (iz + 1) < c2 - iz by omega)
            · refine j_goto (pc := 165) C (tgt := 209) d_Model_worths_165 (by decide) ?_
              refine j_iinc (pc := 209) C (v := nI (iz + 1)) (lv' := [(3, .int (nI (iz + 1))), (4, .int (nI (112 + (7 * iz)))), (2, .int ((g45 11) + (g45 13))), (0, .ref mo), (1, .int v)]) d_Model_worths_209 1 rfl (nI_add _ _) (by decide) rfl ?_
              refine j_goto (pc := 212) C (tgt := 71) d_Model_worths_212 (by decide) ?_
              refine j_locs (lv' := [(3, .int (nI (iz + 1))), (2, .int ((g45 11) + (g45 13))), (0, .ref mo), (1, .int v)]) [0, 2, 3, 4] rfl ?_
              exact ih509 ((iz + 1), nz) ⟨(show (iz + 1) ≤ c2 by omega), hn_⟩ (show c2 - (iz + 1) < c2 - iz by omega)
      · refine j_icmp_geF (pc := 49) C (tgt := 69) d_Model_worths_49 (by decide) (show ¬ nI c1 ≤ nI iz from nI_ge (by omega) (by omega)) ?_
        refine j_aload_n (pc := 52) C d_Model_worths_52 rfl 2 rfl ?_
        refine j_get (pc := 53) C gf_Model_158 4 rfl rfl d_Model_worths_53 ?_
        refine j_bipush (pc := 56) C (v := 41) d_Model_worths_56 (by decide) ?_
        refine j_iload_n (pc := 58) C d_Model_worths_58 rfl 0 rfl ?_
        refine j_iadd (pc := 59) C (v := nI (41 + iz)) d_Model_worths_59 (nI_add _ _) ?_
        refine j_iload_n (pc := 60) C d_Model_worths_60 rfl 1 rfl ?_
        refine j_ineg (pc := 61) C (v := -((g45 11) + (g45 13))) d_Model_worths_61 rfl ?_
        refine j_iast (pc := 62) C 3 rfl (ws' := [(ma 48, .inl (y 0, 224, .inl g48)), (ma 63, .inl (y 0, 9, .inl g63)), (ma 45, .inl (y 0, 14, .inl g45)), (ma 62, .inl (y 0, 63, .inl (upd nz (41 + iz) (-((g45 11) + (g45 13)))))), MB mo ma (nI t1) i2 i3 i4 i5 i6 i7 i8 i42 i49 i51 i53 i54 i59 i61 i64 i66 (nI t67) i76 i78, (ma 43, .inl (y 0, 8, .inl g43))]) (vp_in_nI (by omega) (by decide)) (by rw [nI_clamp (by omega)]; rfl) d_Model_worths_62 ?_
        refine j_genW (fun f540 => [(ma 48, .inl (y 0, 224, .inl g48)), (ma 63, .inl (y 0, 9, .inl g63)), (ma 45, .inl (y 0, 14, .inl g45)), (ma 62, .inl (y 0, 63, .inl f540)), MB mo ma (nI t1) i2 i3 i4 i5 i6 i7 i8 i42 i49 i51 i53 i54 i59 i61 i64 i66 (nI t67) i76 i78, (ma 43, .inl (y 0, 8, .inl g43))]) (upd nz (41 + iz) (-((g45 11) + (g45 13)))) rfl (fun f540 => (f540 0 = nI dy)) (show upd nz (41 + iz) (-((g45 11) + (g45 13))) 0 = nI dy by rw [pk_un (by omega)]; exact hn_) ?_
        rintro f540 xh541
        refine j_ws (ws' := [(ma 48, .inl (y 0, 224, .inl g48)), (ma 63, .inl (y 0, 9, .inl g63)), (ma 45, .inl (y 0, 14, .inl g45)), (ma 62, .inl (y 0, 63, .inl f540)), MB mo ma (nI t1) i2 i3 i4 i5 i6 i7 i8 i42 i49 i51 i53 i54 i59 i61 i64 i66 (nI t67) i76 i78, (ma 43, .inl (y 0, 8, .inl g43))]) rfl ?_
        have xh541 : f540 0 = nI dy := xh541
        refine j_iinc (pc := 63) C (v := nI (iz + 1)) (lv' := [(3, .int (nI (iz + 1))), (2, .int ((g45 11) + (g45 13))), (0, .ref mo), (1, .int v)]) d_Model_worths_63 0 rfl (nI_add _ _) (by decide) rfl ?_
        refine j_goto (pc := 66) C (tgt := 44) d_Model_worths_66 (by decide) ?_
        refine j_sub (ws' := [(ma 43, .inl (y 0, 8, .inl g43)), (ma 48, .inl (y 0, 224, .inl g48)), (ma 63, .inl (y 0, 9, .inl g63)), MB mo ma (nI t1) i2 i3 i4 i5 i6 i7 i8 i42 i49 i51 i53 i54 i59 i61 i64 i66 (nI t67) i76 i78, (ma 45, .inl (y 0, 14, .inl g45)), (ma 62, .inl (y 0, 63, .inl f540))]) [5, 0, 1, 4, 2, 3] rfl (by decide +kernel) ?_
        exact ih475 ((iz + 1), f540) ⟨(show (iz + 1) ≤ c1 by omega), xh541⟩ (show c1 - (iz + 1) < c1 - iz by omega)
theorem d_Model_goesBy_0 : decode prog_13_method_64_code 0 = .ok (.aload_n 0, 1) := by decide +kernel
theorem d_Model_goesBy_1 : decode prog_13_method_64_code 1 = .ok (.invokevirtual 434, 3) := by decide +kernel
theorem kw_Model_434 : KW "NineBoardsModel" 434 ⟨"NineBoardsModel", "flowsNow", "()I"⟩ prog_13_method_63_code 4 (some .int) 0 := ⟨(mt_7 (List.mem_of_getElem? (i := 68) rfl) rfl), (mt_1 (List.mem_of_getElem? (i := 16) rfl) rfl), (mt_7 (List.mem_of_getElem? (i := 71) rfl) rfl), by decide +kernel⟩
theorem kv_Model_flowsNow : Cond.instanceMethod ⟨"NineBoardsModel", "flowsNow", "()I"⟩ ∈ TB ∧ Cond.selects "NineBoardsModel" ⟨"NineBoardsModel", "flowsNow", "()I"⟩ ⟨"NineBoardsModel", "flowsNow", "()I"⟩ ∈ TB := ⟨(mt_7 (List.mem_of_getElem? (i := 70) rfl) rfl), (ms_0 (List.mem_map.mpr ⟨(⟨"NineBoardsModel", "flowsNow", "()I"⟩, 79), List.mem_of_getElem? (i := 94) (by decide +kernel), rfl⟩) rfl)⟩
theorem d_Model_goesBy_4 : decode prog_13_method_64_code 4 = .ok (.istore_n 2, 1) := by decide +kernel
theorem d_Model_goesBy_5 : decode prog_13_method_64_code 5 = .ok (.aload_n 0, 1) := by decide +kernel
theorem d_Model_goesBy_6 : decode prog_13_method_64_code 6 = .ok (.aload_n 0, 1) := by decide +kernel
theorem d_Model_goesBy_7 : decode prog_13_method_64_code 7 = .ok (.getfield 158, 3) := by decide +kernel
theorem d_Model_goesBy_10 : decode prog_13_method_64_code 10 = .ok (.iconst 0, 1) := by decide +kernel
theorem d_Model_goesBy_11 : decode prog_13_method_64_code 11 = .ok (.iaload, 1) := by decide +kernel
theorem d_Model_goesBy_12 : decode prog_13_method_64_code 12 = .ok (.iload_n 2, 1) := by decide +kernel
theorem d_Model_goesBy_13 : decode prog_13_method_64_code 13 = .ok (.iconst 0, 1) := by decide +kernel
theorem d_Model_goesBy_14 : decode prog_13_method_64_code 14 = .ok (.invokevirtual 437, 3) := by decide +kernel
theorem kw_Model_437 : KW "NineBoardsModel" 437 ⟨"NineBoardsModel", "weatherOf", "(IIZ)I"⟩ prog_13_method_52_code 7 (some .int) 3 := ⟨(mt_7 (List.mem_of_getElem? (i := 136) rfl) rfl), (mt_1 (List.mem_of_getElem? (i := 16) rfl) rfl), (mt_7 (List.mem_of_getElem? (i := 139) rfl) rfl), by decide +kernel⟩
theorem kv_Model_weatherOf : Cond.instanceMethod ⟨"NineBoardsModel", "weatherOf", "(IIZ)I"⟩ ∈ TB ∧ Cond.selects "NineBoardsModel" ⟨"NineBoardsModel", "weatherOf", "(IIZ)I"⟩ ⟨"NineBoardsModel", "weatherOf", "(IIZ)I"⟩ ∈ TB := ⟨(mt_7 (List.mem_of_getElem? (i := 138) rfl) rfl), (ms_0 (List.mem_map.mpr ⟨(⟨"NineBoardsModel", "weatherOf", "(IIZ)I"⟩, 79), List.mem_of_getElem? (i := 105) (by decide +kernel), rfl⟩) rfl)⟩
theorem d_Model_goesBy_17 : decode prog_13_method_64_code 17 = .ok (.iload_n 1, 1) := by decide +kernel
theorem d_Model_goesBy_18 : decode prog_13_method_64_code 18 = .ok (.iadd, 1) := by decide +kernel
theorem d_Model_goesBy_19 : decode prog_13_method_64_code 19 = .ok (.istore_n 3, 1) := by decide +kernel
theorem d_Model_goesBy_20 : decode prog_13_method_64_code 20 = .ok (.iload_n 2, 1) := by decide +kernel
theorem d_Model_goesBy_21 : decode prog_13_method_64_code 21 = .ok (.iload_n 3, 1) := by decide +kernel
theorem d_Model_goesBy_22 : decode prog_13_method_64_code 22 = .ok (.iadd, 1) := by decide +kernel
theorem d_Model_goesBy_23 : decode prog_13_method_64_code 23 = .ok (.istore 4, 2) := by decide +kernel
theorem d_Model_goesBy_25 : decode prog_13_method_64_code 25 = .ok (.aload_n 0, 1) := by decide +kernel
theorem d_Model_goesBy_26 : decode prog_13_method_64_code 26 = .ok (.iload 4, 2) := by decide +kernel
theorem d_Model_goesBy_28 : decode prog_13_method_64_code 28 = .ok (.aload_n 0, 1) := by decide +kernel
theorem d_Model_goesBy_29 : decode prog_13_method_64_code 29 = .ok (.getfield 124, 3) := by decide +kernel
theorem d_Model_goesBy_32 : decode prog_13_method_64_code 32 = .ok (.bipush 8, 2) := by decide +kernel
theorem d_Model_goesBy_34 : decode prog_13_method_64_code 34 = .ok (.iaload, 1) := by decide +kernel
theorem d_Model_goesBy_35 : decode prog_13_method_64_code 35 = .ok (.if_icmp .le 16, 3) := by decide +kernel
theorem d_Model_goesBy_51 : decode prog_13_method_64_code 51 = .ok (.iconst 0, 1) := by decide +kernel
theorem d_Model_goesBy_52 : decode prog_13_method_64_code 52 = .ok (.putfield 441, 3) := by decide +kernel
theorem pf_Model_441 : PF "NineBoardsModel" 441 10 64 (.int) false := ⟨_, _, _, ct_Model, rfl, ci_Model, by decide, (mt_5 (List.mem_of_getElem? (i := 152) rfl) rfl), cp_Model, cn_Model, rfl, by decide +kernel, (fun h => by cases h)⟩
theorem d_Model_goesBy_55 : decode prog_13_method_64_code 55 = .ok (.iload 4, 2) := by decide +kernel
theorem d_Model_goesBy_57 : decode prog_13_method_64_code 57 = .ok (.aload_n 0, 1) := by decide +kernel
theorem d_Model_goesBy_58 : decode prog_13_method_64_code 58 = .ok (.getfield 441, 3) := by decide +kernel
theorem gf_Model_441 : GF "NineBoardsModel" 441 10 64 := ⟨_, _, _, rfl, ci_Model, by decide, (mt_5 (List.mem_of_getElem? (i := 152) rfl) rfl)⟩
theorem d_Model_goesBy_61 : decode prog_13_method_64_code 61 = .ok (.isub, 1) := by decide +kernel
theorem d_Model_goesBy_62 : decode prog_13_method_64_code 62 = .ok (.istore 5, 2) := by decide +kernel
theorem d_Model_goesBy_64 : decode prog_13_method_64_code 64 = .ok (.aload_n 0, 1) := by decide +kernel
theorem d_Model_goesBy_65 : decode prog_13_method_64_code 65 = .ok (.aload_n 0, 1) := by decide +kernel
theorem d_Model_goesBy_66 : decode prog_13_method_64_code 66 = .ok (.getfield 158, 3) := by decide +kernel
theorem d_Model_goesBy_69 : decode prog_13_method_64_code 69 = .ok (.iconst 0, 1) := by decide +kernel
theorem d_Model_goesBy_70 : decode prog_13_method_64_code 70 = .ok (.iaload, 1) := by decide +kernel
theorem d_Model_goesBy_71 : decode prog_13_method_64_code 71 = .ok (.iload 5, 2) := by decide +kernel
theorem d_Model_goesBy_73 : decode prog_13_method_64_code 73 = .ok (.iconst 1, 1) := by decide +kernel
theorem d_Model_goesBy_74 : decode prog_13_method_64_code 74 = .ok (.invokevirtual 437, 3) := by decide +kernel
theorem d_Model_goesBy_77 : decode prog_13_method_64_code 77 = .ok (.istore 6, 2) := by decide +kernel
theorem d_Model_goesBy_79 : decode prog_13_method_64_code 79 = .ok (.iload 6, 2) := by decide +kernel
theorem d_Model_goesBy_81 : decode prog_13_method_64_code 81 = .ok (.iload 5, 2) := by decide +kernel
theorem d_Model_goesBy_83 : decode prog_13_method_64_code 83 = .ok (.if_icmp .ge 8, 3) := by decide +kernel
theorem d_Model_goesBy_91 : decode prog_13_method_64_code 91 = .ok (.iload 5, 2) := by decide +kernel
theorem d_Model_goesBy_93 : decode prog_13_method_64_code 93 = .ok (.istore 6, 2) := by decide +kernel
theorem d_Model_goesBy_95 : decode prog_13_method_64_code 95 = .ok (.iconst 0, 1) := by decide +kernel
theorem d_Model_goesBy_96 : decode prog_13_method_64_code 96 = .ok (.istore 7, 2) := by decide +kernel
theorem d_Model_goesBy_98 : decode prog_13_method_64_code 98 = .ok (.iload 7, 2) := by decide +kernel
theorem d_Model_goesBy_100 : decode prog_13_method_64_code 100 = .ok (.aload_n 0, 1) := by decide +kernel
theorem d_Model_goesBy_101 : decode prog_13_method_64_code 101 = .ok (.invokevirtual 341, 3) := by decide +kernel
theorem d_Model_goesBy_104 : decode prog_13_method_64_code 104 = .ok (.if_icmp .ge 63, 3) := by decide +kernel
theorem d_Model_goesBy_167 : decode prog_13_method_64_code 167 = .ok (.aload_n 0, 1) := by decide +kernel
theorem d_Model_goesBy_168 : decode prog_13_method_64_code 168 = .ok (.getfield 158, 3) := by decide +kernel
theorem d_Model_goesBy_171 : decode prog_13_method_64_code 171 = .ok (.bipush 31, 2) := by decide +kernel
theorem d_Model_goesBy_173 : decode prog_13_method_64_code 173 = .ok (.dup2, 1) := by decide +kernel
theorem d_Model_goesBy_174 : decode prog_13_method_64_code 174 = .ok (.iaload, 1) := by decide +kernel
theorem d_Model_goesBy_175 : decode prog_13_method_64_code 175 = .ok (.iload_n 3, 1) := by decide +kernel
theorem d_Model_goesBy_176 : decode prog_13_method_64_code 176 = .ok (.iadd, 1) := by decide +kernel
theorem d_Model_goesBy_177 : decode prog_13_method_64_code 177 = .ok (.iastore, 1) := by decide +kernel
theorem d_Model_goesBy_178 : decode prog_13_method_64_code 178 = .ok (.aload_n 0, 1) := by decide +kernel
theorem d_Model_goesBy_179 : decode prog_13_method_64_code 179 = .ok (.getfield 158, 3) := by decide +kernel
theorem d_Model_goesBy_182 : decode prog_13_method_64_code 182 = .ok (.bipush 32, 2) := by decide +kernel
theorem d_Model_goesBy_184 : decode prog_13_method_64_code 184 = .ok (.dup2, 1) := by decide +kernel
theorem d_Model_goesBy_185 : decode prog_13_method_64_code 185 = .ok (.iaload, 1) := by decide +kernel
theorem d_Model_goesBy_186 : decode prog_13_method_64_code 186 = .ok (.aload_n 0, 1) := by decide +kernel
theorem d_Model_goesBy_187 : decode prog_13_method_64_code 187 = .ok (.getfield 441, 3) := by decide +kernel
theorem d_Model_goesBy_190 : decode prog_13_method_64_code 190 = .ok (.iadd, 1) := by decide +kernel
theorem d_Model_goesBy_191 : decode prog_13_method_64_code 191 = .ok (.iastore, 1) := by decide +kernel
theorem d_Model_goesBy_192 : decode prog_13_method_64_code 192 = .ok (.aload_n 0, 1) := by decide +kernel
theorem d_Model_goesBy_193 : decode prog_13_method_64_code 193 = .ok (.getfield 158, 3) := by decide +kernel
theorem d_Model_goesBy_196 : decode prog_13_method_64_code 196 = .ok (.bipush 34, 2) := by decide +kernel
theorem d_Model_goesBy_198 : decode prog_13_method_64_code 198 = .ok (.dup2, 1) := by decide +kernel
theorem d_Model_goesBy_199 : decode prog_13_method_64_code 199 = .ok (.iaload, 1) := by decide +kernel
theorem d_Model_goesBy_200 : decode prog_13_method_64_code 200 = .ok (.iload 6, 2) := by decide +kernel
theorem d_Model_goesBy_202 : decode prog_13_method_64_code 202 = .ok (.iadd, 1) := by decide +kernel
theorem d_Model_goesBy_203 : decode prog_13_method_64_code 203 = .ok (.iastore, 1) := by decide +kernel
theorem d_Model_goesBy_204 : decode prog_13_method_64_code 204 = .ok (.aload_n 0, 1) := by decide +kernel
theorem d_Model_goesBy_205 : decode prog_13_method_64_code 205 = .ok (.getfield 158, 3) := by decide +kernel
theorem d_Model_goesBy_208 : decode prog_13_method_64_code 208 = .ok (.iconst 1, 1) := by decide +kernel
theorem d_Model_goesBy_209 : decode prog_13_method_64_code 209 = .ok (.iload 5, 2) := by decide +kernel
theorem d_Model_goesBy_211 : decode prog_13_method_64_code 211 = .ok (.iload 6, 2) := by decide +kernel
theorem d_Model_goesBy_213 : decode prog_13_method_64_code 213 = .ok (.isub, 1) := by decide +kernel
theorem d_Model_goesBy_214 : decode prog_13_method_64_code 214 = .ok (.iastore, 1) := by decide +kernel
theorem d_Model_goesBy_215 : decode prog_13_method_64_code 215 = .ok (.aload_n 0, 1) := by decide +kernel
theorem d_Model_goesBy_216 : decode prog_13_method_64_code 216 = .ok (.iload 4, 2) := by decide +kernel
theorem d_Model_goesBy_218 : decode prog_13_method_64_code 218 = .ok (.aload_n 0, 1) := by decide +kernel
theorem d_Model_goesBy_219 : decode prog_13_method_64_code 219 = .ok (.getfield 124, 3) := by decide +kernel
theorem d_Model_goesBy_222 : decode prog_13_method_64_code 222 = .ok (.bipush 7, 2) := by decide +kernel
theorem d_Model_goesBy_224 : decode prog_13_method_64_code 224 = .ok (.iaload, 1) := by decide +kernel
theorem d_Model_goesBy_225 : decode prog_13_method_64_code 225 = .ok (.idiv, 1) := by decide +kernel
theorem d_Model_goesBy_226 : decode prog_13_method_64_code 226 = .ok (.aload_n 0, 1) := by decide +kernel
theorem d_Model_goesBy_227 : decode prog_13_method_64_code 227 = .ok (.getfield 124, 3) := by decide +kernel
theorem d_Model_goesBy_230 : decode prog_13_method_64_code 230 = .ok (.bipush 12, 2) := by decide +kernel
theorem d_Model_goesBy_232 : decode prog_13_method_64_code 232 = .ok (.iaload, 1) := by decide +kernel
theorem d_Model_goesBy_233 : decode prog_13_method_64_code 233 = .ok (.if_icmp .le 7, 3) := by decide +kernel
theorem d_Model_goesBy_240 : decode prog_13_method_64_code 240 = .ok (.iconst 0, 1) := by decide +kernel
theorem d_Model_goesBy_241 : decode prog_13_method_64_code 241 = .ok (.invokevirtual 444, 3) := by decide +kernel
theorem kw_Model_444 : KW "NineBoardsModel" 444 ⟨"NineBoardsModel", "worths", "(Z)V"⟩ prog_13_method_65_code 5 none 1 := ⟨(mt_7 (List.mem_of_getElem? (i := 163) rfl) rfl), (mt_1 (List.mem_of_getElem? (i := 16) rfl) rfl), (mt_7 (List.mem_of_getElem? (i := 166) rfl) rfl), by decide +kernel⟩
theorem kv_Model_worths : Cond.instanceMethod ⟨"NineBoardsModel", "worths", "(Z)V"⟩ ∈ TB ∧ Cond.selects "NineBoardsModel" ⟨"NineBoardsModel", "worths", "(Z)V"⟩ ⟨"NineBoardsModel", "worths", "(Z)V"⟩ ∈ TB := ⟨(mt_7 (List.mem_of_getElem? (i := 165) rfl) rfl), (ms_0 (List.mem_map.mpr ⟨(⟨"NineBoardsModel", "worths", "(Z)V"⟩, 79), List.mem_of_getElem? (i := 109) (by decide +kernel), rfl⟩) rfl)⟩
theorem d_Model_goesBy_244 : decode prog_13_method_64_code 244 = .ok (.aload_n 0, 1) := by decide +kernel
theorem d_Model_goesBy_245 : decode prog_13_method_64_code 245 = .ok (.getfield 158, 3) := by decide +kernel
theorem d_Model_goesBy_248 : decode prog_13_method_64_code 248 = .ok (.iconst 0, 1) := by decide +kernel
theorem d_Model_goesBy_249 : decode prog_13_method_64_code 249 = .ok (.dup2, 1) := by decide +kernel
theorem d_Model_goesBy_250 : decode prog_13_method_64_code 250 = .ok (.iaload, 1) := by decide +kernel
theorem d_Model_goesBy_251 : decode prog_13_method_64_code 251 = .ok (.iconst 1, 1) := by decide +kernel
theorem d_Model_goesBy_252 : decode prog_13_method_64_code 252 = .ok (.iadd, 1) := by decide +kernel
theorem d_Model_goesBy_253 : decode prog_13_method_64_code 253 = .ok (.iastore, 1) := by decide +kernel
theorem d_Model_goesBy_254 : decode prog_13_method_64_code 254 = .ok (.return_, 1) := by decide +kernel
theorem d_Model_goesBy_236 : decode prog_13_method_64_code 236 = .ok (.iconst 1, 1) := by decide +kernel
theorem d_Model_goesBy_237 : decode prog_13_method_64_code 237 = .ok (.goto 4, 3) := by decide +kernel
theorem d_Model_goesBy_107 : decode prog_13_method_64_code 107 = .ok (.aload_n 0, 1) := by decide +kernel
theorem d_Model_goesBy_108 : decode prog_13_method_64_code 108 = .ok (.getfield 158, 3) := by decide +kernel
theorem d_Model_goesBy_111 : decode prog_13_method_64_code 111 = .ok (.bipush 12, 2) := by decide +kernel
theorem d_Model_goesBy_113 : decode prog_13_method_64_code 113 = .ok (.iload 7, 2) := by decide +kernel
theorem d_Model_goesBy_115 : decode prog_13_method_64_code 115 = .ok (.iadd, 1) := by decide +kernel
theorem d_Model_goesBy_116 : decode prog_13_method_64_code 116 = .ok (.aload_n 0, 1) := by decide +kernel
theorem d_Model_goesBy_117 : decode prog_13_method_64_code 117 = .ok (.getfield 161, 3) := by decide +kernel
theorem d_Model_goesBy_120 : decode prog_13_method_64_code 120 = .ok (.iload 7, 2) := by decide +kernel
theorem d_Model_goesBy_122 : decode prog_13_method_64_code 122 = .ok (.iaload, 1) := by decide +kernel
theorem d_Model_goesBy_123 : decode prog_13_method_64_code 123 = .ok (.iastore, 1) := by decide +kernel
theorem d_Model_goesBy_124 : decode prog_13_method_64_code 124 = .ok (.aload_n 0, 1) := by decide +kernel
theorem d_Model_goesBy_125 : decode prog_13_method_64_code 125 = .ok (.getfield 158, 3) := by decide +kernel
theorem d_Model_goesBy_128 : decode prog_13_method_64_code 128 = .ok (.bipush 21, 2) := by decide +kernel
theorem d_Model_goesBy_130 : decode prog_13_method_64_code 130 = .ok (.iload 7, 2) := by decide +kernel
theorem d_Model_goesBy_132 : decode prog_13_method_64_code 132 = .ok (.iadd, 1) := by decide +kernel
theorem d_Model_goesBy_133 : decode prog_13_method_64_code 133 = .ok (.dup2, 1) := by decide +kernel
theorem d_Model_goesBy_134 : decode prog_13_method_64_code 134 = .ok (.iaload, 1) := by decide +kernel
theorem d_Model_goesBy_135 : decode prog_13_method_64_code 135 = .ok (.aload_n 0, 1) := by decide +kernel
theorem d_Model_goesBy_136 : decode prog_13_method_64_code 136 = .ok (.getfield 161, 3) := by decide +kernel
theorem d_Model_goesBy_139 : decode prog_13_method_64_code 139 = .ok (.iload 7, 2) := by decide +kernel
theorem d_Model_goesBy_141 : decode prog_13_method_64_code 141 = .ok (.iaload, 1) := by decide +kernel
theorem d_Model_goesBy_142 : decode prog_13_method_64_code 142 = .ok (.iadd, 1) := by decide +kernel
theorem d_Model_goesBy_143 : decode prog_13_method_64_code 143 = .ok (.iastore, 1) := by decide +kernel
theorem d_Model_goesBy_144 : decode prog_13_method_64_code 144 = .ok (.aload_n 0, 1) := by decide +kernel
theorem d_Model_goesBy_145 : decode prog_13_method_64_code 145 = .ok (.getfield 158, 3) := by decide +kernel
theorem d_Model_goesBy_148 : decode prog_13_method_64_code 148 = .ok (.bipush 33, 2) := by decide +kernel
theorem d_Model_goesBy_150 : decode prog_13_method_64_code 150 = .ok (.dup2, 1) := by decide +kernel
theorem d_Model_goesBy_151 : decode prog_13_method_64_code 151 = .ok (.iaload, 1) := by decide +kernel
theorem d_Model_goesBy_152 : decode prog_13_method_64_code 152 = .ok (.aload_n 0, 1) := by decide +kernel
theorem d_Model_goesBy_153 : decode prog_13_method_64_code 153 = .ok (.getfield 161, 3) := by decide +kernel
theorem d_Model_goesBy_156 : decode prog_13_method_64_code 156 = .ok (.iload 7, 2) := by decide +kernel
theorem d_Model_goesBy_158 : decode prog_13_method_64_code 158 = .ok (.iaload, 1) := by decide +kernel
theorem d_Model_goesBy_159 : decode prog_13_method_64_code 159 = .ok (.iadd, 1) := by decide +kernel
theorem d_Model_goesBy_160 : decode prog_13_method_64_code 160 = .ok (.iastore, 1) := by decide +kernel
theorem d_Model_goesBy_161 : decode prog_13_method_64_code 161 = .ok (.iinc 7 1, 3) := by decide +kernel
theorem d_Model_goesBy_164 : decode prog_13_method_64_code 164 = .ok (.goto (-66), 3) := by decide +kernel
theorem d_Model_goesBy_86 : decode prog_13_method_64_code 86 = .ok (.iload 6, 2) := by decide +kernel
theorem d_Model_goesBy_88 : decode prog_13_method_64_code 88 = .ok (.goto 5, 3) := by decide +kernel
theorem d_Model_goesBy_38 : decode prog_13_method_64_code 38 = .ok (.iload 4, 2) := by decide +kernel
theorem d_Model_goesBy_40 : decode prog_13_method_64_code 40 = .ok (.aload_n 0, 1) := by decide +kernel
theorem d_Model_goesBy_41 : decode prog_13_method_64_code 41 = .ok (.getfield 124, 3) := by decide +kernel
theorem d_Model_goesBy_44 : decode prog_13_method_64_code 44 = .ok (.bipush 8, 2) := by decide +kernel
theorem d_Model_goesBy_46 : decode prog_13_method_64_code 46 = .ok (.iaload, 1) := by decide +kernel
theorem d_Model_goesBy_47 : decode prog_13_method_64_code 47 = .ok (.isub, 1) := by decide +kernel
theorem d_Model_goesBy_48 : decode prog_13_method_64_code 48 = .ok (.goto 4, 3) := by decide +kernel
set_option maxHeartbeats 4000000 in
set_option maxRecDepth 100000 in
theorem c_M_goesBy (l : Launch) (D : va_G) (y : Nat → ClassId) (mo : Nat) (ma : Nat → Nat) (t1 : Nat) (i2 : Int32) (i3 : Int32) (i4 : Int32) (i5 : Int32) (i6 : Int32) (i7 : Int32) (i8 : Int32) (i42 : Int32) (i49 : Int32) (i51 : Int32) (i53 : Int32) (i54 : Int32) (i59 : Int32) (i61 : Int32) (i64 : Int32) (i66 : Int32) (t67 : Nat) (i76 : Int64) (i78 : Int32) (g43 : Nat → Int32) (g45 : Nat → Int32) (g46 : Nat → Int32) (g48 : Nat → Int32) (g50 : Nat → Int32) (g55 : Nat → Int32) (g56 : Nat → Int32) (g57 : Nat → Int32) (g58 : Nat → Int32) (g60 : Nat → Int64) (g62 : Nat → Int32) (g63 : Nat → Int32) (v : Int32) (c0 : Nat) (c1 : Nat) (c2 : Nat) (c3 : Nat) (dy : Nat) (hc0 : g43 4 = nI c0) (bc0 : c0 ≤ 9) (hc1 : g43 5 = nI c1) (bc1 : c1 ≤ 6) (hc2 : g43 6 = nI c2) (bc2 : c2 ≤ 16) (hc3 : g43 7 = nI c3) (bc3 : c3 ≤ 8) (hL : ¬ g45 7 = 0) (hS : ∀ j, j < 9 → g46 (54 + 6 * j) = 2 → ¬ g46 (54 + 6 * j + 1) = 0) (hTh : ∀ j, j < 16 → (∃ q, q < 6 ∧ g48 (112 + 7 * j) = nI q) ∧ ∃ q, q < 9 ∧ g48 (112 + 7 * j + 1) = nI q) (hC : ∀ k, 8 ≤ k → k < 8 + c3 → ∃ a b c, g56 k = nI a ∧ g57 k = nI b ∧ g58 k = nI c ∧ a ≤ b ∧ b ≤ c ∧ c ≤ 1600 ∧ (∃ q, dp g50 (1600 + a) (b - a) = some q) ∧ (∃ q, dp g50 (1600 + b) (c - b) = some q)) (hD : g62 0 = nI dy) (bD : dy ≤ 2000) : CT l D y ⟨"NineBoardsModel", "goesBy", "(I)V"⟩ prog_13_method_64_code 8 none ({ frames := 4, cells := 0, slots := 0, locals := 102 } : Room) [.ref mo, .int v] [MB mo ma (nI t1) i2 i3 i4 i5 i6 i7 i8 i42 i49 i51 i53 i54 i59 i61 i64 i66 (nI t67) i76 i78, (ma 43, .inl (y 0, 8, .inl g43)), (ma 45, .inl (y 0, 14, .inl g45)), (ma 46, .inl (y 0, 108, .inl g46)), (ma 48, .inl (y 0, 224, .inl g48)), (ma 50, .inl (y 0, 3200, .inl g50)), (ma 55, .inl (y 2, 16, .inl g55)), (ma 56, .inl (y 0, 16, .inl g56)), (ma 57, .inl (y 0, 16, .inl g57)), (ma 58, .inl (y 0, 16, .inl g58)), (ma 60, .inl (y 1, 1700, .inr (.inl g60))), (ma 62, .inl (y 0, 63, .inl g62)), (ma 63, .inl (y 0, 9, .inl g63))] (QV D [MB mo ma (nI t1) i2 i3 i4 i5 i6 i7 i8 i42 i49 i51 i53 i54 i59 i61 i64 i66 (nI t67) i76 i78, (ma 43, .inl (y 0, 8, .inl g43)), (ma 45, .inl (y 0, 14, .inl g45)), (ma 46, .inl (y 0, 108, .inl g46)), (ma 48, .inl (y 0, 224, .inl g48)), (ma 50, .inl (y 0, 3200, .inl g50)), (ma 55, .inl (y 2, 16, .inl g55)), (ma 56, .inl (y 0, 16, .inl g56)), (ma 57, .inl (y 0, 16, .inl g57)), (ma 58, .inl (y 0, 16, .inl g58)), (ma 60, .inl (y 1, 1700, .inr (.inl g60))), (ma 62, .inl (y 0, 63, .inl g62)), (ma 63, .inl (y 0, 9, .inl g63))] (fun (u : Int32 × Int32 × (Nat → Int64) × (Nat → Int32) × (Nat → Int32)) => u.2.2.2.1 0 = nI (dy + 1)) (fun u => [MB mo ma (nI t1) i2 i3 i4 i5 i6 i7 i8 i42 i49 i51 i53 i54 i59 u.1 u.2.1 i66 (nI t67) i76 i78, (ma 43, .inl (y 0, 8, .inl g43)), (ma 45, .inl (y 0, 14, .inl g45)), (ma 46, .inl (y 0, 108, .inl g46)), (ma 48, .inl (y 0, 224, .inl g48)), (ma 50, .inl (y 0, 3200, .inl g50)), (ma 55, .inl (y 2, 16, .inl g55)), (ma 56, .inl (y 0, 16, .inl g56)), (ma 57, .inl (y 0, 16, .inl g57)), (ma 58, .inl (y 0, 16, .inl g58)), (ma 60, .inl (y 1, 1700, .inr (.inl u.2.2.1))), (ma 62, .inl (y 0, 63, .inl u.2.2.2.1)), (ma 63, .inl (y 0, 9, .inl u.2.2.2.2))])) := by
  refine CT.of (by decide) (nb rfl) ?_
  intro p e s m args below meth c C hr
  refine j_lv (lv' := [(0, .ref mo), (1, .int v)]) rfl ?_
  refine j_aload_n (pc := 0) C d_Model_goesBy_0 rfl 0 rfl ?_
  refine j_callVi (pc := 1) C (c_M_flowsNow l D y mo ma t1 i2 i3 i4 i5 i6 i7 i8 i42 i49 i51 i53 i54 i59 i61 i64 i66 t67 i76 i78 g43 g45 g46 g62 g63 c0 hc0 bc0 hL hS) kw_Model_434 kv_Model_flowsNow 0 10 rfl rfl ⟨by decide, by decide⟩ ⟨by decide, by decide⟩ (wr := [(ma 48, .inl (y 0, 224, .inl g48)), (ma 50, .inl (y 0, 3200, .inl g50)), (ma 55, .inl (y 2, 16, .inl g55)), (ma 56, .inl (y 0, 16, .inl g56)), (ma 57, .inl (y 0, 16, .inl g57)), (ma 58, .inl (y 0, 16, .inl g58)), (ma 60, .inl (y 1, 1700, .inr (.inl g60)))]) [0, 1, 2, 3, 11, 12] [4, 5, 6, 7, 8, 9, 10] rfl rfl (by decide +kernel) (by decide +kernel) (by decide +kernel) (As := []) (rest := []) rfl (nb rfl) rfl d_Model_goesBy_1 (fun r1 u2 hr1 => ?_)
  refine j_ws (ws' := [(ma 48, .inl (y 0, 224, .inl g48)), (ma 50, .inl (y 0, 3200, .inl g50)), (ma 55, .inl (y 2, 16, .inl g55)), (ma 56, .inl (y 0, 16, .inl g56)), (ma 57, .inl (y 0, 16, .inl g57)), (ma 58, .inl (y 0, 16, .inl g58)), (ma 60, .inl (y 1, 1700, .inr (.inl g60))), MB mo ma (nI t1) i2 i3 i4 i5 i6 i7 i8 i42 i49 i51 i53 i54 i59 i61 i64 i66 (nI t67) i76 i78, (ma 43, .inl (y 0, 8, .inl g43)), (ma 45, .inl (y 0, 14, .inl g45)), (ma 46, .inl (y 0, 108, .inl g46)), (ma 62, .inl (y 0, 63, .inl g62)), (ma 63, .inl (y 0, 9, .inl u2))]) rfl ?_
  refine j_istore_n (pc := 4) C (lv' := [(2, .int r1), (0, .ref mo), (1, .int v)]) d_Model_goesBy_4 rfl (by decide) rfl ?_
  refine j_aload_n (pc := 5) C d_Model_goesBy_5 rfl 1 rfl ?_
  refine j_aload_n (pc := 6) C d_Model_goesBy_6 rfl 1 rfl ?_
  refine j_get (pc := 7) C gf_Model_158 7 rfl rfl d_Model_goesBy_7 ?_
  refine j_iconst (pc := 10) C (v := 0) d_Model_goesBy_10 (by decide) ?_
  refine j_iald (pc := 11) C 11 rfl (v := nI dy) (vin (by decide)) (by exact hD) d_Model_goesBy_11 ?_
  refine j_iload_n (pc := 12) C d_Model_goesBy_12 rfl 0 rfl ?_
  refine j_iconst (pc := 13) C (v := 0) d_Model_goesBy_13 (by decide) ?_
  refine j_callVi (pc := 14) C (c_M_weatherOf l D y mo ma t1 i2 i3 i4 i5 i6 i7 i8 i42 i49 i51 i53 i54 i59 i61 i64 i66 t67 i76 i78 g43 g45 g50 g55 g56 g57 g58 g60 (nI dy) r1 0 c3 hc3 bc3 hL hC) kw_Model_437 kv_Model_weatherOf 0 10 rfl rfl ⟨by decide, by decide⟩ ⟨by decide, by decide⟩ (wr := [(ma 48, .inl (y 0, 224, .inl g48)), (ma 46, .inl (y 0, 108, .inl g46)), (ma 62, .inl (y 0, 63, .inl g62)), (ma 63, .inl (y 0, 9, .inl u2))]) [7, 8, 9, 1, 2, 3, 4, 5, 6] [0, 10, 11, 12] rfl rfl (by decide +kernel) (by decide +kernel) (by decide +kernel) (As := [.int (nI dy), .int r1, .int 0]) (rest := []) rfl (nb rfl) rfl d_Model_goesBy_14 (fun r3 u4 hr3 => ?_)
  refine j_ws (ws' := [(ma 48, .inl (y 0, 224, .inl g48)), (ma 46, .inl (y 0, 108, .inl g46)), (ma 62, .inl (y 0, 63, .inl g62)), (ma 63, .inl (y 0, 9, .inl u2)), MB mo ma (nI t1) i2 i3 i4 i5 i6 i7 i8 i42 i49 i51 i53 i54 i59 u4.1 i64 i66 (nI t67) i76 i78, (ma 43, .inl (y 0, 8, .inl g43)), (ma 45, .inl (y 0, 14, .inl g45)), (ma 50, .inl (y 0, 3200, .inl g50)), (ma 55, .inl (y 2, 16, .inl g55)), (ma 56, .inl (y 0, 16, .inl g56)), (ma 57, .inl (y 0, 16, .inl g57)), (ma 58, .inl (y 0, 16, .inl g58)), (ma 60, .inl (y 1, 1700, .inr (.inl u4.2)))]) rfl ?_
  refine j_iload_n (pc := 17) C d_Model_goesBy_17 rfl 2 rfl ?_
  refine j_iadd (pc := 18) C (v := r3 + v) d_Model_goesBy_18 rfl ?_
  refine j_istore_n (pc := 19) C (lv' := [(3, .int (r3 + v)), (2, .int r1), (0, .ref mo), (1, .int v)]) d_Model_goesBy_19 rfl (by decide) rfl ?_
  refine j_iload_n (pc := 20) C d_Model_goesBy_20 rfl 1 rfl ?_
  refine j_iload_n (pc := 21) C d_Model_goesBy_21 rfl 0 rfl ?_
  refine j_iadd (pc := 22) C (v := r1 + (r3 + v)) d_Model_goesBy_22 rfl ?_
  refine j_istore (pc := 23) C (lv' := [(4, .int (r1 + (r3 + v))), (3, .int (r3 + v)), (2, .int r1), (0, .ref mo), (1, .int v)]) d_Model_goesBy_23 (by decide) rfl ?_
  refine j_aload_n (pc := 25) C d_Model_goesBy_25 rfl 3 rfl ?_
  refine j_iload (pc := 26) C d_Model_goesBy_26 0 rfl ?_
  refine j_aload_n (pc := 28) C d_Model_goesBy_28 rfl 3 rfl ?_
  refine j_get (pc := 29) C gf_Model_124 4 rfl rfl d_Model_goesBy_29 ?_
  refine j_bipush (pc := 32) C (v := 8) d_Model_goesBy_32 (by decide) ?_
  refine j_iald (pc := 34) C 6 rfl (v := g45 8) (vin (by decide)) rfl d_Model_goesBy_34 ?_
  refine j_icmp_le (pc := 35) C (tgt := 51) d_Model_goesBy_35 (by decide) (fun c5 => ?_) (fun c5 => ?_)
  · refine j_iconst (pc := 51) C (v := 0) d_Model_goesBy_51 (by decide) ?_
    refine j_put (pc := 52) C pf_Model_441 4 (ws' := [(ma 48, .inl (y 0, 224, .inl g48)), (ma 46, .inl (y 0, 108, .inl g46)), (ma 62, .inl (y 0, 63, .inl g62)), (ma 63, .inl (y 0, 9, .inl u2)), MB mo ma (nI t1) i2 i3 i4 i5 i6 i7 i8 i42 i49 i51 i53 i54 i59 u4.1 0 i66 (nI t67) i76 i78, (ma 43, .inl (y 0, 8, .inl g43)), (ma 45, .inl (y 0, 14, .inl g45)), (ma 50, .inl (y 0, 3200, .inl g50)), (ma 55, .inl (y 2, 16, .inl g55)), (ma 56, .inl (y 0, 16, .inl g56)), (ma 57, .inl (y 0, 16, .inl g57)), (ma 58, .inl (y 0, 16, .inl g58)), (ma 60, .inl (y 1, 1700, .inr (.inl u4.2)))]) rfl rfl rfl (nl rfl) rfl d_Model_goesBy_52 ?_
    refine j_iload (pc := 55) C d_Model_goesBy_55 0 rfl ?_
    refine j_aload_n (pc := 57) C d_Model_goesBy_57 rfl 3 rfl ?_
    refine j_get (pc := 58) C gf_Model_441 4 rfl rfl d_Model_goesBy_58 ?_
    refine j_isub (pc := 61) C (v := (r1 + (r3 + v)) - 0) d_Model_goesBy_61 rfl ?_
    refine j_istore (pc := 62) C (lv' := [(5, .int ((r1 + (r3 + v)) - 0)), (4, .int (r1 + (r3 + v))), (3, .int (r3 + v)), (2, .int r1), (0, .ref mo), (1, .int v)]) d_Model_goesBy_62 (by decide) rfl ?_
    refine j_aload_n (pc := 64) C d_Model_goesBy_64 rfl 4 rfl ?_
    refine j_aload_n (pc := 65) C d_Model_goesBy_65 rfl 4 rfl ?_
    refine j_get (pc := 66) C gf_Model_158 4 rfl rfl d_Model_goesBy_66 ?_
    refine j_iconst (pc := 69) C (v := 0) d_Model_goesBy_69 (by decide) ?_
    refine j_iald (pc := 70) C 2 rfl (v := nI dy) (vin (by decide)) (by exact hD) d_Model_goesBy_70 ?_
    refine j_iload (pc := 71) C d_Model_goesBy_71 0 rfl ?_
    refine j_iconst (pc := 73) C (v := 1) d_Model_goesBy_73 (by decide) ?_
    refine j_callVi (pc := 74) C (c_M_weatherOf l D y mo ma t1 i2 i3 i4 i5 i6 i7 i8 i42 i49 i51 i53 i54 i59 u4.1 0 i66 t67 i76 i78 g43 g45 g50 g55 g56 g57 g58 u4.2 (nI dy) ((r1 + (r3 + v)) - 0) 1 c3 hc3 bc3 hL hC) kw_Model_437 kv_Model_weatherOf 0 10 rfl rfl ⟨by decide, by decide⟩ ⟨by decide, by decide⟩ (wr := [(ma 48, .inl (y 0, 224, .inl g48)), (ma 46, .inl (y 0, 108, .inl g46)), (ma 62, .inl (y 0, 63, .inl g62)), (ma 63, .inl (y 0, 9, .inl u2))]) [4, 5, 6, 7, 8, 9, 10, 11, 12] [0, 1, 2, 3] rfl rfl (by decide +kernel) (by decide +kernel) (by decide +kernel) (As := [.int (nI dy), .int ((r1 + (r3 + v)) - 0), .int 1]) (rest := []) rfl (nb rfl) rfl d_Model_goesBy_74 (fun r6 u7 hr6 => ?_)
    refine j_ws (ws' := [(ma 48, .inl (y 0, 224, .inl g48)), (ma 46, .inl (y 0, 108, .inl g46)), (ma 62, .inl (y 0, 63, .inl g62)), (ma 63, .inl (y 0, 9, .inl u2)), MB mo ma (nI t1) i2 i3 i4 i5 i6 i7 i8 i42 i49 i51 i53 i54 i59 u7.1 0 i66 (nI t67) i76 i78, (ma 43, .inl (y 0, 8, .inl g43)), (ma 45, .inl (y 0, 14, .inl g45)), (ma 50, .inl (y 0, 3200, .inl g50)), (ma 55, .inl (y 2, 16, .inl g55)), (ma 56, .inl (y 0, 16, .inl g56)), (ma 57, .inl (y 0, 16, .inl g57)), (ma 58, .inl (y 0, 16, .inl g58)), (ma 60, .inl (y 1, 1700, .inr (.inl u7.2)))]) rfl ?_
    refine j_istore (pc := 77) C (lv' := [(6, .int r6), (5, .int ((r1 + (r3 + v)) - 0)), (4, .int (r1 + (r3 + v))), (3, .int (r3 + v)), (2, .int r1), (0, .ref mo), (1, .int v)]) d_Model_goesBy_77 (by decide) rfl ?_
    refine j_iload (pc := 79) C d_Model_goesBy_79 0 rfl ?_
    refine j_iload (pc := 81) C d_Model_goesBy_81 1 rfl ?_
    refine j_icmp_ge (pc := 83) C (tgt := 91) d_Model_goesBy_83 (by decide) (fun c8 => ?_) (fun c8 => ?_)
    · refine j_iload (pc := 91) C d_Model_goesBy_91 1 rfl ?_
      refine j_istore (pc := 93) C (lv' := [(6, .int ((r1 + (r3 + v)) - 0)), (5, .int ((r1 + (r3 + v)) - 0)), (4, .int (r1 + (r3 + v))), (3, .int (r3 + v)), (2, .int r1), (0, .ref mo), (1, .int v)]) d_Model_goesBy_93 (by decide) rfl ?_
      refine j_iconst (pc := 95) C (v := 0) d_Model_goesBy_95 (by decide) ?_
      refine j_istore (pc := 96) C (lv' := [(7, .int 0), (6, .int ((r1 + (r3 + v)) - 0)), (5, .int ((r1 + (r3 + v)) - 0)), (4, .int (r1 + (r3 + v))), (3, .int (r3 + v)), (2, .int r1), (0, .ref mo), (1, .int v)]) d_Model_goesBy_96 (by decide) rfl ?_
      refine j_loop (α := Nat × (Nat → Int32)) (fun a => c0 - a.1) (fun a => (a.1 ≤ c0) ∧ (a.2 0 = nI dy)) (fun a => [(ma 48, .inl (y 0, 224, .inl g48)), (ma 46, .inl (y 0, 108, .inl g46)), (ma 62, .inl (y 0, 63, .inl a.2)), (ma 63, .inl (y 0, 9, .inl u2)), MB mo ma (nI t1) i2 i3 i4 i5 i6 i7 i8 i42 i49 i51 i53 i54 i59 u7.1 0 i66 (nI t67) i76 i78, (ma 43, .inl (y 0, 8, .inl g43)), (ma 45, .inl (y 0, 14, .inl g45)), (ma 50, .inl (y 0, 3200, .inl g50)), (ma 55, .inl (y 2, 16, .inl g55)), (ma 56, .inl (y 0, 16, .inl g56)), (ma 57, .inl (y 0, 16, .inl g57)), (ma 58, .inl (y 0, 16, .inl g58)), (ma 60, .inl (y 1, 1700, .inr (.inl u7.2)))]) (fun a => [(7, .int (nI a.1)), (6, .int ((r1 + (r3 + v)) - 0)), (5, .int ((r1 + (r3 + v)) - 0)), (4, .int (r1 + (r3 + v))), (3, .int (r3 + v)), (2, .int r1), (0, .ref mo), (1, .int v)]) (0, g62) rfl rfl ⟨(show 0 ≤ c0 by omega), hD⟩ ?_
      rintro ⟨iz, nz⟩ hP39 ih40
      obtain ⟨hi__, hn__⟩ := hP39
      have hi_ : iz ≤ c0 := hi__
      have hn_ : nz 0 = nI dy := hn__
      refine j_ws (ws' := [(ma 48, .inl (y 0, 224, .inl g48)), (ma 46, .inl (y 0, 108, .inl g46)), (ma 62, .inl (y 0, 63, .inl nz)), (ma 63, .inl (y 0, 9, .inl u2)), MB mo ma (nI t1) i2 i3 i4 i5 i6 i7 i8 i42 i49 i51 i53 i54 i59 u7.1 0 i66 (nI t67) i76 i78, (ma 43, .inl (y 0, 8, .inl g43)), (ma 45, .inl (y 0, 14, .inl g45)), (ma 50, .inl (y 0, 3200, .inl g50)), (ma 55, .inl (y 2, 16, .inl g55)), (ma 56, .inl (y 0, 16, .inl g56)), (ma 57, .inl (y 0, 16, .inl g57)), (ma 58, .inl (y 0, 16, .inl g58)), (ma 60, .inl (y 1, 1700, .inr (.inl u7.2)))]) rfl ?_
      refine j_lv (lv' := [(7, .int (nI iz)), (6, .int ((r1 + (r3 + v)) - 0)), (5, .int ((r1 + (r3 + v)) - 0)), (4, .int (r1 + (r3 + v))), (3, .int (r3 + v)), (2, .int r1), (0, .ref mo), (1, .int v)]) rfl ?_
      refine j_iload (pc := 98) C d_Model_goesBy_98 0 rfl ?_
      refine j_aload_n (pc := 100) C d_Model_goesBy_100 rfl 6 rfl ?_
      refine j_callVi (pc := 101) C (c_M_gateMany l D y mo ma t1 i2 i3 i4 i5 i6 i7 i8 i42 i49 i51 i53 i54 i59 u7.1 0 i66 t67 i76 i78 g43 c0 hc0 bc0) kw_Model_341 kv_Model_gateMany 0 10 rfl rfl ⟨by decide, by decide⟩ ⟨by decide, by decide⟩ (wr := [(ma 48, .inl (y 0, 224, .inl g48)), (ma 46, .inl (y 0, 108, .inl g46)), (ma 62, .inl (y 0, 63, .inl nz)), (ma 63, .inl (y 0, 9, .inl u2)), (ma 45, .inl (y 0, 14, .inl g45)), (ma 50, .inl (y 0, 3200, .inl g50)), (ma 55, .inl (y 2, 16, .inl g55)), (ma 56, .inl (y 0, 16, .inl g56)), (ma 57, .inl (y 0, 16, .inl g57)), (ma 58, .inl (y 0, 16, .inl g58)), (ma 60, .inl (y 1, 1700, .inr (.inl u7.2)))]) [4, 5] [0, 1, 2, 3, 6, 7, 8, 9, 10, 11, 12] rfl rfl (by decide +kernel) (by decide +kernel) (by decide +kernel) (As := []) (rest := [.int (nI iz)]) rfl (nb rfl) rfl d_Model_goesBy_101 (fun r41 _ hr41 => ?_)
      obtain rfl := hr41
      refine j_ws (ws' := [(ma 48, .inl (y 0, 224, .inl g48)), (ma 46, .inl (y 0, 108, .inl g46)), (ma 62, .inl (y 0, 63, .inl nz)), (ma 63, .inl (y 0, 9, .inl u2)), (ma 45, .inl (y 0, 14, .inl g45)), (ma 50, .inl (y 0, 3200, .inl g50)), (ma 55, .inl (y 2, 16, .inl g55)), (ma 56, .inl (y 0, 16, .inl g56)), (ma 57, .inl (y 0, 16, .inl g57)), (ma 58, .inl (y 0, 16, .inl g58)), (ma 60, .inl (y 1, 1700, .inr (.inl u7.2))), MB mo ma (nI t1) i2 i3 i4 i5 i6 i7 i8 i42 i49 i51 i53 i54 i59 u7.1 0 i66 (nI t67) i76 i78, (ma 43, .inl (y 0, 8, .inl g43))]) rfl ?_
      by_cases c42 : c0 ≤ iz
      · refine j_icmp_geT (pc := 104) C (tgt := 167) d_Model_goesBy_104 (by decide) (show nI c0 ≤ nI iz from nI_le (by omega) (by omega)) ?_
        refine j_aload_n (pc := 167) C d_Model_goesBy_167 rfl 6 rfl ?_
        refine j_get (pc := 168) C gf_Model_158 11 rfl rfl d_Model_goesBy_168 ?_
        refine j_bipush (pc := 171) C (v := 31) d_Model_goesBy_171 (by decide) ?_
        refine j_dup2 (pc := 173) C d_Model_goesBy_173 rfl rfl ?_
        refine j_iald (pc := 174) C 2 rfl (v := nz 31) (vin (by decide)) rfl d_Model_goesBy_174 ?_
        refine j_iload_n (pc := 175) C d_Model_goesBy_175 rfl 4 rfl ?_
        refine j_iadd (pc := 176) C (v := (nz 31) + (r3 + v)) d_Model_goesBy_176 rfl ?_
        refine j_iast (pc := 177) C 2 rfl (ws' := [(ma 48, .inl (y 0, 224, .inl g48)), (ma 46, .inl (y 0, 108, .inl g46)), (ma 62, .inl (y 0, 63, .inl (upd nz 31 ((nz 31) + (r3 + v))))), (ma 63, .inl (y 0, 9, .inl u2)), (ma 45, .inl (y 0, 14, .inl g45)), (ma 50, .inl (y 0, 3200, .inl g50)), (ma 55, .inl (y 2, 16, .inl g55)), (ma 56, .inl (y 0, 16, .inl g56)), (ma 57, .inl (y 0, 16, .inl g57)), (ma 58, .inl (y 0, 16, .inl g58)), (ma 60, .inl (y 1, 1700, .inr (.inl u7.2))), MB mo ma (nI t1) i2 i3 i4 i5 i6 i7 i8 i42 i49 i51 i53 i54 i59 u7.1 0 i66 (nI t67) i76 i78, (ma 43, .inl (y 0, 8, .inl g43))]) (vin (by decide)) rfl d_Model_goesBy_177 ?_
        refine j_genW (fun f43 => [(ma 48, .inl (y 0, 224, .inl g48)), (ma 46, .inl (y 0, 108, .inl g46)), (ma 62, .inl (y 0, 63, .inl f43)), (ma 63, .inl (y 0, 9, .inl u2)), (ma 45, .inl (y 0, 14, .inl g45)), (ma 50, .inl (y 0, 3200, .inl g50)), (ma 55, .inl (y 2, 16, .inl g55)), (ma 56, .inl (y 0, 16, .inl g56)), (ma 57, .inl (y 0, 16, .inl g57)), (ma 58, .inl (y 0, 16, .inl g58)), (ma 60, .inl (y 1, 1700, .inr (.inl u7.2))), MB mo ma (nI t1) i2 i3 i4 i5 i6 i7 i8 i42 i49 i51 i53 i54 i59 u7.1 0 i66 (nI t67) i76 i78, (ma 43, .inl (y 0, 8, .inl g43))]) (upd nz 31 ((nz 31) + (r3 + v))) rfl (fun f43 => (f43 0 = nI dy)) (show upd nz 31 ((nz 31) + (r3 + v)) 0 = nI dy by rw [pk_un (by omega)]; exact hn_) ?_
        rintro f43 xh44
        refine j_ws (ws' := [(ma 48, .inl (y 0, 224, .inl g48)), (ma 46, .inl (y 0, 108, .inl g46)), (ma 62, .inl (y 0, 63, .inl f43)), (ma 63, .inl (y 0, 9, .inl u2)), (ma 45, .inl (y 0, 14, .inl g45)), (ma 50, .inl (y 0, 3200, .inl g50)), (ma 55, .inl (y 2, 16, .inl g55)), (ma 56, .inl (y 0, 16, .inl g56)), (ma 57, .inl (y 0, 16, .inl g57)), (ma 58, .inl (y 0, 16, .inl g58)), (ma 60, .inl (y 1, 1700, .inr (.inl u7.2))), MB mo ma (nI t1) i2 i3 i4 i5 i6 i7 i8 i42 i49 i51 i53 i54 i59 u7.1 0 i66 (nI t67) i76 i78, (ma 43, .inl (y 0, 8, .inl g43))]) rfl ?_
        have xh44 : f43 0 = nI dy := xh44
        refine j_aload_n (pc := 178) C d_Model_goesBy_178 rfl 6 rfl ?_
        refine j_get (pc := 179) C gf_Model_158 11 rfl rfl d_Model_goesBy_179 ?_
        refine j_bipush (pc := 182) C (v := 32) d_Model_goesBy_182 (by decide) ?_
        refine j_dup2 (pc := 184) C d_Model_goesBy_184 rfl rfl ?_
        refine j_iald (pc := 185) C 2 rfl (v := f43 32) (vin (by decide)) rfl d_Model_goesBy_185 ?_
        refine j_aload_n (pc := 186) C d_Model_goesBy_186 rfl 6 rfl ?_
        refine j_get (pc := 187) C gf_Model_441 11 rfl rfl d_Model_goesBy_187 ?_
        refine j_iadd (pc := 190) C (v := (f43 32) + 0) d_Model_goesBy_190 rfl ?_
        refine j_iast (pc := 191) C 2 rfl (ws' := [(ma 48, .inl (y 0, 224, .inl g48)), (ma 46, .inl (y 0, 108, .inl g46)), (ma 62, .inl (y 0, 63, .inl (upd f43 32 ((f43 32) + 0)))), (ma 63, .inl (y 0, 9, .inl u2)), (ma 45, .inl (y 0, 14, .inl g45)), (ma 50, .inl (y 0, 3200, .inl g50)), (ma 55, .inl (y 2, 16, .inl g55)), (ma 56, .inl (y 0, 16, .inl g56)), (ma 57, .inl (y 0, 16, .inl g57)), (ma 58, .inl (y 0, 16, .inl g58)), (ma 60, .inl (y 1, 1700, .inr (.inl u7.2))), MB mo ma (nI t1) i2 i3 i4 i5 i6 i7 i8 i42 i49 i51 i53 i54 i59 u7.1 0 i66 (nI t67) i76 i78, (ma 43, .inl (y 0, 8, .inl g43))]) (vin (by decide)) rfl d_Model_goesBy_191 ?_
        refine j_genW (fun f45 => [(ma 48, .inl (y 0, 224, .inl g48)), (ma 46, .inl (y 0, 108, .inl g46)), (ma 62, .inl (y 0, 63, .inl f45)), (ma 63, .inl (y 0, 9, .inl u2)), (ma 45, .inl (y 0, 14, .inl g45)), (ma 50, .inl (y 0, 3200, .inl g50)), (ma 55, .inl (y 2, 16, .inl g55)), (ma 56, .inl (y 0, 16, .inl g56)), (ma 57, .inl (y 0, 16, .inl g57)), (ma 58, .inl (y 0, 16, .inl g58)), (ma 60, .inl (y 1, 1700, .inr (.inl u7.2))), MB mo ma (nI t1) i2 i3 i4 i5 i6 i7 i8 i42 i49 i51 i53 i54 i59 u7.1 0 i66 (nI t67) i76 i78, (ma 43, .inl (y 0, 8, .inl g43))]) (upd f43 32 ((f43 32) + 0)) rfl (fun f45 => (f45 0 = nI dy)) (show upd f43 32 ((f43 32) + 0) 0 = nI dy by rw [pk_un (by omega)]; exact xh44) ?_
        rintro f45 xh46
        refine j_ws (ws' := [(ma 48, .inl (y 0, 224, .inl g48)), (ma 46, .inl (y 0, 108, .inl g46)), (ma 62, .inl (y 0, 63, .inl f45)), (ma 63, .inl (y 0, 9, .inl u2)), (ma 45, .inl (y 0, 14, .inl g45)), (ma 50, .inl (y 0, 3200, .inl g50)), (ma 55, .inl (y 2, 16, .inl g55)), (ma 56, .inl (y 0, 16, .inl g56)), (ma 57, .inl (y 0, 16, .inl g57)), (ma 58, .inl (y 0, 16, .inl g58)), (ma 60, .inl (y 1, 1700, .inr (.inl u7.2))), MB mo ma (nI t1) i2 i3 i4 i5 i6 i7 i8 i42 i49 i51 i53 i54 i59 u7.1 0 i66 (nI t67) i76 i78, (ma 43, .inl (y 0, 8, .inl g43))]) rfl ?_
        have xh46 : f45 0 = nI dy := xh46
        refine j_aload_n (pc := 192) C d_Model_goesBy_192 rfl 6 rfl ?_
        refine j_get (pc := 193) C gf_Model_158 11 rfl rfl d_Model_goesBy_193 ?_
        refine j_bipush (pc := 196) C (v := 34) d_Model_goesBy_196 (by decide) ?_
        refine j_dup2 (pc := 198) C d_Model_goesBy_198 rfl rfl ?_
        refine j_iald (pc := 199) C 2 rfl (v := f45 34) (vin (by decide)) rfl d_Model_goesBy_199 ?_
        refine j_iload (pc := 200) C d_Model_goesBy_200 1 rfl ?_
        refine j_iadd (pc := 202) C (v := (f45 34) + ((r1 + (r3 + v)) - 0)) d_Model_goesBy_202 rfl ?_
        refine j_anyI (fun v47 => ?_)
        refine j_iast (pc := 203) C 2 rfl (ws' := [(ma 48, .inl (y 0, 224, .inl g48)), (ma 46, .inl (y 0, 108, .inl g46)), (ma 62, .inl (y 0, 63, .inl (upd f45 34 v47))), (ma 63, .inl (y 0, 9, .inl u2)), (ma 45, .inl (y 0, 14, .inl g45)), (ma 50, .inl (y 0, 3200, .inl g50)), (ma 55, .inl (y 2, 16, .inl g55)), (ma 56, .inl (y 0, 16, .inl g56)), (ma 57, .inl (y 0, 16, .inl g57)), (ma 58, .inl (y 0, 16, .inl g58)), (ma 60, .inl (y 1, 1700, .inr (.inl u7.2))), MB mo ma (nI t1) i2 i3 i4 i5 i6 i7 i8 i42 i49 i51 i53 i54 i59 u7.1 0 i66 (nI t67) i76 i78, (ma 43, .inl (y 0, 8, .inl g43))]) (vin (by decide)) rfl d_Model_goesBy_203 ?_
        refine j_genW (fun f48 => [(ma 48, .inl (y 0, 224, .inl g48)), (ma 46, .inl (y 0, 108, .inl g46)), (ma 62, .inl (y 0, 63, .inl f48)), (ma 63, .inl (y 0, 9, .inl u2)), (ma 45, .inl (y 0, 14, .inl g45)), (ma 50, .inl (y 0, 3200, .inl g50)), (ma 55, .inl (y 2, 16, .inl g55)), (ma 56, .inl (y 0, 16, .inl g56)), (ma 57, .inl (y 0, 16, .inl g57)), (ma 58, .inl (y 0, 16, .inl g58)), (ma 60, .inl (y 1, 1700, .inr (.inl u7.2))), MB mo ma (nI t1) i2 i3 i4 i5 i6 i7 i8 i42 i49 i51 i53 i54 i59 u7.1 0 i66 (nI t67) i76 i78, (ma 43, .inl (y 0, 8, .inl g43))]) (upd f45 34 v47) rfl (fun f48 => (f48 0 = nI dy)) (show upd f45 34 v47 0 = nI dy by rw [pk_un (by omega)]; exact xh46) ?_
        rintro f48 xh49
        refine j_ws (ws' := [(ma 48, .inl (y 0, 224, .inl g48)), (ma 46, .inl (y 0, 108, .inl g46)), (ma 62, .inl (y 0, 63, .inl f48)), (ma 63, .inl (y 0, 9, .inl u2)), (ma 45, .inl (y 0, 14, .inl g45)), (ma 50, .inl (y 0, 3200, .inl g50)), (ma 55, .inl (y 2, 16, .inl g55)), (ma 56, .inl (y 0, 16, .inl g56)), (ma 57, .inl (y 0, 16, .inl g57)), (ma 58, .inl (y 0, 16, .inl g58)), (ma 60, .inl (y 1, 1700, .inr (.inl u7.2))), MB mo ma (nI t1) i2 i3 i4 i5 i6 i7 i8 i42 i49 i51 i53 i54 i59 u7.1 0 i66 (nI t67) i76 i78, (ma 43, .inl (y 0, 8, .inl g43))]) rfl ?_
        have xh49 : f48 0 = nI dy := xh49
        refine j_aload_n (pc := 204) C d_Model_goesBy_204 rfl 6 rfl ?_
        refine j_get (pc := 205) C gf_Model_158 11 rfl rfl d_Model_goesBy_205 ?_
        refine j_iconst (pc := 208) C (v := 1) d_Model_goesBy_208 (by decide) ?_
        refine j_iload (pc := 209) C d_Model_goesBy_209 2 rfl ?_
        refine j_iload (pc := 211) C d_Model_goesBy_211 1 rfl ?_
        refine j_isub (pc := 213) C (v := ((r1 + (r3 + v)) - 0) - ((r1 + (r3 + v)) - 0)) d_Model_goesBy_213 rfl ?_
        refine j_anyI (fun v50 => ?_)
        refine j_iast (pc := 214) C 2 rfl (ws' := [(ma 48, .inl (y 0, 224, .inl g48)), (ma 46, .inl (y 0, 108, .inl g46)), (ma 62, .inl (y 0, 63, .inl (upd f48 1 v50))), (ma 63, .inl (y 0, 9, .inl u2)), (ma 45, .inl (y 0, 14, .inl g45)), (ma 50, .inl (y 0, 3200, .inl g50)), (ma 55, .inl (y 2, 16, .inl g55)), (ma 56, .inl (y 0, 16, .inl g56)), (ma 57, .inl (y 0, 16, .inl g57)), (ma 58, .inl (y 0, 16, .inl g58)), (ma 60, .inl (y 1, 1700, .inr (.inl u7.2))), MB mo ma (nI t1) i2 i3 i4 i5 i6 i7 i8 i42 i49 i51 i53 i54 i59 u7.1 0 i66 (nI t67) i76 i78, (ma 43, .inl (y 0, 8, .inl g43))]) (vin (by decide)) rfl d_Model_goesBy_214 ?_
        refine j_genW (fun f51 => [(ma 48, .inl (y 0, 224, .inl g48)), (ma 46, .inl (y 0, 108, .inl g46)), (ma 62, .inl (y 0, 63, .inl f51)), (ma 63, .inl (y 0, 9, .inl u2)), (ma 45, .inl (y 0, 14, .inl g45)), (ma 50, .inl (y 0, 3200, .inl g50)), (ma 55, .inl (y 2, 16, .inl g55)), (ma 56, .inl (y 0, 16, .inl g56)), (ma 57, .inl (y 0, 16, .inl g57)), (ma 58, .inl (y 0, 16, .inl g58)), (ma 60, .inl (y 1, 1700, .inr (.inl u7.2))), MB mo ma (nI t1) i2 i3 i4 i5 i6 i7 i8 i42 i49 i51 i53 i54 i59 u7.1 0 i66 (nI t67) i76 i78, (ma 43, .inl (y 0, 8, .inl g43))]) (upd f48 1 v50) rfl (fun f51 => (f51 0 = nI dy)) (show upd f48 1 v50 0 = nI dy by rw [pk_un (by omega)]; exact xh49) ?_
        rintro f51 xh52
        refine j_ws (ws' := [(ma 48, .inl (y 0, 224, .inl g48)), (ma 46, .inl (y 0, 108, .inl g46)), (ma 62, .inl (y 0, 63, .inl f51)), (ma 63, .inl (y 0, 9, .inl u2)), (ma 45, .inl (y 0, 14, .inl g45)), (ma 50, .inl (y 0, 3200, .inl g50)), (ma 55, .inl (y 2, 16, .inl g55)), (ma 56, .inl (y 0, 16, .inl g56)), (ma 57, .inl (y 0, 16, .inl g57)), (ma 58, .inl (y 0, 16, .inl g58)), (ma 60, .inl (y 1, 1700, .inr (.inl u7.2))), MB mo ma (nI t1) i2 i3 i4 i5 i6 i7 i8 i42 i49 i51 i53 i54 i59 u7.1 0 i66 (nI t67) i76 i78, (ma 43, .inl (y 0, 8, .inl g43))]) rfl ?_
        have xh52 : f51 0 = nI dy := xh52
        refine j_aload_n (pc := 215) C d_Model_goesBy_215 rfl 6 rfl ?_
        refine j_iload (pc := 216) C d_Model_goesBy_216 3 rfl ?_
        refine j_aload_n (pc := 218) C d_Model_goesBy_218 rfl 6 rfl ?_
        refine j_get (pc := 219) C gf_Model_124 11 rfl rfl d_Model_goesBy_219 ?_
        refine j_bipush (pc := 222) C (v := 7) d_Model_goesBy_222 (by decide) ?_
        refine j_iald (pc := 224) C 4 rfl (v := g45 7) (vin (by decide)) rfl d_Model_goesBy_224 ?_
        refine j_idiv (pc := 225) C (v := (r1 + (r3 + v)) / (g45 7)) d_Model_goesBy_225 hL rfl ?_
        refine j_aload_n (pc := 226) C d_Model_goesBy_226 rfl 6 rfl ?_
        refine j_get (pc := 227) C gf_Model_124 11 rfl rfl d_Model_goesBy_227 ?_
        refine j_bipush (pc := 230) C (v := 12) d_Model_goesBy_230 (by decide) ?_
        refine j_iald (pc := 232) C 4 rfl (v := g45 12) (vin (by decide)) rfl d_Model_goesBy_232 ?_
        refine j_icmp_le (pc := 233) C (tgt := 240) d_Model_goesBy_233 (by decide) (fun c53 => ?_) (fun c53 => ?_)
        · refine j_iconst (pc := 240) C (v := 0) d_Model_goesBy_240 (by decide) ?_
          refine j_callVv (pc := 241) C (c_M_worths l D y mo ma t1 i2 i3 i4 i5 i6 i7 i8 i42 i49 i51 i53 i54 i59 u7.1 0 i66 t67 i76 i78 g43 g45 g48 f51 u2 0 c1 c2 dy hc1 bc1 hc2 bc2 hL hTh xh52 bD) kw_Model_444 kv_Model_worths 0 10 rfl rfl ⟨by decide, by decide⟩ ⟨by decide, by decide⟩ (wr := [(ma 46, .inl (y 0, 108, .inl g46)), (ma 50, .inl (y 0, 3200, .inl g50)), (ma 55, .inl (y 2, 16, .inl g55)), (ma 56, .inl (y 0, 16, .inl g56)), (ma 57, .inl (y 0, 16, .inl g57)), (ma 58, .inl (y 0, 16, .inl g58)), (ma 60, .inl (y 1, 1700, .inr (.inl u7.2)))]) [11, 12, 4, 0, 2, 3] [1, 5, 6, 7, 8, 9, 10] rfl rfl (by decide +kernel) (by decide +kernel) (by decide +kernel) (As := [.int 0]) (rest := []) rfl (nb rfl) rfl d_Model_goesBy_241 (fun u54 hu55 => ?_)
          have xh56 := hu55
          refine j_ws (ws' := [(ma 46, .inl (y 0, 108, .inl g46)), (ma 50, .inl (y 0, 3200, .inl g50)), (ma 55, .inl (y 2, 16, .inl g55)), (ma 56, .inl (y 0, 16, .inl g56)), (ma 57, .inl (y 0, 16, .inl g57)), (ma 58, .inl (y 0, 16, .inl g58)), (ma 60, .inl (y 1, 1700, .inr (.inl u7.2))), MB mo ma (nI t1) i2 i3 i4 i5 i6 i7 i8 i42 i49 i51 i53 i54 i59 u7.1 0 i66 (nI t67) i76 i78, (ma 43, .inl (y 0, 8, .inl g43)), (ma 45, .inl (y 0, 14, .inl g45)), (ma 48, .inl (y 0, 224, .inl g48)), (ma 62, .inl (y 0, 63, .inl u54)), (ma 63, .inl (y 0, 9, .inl u2))]) rfl ?_
          refine j_aload_n (pc := 244) C d_Model_goesBy_244 rfl 6 rfl ?_
          refine j_get (pc := 245) C gf_Model_158 7 rfl rfl d_Model_goesBy_245 ?_
          refine j_iconst (pc := 248) C (v := 0) d_Model_goesBy_248 (by decide) ?_
          refine j_dup2 (pc := 249) C d_Model_goesBy_249 rfl rfl ?_
          refine j_iald (pc := 250) C 11 rfl (v := nI dy) (vin (by decide)) (by exact xh56) d_Model_goesBy_250 ?_
          refine j_iconst (pc := 251) C (v := 1) d_Model_goesBy_251 (by decide) ?_
          refine j_iadd (pc := 252) C (v := nI (dy + 1)) d_Model_goesBy_252 (nI_add _ _) ?_
          refine j_iast (pc := 253) C 11 rfl (ws' := [(ma 46, .inl (y 0, 108, .inl g46)), (ma 50, .inl (y 0, 3200, .inl g50)), (ma 55, .inl (y 2, 16, .inl g55)), (ma 56, .inl (y 0, 16, .inl g56)), (ma 57, .inl (y 0, 16, .inl g57)), (ma 58, .inl (y 0, 16, .inl g58)), (ma 60, .inl (y 1, 1700, .inr (.inl u7.2))), MB mo ma (nI t1) i2 i3 i4 i5 i6 i7 i8 i42 i49 i51 i53 i54 i59 u7.1 0 i66 (nI t67) i76 i78, (ma 43, .inl (y 0, 8, .inl g43)), (ma 45, .inl (y 0, 14, .inl g45)), (ma 48, .inl (y 0, 224, .inl g48)), (ma 62, .inl (y 0, 63, .inl (upd u54 0 (nI (dy + 1))))), (ma 63, .inl (y 0, 9, .inl u2))]) (vin (by decide)) rfl d_Model_goesBy_253 ?_
          refine j_genW (fun f57 => [(ma 46, .inl (y 0, 108, .inl g46)), (ma 50, .inl (y 0, 3200, .inl g50)), (ma 55, .inl (y 2, 16, .inl g55)), (ma 56, .inl (y 0, 16, .inl g56)), (ma 57, .inl (y 0, 16, .inl g57)), (ma 58, .inl (y 0, 16, .inl g58)), (ma 60, .inl (y 1, 1700, .inr (.inl u7.2))), MB mo ma (nI t1) i2 i3 i4 i5 i6 i7 i8 i42 i49 i51 i53 i54 i59 u7.1 0 i66 (nI t67) i76 i78, (ma 43, .inl (y 0, 8, .inl g43)), (ma 45, .inl (y 0, 14, .inl g45)), (ma 48, .inl (y 0, 224, .inl g48)), (ma 62, .inl (y 0, 63, .inl f57)), (ma 63, .inl (y 0, 9, .inl u2))]) (upd u54 0 (nI (dy + 1))) rfl (fun f57 => (f57 0 = nI (dy + 1))) (show upd u54 0 (nI (dy + 1)) 0 = nI (dy + 1) from pk_us) ?_
          rintro f57 xh58
          refine j_ws (ws' := [(ma 46, .inl (y 0, 108, .inl g46)), (ma 50, .inl (y 0, 3200, .inl g50)), (ma 55, .inl (y 2, 16, .inl g55)), (ma 56, .inl (y 0, 16, .inl g56)), (ma 57, .inl (y 0, 16, .inl g57)), (ma 58, .inl (y 0, 16, .inl g58)), (ma 60, .inl (y 1, 1700, .inr (.inl u7.2))), MB mo ma (nI t1) i2 i3 i4 i5 i6 i7 i8 i42 i49 i51 i53 i54 i59 u7.1 0 i66 (nI t67) i76 i78, (ma 43, .inl (y 0, 8, .inl g43)), (ma 45, .inl (y 0, 14, .inl g45)), (ma 48, .inl (y 0, 224, .inl g48)), (ma 62, .inl (y 0, 63, .inl f57)), (ma 63, .inl (y 0, 9, .inl u2))]) rfl ?_
          have xh58 : f57 0 = nI (dy + 1) := xh58
          exact j_vret (pc := 254) C hr (u7.1, 0, u7.2, f57, u2) xh58 [7, 8, 9, 0, 10, 1, 2, 3, 4, 5, 6, 11, 12] rfl (by decide) (by decide) (by decide) d_Model_goesBy_254
        · refine j_iconst (pc := 236) C (v := 1) d_Model_goesBy_236 (by decide) ?_
          refine j_goto (pc := 237) C (tgt := 241) d_Model_goesBy_237 (by decide) ?_
          refine j_callVv (pc := 241) C (c_M_worths l D y mo ma t1 i2 i3 i4 i5 i6 i7 i8 i42 i49 i51 i53 i54 i59 u7.1 0 i66 t67 i76 i78 g43 g45 g48 f51 u2 1 c1 c2 dy hc1 bc1 hc2 bc2 hL hTh xh52 bD) kw_Model_444 kv_Model_worths 0 10 rfl rfl ⟨by decide, by decide⟩ ⟨by decide, by decide⟩ (wr := [(ma 46, .inl (y 0, 108, .inl g46)), (ma 50, .inl (y 0, 3200, .inl g50)), (ma 55, .inl (y 2, 16, .inl g55)), (ma 56, .inl (y 0, 16, .inl g56)), (ma 57, .inl (y 0, 16, .inl g57)), (ma 58, .inl (y 0, 16, .inl g58)), (ma 60, .inl (y 1, 1700, .inr (.inl u7.2)))]) [11, 12, 4, 0, 2, 3] [1, 5, 6, 7, 8, 9, 10] rfl rfl (by decide +kernel) (by decide +kernel) (by decide +kernel) (As := [.int 1]) (rest := []) rfl (nb rfl) rfl d_Model_goesBy_241 (fun u59 hu60 => ?_)
          have xh61 := hu60
          refine j_ws (ws' := [(ma 46, .inl (y 0, 108, .inl g46)), (ma 50, .inl (y 0, 3200, .inl g50)), (ma 55, .inl (y 2, 16, .inl g55)), (ma 56, .inl (y 0, 16, .inl g56)), (ma 57, .inl (y 0, 16, .inl g57)), (ma 58, .inl (y 0, 16, .inl g58)), (ma 60, .inl (y 1, 1700, .inr (.inl u7.2))), MB mo ma (nI t1) i2 i3 i4 i5 i6 i7 i8 i42 i49 i51 i53 i54 i59 u7.1 0 i66 (nI t67) i76 i78, (ma 43, .inl (y 0, 8, .inl g43)), (ma 45, .inl (y 0, 14, .inl g45)), (ma 48, .inl (y 0, 224, .inl g48)), (ma 62, .inl (y 0, 63, .inl u59)), (ma 63, .inl (y 0, 9, .inl u2))]) rfl ?_
          refine j_aload_n (pc := 244) C d_Model_goesBy_244 rfl 6 rfl ?_
          refine j_get (pc := 245) C gf_Model_158 7 rfl rfl d_Model_goesBy_245 ?_
          refine j_iconst (pc := 248) C (v := 0) d_Model_goesBy_248 (by decide) ?_
          refine j_dup2 (pc := 249) C d_Model_goesBy_249 rfl rfl ?_
          refine j_iald (pc := 250) C 11 rfl (v := nI dy) (vin (by decide)) (by exact xh61) d_Model_goesBy_250 ?_
          refine j_iconst (pc := 251) C (v := 1) d_Model_goesBy_251 (by decide) ?_
          refine j_iadd (pc := 252) C (v := nI (dy + 1)) d_Model_goesBy_252 (nI_add _ _) ?_
          refine j_iast (pc := 253) C 11 rfl (ws' := [(ma 46, .inl (y 0, 108, .inl g46)), (ma 50, .inl (y 0, 3200, .inl g50)), (ma 55, .inl (y 2, 16, .inl g55)), (ma 56, .inl (y 0, 16, .inl g56)), (ma 57, .inl (y 0, 16, .inl g57)), (ma 58, .inl (y 0, 16, .inl g58)), (ma 60, .inl (y 1, 1700, .inr (.inl u7.2))), MB mo ma (nI t1) i2 i3 i4 i5 i6 i7 i8 i42 i49 i51 i53 i54 i59 u7.1 0 i66 (nI t67) i76 i78, (ma 43, .inl (y 0, 8, .inl g43)), (ma 45, .inl (y 0, 14, .inl g45)), (ma 48, .inl (y 0, 224, .inl g48)), (ma 62, .inl (y 0, 63, .inl (upd u59 0 (nI (dy + 1))))), (ma 63, .inl (y 0, 9, .inl u2))]) (vin (by decide)) rfl d_Model_goesBy_253 ?_
          refine j_genW (fun f62 => [(ma 46, .inl (y 0, 108, .inl g46)), (ma 50, .inl (y 0, 3200, .inl g50)), (ma 55, .inl (y 2, 16, .inl g55)), (ma 56, .inl (y 0, 16, .inl g56)), (ma 57, .inl (y 0, 16, .inl g57)), (ma 58, .inl (y 0, 16, .inl g58)), (ma 60, .inl (y 1, 1700, .inr (.inl u7.2))), MB mo ma (nI t1) i2 i3 i4 i5 i6 i7 i8 i42 i49 i51 i53 i54 i59 u7.1 0 i66 (nI t67) i76 i78, (ma 43, .inl (y 0, 8, .inl g43)), (ma 45, .inl (y 0, 14, .inl g45)), (ma 48, .inl (y 0, 224, .inl g48)), (ma 62, .inl (y 0, 63, .inl f62)), (ma 63, .inl (y 0, 9, .inl u2))]) (upd u59 0 (nI (dy + 1))) rfl (fun f62 => (f62 0 = nI (dy + 1))) (show upd u59 0 (nI (dy + 1)) 0 = nI (dy + 1) from pk_us) ?_
          rintro f62 xh63
          refine j_ws (ws' := [(ma 46, .inl (y 0, 108, .inl g46)), (ma 50, .inl (y 0, 3200, .inl g50)), (ma 55, .inl (y 2, 16, .inl g55)), (ma 56, .inl (y 0, 16, .inl g56)), (ma 57, .inl (y 0, 16, .inl g57)), (ma 58, .inl (y 0, 16, .inl g58)), (ma 60, .inl (y 1, 1700, .inr (.inl u7.2))), MB mo ma (nI t1) i2 i3 i4 i5 i6 i7 i8 i42 i49 i51 i53 i54 i59 u7.1 0 i66 (nI t67) i76 i78, (ma 43, .inl (y 0, 8, .inl g43)), (ma 45, .inl (y 0, 14, .inl g45)), (ma 48, .inl (y 0, 224, .inl g48)), (ma 62, .inl (y 0, 63, .inl f62)), (ma 63, .inl (y 0, 9, .inl u2))]) rfl ?_
          have xh63 : f62 0 = nI (dy + 1) := xh63
          exact j_vret (pc := 254) C hr (u7.1, 0, u7.2, f62, u2) xh63 [7, 8, 9, 0, 10, 1, 2, 3, 4, 5, 6, 11, 12] rfl (by decide) (by decide) (by decide) d_Model_goesBy_254
      · refine j_icmp_geF (pc := 104) C (tgt := 167) d_Model_goesBy_104 (by decide) (show ¬ nI c0 ≤ nI iz from nI_ge (by omega) (by omega)) ?_
        refine j_aload_n (pc := 107) C d_Model_goesBy_107 rfl 6 rfl ?_
        refine j_get (pc := 108) C gf_Model_158 11 rfl rfl d_Model_goesBy_108 ?_
        refine j_bipush (pc := 111) C (v := 12) d_Model_goesBy_111 (by decide) ?_
        refine j_iload (pc := 113) C d_Model_goesBy_113 0 rfl ?_
        refine j_iadd (pc := 115) C (v := nI (12 + iz)) d_Model_goesBy_115 (nI_add _ _) ?_
        refine j_aload_n (pc := 116) C d_Model_goesBy_116 rfl 6 rfl ?_
        refine j_get (pc := 117) C gf_Model_161 11 rfl rfl d_Model_goesBy_117 ?_
        refine j_iload (pc := 120) C d_Model_goesBy_120 0 rfl ?_
        refine j_iald (pc := 122) C 3 rfl (v := u2 iz) (vp_in_nI (by omega) (by decide)) (by rw [nI_clamp (by omega)]) d_Model_goesBy_122 ?_
        refine j_iast (pc := 123) C 2 rfl (ws' := [(ma 48, .inl (y 0, 224, .inl g48)), (ma 46, .inl (y 0, 108, .inl g46)), (ma 62, .inl (y 0, 63, .inl (upd nz (12 + iz) (u2 iz)))), (ma 63, .inl (y 0, 9, .inl u2)), (ma 45, .inl (y 0, 14, .inl g45)), (ma 50, .inl (y 0, 3200, .inl g50)), (ma 55, .inl (y 2, 16, .inl g55)), (ma 56, .inl (y 0, 16, .inl g56)), (ma 57, .inl (y 0, 16, .inl g57)), (ma 58, .inl (y 0, 16, .inl g58)), (ma 60, .inl (y 1, 1700, .inr (.inl u7.2))), MB mo ma (nI t1) i2 i3 i4 i5 i6 i7 i8 i42 i49 i51 i53 i54 i59 u7.1 0 i66 (nI t67) i76 i78, (ma 43, .inl (y 0, 8, .inl g43))]) (vp_in_nI (by omega) (by decide)) (by rw [nI_clamp (by omega)]; rfl) d_Model_goesBy_123 ?_
        refine j_genW (fun f64 => [(ma 48, .inl (y 0, 224, .inl g48)), (ma 46, .inl (y 0, 108, .inl g46)), (ma 62, .inl (y 0, 63, .inl f64)), (ma 63, .inl (y 0, 9, .inl u2)), (ma 45, .inl (y 0, 14, .inl g45)), (ma 50, .inl (y 0, 3200, .inl g50)), (ma 55, .inl (y 2, 16, .inl g55)), (ma 56, .inl (y 0, 16, .inl g56)), (ma 57, .inl (y 0, 16, .inl g57)), (ma 58, .inl (y 0, 16, .inl g58)), (ma 60, .inl (y 1, 1700, .inr (.inl u7.2))), MB mo ma (nI t1) i2 i3 i4 i5 i6 i7 i8 i42 i49 i51 i53 i54 i59 u7.1 0 i66 (nI t67) i76 i78, (ma 43, .inl (y 0, 8, .inl g43))]) (upd nz (12 + iz) (u2 iz)) rfl (fun f64 => (f64 0 = nI dy)) (show upd nz (12 + iz) (u2 iz) 0 = nI dy by rw [pk_un (by omega)]; exact hn_) ?_
        rintro f64 xh65
        refine j_ws (ws' := [(ma 48, .inl (y 0, 224, .inl g48)), (ma 46, .inl (y 0, 108, .inl g46)), (ma 62, .inl (y 0, 63, .inl f64)), (ma 63, .inl (y 0, 9, .inl u2)), (ma 45, .inl (y 0, 14, .inl g45)), (ma 50, .inl (y 0, 3200, .inl g50)), (ma 55, .inl (y 2, 16, .inl g55)), (ma 56, .inl (y 0, 16, .inl g56)), (ma 57, .inl (y 0, 16, .inl g57)), (ma 58, .inl (y 0, 16, .inl g58)), (ma 60, .inl (y 1, 1700, .inr (.inl u7.2))), MB mo ma (nI t1) i2 i3 i4 i5 i6 i7 i8 i42 i49 i51 i53 i54 i59 u7.1 0 i66 (nI t67) i76 i78, (ma 43, .inl (y 0, 8, .inl g43))]) rfl ?_
        have xh65 : f64 0 = nI dy := xh65
        refine j_aload_n (pc := 124) C d_Model_goesBy_124 rfl 6 rfl ?_
        refine j_get (pc := 125) C gf_Model_158 11 rfl rfl d_Model_goesBy_125 ?_
        refine j_bipush (pc := 128) C (v := 21) d_Model_goesBy_128 (by decide) ?_
        refine j_iload (pc := 130) C d_Model_goesBy_130 0 rfl ?_
        refine j_iadd (pc := 132) C (v := nI (21 + iz)) d_Model_goesBy_132 (nI_add _ _) ?_
        refine j_dup2 (pc := 133) C d_Model_goesBy_133 rfl rfl ?_
        refine j_iald (pc := 134) C 2 rfl (v := f64 (21 + iz)) (vp_in_nI (by omega) (by decide)) (by rw [nI_clamp (by omega)]) d_Model_goesBy_134 ?_
        refine j_aload_n (pc := 135) C d_Model_goesBy_135 rfl 6 rfl ?_
        refine j_get (pc := 136) C gf_Model_161 11 rfl rfl d_Model_goesBy_136 ?_
        refine j_iload (pc := 139) C d_Model_goesBy_139 0 rfl ?_
        refine j_iald (pc := 141) C 3 rfl (v := u2 iz) (vp_in_nI (by omega) (by decide)) (by rw [nI_clamp (by omega)]) d_Model_goesBy_141 ?_
        refine j_iadd (pc := 142) C (v := (f64 (21 + iz)) + (u2 iz)) d_Model_goesBy_142 rfl ?_
        refine j_anyI (fun v66 => ?_)
        refine j_iast (pc := 143) C 2 rfl (ws' := [(ma 48, .inl (y 0, 224, .inl g48)), (ma 46, .inl (y 0, 108, .inl g46)), (ma 62, .inl (y 0, 63, .inl (upd f64 (21 + iz) v66))), (ma 63, .inl (y 0, 9, .inl u2)), (ma 45, .inl (y 0, 14, .inl g45)), (ma 50, .inl (y 0, 3200, .inl g50)), (ma 55, .inl (y 2, 16, .inl g55)), (ma 56, .inl (y 0, 16, .inl g56)), (ma 57, .inl (y 0, 16, .inl g57)), (ma 58, .inl (y 0, 16, .inl g58)), (ma 60, .inl (y 1, 1700, .inr (.inl u7.2))), MB mo ma (nI t1) i2 i3 i4 i5 i6 i7 i8 i42 i49 i51 i53 i54 i59 u7.1 0 i66 (nI t67) i76 i78, (ma 43, .inl (y 0, 8, .inl g43))]) (vp_in_nI (by omega) (by decide)) (by rw [nI_clamp (by omega)]; rfl) d_Model_goesBy_143 ?_
        refine j_genW (fun f67 => [(ma 48, .inl (y 0, 224, .inl g48)), (ma 46, .inl (y 0, 108, .inl g46)), (ma 62, .inl (y 0, 63, .inl f67)), (ma 63, .inl (y 0, 9, .inl u2)), (ma 45, .inl (y 0, 14, .inl g45)), (ma 50, .inl (y 0, 3200, .inl g50)), (ma 55, .inl (y 2, 16, .inl g55)), (ma 56, .inl (y 0, 16, .inl g56)), (ma 57, .inl (y 0, 16, .inl g57)), (ma 58, .inl (y 0, 16, .inl g58)), (ma 60, .inl (y 1, 1700, .inr (.inl u7.2))), MB mo ma (nI t1) i2 i3 i4 i5 i6 i7 i8 i42 i49 i51 i53 i54 i59 u7.1 0 i66 (nI t67) i76 i78, (ma 43, .inl (y 0, 8, .inl g43))]) (upd f64 (21 + iz) v66) rfl (fun f67 => (f67 0 = nI dy)) (show upd f64 (21 + iz) v66 0 = nI dy by rw [pk_un (by omega)]; exact xh65) ?_
        rintro f67 xh68
        refine j_ws (ws' := [(ma 48, .inl (y 0, 224, .inl g48)), (ma 46, .inl (y 0, 108, .inl g46)), (ma 62, .inl (y 0, 63, .inl f67)), (ma 63, .inl (y 0, 9, .inl u2)), (ma 45, .inl (y 0, 14, .inl g45)), (ma 50, .inl (y 0, 3200, .inl g50)), (ma 55, .inl (y 2, 16, .inl g55)), (ma 56, .inl (y 0, 16, .inl g56)), (ma 57, .inl (y 0, 16, .inl g57)), (ma 58, .inl (y 0, 16, .inl g58)), (ma 60, .inl (y 1, 1700, .inr (.inl u7.2))), MB mo ma (nI t1) i2 i3 i4 i5 i6 i7 i8 i42 i49 i51 i53 i54 i59 u7.1 0 i66 (nI t67) i76 i78, (ma 43, .inl (y 0, 8, .inl g43))]) rfl ?_
        have xh68 : f67 0 = nI dy := xh68
        refine j_aload_n (pc := 144) C d_Model_goesBy_144 rfl 6 rfl ?_
        refine j_get (pc := 145) C gf_Model_158 11 rfl rfl d_Model_goesBy_145 ?_
        refine j_bipush (pc := 148) C (v := 33) d_Model_goesBy_148 (by decide) ?_
        refine j_dup2 (pc := 150) C d_Model_goesBy_150 rfl rfl ?_
        refine j_iald (pc := 151) C 2 rfl (v := f67 33) (vin (by decide)) rfl d_Model_goesBy_151 ?_
        refine j_aload_n (pc := 152) C d_Model_goesBy_152 rfl 6 rfl ?_
        refine j_get (pc := 153) C gf_Model_161 11 rfl rfl d_Model_goesBy_153 ?_
        refine j_iload (pc := 156) C d_Model_goesBy_156 0 rfl ?_
        refine j_iald (pc := 158) C 3 rfl (v := u2 iz) (vp_in_nI (by omega) (by decide)) (by rw [nI_clamp (by omega)]) d_Model_goesBy_158 ?_
        refine j_iadd (pc := 159) C (v := (f67 33) + (u2 iz)) d_Model_goesBy_159 rfl ?_
        refine j_iast (pc := 160) C 2 rfl (ws' := [(ma 48, .inl (y 0, 224, .inl g48)), (ma 46, .inl (y 0, 108, .inl g46)), (ma 62, .inl (y 0, 63, .inl (upd f67 33 ((f67 33) + (u2 iz))))), (ma 63, .inl (y 0, 9, .inl u2)), (ma 45, .inl (y 0, 14, .inl g45)), (ma 50, .inl (y 0, 3200, .inl g50)), (ma 55, .inl (y 2, 16, .inl g55)), (ma 56, .inl (y 0, 16, .inl g56)), (ma 57, .inl (y 0, 16, .inl g57)), (ma 58, .inl (y 0, 16, .inl g58)), (ma 60, .inl (y 1, 1700, .inr (.inl u7.2))), MB mo ma (nI t1) i2 i3 i4 i5 i6 i7 i8 i42 i49 i51 i53 i54 i59 u7.1 0 i66 (nI t67) i76 i78, (ma 43, .inl (y 0, 8, .inl g43))]) (vin (by decide)) rfl d_Model_goesBy_160 ?_
        refine j_genW (fun f69 => [(ma 48, .inl (y 0, 224, .inl g48)), (ma 46, .inl (y 0, 108, .inl g46)), (ma 62, .inl (y 0, 63, .inl f69)), (ma 63, .inl (y 0, 9, .inl u2)), (ma 45, .inl (y 0, 14, .inl g45)), (ma 50, .inl (y 0, 3200, .inl g50)), (ma 55, .inl (y 2, 16, .inl g55)), (ma 56, .inl (y 0, 16, .inl g56)), (ma 57, .inl (y 0, 16, .inl g57)), (ma 58, .inl (y 0, 16, .inl g58)), (ma 60, .inl (y 1, 1700, .inr (.inl u7.2))), MB mo ma (nI t1) i2 i3 i4 i5 i6 i7 i8 i42 i49 i51 i53 i54 i59 u7.1 0 i66 (nI t67) i76 i78, (ma 43, .inl (y 0, 8, .inl g43))]) (upd f67 33 ((f67 33) + (u2 iz))) rfl (fun f69 => (f69 0 = nI dy)) (show upd f67 33 ((f67 33) + (u2 iz)) 0 = nI dy by rw [pk_un (by omega)]; exact xh68) ?_
        rintro f69 xh70
        refine j_ws (ws' := [(ma 48, .inl (y 0, 224, .inl g48)), (ma 46, .inl (y 0, 108, .inl g46)), (ma 62, .inl (y 0, 63, .inl f69)), (ma 63, .inl (y 0, 9, .inl u2)), (ma 45, .inl (y 0, 14, .inl g45)), (ma 50, .inl (y 0, 3200, .inl g50)), (ma 55, .inl (y 2, 16, .inl g55)), (ma 56, .inl (y 0, 16, .inl g56)), (ma 57, .inl (y 0, 16, .inl g57)), (ma 58, .inl (y 0, 16, .inl g58)), (ma 60, .inl (y 1, 1700, .inr (.inl u7.2))), MB mo ma (nI t1) i2 i3 i4 i5 i6 i7 i8 i42 i49 i51 i53 i54 i59 u7.1 0 i66 (nI t67) i76 i78, (ma 43, .inl (y 0, 8, .inl g43))]) rfl ?_
        have xh70 : f69 0 = nI dy := xh70
        refine j_iinc (pc := 161) C (v := nI (iz + 1)) (lv' := [(7, .int (nI (iz + 1))), (6, .int ((r1 + (r3 + v)) - 0)), (5, .int ((r1 + (r3 + v)) - 0)), (4, .int (r1 + (r3 + v))), (3, .int (r3 + v)), (2, .int r1), (0, .ref mo), (1, .int v)]) d_Model_goesBy_161 0 rfl (nI_add _ _) (by decide) rfl ?_
        refine j_goto (pc := 164) C (tgt := 98) d_Model_goesBy_164 (by decide) ?_
        refine j_sub (ws' := [(ma 48, .inl (y 0, 224, .inl g48)), (ma 46, .inl (y 0, 108, .inl g46)), (ma 62, .inl (y 0, 63, .inl f69)), (ma 63, .inl (y 0, 9, .inl u2)), MB mo ma (nI t1) i2 i3 i4 i5 i6 i7 i8 i42 i49 i51 i53 i54 i59 u7.1 0 i66 (nI t67) i76 i78, (ma 43, .inl (y 0, 8, .inl g43)), (ma 45, .inl (y 0, 14, .inl g45)), (ma 50, .inl (y 0, 3200, .inl g50)), (ma 55, .inl (y 2, 16, .inl g55)), (ma 56, .inl (y 0, 16, .inl g56)), (ma 57, .inl (y 0, 16, .inl g57)), (ma 58, .inl (y 0, 16, .inl g58)), (ma 60, .inl (y 1, 1700, .inr (.inl u7.2)))]) [0, 1, 2, 3, 11, 12, 4, 5, 6, 7, 8, 9, 10] rfl (by decide +kernel) ?_
        exact ih40 ((iz + 1), f69) ⟨(show (iz + 1) ≤ c0 by omega), xh70⟩ (show c0 - (iz + 1) < c0 - iz by omega)
    · refine j_iload (pc := 86) C d_Model_goesBy_86 0 rfl ?_
      refine j_goto (pc := 88) C (tgt := 93) d_Model_goesBy_88 (by decide) ?_
      refine j_istore (pc := 93) C (lv' := [(6, .int r6), (5, .int ((r1 + (r3 + v)) - 0)), (4, .int (r1 + (r3 + v))), (3, .int (r3 + v)), (2, .int r1), (0, .ref mo), (1, .int v)]) d_Model_goesBy_93 (by decide) rfl ?_
      refine j_iconst (pc := 95) C (v := 0) d_Model_goesBy_95 (by decide) ?_
      refine j_istore (pc := 96) C (lv' := [(7, .int 0), (6, .int r6), (5, .int ((r1 + (r3 + v)) - 0)), (4, .int (r1 + (r3 + v))), (3, .int (r3 + v)), (2, .int r1), (0, .ref mo), (1, .int v)]) d_Model_goesBy_96 (by decide) rfl ?_
      refine j_loop (α := Nat × (Nat → Int32)) (fun a => c0 - a.1) (fun a => (a.1 ≤ c0) ∧ (a.2 0 = nI dy)) (fun a => [(ma 48, .inl (y 0, 224, .inl g48)), (ma 46, .inl (y 0, 108, .inl g46)), (ma 62, .inl (y 0, 63, .inl a.2)), (ma 63, .inl (y 0, 9, .inl u2)), MB mo ma (nI t1) i2 i3 i4 i5 i6 i7 i8 i42 i49 i51 i53 i54 i59 u7.1 0 i66 (nI t67) i76 i78, (ma 43, .inl (y 0, 8, .inl g43)), (ma 45, .inl (y 0, 14, .inl g45)), (ma 50, .inl (y 0, 3200, .inl g50)), (ma 55, .inl (y 2, 16, .inl g55)), (ma 56, .inl (y 0, 16, .inl g56)), (ma 57, .inl (y 0, 16, .inl g57)), (ma 58, .inl (y 0, 16, .inl g58)), (ma 60, .inl (y 1, 1700, .inr (.inl u7.2)))]) (fun a => [(7, .int (nI a.1)), (6, .int r6), (5, .int ((r1 + (r3 + v)) - 0)), (4, .int (r1 + (r3 + v))), (3, .int (r3 + v)), (2, .int r1), (0, .ref mo), (1, .int v)]) (0, g62) rfl rfl ⟨(show 0 ≤ c0 by omega), hD⟩ ?_
      rintro ⟨iz, nz⟩ hP100 ih101
      obtain ⟨hi__, hn__⟩ := hP100
      have hi_ : iz ≤ c0 := hi__
      have hn_ : nz 0 = nI dy := hn__
      refine j_ws (ws' := [(ma 48, .inl (y 0, 224, .inl g48)), (ma 46, .inl (y 0, 108, .inl g46)), (ma 62, .inl (y 0, 63, .inl nz)), (ma 63, .inl (y 0, 9, .inl u2)), MB mo ma (nI t1) i2 i3 i4 i5 i6 i7 i8 i42 i49 i51 i53 i54 i59 u7.1 0 i66 (nI t67) i76 i78, (ma 43, .inl (y 0, 8, .inl g43)), (ma 45, .inl (y 0, 14, .inl g45)), (ma 50, .inl (y 0, 3200, .inl g50)), (ma 55, .inl (y 2, 16, .inl g55)), (ma 56, .inl (y 0, 16, .inl g56)), (ma 57, .inl (y 0, 16, .inl g57)), (ma 58, .inl (y 0, 16, .inl g58)), (ma 60, .inl (y 1, 1700, .inr (.inl u7.2)))]) rfl ?_
      refine j_lv (lv' := [(7, .int (nI iz)), (6, .int r6), (5, .int ((r1 + (r3 + v)) - 0)), (4, .int (r1 + (r3 + v))), (3, .int (r3 + v)), (2, .int r1), (0, .ref mo), (1, .int v)]) rfl ?_
      refine j_iload (pc := 98) C d_Model_goesBy_98 0 rfl ?_
      refine j_aload_n (pc := 100) C d_Model_goesBy_100 rfl 6 rfl ?_
      refine j_callVi (pc := 101) C (c_M_gateMany l D y mo ma t1 i2 i3 i4 i5 i6 i7 i8 i42 i49 i51 i53 i54 i59 u7.1 0 i66 t67 i76 i78 g43 c0 hc0 bc0) kw_Model_341 kv_Model_gateMany 0 10 rfl rfl ⟨by decide, by decide⟩ ⟨by decide, by decide⟩ (wr := [(ma 48, .inl (y 0, 224, .inl g48)), (ma 46, .inl (y 0, 108, .inl g46)), (ma 62, .inl (y 0, 63, .inl nz)), (ma 63, .inl (y 0, 9, .inl u2)), (ma 45, .inl (y 0, 14, .inl g45)), (ma 50, .inl (y 0, 3200, .inl g50)), (ma 55, .inl (y 2, 16, .inl g55)), (ma 56, .inl (y 0, 16, .inl g56)), (ma 57, .inl (y 0, 16, .inl g57)), (ma 58, .inl (y 0, 16, .inl g58)), (ma 60, .inl (y 1, 1700, .inr (.inl u7.2)))]) [4, 5] [0, 1, 2, 3, 6, 7, 8, 9, 10, 11, 12] rfl rfl (by decide +kernel) (by decide +kernel) (by decide +kernel) (As := []) (rest := [.int (nI iz)]) rfl (nb rfl) rfl d_Model_goesBy_101 (fun r102 _ hr102 => ?_)
      obtain rfl := hr102
      refine j_ws (ws' := [(ma 48, .inl (y 0, 224, .inl g48)), (ma 46, .inl (y 0, 108, .inl g46)), (ma 62, .inl (y 0, 63, .inl nz)), (ma 63, .inl (y 0, 9, .inl u2)), (ma 45, .inl (y 0, 14, .inl g45)), (ma 50, .inl (y 0, 3200, .inl g50)), (ma 55, .inl (y 2, 16, .inl g55)), (ma 56, .inl (y 0, 16, .inl g56)), (ma 57, .inl (y 0, 16, .inl g57)), (ma 58, .inl (y 0, 16, .inl g58)), (ma 60, .inl (y 1, 1700, .inr (.inl u7.2))), MB mo ma (nI t1) i2 i3 i4 i5 i6 i7 i8 i42 i49 i51 i53 i54 i59 u7.1 0 i66 (nI t67) i76 i78, (ma 43, .inl (y 0, 8, .inl g43))]) rfl ?_
      by_cases c103 : c0 ≤ iz
      · refine j_icmp_geT (pc := 104) C (tgt := 167) d_Model_goesBy_104 (by decide) (show nI c0 ≤ nI iz from nI_le (by omega) (by omega)) ?_
        refine j_aload_n (pc := 167) C d_Model_goesBy_167 rfl 6 rfl ?_
        refine j_get (pc := 168) C gf_Model_158 11 rfl rfl d_Model_goesBy_168 ?_
        refine j_bipush (pc := 171) C (v := 31) d_Model_goesBy_171 (by decide) ?_
        refine j_dup2 (pc := 173) C d_Model_goesBy_173 rfl rfl ?_
        refine j_iald (pc := 174) C 2 rfl (v := nz 31) (vin (by decide)) rfl d_Model_goesBy_174 ?_
        refine j_iload_n (pc := 175) C d_Model_goesBy_175 rfl 4 rfl ?_
        refine j_iadd (pc := 176) C (v := (nz 31) + (r3 + v)) d_Model_goesBy_176 rfl ?_
        refine j_iast (pc := 177) C 2 rfl (ws' := [(ma 48, .inl (y 0, 224, .inl g48)), (ma 46, .inl (y 0, 108, .inl g46)), (ma 62, .inl (y 0, 63, .inl (upd nz 31 ((nz 31) + (r3 + v))))), (ma 63, .inl (y 0, 9, .inl u2)), (ma 45, .inl (y 0, 14, .inl g45)), (ma 50, .inl (y 0, 3200, .inl g50)), (ma 55, .inl (y 2, 16, .inl g55)), (ma 56, .inl (y 0, 16, .inl g56)), (ma 57, .inl (y 0, 16, .inl g57)), (ma 58, .inl (y 0, 16, .inl g58)), (ma 60, .inl (y 1, 1700, .inr (.inl u7.2))), MB mo ma (nI t1) i2 i3 i4 i5 i6 i7 i8 i42 i49 i51 i53 i54 i59 u7.1 0 i66 (nI t67) i76 i78, (ma 43, .inl (y 0, 8, .inl g43))]) (vin (by decide)) rfl d_Model_goesBy_177 ?_
        refine j_genW (fun f104 => [(ma 48, .inl (y 0, 224, .inl g48)), (ma 46, .inl (y 0, 108, .inl g46)), (ma 62, .inl (y 0, 63, .inl f104)), (ma 63, .inl (y 0, 9, .inl u2)), (ma 45, .inl (y 0, 14, .inl g45)), (ma 50, .inl (y 0, 3200, .inl g50)), (ma 55, .inl (y 2, 16, .inl g55)), (ma 56, .inl (y 0, 16, .inl g56)), (ma 57, .inl (y 0, 16, .inl g57)), (ma 58, .inl (y 0, 16, .inl g58)), (ma 60, .inl (y 1, 1700, .inr (.inl u7.2))), MB mo ma (nI t1) i2 i3 i4 i5 i6 i7 i8 i42 i49 i51 i53 i54 i59 u7.1 0 i66 (nI t67) i76 i78, (ma 43, .inl (y 0, 8, .inl g43))]) (upd nz 31 ((nz 31) + (r3 + v))) rfl (fun f104 => (f104 0 = nI dy)) (show upd nz 31 ((nz 31) + (r3 + v)) 0 = nI dy by rw [pk_un (by omega)]; exact hn_) ?_
        rintro f104 xh105
        refine j_ws (ws' := [(ma 48, .inl (y 0, 224, .inl g48)), (ma 46, .inl (y 0, 108, .inl g46)), (ma 62, .inl (y 0, 63, .inl f104)), (ma 63, .inl (y 0, 9, .inl u2)), (ma 45, .inl (y 0, 14, .inl g45)), (ma 50, .inl (y 0, 3200, .inl g50)), (ma 55, .inl (y 2, 16, .inl g55)), (ma 56, .inl (y 0, 16, .inl g56)), (ma 57, .inl (y 0, 16, .inl g57)), (ma 58, .inl (y 0, 16, .inl g58)), (ma 60, .inl (y 1, 1700, .inr (.inl u7.2))), MB mo ma (nI t1) i2 i3 i4 i5 i6 i7 i8 i42 i49 i51 i53 i54 i59 u7.1 0 i66 (nI t67) i76 i78, (ma 43, .inl (y 0, 8, .inl g43))]) rfl ?_
        have xh105 : f104 0 = nI dy := xh105
        refine j_aload_n (pc := 178) C d_Model_goesBy_178 rfl 6 rfl ?_
        refine j_get (pc := 179) C gf_Model_158 11 rfl rfl d_Model_goesBy_179 ?_
        refine j_bipush (pc := 182) C (v := 32) d_Model_goesBy_182 (by decide) ?_
        refine j_dup2 (pc := 184) C d_Model_goesBy_184 rfl rfl ?_
        refine j_iald (pc := 185) C 2 rfl (v := f104 32) (vin (by decide)) rfl d_Model_goesBy_185 ?_
        refine j_aload_n (pc := 186) C d_Model_goesBy_186 rfl 6 rfl ?_
        refine j_get (pc := 187) C gf_Model_441 11 rfl rfl d_Model_goesBy_187 ?_
        refine j_iadd (pc := 190) C (v := (f104 32) + 0) d_Model_goesBy_190 rfl ?_
        refine j_iast (pc := 191) C 2 rfl (ws' := [(ma 48, .inl (y 0, 224, .inl g48)), (ma 46, .inl (y 0, 108, .inl g46)), (ma 62, .inl (y 0, 63, .inl (upd f104 32 ((f104 32) + 0)))), (ma 63, .inl (y 0, 9, .inl u2)), (ma 45, .inl (y 0, 14, .inl g45)), (ma 50, .inl (y 0, 3200, .inl g50)), (ma 55, .inl (y 2, 16, .inl g55)), (ma 56, .inl (y 0, 16, .inl g56)), (ma 57, .inl (y 0, 16, .inl g57)), (ma 58, .inl (y 0, 16, .inl g58)), (ma 60, .inl (y 1, 1700, .inr (.inl u7.2))), MB mo ma (nI t1) i2 i3 i4 i5 i6 i7 i8 i42 i49 i51 i53 i54 i59 u7.1 0 i66 (nI t67) i76 i78, (ma 43, .inl (y 0, 8, .inl g43))]) (vin (by decide)) rfl d_Model_goesBy_191 ?_
        refine j_genW (fun f106 => [(ma 48, .inl (y 0, 224, .inl g48)), (ma 46, .inl (y 0, 108, .inl g46)), (ma 62, .inl (y 0, 63, .inl f106)), (ma 63, .inl (y 0, 9, .inl u2)), (ma 45, .inl (y 0, 14, .inl g45)), (ma 50, .inl (y 0, 3200, .inl g50)), (ma 55, .inl (y 2, 16, .inl g55)), (ma 56, .inl (y 0, 16, .inl g56)), (ma 57, .inl (y 0, 16, .inl g57)), (ma 58, .inl (y 0, 16, .inl g58)), (ma 60, .inl (y 1, 1700, .inr (.inl u7.2))), MB mo ma (nI t1) i2 i3 i4 i5 i6 i7 i8 i42 i49 i51 i53 i54 i59 u7.1 0 i66 (nI t67) i76 i78, (ma 43, .inl (y 0, 8, .inl g43))]) (upd f104 32 ((f104 32) + 0)) rfl (fun f106 => (f106 0 = nI dy)) (show upd f104 32 ((f104 32) + 0) 0 = nI dy by rw [pk_un (by omega)]; exact xh105) ?_
        rintro f106 xh107
        refine j_ws (ws' := [(ma 48, .inl (y 0, 224, .inl g48)), (ma 46, .inl (y 0, 108, .inl g46)), (ma 62, .inl (y 0, 63, .inl f106)), (ma 63, .inl (y 0, 9, .inl u2)), (ma 45, .inl (y 0, 14, .inl g45)), (ma 50, .inl (y 0, 3200, .inl g50)), (ma 55, .inl (y 2, 16, .inl g55)), (ma 56, .inl (y 0, 16, .inl g56)), (ma 57, .inl (y 0, 16, .inl g57)), (ma 58, .inl (y 0, 16, .inl g58)), (ma 60, .inl (y 1, 1700, .inr (.inl u7.2))), MB mo ma (nI t1) i2 i3 i4 i5 i6 i7 i8 i42 i49 i51 i53 i54 i59 u7.1 0 i66 (nI t67) i76 i78, (ma 43, .inl (y 0, 8, .inl g43))]) rfl ?_
        have xh107 : f106 0 = nI dy := xh107
        refine j_aload_n (pc := 192) C d_Model_goesBy_192 rfl 6 rfl ?_
        refine j_get (pc := 193) C gf_Model_158 11 rfl rfl d_Model_goesBy_193 ?_
        refine j_bipush (pc := 196) C (v := 34) d_Model_goesBy_196 (by decide) ?_
        refine j_dup2 (pc := 198) C d_Model_goesBy_198 rfl rfl ?_
        refine j_iald (pc := 199) C 2 rfl (v := f106 34) (vin (by decide)) rfl d_Model_goesBy_199 ?_
        refine j_iload (pc := 200) C d_Model_goesBy_200 1 rfl ?_
        refine j_iadd (pc := 202) C (v := (f106 34) + r6) d_Model_goesBy_202 rfl ?_
        refine j_iast (pc := 203) C 2 rfl (ws' := [(ma 48, .inl (y 0, 224, .inl g48)), (ma 46, .inl (y 0, 108, .inl g46)), (ma 62, .inl (y 0, 63, .inl (upd f106 34 ((f106 34) + r6)))), (ma 63, .inl (y 0, 9, .inl u2)), (ma 45, .inl (y 0, 14, .inl g45)), (ma 50, .inl (y 0, 3200, .inl g50)), (ma 55, .inl (y 2, 16, .inl g55)), (ma 56, .inl (y 0, 16, .inl g56)), (ma 57, .inl (y 0, 16, .inl g57)), (ma 58, .inl (y 0, 16, .inl g58)), (ma 60, .inl (y 1, 1700, .inr (.inl u7.2))), MB mo ma (nI t1) i2 i3 i4 i5 i6 i7 i8 i42 i49 i51 i53 i54 i59 u7.1 0 i66 (nI t67) i76 i78, (ma 43, .inl (y 0, 8, .inl g43))]) (vin (by decide)) rfl d_Model_goesBy_203 ?_
        refine j_genW (fun f108 => [(ma 48, .inl (y 0, 224, .inl g48)), (ma 46, .inl (y 0, 108, .inl g46)), (ma 62, .inl (y 0, 63, .inl f108)), (ma 63, .inl (y 0, 9, .inl u2)), (ma 45, .inl (y 0, 14, .inl g45)), (ma 50, .inl (y 0, 3200, .inl g50)), (ma 55, .inl (y 2, 16, .inl g55)), (ma 56, .inl (y 0, 16, .inl g56)), (ma 57, .inl (y 0, 16, .inl g57)), (ma 58, .inl (y 0, 16, .inl g58)), (ma 60, .inl (y 1, 1700, .inr (.inl u7.2))), MB mo ma (nI t1) i2 i3 i4 i5 i6 i7 i8 i42 i49 i51 i53 i54 i59 u7.1 0 i66 (nI t67) i76 i78, (ma 43, .inl (y 0, 8, .inl g43))]) (upd f106 34 ((f106 34) + r6)) rfl (fun f108 => (f108 0 = nI dy)) (show upd f106 34 ((f106 34) + r6) 0 = nI dy by rw [pk_un (by omega)]; exact xh107) ?_
        rintro f108 xh109
        refine j_ws (ws' := [(ma 48, .inl (y 0, 224, .inl g48)), (ma 46, .inl (y 0, 108, .inl g46)), (ma 62, .inl (y 0, 63, .inl f108)), (ma 63, .inl (y 0, 9, .inl u2)), (ma 45, .inl (y 0, 14, .inl g45)), (ma 50, .inl (y 0, 3200, .inl g50)), (ma 55, .inl (y 2, 16, .inl g55)), (ma 56, .inl (y 0, 16, .inl g56)), (ma 57, .inl (y 0, 16, .inl g57)), (ma 58, .inl (y 0, 16, .inl g58)), (ma 60, .inl (y 1, 1700, .inr (.inl u7.2))), MB mo ma (nI t1) i2 i3 i4 i5 i6 i7 i8 i42 i49 i51 i53 i54 i59 u7.1 0 i66 (nI t67) i76 i78, (ma 43, .inl (y 0, 8, .inl g43))]) rfl ?_
        have xh109 : f108 0 = nI dy := xh109
        refine j_aload_n (pc := 204) C d_Model_goesBy_204 rfl 6 rfl ?_
        refine j_get (pc := 205) C gf_Model_158 11 rfl rfl d_Model_goesBy_205 ?_
        refine j_iconst (pc := 208) C (v := 1) d_Model_goesBy_208 (by decide) ?_
        refine j_iload (pc := 209) C d_Model_goesBy_209 2 rfl ?_
        refine j_iload (pc := 211) C d_Model_goesBy_211 1 rfl ?_
        refine j_isub (pc := 213) C (v := ((r1 + (r3 + v)) - 0) - r6) d_Model_goesBy_213 rfl ?_
        refine j_anyI (fun v110 => ?_)
        refine j_iast (pc := 214) C 2 rfl (ws' := [(ma 48, .inl (y 0, 224, .inl g48)), (ma 46, .inl (y 0, 108, .inl g46)), (ma 62, .inl (y 0, 63, .inl (upd f108 1 v110))), (ma 63, .inl (y 0, 9, .inl u2)), (ma 45, .inl (y 0, 14, .inl g45)), (ma 50, .inl (y 0, 3200, .inl g50)), (ma 55, .inl (y 2, 16, .inl g55)), (ma 56, .inl (y 0, 16, .inl g56)), (ma 57, .inl (y 0, 16, .inl g57)), (ma 58, .inl (y 0, 16, .inl g58)), (ma 60, .inl (y 1, 1700, .inr (.inl u7.2))), MB mo ma (nI t1) i2 i3 i4 i5 i6 i7 i8 i42 i49 i51 i53 i54 i59 u7.1 0 i66 (nI t67) i76 i78, (ma 43, .inl (y 0, 8, .inl g43))]) (vin (by decide)) rfl d_Model_goesBy_214 ?_
        refine j_genW (fun f111 => [(ma 48, .inl (y 0, 224, .inl g48)), (ma 46, .inl (y 0, 108, .inl g46)), (ma 62, .inl (y 0, 63, .inl f111)), (ma 63, .inl (y 0, 9, .inl u2)), (ma 45, .inl (y 0, 14, .inl g45)), (ma 50, .inl (y 0, 3200, .inl g50)), (ma 55, .inl (y 2, 16, .inl g55)), (ma 56, .inl (y 0, 16, .inl g56)), (ma 57, .inl (y 0, 16, .inl g57)), (ma 58, .inl (y 0, 16, .inl g58)), (ma 60, .inl (y 1, 1700, .inr (.inl u7.2))), MB mo ma (nI t1) i2 i3 i4 i5 i6 i7 i8 i42 i49 i51 i53 i54 i59 u7.1 0 i66 (nI t67) i76 i78, (ma 43, .inl (y 0, 8, .inl g43))]) (upd f108 1 v110) rfl (fun f111 => (f111 0 = nI dy)) (show upd f108 1 v110 0 = nI dy by rw [pk_un (by omega)]; exact xh109) ?_
        rintro f111 xh112
        refine j_ws (ws' := [(ma 48, .inl (y 0, 224, .inl g48)), (ma 46, .inl (y 0, 108, .inl g46)), (ma 62, .inl (y 0, 63, .inl f111)), (ma 63, .inl (y 0, 9, .inl u2)), (ma 45, .inl (y 0, 14, .inl g45)), (ma 50, .inl (y 0, 3200, .inl g50)), (ma 55, .inl (y 2, 16, .inl g55)), (ma 56, .inl (y 0, 16, .inl g56)), (ma 57, .inl (y 0, 16, .inl g57)), (ma 58, .inl (y 0, 16, .inl g58)), (ma 60, .inl (y 1, 1700, .inr (.inl u7.2))), MB mo ma (nI t1) i2 i3 i4 i5 i6 i7 i8 i42 i49 i51 i53 i54 i59 u7.1 0 i66 (nI t67) i76 i78, (ma 43, .inl (y 0, 8, .inl g43))]) rfl ?_
        have xh112 : f111 0 = nI dy := xh112
        refine j_aload_n (pc := 215) C d_Model_goesBy_215 rfl 6 rfl ?_
        refine j_iload (pc := 216) C d_Model_goesBy_216 3 rfl ?_
        refine j_aload_n (pc := 218) C d_Model_goesBy_218 rfl 6 rfl ?_
        refine j_get (pc := 219) C gf_Model_124 11 rfl rfl d_Model_goesBy_219 ?_
        refine j_bipush (pc := 222) C (v := 7) d_Model_goesBy_222 (by decide) ?_
        refine j_iald (pc := 224) C 4 rfl (v := g45 7) (vin (by decide)) rfl d_Model_goesBy_224 ?_
        refine j_idiv (pc := 225) C (v := (r1 + (r3 + v)) / (g45 7)) d_Model_goesBy_225 hL rfl ?_
        refine j_aload_n (pc := 226) C d_Model_goesBy_226 rfl 6 rfl ?_
        refine j_get (pc := 227) C gf_Model_124 11 rfl rfl d_Model_goesBy_227 ?_
        refine j_bipush (pc := 230) C (v := 12) d_Model_goesBy_230 (by decide) ?_
        refine j_iald (pc := 232) C 4 rfl (v := g45 12) (vin (by decide)) rfl d_Model_goesBy_232 ?_
        refine j_icmp_le (pc := 233) C (tgt := 240) d_Model_goesBy_233 (by decide) (fun c113 => ?_) (fun c113 => ?_)
        · refine j_iconst (pc := 240) C (v := 0) d_Model_goesBy_240 (by decide) ?_
          refine j_callVv (pc := 241) C (c_M_worths l D y mo ma t1 i2 i3 i4 i5 i6 i7 i8 i42 i49 i51 i53 i54 i59 u7.1 0 i66 t67 i76 i78 g43 g45 g48 f111 u2 0 c1 c2 dy hc1 bc1 hc2 bc2 hL hTh xh112 bD) kw_Model_444 kv_Model_worths 0 10 rfl rfl ⟨by decide, by decide⟩ ⟨by decide, by decide⟩ (wr := [(ma 46, .inl (y 0, 108, .inl g46)), (ma 50, .inl (y 0, 3200, .inl g50)), (ma 55, .inl (y 2, 16, .inl g55)), (ma 56, .inl (y 0, 16, .inl g56)), (ma 57, .inl (y 0, 16, .inl g57)), (ma 58, .inl (y 0, 16, .inl g58)), (ma 60, .inl (y 1, 1700, .inr (.inl u7.2)))]) [11, 12, 4, 0, 2, 3] [1, 5, 6, 7, 8, 9, 10] rfl rfl (by decide +kernel) (by decide +kernel) (by decide +kernel) (As := [.int 0]) (rest := []) rfl (nb rfl) rfl d_Model_goesBy_241 (fun u114 hu115 => ?_)
          have xh116 := hu115
          refine j_ws (ws' := [(ma 46, .inl (y 0, 108, .inl g46)), (ma 50, .inl (y 0, 3200, .inl g50)), (ma 55, .inl (y 2, 16, .inl g55)), (ma 56, .inl (y 0, 16, .inl g56)), (ma 57, .inl (y 0, 16, .inl g57)), (ma 58, .inl (y 0, 16, .inl g58)), (ma 60, .inl (y 1, 1700, .inr (.inl u7.2))), MB mo ma (nI t1) i2 i3 i4 i5 i6 i7 i8 i42 i49 i51 i53 i54 i59 u7.1 0 i66 (nI t67) i76 i78, (ma 43, .inl (y 0, 8, .inl g43)), (ma 45, .inl (y 0, 14, .inl g45)), (ma 48, .inl (y 0, 224, .inl g48)), (ma 62, .inl (y 0, 63, .inl u114)), (ma 63, .inl (y 0, 9, .inl u2))]) rfl ?_
          refine j_aload_n (pc := 244) C d_Model_goesBy_244 rfl 6 rfl ?_
          refine j_get (pc := 245) C gf_Model_158 7 rfl rfl d_Model_goesBy_245 ?_
          refine j_iconst (pc := 248) C (v := 0) d_Model_goesBy_248 (by decide) ?_
          refine j_dup2 (pc := 249) C d_Model_goesBy_249 rfl rfl ?_
          refine j_iald (pc := 250) C 11 rfl (v := nI dy) (vin (by decide)) (by exact xh116) d_Model_goesBy_250 ?_
          refine j_iconst (pc := 251) C (v := 1) d_Model_goesBy_251 (by decide) ?_
          refine j_iadd (pc := 252) C (v := nI (dy + 1)) d_Model_goesBy_252 (nI_add _ _) ?_
          refine j_iast (pc := 253) C 11 rfl (ws' := [(ma 46, .inl (y 0, 108, .inl g46)), (ma 50, .inl (y 0, 3200, .inl g50)), (ma 55, .inl (y 2, 16, .inl g55)), (ma 56, .inl (y 0, 16, .inl g56)), (ma 57, .inl (y 0, 16, .inl g57)), (ma 58, .inl (y 0, 16, .inl g58)), (ma 60, .inl (y 1, 1700, .inr (.inl u7.2))), MB mo ma (nI t1) i2 i3 i4 i5 i6 i7 i8 i42 i49 i51 i53 i54 i59 u7.1 0 i66 (nI t67) i76 i78, (ma 43, .inl (y 0, 8, .inl g43)), (ma 45, .inl (y 0, 14, .inl g45)), (ma 48, .inl (y 0, 224, .inl g48)), (ma 62, .inl (y 0, 63, .inl (upd u114 0 (nI (dy + 1))))), (ma 63, .inl (y 0, 9, .inl u2))]) (vin (by decide)) rfl d_Model_goesBy_253 ?_
          refine j_genW (fun f117 => [(ma 46, .inl (y 0, 108, .inl g46)), (ma 50, .inl (y 0, 3200, .inl g50)), (ma 55, .inl (y 2, 16, .inl g55)), (ma 56, .inl (y 0, 16, .inl g56)), (ma 57, .inl (y 0, 16, .inl g57)), (ma 58, .inl (y 0, 16, .inl g58)), (ma 60, .inl (y 1, 1700, .inr (.inl u7.2))), MB mo ma (nI t1) i2 i3 i4 i5 i6 i7 i8 i42 i49 i51 i53 i54 i59 u7.1 0 i66 (nI t67) i76 i78, (ma 43, .inl (y 0, 8, .inl g43)), (ma 45, .inl (y 0, 14, .inl g45)), (ma 48, .inl (y 0, 224, .inl g48)), (ma 62, .inl (y 0, 63, .inl f117)), (ma 63, .inl (y 0, 9, .inl u2))]) (upd u114 0 (nI (dy + 1))) rfl (fun f117 => (f117 0 = nI (dy + 1))) (show upd u114 0 (nI (dy + 1)) 0 = nI (dy + 1) from pk_us) ?_
          rintro f117 xh118
          refine j_ws (ws' := [(ma 46, .inl (y 0, 108, .inl g46)), (ma 50, .inl (y 0, 3200, .inl g50)), (ma 55, .inl (y 2, 16, .inl g55)), (ma 56, .inl (y 0, 16, .inl g56)), (ma 57, .inl (y 0, 16, .inl g57)), (ma 58, .inl (y 0, 16, .inl g58)), (ma 60, .inl (y 1, 1700, .inr (.inl u7.2))), MB mo ma (nI t1) i2 i3 i4 i5 i6 i7 i8 i42 i49 i51 i53 i54 i59 u7.1 0 i66 (nI t67) i76 i78, (ma 43, .inl (y 0, 8, .inl g43)), (ma 45, .inl (y 0, 14, .inl g45)), (ma 48, .inl (y 0, 224, .inl g48)), (ma 62, .inl (y 0, 63, .inl f117)), (ma 63, .inl (y 0, 9, .inl u2))]) rfl ?_
          have xh118 : f117 0 = nI (dy + 1) := xh118
          exact j_vret (pc := 254) C hr (u7.1, 0, u7.2, f117, u2) xh118 [7, 8, 9, 0, 10, 1, 2, 3, 4, 5, 6, 11, 12] rfl (by decide) (by decide) (by decide) d_Model_goesBy_254
        · refine j_iconst (pc := 236) C (v := 1) d_Model_goesBy_236 (by decide) ?_
          refine j_goto (pc := 237) C (tgt := 241) d_Model_goesBy_237 (by decide) ?_
          refine j_callVv (pc := 241) C (c_M_worths l D y mo ma t1 i2 i3 i4 i5 i6 i7 i8 i42 i49 i51 i53 i54 i59 u7.1 0 i66 t67 i76 i78 g43 g45 g48 f111 u2 1 c1 c2 dy hc1 bc1 hc2 bc2 hL hTh xh112 bD) kw_Model_444 kv_Model_worths 0 10 rfl rfl ⟨by decide, by decide⟩ ⟨by decide, by decide⟩ (wr := [(ma 46, .inl (y 0, 108, .inl g46)), (ma 50, .inl (y 0, 3200, .inl g50)), (ma 55, .inl (y 2, 16, .inl g55)), (ma 56, .inl (y 0, 16, .inl g56)), (ma 57, .inl (y 0, 16, .inl g57)), (ma 58, .inl (y 0, 16, .inl g58)), (ma 60, .inl (y 1, 1700, .inr (.inl u7.2)))]) [11, 12, 4, 0, 2, 3] [1, 5, 6, 7, 8, 9, 10] rfl rfl (by decide +kernel) (by decide +kernel) (by decide +kernel) (As := [.int 1]) (rest := []) rfl (nb rfl) rfl d_Model_goesBy_241 (fun u119 hu120 => ?_)
          have xh121 := hu120
          refine j_ws (ws' := [(ma 46, .inl (y 0, 108, .inl g46)), (ma 50, .inl (y 0, 3200, .inl g50)), (ma 55, .inl (y 2, 16, .inl g55)), (ma 56, .inl (y 0, 16, .inl g56)), (ma 57, .inl (y 0, 16, .inl g57)), (ma 58, .inl (y 0, 16, .inl g58)), (ma 60, .inl (y 1, 1700, .inr (.inl u7.2))), MB mo ma (nI t1) i2 i3 i4 i5 i6 i7 i8 i42 i49 i51 i53 i54 i59 u7.1 0 i66 (nI t67) i76 i78, (ma 43, .inl (y 0, 8, .inl g43)), (ma 45, .inl (y 0, 14, .inl g45)), (ma 48, .inl (y 0, 224, .inl g48)), (ma 62, .inl (y 0, 63, .inl u119)), (ma 63, .inl (y 0, 9, .inl u2))]) rfl ?_
          refine j_aload_n (pc := 244) C d_Model_goesBy_244 rfl 6 rfl ?_
          refine j_get (pc := 245) C gf_Model_158 7 rfl rfl d_Model_goesBy_245 ?_
          refine j_iconst (pc := 248) C (v := 0) d_Model_goesBy_248 (by decide) ?_
          refine j_dup2 (pc := 249) C d_Model_goesBy_249 rfl rfl ?_
          refine j_iald (pc := 250) C 11 rfl (v := nI dy) (vin (by decide)) (by exact xh121) d_Model_goesBy_250 ?_
          refine j_iconst (pc := 251) C (v := 1) d_Model_goesBy_251 (by decide) ?_
          refine j_iadd (pc := 252) C (v := nI (dy + 1)) d_Model_goesBy_252 (nI_add _ _) ?_
          refine j_iast (pc := 253) C 11 rfl (ws' := [(ma 46, .inl (y 0, 108, .inl g46)), (ma 50, .inl (y 0, 3200, .inl g50)), (ma 55, .inl (y 2, 16, .inl g55)), (ma 56, .inl (y 0, 16, .inl g56)), (ma 57, .inl (y 0, 16, .inl g57)), (ma 58, .inl (y 0, 16, .inl g58)), (ma 60, .inl (y 1, 1700, .inr (.inl u7.2))), MB mo ma (nI t1) i2 i3 i4 i5 i6 i7 i8 i42 i49 i51 i53 i54 i59 u7.1 0 i66 (nI t67) i76 i78, (ma 43, .inl (y 0, 8, .inl g43)), (ma 45, .inl (y 0, 14, .inl g45)), (ma 48, .inl (y 0, 224, .inl g48)), (ma 62, .inl (y 0, 63, .inl (upd u119 0 (nI (dy + 1))))), (ma 63, .inl (y 0, 9, .inl u2))]) (vin (by decide)) rfl d_Model_goesBy_253 ?_
          refine j_genW (fun f122 => [(ma 46, .inl (y 0, 108, .inl g46)), (ma 50, .inl (y 0, 3200, .inl g50)), (ma 55, .inl (y 2, 16, .inl g55)), (ma 56, .inl (y 0, 16, .inl g56)), (ma 57, .inl (y 0, 16, .inl g57)), (ma 58, .inl (y 0, 16, .inl g58)), (ma 60, .inl (y 1, 1700, .inr (.inl u7.2))), MB mo ma (nI t1) i2 i3 i4 i5 i6 i7 i8 i42 i49 i51 i53 i54 i59 u7.1 0 i66 (nI t67) i76 i78, (ma 43, .inl (y 0, 8, .inl g43)), (ma 45, .inl (y 0, 14, .inl g45)), (ma 48, .inl (y 0, 224, .inl g48)), (ma 62, .inl (y 0, 63, .inl f122)), (ma 63, .inl (y 0, 9, .inl u2))]) (upd u119 0 (nI (dy + 1))) rfl (fun f122 => (f122 0 = nI (dy + 1))) (show upd u119 0 (nI (dy + 1)) 0 = nI (dy + 1) from pk_us) ?_
          rintro f122 xh123
          refine j_ws (ws' := [(ma 46, .inl (y 0, 108, .inl g46)), (ma 50, .inl (y 0, 3200, .inl g50)), (ma 55, .inl (y 2, 16, .inl g55)), (ma 56, .inl (y 0, 16, .inl g56)), (ma 57, .inl (y 0, 16, .inl g57)), (ma 58, .inl (y 0, 16, .inl g58)), (ma 60, .inl (y 1, 1700, .inr (.inl u7.2))), MB mo ma (nI t1) i2 i3 i4 i5 i6 i7 i8 i42 i49 i51 i53 i54 i59 u7.1 0 i66 (nI t67) i76 i78, (ma 43, .inl (y 0, 8, .inl g43)), (ma 45, .inl (y 0, 14, .inl g45)), (ma 48, .inl (y 0, 224, .inl g48)), (ma 62, .inl (y 0, 63, .inl f122)), (ma 63, .inl (y 0, 9, .inl u2))]) rfl ?_
          have xh123 : f122 0 = nI (dy + 1) := xh123
          exact j_vret (pc := 254) C hr (u7.1, 0, u7.2, f122, u2) xh123 [7, 8, 9, 0, 10, 1, 2, 3, 4, 5, 6, 11, 12] rfl (by decide) (by decide) (by decide) d_Model_goesBy_254
      · refine j_icmp_geF (pc := 104) C (tgt := 167) d_Model_goesBy_104 (by decide) (show ¬ nI c0 ≤ nI iz from nI_ge (by omega) (by omega)) ?_
        refine j_aload_n (pc := 107) C d_Model_goesBy_107 rfl 6 rfl ?_
        refine j_get (pc := 108) C gf_Model_158 11 rfl rfl d_Model_goesBy_108 ?_
        refine j_bipush (pc := 111) C (v := 12) d_Model_goesBy_111 (by decide) ?_
        refine j_iload (pc := 113) C d_Model_goesBy_113 0 rfl ?_
        refine j_iadd (pc := 115) C (v := nI (12 + iz)) d_Model_goesBy_115 (nI_add _ _) ?_
        refine j_aload_n (pc := 116) C d_Model_goesBy_116 rfl 6 rfl ?_
        refine j_get (pc := 117) C gf_Model_161 11 rfl rfl d_Model_goesBy_117 ?_
        refine j_iload (pc := 120) C d_Model_goesBy_120 0 rfl ?_
        refine j_iald (pc := 122) C 3 rfl (v := u2 iz) (vp_in_nI (by omega) (by decide)) (by rw [nI_clamp (by omega)]) d_Model_goesBy_122 ?_
        refine j_iast (pc := 123) C 2 rfl (ws' := [(ma 48, .inl (y 0, 224, .inl g48)), (ma 46, .inl (y 0, 108, .inl g46)), (ma 62, .inl (y 0, 63, .inl (upd nz (12 + iz) (u2 iz)))), (ma 63, .inl (y 0, 9, .inl u2)), (ma 45, .inl (y 0, 14, .inl g45)), (ma 50, .inl (y 0, 3200, .inl g50)), (ma 55, .inl (y 2, 16, .inl g55)), (ma 56, .inl (y 0, 16, .inl g56)), (ma 57, .inl (y 0, 16, .inl g57)), (ma 58, .inl (y 0, 16, .inl g58)), (ma 60, .inl (y 1, 1700, .inr (.inl u7.2))), MB mo ma (nI t1) i2 i3 i4 i5 i6 i7 i8 i42 i49 i51 i53 i54 i59 u7.1 0 i66 (nI t67) i76 i78, (ma 43, .inl (y 0, 8, .inl g43))]) (vp_in_nI (by omega) (by decide)) (by rw [nI_clamp (by omega)]; rfl) d_Model_goesBy_123 ?_
        refine j_genW (fun f124 => [(ma 48, .inl (y 0, 224, .inl g48)), (ma 46, .inl (y 0, 108, .inl g46)), (ma 62, .inl (y 0, 63, .inl f124)), (ma 63, .inl (y 0, 9, .inl u2)), (ma 45, .inl (y 0, 14, .inl g45)), (ma 50, .inl (y 0, 3200, .inl g50)), (ma 55, .inl (y 2, 16, .inl g55)), (ma 56, .inl (y 0, 16, .inl g56)), (ma 57, .inl (y 0, 16, .inl g57)), (ma 58, .inl (y 0, 16, .inl g58)), (ma 60, .inl (y 1, 1700, .inr (.inl u7.2))), MB mo ma (nI t1) i2 i3 i4 i5 i6 i7 i8 i42 i49 i51 i53 i54 i59 u7.1 0 i66 (nI t67) i76 i78, (ma 43, .inl (y 0, 8, .inl g43))]) (upd nz (12 + iz) (u2 iz)) rfl (fun f124 => (f124 0 = nI dy)) (show upd nz (12 + iz) (u2 iz) 0 = nI dy by rw [pk_un (by omega)]; exact hn_) ?_
        rintro f124 xh125
        refine j_ws (ws' := [(ma 48, .inl (y 0, 224, .inl g48)), (ma 46, .inl (y 0, 108, .inl g46)), (ma 62, .inl (y 0, 63, .inl f124)), (ma 63, .inl (y 0, 9, .inl u2)), (ma 45, .inl (y 0, 14, .inl g45)), (ma 50, .inl (y 0, 3200, .inl g50)), (ma 55, .inl (y 2, 16, .inl g55)), (ma 56, .inl (y 0, 16, .inl g56)), (ma 57, .inl (y 0, 16, .inl g57)), (ma 58, .inl (y 0, 16, .inl g58)), (ma 60, .inl (y 1, 1700, .inr (.inl u7.2))), MB mo ma (nI t1) i2 i3 i4 i5 i6 i7 i8 i42 i49 i51 i53 i54 i59 u7.1 0 i66 (nI t67) i76 i78, (ma 43, .inl (y 0, 8, .inl g43))]) rfl ?_
        have xh125 : f124 0 = nI dy := xh125
        refine j_aload_n (pc := 124) C d_Model_goesBy_124 rfl 6 rfl ?_
        refine j_get (pc := 125) C gf_Model_158 11 rfl rfl d_Model_goesBy_125 ?_
        refine j_bipush (pc := 128) C (v := 21) d_Model_goesBy_128 (by decide) ?_
        refine j_iload (pc := 130) C d_Model_goesBy_130 0 rfl ?_
        refine j_iadd (pc := 132) C (v := nI (21 + iz)) d_Model_goesBy_132 (nI_add _ _) ?_
        refine j_dup2 (pc := 133) C d_Model_goesBy_133 rfl rfl ?_
        refine j_iald (pc := 134) C 2 rfl (v := f124 (21 + iz)) (vp_in_nI (by omega) (by decide)) (by rw [nI_clamp (by omega)]) d_Model_goesBy_134 ?_
        refine j_aload_n (pc := 135) C d_Model_goesBy_135 rfl 6 rfl ?_
        refine j_get (pc := 136) C gf_Model_161 11 rfl rfl d_Model_goesBy_136 ?_
        refine j_iload (pc := 139) C d_Model_goesBy_139 0 rfl ?_
        refine j_iald (pc := 141) C 3 rfl (v := u2 iz) (vp_in_nI (by omega) (by decide)) (by rw [nI_clamp (by omega)]) d_Model_goesBy_141 ?_
        refine j_iadd (pc := 142) C (v := (f124 (21 + iz)) + (u2 iz)) d_Model_goesBy_142 rfl ?_
        refine j_anyI (fun v126 => ?_)
        refine j_iast (pc := 143) C 2 rfl (ws' := [(ma 48, .inl (y 0, 224, .inl g48)), (ma 46, .inl (y 0, 108, .inl g46)), (ma 62, .inl (y 0, 63, .inl (upd f124 (21 + iz) v126))), (ma 63, .inl (y 0, 9, .inl u2)), (ma 45, .inl (y 0, 14, .inl g45)), (ma 50, .inl (y 0, 3200, .inl g50)), (ma 55, .inl (y 2, 16, .inl g55)), (ma 56, .inl (y 0, 16, .inl g56)), (ma 57, .inl (y 0, 16, .inl g57)), (ma 58, .inl (y 0, 16, .inl g58)), (ma 60, .inl (y 1, 1700, .inr (.inl u7.2))), MB mo ma (nI t1) i2 i3 i4 i5 i6 i7 i8 i42 i49 i51 i53 i54 i59 u7.1 0 i66 (nI t67) i76 i78, (ma 43, .inl (y 0, 8, .inl g43))]) (vp_in_nI (by omega) (by decide)) (by rw [nI_clamp (by omega)]; rfl) d_Model_goesBy_143 ?_
        refine j_genW (fun f127 => [(ma 48, .inl (y 0, 224, .inl g48)), (ma 46, .inl (y 0, 108, .inl g46)), (ma 62, .inl (y 0, 63, .inl f127)), (ma 63, .inl (y 0, 9, .inl u2)), (ma 45, .inl (y 0, 14, .inl g45)), (ma 50, .inl (y 0, 3200, .inl g50)), (ma 55, .inl (y 2, 16, .inl g55)), (ma 56, .inl (y 0, 16, .inl g56)), (ma 57, .inl (y 0, 16, .inl g57)), (ma 58, .inl (y 0, 16, .inl g58)), (ma 60, .inl (y 1, 1700, .inr (.inl u7.2))), MB mo ma (nI t1) i2 i3 i4 i5 i6 i7 i8 i42 i49 i51 i53 i54 i59 u7.1 0 i66 (nI t67) i76 i78, (ma 43, .inl (y 0, 8, .inl g43))]) (upd f124 (21 + iz) v126) rfl (fun f127 => (f127 0 = nI dy)) (show upd f124 (21 + iz) v126 0 = nI dy by rw [pk_un (by omega)]; exact xh125) ?_
        rintro f127 xh128
        refine j_ws (ws' := [(ma 48, .inl (y 0, 224, .inl g48)), (ma 46, .inl (y 0, 108, .inl g46)), (ma 62, .inl (y 0, 63, .inl f127)), (ma 63, .inl (y 0, 9, .inl u2)), (ma 45, .inl (y 0, 14, .inl g45)), (ma 50, .inl (y 0, 3200, .inl g50)), (ma 55, .inl (y 2, 16, .inl g55)), (ma 56, .inl (y 0, 16, .inl g56)), (ma 57, .inl (y 0, 16, .inl g57)), (ma 58, .inl (y 0, 16, .inl g58)), (ma 60, .inl (y 1, 1700, .inr (.inl u7.2))), MB mo ma (nI t1) i2 i3 i4 i5 i6 i7 i8 i42 i49 i51 i53 i54 i59 u7.1 0 i66 (nI t67) i76 i78, (ma 43, .inl (y 0, 8, .inl g43))]) rfl ?_
        have xh128 : f127 0 = nI dy := xh128
        refine j_aload_n (pc := 144) C d_Model_goesBy_144 rfl 6 rfl ?_
        refine j_get (pc := 145) C gf_Model_158 11 rfl rfl d_Model_goesBy_145 ?_
        refine j_bipush (pc := 148) C (v := 33) d_Model_goesBy_148 (by decide) ?_
        refine j_dup2 (pc := 150) C d_Model_goesBy_150 rfl rfl ?_
        refine j_iald (pc := 151) C 2 rfl (v := f127 33) (vin (by decide)) rfl d_Model_goesBy_151 ?_
        refine j_aload_n (pc := 152) C d_Model_goesBy_152 rfl 6 rfl ?_
        refine j_get (pc := 153) C gf_Model_161 11 rfl rfl d_Model_goesBy_153 ?_
        refine j_iload (pc := 156) C d_Model_goesBy_156 0 rfl ?_
        refine j_iald (pc := 158) C 3 rfl (v := u2 iz) (vp_in_nI (by omega) (by decide)) (by rw [nI_clamp (by omega)]) d_Model_goesBy_158 ?_
        refine j_iadd (pc := 159) C (v := (f127 33) + (u2 iz)) d_Model_goesBy_159 rfl ?_
        refine j_iast (pc := 160) C 2 rfl (ws' := [(ma 48, .inl (y 0, 224, .inl g48)), (ma 46, .inl (y 0, 108, .inl g46)), (ma 62, .inl (y 0, 63, .inl (upd f127 33 ((f127 33) + (u2 iz))))), (ma 63, .inl (y 0, 9, .inl u2)), (ma 45, .inl (y 0, 14, .inl g45)), (ma 50, .inl (y 0, 3200, .inl g50)), (ma 55, .inl (y 2, 16, .inl g55)), (ma 56, .inl (y 0, 16, .inl g56)), (ma 57, .inl (y 0, 16, .inl g57)), (ma 58, .inl (y 0, 16, .inl g58)), (ma 60, .inl (y 1, 1700, .inr (.inl u7.2))), MB mo ma (nI t1) i2 i3 i4 i5 i6 i7 i8 i42 i49 i51 i53 i54 i59 u7.1 0 i66 (nI t67) i76 i78, (ma 43, .inl (y 0, 8, .inl g43))]) (vin (by decide)) rfl d_Model_goesBy_160 ?_
        refine j_genW (fun f129 => [(ma 48, .inl (y 0, 224, .inl g48)), (ma 46, .inl (y 0, 108, .inl g46)), (ma 62, .inl (y 0, 63, .inl f129)), (ma 63, .inl (y 0, 9, .inl u2)), (ma 45, .inl (y 0, 14, .inl g45)), (ma 50, .inl (y 0, 3200, .inl g50)), (ma 55, .inl (y 2, 16, .inl g55)), (ma 56, .inl (y 0, 16, .inl g56)), (ma 57, .inl (y 0, 16, .inl g57)), (ma 58, .inl (y 0, 16, .inl g58)), (ma 60, .inl (y 1, 1700, .inr (.inl u7.2))), MB mo ma (nI t1) i2 i3 i4 i5 i6 i7 i8 i42 i49 i51 i53 i54 i59 u7.1 0 i66 (nI t67) i76 i78, (ma 43, .inl (y 0, 8, .inl g43))]) (upd f127 33 ((f127 33) + (u2 iz))) rfl (fun f129 => (f129 0 = nI dy)) (show upd f127 33 ((f127 33) + (u2 iz)) 0 = nI dy by rw [pk_un (by omega)]; exact xh128) ?_
        rintro f129 xh130
        refine j_ws (ws' := [(ma 48, .inl (y 0, 224, .inl g48)), (ma 46, .inl (y 0, 108, .inl g46)), (ma 62, .inl (y 0, 63, .inl f129)), (ma 63, .inl (y 0, 9, .inl u2)), (ma 45, .inl (y 0, 14, .inl g45)), (ma 50, .inl (y 0, 3200, .inl g50)), (ma 55, .inl (y 2, 16, .inl g55)), (ma 56, .inl (y 0, 16, .inl g56)), (ma 57, .inl (y 0, 16, .inl g57)), (ma 58, .inl (y 0, 16, .inl g58)), (ma 60, .inl (y 1, 1700, .inr (.inl u7.2))), MB mo ma (nI t1) i2 i3 i4 i5 i6 i7 i8 i42 i49 i51 i53 i54 i59 u7.1 0 i66 (nI t67) i76 i78, (ma 43, .inl (y 0, 8, .inl g43))]) rfl ?_
        have xh130 : f129 0 = nI dy := xh130
        refine j_iinc (pc := 161) C (v := nI (iz + 1)) (lv' := [(7, .int (nI (iz + 1))), (6, .int r6), (5, .int ((r1 + (r3 + v)) - 0)), (4, .int (r1 + (r3 + v))), (3, .int (r3 + v)), (2, .int r1), (0, .ref mo), (1, .int v)]) d_Model_goesBy_161 0 rfl (nI_add _ _) (by decide) rfl ?_
        refine j_goto (pc := 164) C (tgt := 98) d_Model_goesBy_164 (by decide) ?_
        refine j_sub (ws' := [(ma 48, .inl (y 0, 224, .inl g48)), (ma 46, .inl (y 0, 108, .inl g46)), (ma 62, .inl (y 0, 63, .inl f129)), (ma 63, .inl (y 0, 9, .inl u2)), MB mo ma (nI t1) i2 i3 i4 i5 i6 i7 i8 i42 i49 i51 i53 i54 i59 u7.1 0 i66 (nI t67) i76 i78, (ma 43, .inl (y 0, 8, .inl g43)), (ma 45, .inl (y 0, 14, .inl g45)), (ma 50, .inl (y 0, 3200, .inl g50)), (ma 55, .inl (y 2, 16, .inl g55)), (ma 56, .inl (y 0, 16, .inl g56)), (ma 57, .inl (y 0, 16, .inl g57)), (ma 58, .inl (y 0, 16, .inl g58)), (ma 60, .inl (y 1, 1700, .inr (.inl u7.2)))]) [0, 1, 2, 3, 11, 12, 4, 5, 6, 7, 8, 9, 10] rfl (by decide +kernel) ?_
        exact ih101 ((iz + 1), f129) ⟨(show (iz + 1) ≤ c0 by omega), xh130⟩ (show c0 - (iz + 1) < c0 - iz by omega)
  · refine j_iload (pc := 38) C d_Model_goesBy_38 0 rfl ?_
    refine j_aload_n (pc := 40) C d_Model_goesBy_40 rfl 3 rfl ?_
    refine j_get (pc := 41) C gf_Model_124 4 rfl rfl d_Model_goesBy_41 ?_
    refine j_bipush (pc := 44) C (v := 8) d_Model_goesBy_44 (by decide) ?_
    refine j_iald (pc := 46) C 6 rfl (v := g45 8) (vin (by decide)) rfl d_Model_goesBy_46 ?_
    refine j_isub (pc := 47) C (v := (r1 + (r3 + v)) - (g45 8)) d_Model_goesBy_47 rfl ?_
    refine j_anyI (fun v131 => ?_)
    refine j_goto (pc := 48) C (tgt := 52) d_Model_goesBy_48 (by decide) ?_
    refine j_put (pc := 52) C pf_Model_441 4 (ws' := [(ma 48, .inl (y 0, 224, .inl g48)), (ma 46, .inl (y 0, 108, .inl g46)), (ma 62, .inl (y 0, 63, .inl g62)), (ma 63, .inl (y 0, 9, .inl u2)), MB mo ma (nI t1) i2 i3 i4 i5 i6 i7 i8 i42 i49 i51 i53 i54 i59 u4.1 v131 i66 (nI t67) i76 i78, (ma 43, .inl (y 0, 8, .inl g43)), (ma 45, .inl (y 0, 14, .inl g45)), (ma 50, .inl (y 0, 3200, .inl g50)), (ma 55, .inl (y 2, 16, .inl g55)), (ma 56, .inl (y 0, 16, .inl g56)), (ma 57, .inl (y 0, 16, .inl g57)), (ma 58, .inl (y 0, 16, .inl g58)), (ma 60, .inl (y 1, 1700, .inr (.inl u4.2)))]) rfl rfl rfl (nl rfl) rfl d_Model_goesBy_52 ?_
    refine j_iload (pc := 55) C d_Model_goesBy_55 0 rfl ?_
    refine j_aload_n (pc := 57) C d_Model_goesBy_57 rfl 3 rfl ?_
    refine j_get (pc := 58) C gf_Model_441 4 rfl rfl d_Model_goesBy_58 ?_
    refine j_isub (pc := 61) C (v := (r1 + (r3 + v)) - v131) d_Model_goesBy_61 rfl ?_
    refine j_istore (pc := 62) C (lv' := [(5, .int ((r1 + (r3 + v)) - v131)), (4, .int (r1 + (r3 + v))), (3, .int (r3 + v)), (2, .int r1), (0, .ref mo), (1, .int v)]) d_Model_goesBy_62 (by decide) rfl ?_
    refine j_aload_n (pc := 64) C d_Model_goesBy_64 rfl 4 rfl ?_
    refine j_aload_n (pc := 65) C d_Model_goesBy_65 rfl 4 rfl ?_
    refine j_get (pc := 66) C gf_Model_158 4 rfl rfl d_Model_goesBy_66 ?_
    refine j_iconst (pc := 69) C (v := 0) d_Model_goesBy_69 (by decide) ?_
    refine j_iald (pc := 70) C 2 rfl (v := nI dy) (vin (by decide)) (by exact hD) d_Model_goesBy_70 ?_
    refine j_iload (pc := 71) C d_Model_goesBy_71 0 rfl ?_
    refine j_iconst (pc := 73) C (v := 1) d_Model_goesBy_73 (by decide) ?_
    refine j_callVi (pc := 74) C (c_M_weatherOf l D y mo ma t1 i2 i3 i4 i5 i6 i7 i8 i42 i49 i51 i53 i54 i59 u4.1 v131 i66 t67 i76 i78 g43 g45 g50 g55 g56 g57 g58 u4.2 (nI dy) ((r1 + (r3 + v)) - v131) 1 c3 hc3 bc3 hL hC) kw_Model_437 kv_Model_weatherOf 0 10 rfl rfl ⟨by decide, by decide⟩ ⟨by decide, by decide⟩ (wr := [(ma 48, .inl (y 0, 224, .inl g48)), (ma 46, .inl (y 0, 108, .inl g46)), (ma 62, .inl (y 0, 63, .inl g62)), (ma 63, .inl (y 0, 9, .inl u2))]) [4, 5, 6, 7, 8, 9, 10, 11, 12] [0, 1, 2, 3] rfl rfl (by decide +kernel) (by decide +kernel) (by decide +kernel) (As := [.int (nI dy), .int ((r1 + (r3 + v)) - v131), .int 1]) (rest := []) rfl (nb rfl) rfl d_Model_goesBy_74 (fun r132 u133 hr132 => ?_)
    refine j_ws (ws' := [(ma 48, .inl (y 0, 224, .inl g48)), (ma 46, .inl (y 0, 108, .inl g46)), (ma 62, .inl (y 0, 63, .inl g62)), (ma 63, .inl (y 0, 9, .inl u2)), MB mo ma (nI t1) i2 i3 i4 i5 i6 i7 i8 i42 i49 i51 i53 i54 i59 u133.1 v131 i66 (nI t67) i76 i78, (ma 43, .inl (y 0, 8, .inl g43)), (ma 45, .inl (y 0, 14, .inl g45)), (ma 50, .inl (y 0, 3200, .inl g50)), (ma 55, .inl (y 2, 16, .inl g55)), (ma 56, .inl (y 0, 16, .inl g56)), (ma 57, .inl (y 0, 16, .inl g57)), (ma 58, .inl (y 0, 16, .inl g58)), (ma 60, .inl (y 1, 1700, .inr (.inl u133.2)))]) rfl ?_
    refine j_istore (pc := 77) C (lv' := [(6, .int r132), (5, .int ((r1 + (r3 + v)) - v131)), (4, .int (r1 + (r3 + v))), (3, .int (r3 + v)), (2, .int r1), (0, .ref mo), (1, .int v)]) d_Model_goesBy_77 (by decide) rfl ?_
    refine j_iload (pc := 79) C d_Model_goesBy_79 0 rfl ?_
    refine j_iload (pc := 81) C d_Model_goesBy_81 1 rfl ?_
    refine j_icmp_ge (pc := 83) C (tgt := 91) d_Model_goesBy_83 (by decide) (fun c134 => ?_) (fun c134 => ?_)
    · refine j_iload (pc := 91) C d_Model_goesBy_91 1 rfl ?_
      refine j_istore (pc := 93) C (lv' := [(6, .int ((r1 + (r3 + v)) - v131)), (5, .int ((r1 + (r3 + v)) - v131)), (4, .int (r1 + (r3 + v))), (3, .int (r3 + v)), (2, .int r1), (0, .ref mo), (1, .int v)]) d_Model_goesBy_93 (by decide) rfl ?_
      refine j_iconst (pc := 95) C (v := 0) d_Model_goesBy_95 (by decide) ?_
      refine j_istore (pc := 96) C (lv' := [(7, .int 0), (6, .int ((r1 + (r3 + v)) - v131)), (5, .int ((r1 + (r3 + v)) - v131)), (4, .int (r1 + (r3 + v))), (3, .int (r3 + v)), (2, .int r1), (0, .ref mo), (1, .int v)]) d_Model_goesBy_96 (by decide) rfl ?_
      refine j_loop (α := Nat × (Nat → Int32)) (fun a => c0 - a.1) (fun a => (a.1 ≤ c0) ∧ (a.2 0 = nI dy)) (fun a => [(ma 48, .inl (y 0, 224, .inl g48)), (ma 46, .inl (y 0, 108, .inl g46)), (ma 62, .inl (y 0, 63, .inl a.2)), (ma 63, .inl (y 0, 9, .inl u2)), MB mo ma (nI t1) i2 i3 i4 i5 i6 i7 i8 i42 i49 i51 i53 i54 i59 u133.1 v131 i66 (nI t67) i76 i78, (ma 43, .inl (y 0, 8, .inl g43)), (ma 45, .inl (y 0, 14, .inl g45)), (ma 50, .inl (y 0, 3200, .inl g50)), (ma 55, .inl (y 2, 16, .inl g55)), (ma 56, .inl (y 0, 16, .inl g56)), (ma 57, .inl (y 0, 16, .inl g57)), (ma 58, .inl (y 0, 16, .inl g58)), (ma 60, .inl (y 1, 1700, .inr (.inl u133.2)))]) (fun a => [(7, .int (nI a.1)), (6, .int ((r1 + (r3 + v)) - v131)), (5, .int ((r1 + (r3 + v)) - v131)), (4, .int (r1 + (r3 + v))), (3, .int (r3 + v)), (2, .int r1), (0, .ref mo), (1, .int v)]) (0, g62) rfl rfl ⟨(show 0 ≤ c0 by omega), hD⟩ ?_
      rintro ⟨iz, nz⟩ hP165 ih166
      obtain ⟨hi__, hn__⟩ := hP165
      have hi_ : iz ≤ c0 := hi__
      have hn_ : nz 0 = nI dy := hn__
      refine j_ws (ws' := [(ma 48, .inl (y 0, 224, .inl g48)), (ma 46, .inl (y 0, 108, .inl g46)), (ma 62, .inl (y 0, 63, .inl nz)), (ma 63, .inl (y 0, 9, .inl u2)), MB mo ma (nI t1) i2 i3 i4 i5 i6 i7 i8 i42 i49 i51 i53 i54 i59 u133.1 v131 i66 (nI t67) i76 i78, (ma 43, .inl (y 0, 8, .inl g43)), (ma 45, .inl (y 0, 14, .inl g45)), (ma 50, .inl (y 0, 3200, .inl g50)), (ma 55, .inl (y 2, 16, .inl g55)), (ma 56, .inl (y 0, 16, .inl g56)), (ma 57, .inl (y 0, 16, .inl g57)), (ma 58, .inl (y 0, 16, .inl g58)), (ma 60, .inl (y 1, 1700, .inr (.inl u133.2)))]) rfl ?_
      refine j_lv (lv' := [(7, .int (nI iz)), (6, .int ((r1 + (r3 + v)) - v131)), (5, .int ((r1 + (r3 + v)) - v131)), (4, .int (r1 + (r3 + v))), (3, .int (r3 + v)), (2, .int r1), (0, .ref mo), (1, .int v)]) rfl ?_
      refine j_iload (pc := 98) C d_Model_goesBy_98 0 rfl ?_
      refine j_aload_n (pc := 100) C d_Model_goesBy_100 rfl 6 rfl ?_
      refine j_callVi (pc := 101) C (c_M_gateMany l D y mo ma t1 i2 i3 i4 i5 i6 i7 i8 i42 i49 i51 i53 i54 i59 u133.1 v131 i66 t67 i76 i78 g43 c0 hc0 bc0) kw_Model_341 kv_Model_gateMany 0 10 rfl rfl ⟨by decide, by decide⟩ ⟨by decide, by decide⟩ (wr := [(ma 48, .inl (y 0, 224, .inl g48)), (ma 46, .inl (y 0, 108, .inl g46)), (ma 62, .inl (y 0, 63, .inl nz)), (ma 63, .inl (y 0, 9, .inl u2)), (ma 45, .inl (y 0, 14, .inl g45)), (ma 50, .inl (y 0, 3200, .inl g50)), (ma 55, .inl (y 2, 16, .inl g55)), (ma 56, .inl (y 0, 16, .inl g56)), (ma 57, .inl (y 0, 16, .inl g57)), (ma 58, .inl (y 0, 16, .inl g58)), (ma 60, .inl (y 1, 1700, .inr (.inl u133.2)))]) [4, 5] [0, 1, 2, 3, 6, 7, 8, 9, 10, 11, 12] rfl rfl (by decide +kernel) (by decide +kernel) (by decide +kernel) (As := []) (rest := [.int (nI iz)]) rfl (nb rfl) rfl d_Model_goesBy_101 (fun r167 _ hr167 => ?_)
      obtain rfl := hr167
      refine j_ws (ws' := [(ma 48, .inl (y 0, 224, .inl g48)), (ma 46, .inl (y 0, 108, .inl g46)), (ma 62, .inl (y 0, 63, .inl nz)), (ma 63, .inl (y 0, 9, .inl u2)), (ma 45, .inl (y 0, 14, .inl g45)), (ma 50, .inl (y 0, 3200, .inl g50)), (ma 55, .inl (y 2, 16, .inl g55)), (ma 56, .inl (y 0, 16, .inl g56)), (ma 57, .inl (y 0, 16, .inl g57)), (ma 58, .inl (y 0, 16, .inl g58)), (ma 60, .inl (y 1, 1700, .inr (.inl u133.2))), MB mo ma (nI t1) i2 i3 i4 i5 i6 i7 i8 i42 i49 i51 i53 i54 i59 u133.1 v131 i66 (nI t67) i76 i78, (ma 43, .inl (y 0, 8, .inl g43))]) rfl ?_
      by_cases c168 : c0 ≤ iz
      · refine j_icmp_geT (pc := 104) C (tgt := 167) d_Model_goesBy_104 (by decide) (show nI c0 ≤ nI iz from nI_le (by omega) (by omega)) ?_
        refine j_aload_n (pc := 167) C d_Model_goesBy_167 rfl 6 rfl ?_
        refine j_get (pc := 168) C gf_Model_158 11 rfl rfl d_Model_goesBy_168 ?_
        refine j_bipush (pc := 171) C (v := 31) d_Model_goesBy_171 (by decide) ?_
        refine j_dup2 (pc := 173) C d_Model_goesBy_173 rfl rfl ?_
        refine j_iald (pc := 174) C 2 rfl (v := nz 31) (vin (by decide)) rfl d_Model_goesBy_174 ?_
        refine j_iload_n (pc := 175) C d_Model_goesBy_175 rfl 4 rfl ?_
        refine j_iadd (pc := 176) C (v := (nz 31) + (r3 + v)) d_Model_goesBy_176 rfl ?_
        refine j_iast (pc := 177) C 2 rfl (ws' := [(ma 48, .inl (y 0, 224, .inl g48)), (ma 46, .inl (y 0, 108, .inl g46)), (ma 62, .inl (y 0, 63, .inl (upd nz 31 ((nz 31) + (r3 + v))))), (ma 63, .inl (y 0, 9, .inl u2)), (ma 45, .inl (y 0, 14, .inl g45)), (ma 50, .inl (y 0, 3200, .inl g50)), (ma 55, .inl (y 2, 16, .inl g55)), (ma 56, .inl (y 0, 16, .inl g56)), (ma 57, .inl (y 0, 16, .inl g57)), (ma 58, .inl (y 0, 16, .inl g58)), (ma 60, .inl (y 1, 1700, .inr (.inl u133.2))), MB mo ma (nI t1) i2 i3 i4 i5 i6 i7 i8 i42 i49 i51 i53 i54 i59 u133.1 v131 i66 (nI t67) i76 i78, (ma 43, .inl (y 0, 8, .inl g43))]) (vin (by decide)) rfl d_Model_goesBy_177 ?_
        refine j_genW (fun f169 => [(ma 48, .inl (y 0, 224, .inl g48)), (ma 46, .inl (y 0, 108, .inl g46)), (ma 62, .inl (y 0, 63, .inl f169)), (ma 63, .inl (y 0, 9, .inl u2)), (ma 45, .inl (y 0, 14, .inl g45)), (ma 50, .inl (y 0, 3200, .inl g50)), (ma 55, .inl (y 2, 16, .inl g55)), (ma 56, .inl (y 0, 16, .inl g56)), (ma 57, .inl (y 0, 16, .inl g57)), (ma 58, .inl (y 0, 16, .inl g58)), (ma 60, .inl (y 1, 1700, .inr (.inl u133.2))), MB mo ma (nI t1) i2 i3 i4 i5 i6 i7 i8 i42 i49 i51 i53 i54 i59 u133.1 v131 i66 (nI t67) i76 i78, (ma 43, .inl (y 0, 8, .inl g43))]) (upd nz 31 ((nz 31) + (r3 + v))) rfl (fun f169 => (f169 0 = nI dy)) (show upd nz 31 ((nz 31) + (r3 + v)) 0 = nI dy by rw [pk_un (by omega)]; exact hn_) ?_
        rintro f169 xh170
        refine j_ws (ws' := [(ma 48, .inl (y 0, 224, .inl g48)), (ma 46, .inl (y 0, 108, .inl g46)), (ma 62, .inl (y 0, 63, .inl f169)), (ma 63, .inl (y 0, 9, .inl u2)), (ma 45, .inl (y 0, 14, .inl g45)), (ma 50, .inl (y 0, 3200, .inl g50)), (ma 55, .inl (y 2, 16, .inl g55)), (ma 56, .inl (y 0, 16, .inl g56)), (ma 57, .inl (y 0, 16, .inl g57)), (ma 58, .inl (y 0, 16, .inl g58)), (ma 60, .inl (y 1, 1700, .inr (.inl u133.2))), MB mo ma (nI t1) i2 i3 i4 i5 i6 i7 i8 i42 i49 i51 i53 i54 i59 u133.1 v131 i66 (nI t67) i76 i78, (ma 43, .inl (y 0, 8, .inl g43))]) rfl ?_
        have xh170 : f169 0 = nI dy := xh170
        refine j_aload_n (pc := 178) C d_Model_goesBy_178 rfl 6 rfl ?_
        refine j_get (pc := 179) C gf_Model_158 11 rfl rfl d_Model_goesBy_179 ?_
        refine j_bipush (pc := 182) C (v := 32) d_Model_goesBy_182 (by decide) ?_
        refine j_dup2 (pc := 184) C d_Model_goesBy_184 rfl rfl ?_
        refine j_iald (pc := 185) C 2 rfl (v := f169 32) (vin (by decide)) rfl d_Model_goesBy_185 ?_
        refine j_aload_n (pc := 186) C d_Model_goesBy_186 rfl 6 rfl ?_
        refine j_get (pc := 187) C gf_Model_441 11 rfl rfl d_Model_goesBy_187 ?_
        refine j_iadd (pc := 190) C (v := (f169 32) + v131) d_Model_goesBy_190 rfl ?_
        refine j_iast (pc := 191) C 2 rfl (ws' := [(ma 48, .inl (y 0, 224, .inl g48)), (ma 46, .inl (y 0, 108, .inl g46)), (ma 62, .inl (y 0, 63, .inl (upd f169 32 ((f169 32) + v131)))), (ma 63, .inl (y 0, 9, .inl u2)), (ma 45, .inl (y 0, 14, .inl g45)), (ma 50, .inl (y 0, 3200, .inl g50)), (ma 55, .inl (y 2, 16, .inl g55)), (ma 56, .inl (y 0, 16, .inl g56)), (ma 57, .inl (y 0, 16, .inl g57)), (ma 58, .inl (y 0, 16, .inl g58)), (ma 60, .inl (y 1, 1700, .inr (.inl u133.2))), MB mo ma (nI t1) i2 i3 i4 i5 i6 i7 i8 i42 i49 i51 i53 i54 i59 u133.1 v131 i66 (nI t67) i76 i78, (ma 43, .inl (y 0, 8, .inl g43))]) (vin (by decide)) rfl d_Model_goesBy_191 ?_
        refine j_genW (fun f171 => [(ma 48, .inl (y 0, 224, .inl g48)), (ma 46, .inl (y 0, 108, .inl g46)), (ma 62, .inl (y 0, 63, .inl f171)), (ma 63, .inl (y 0, 9, .inl u2)), (ma 45, .inl (y 0, 14, .inl g45)), (ma 50, .inl (y 0, 3200, .inl g50)), (ma 55, .inl (y 2, 16, .inl g55)), (ma 56, .inl (y 0, 16, .inl g56)), (ma 57, .inl (y 0, 16, .inl g57)), (ma 58, .inl (y 0, 16, .inl g58)), (ma 60, .inl (y 1, 1700, .inr (.inl u133.2))), MB mo ma (nI t1) i2 i3 i4 i5 i6 i7 i8 i42 i49 i51 i53 i54 i59 u133.1 v131 i66 (nI t67) i76 i78, (ma 43, .inl (y 0, 8, .inl g43))]) (upd f169 32 ((f169 32) + v131)) rfl (fun f171 => (f171 0 = nI dy)) (show upd f169 32 ((f169 32) + v131) 0 = nI dy by rw [pk_un (by omega)]; exact xh170) ?_
        rintro f171 xh172
        refine j_ws (ws' := [(ma 48, .inl (y 0, 224, .inl g48)), (ma 46, .inl (y 0, 108, .inl g46)), (ma 62, .inl (y 0, 63, .inl f171)), (ma 63, .inl (y 0, 9, .inl u2)), (ma 45, .inl (y 0, 14, .inl g45)), (ma 50, .inl (y 0, 3200, .inl g50)), (ma 55, .inl (y 2, 16, .inl g55)), (ma 56, .inl (y 0, 16, .inl g56)), (ma 57, .inl (y 0, 16, .inl g57)), (ma 58, .inl (y 0, 16, .inl g58)), (ma 60, .inl (y 1, 1700, .inr (.inl u133.2))), MB mo ma (nI t1) i2 i3 i4 i5 i6 i7 i8 i42 i49 i51 i53 i54 i59 u133.1 v131 i66 (nI t67) i76 i78, (ma 43, .inl (y 0, 8, .inl g43))]) rfl ?_
        have xh172 : f171 0 = nI dy := xh172
        refine j_aload_n (pc := 192) C d_Model_goesBy_192 rfl 6 rfl ?_
        refine j_get (pc := 193) C gf_Model_158 11 rfl rfl d_Model_goesBy_193 ?_
        refine j_bipush (pc := 196) C (v := 34) d_Model_goesBy_196 (by decide) ?_
        refine j_dup2 (pc := 198) C d_Model_goesBy_198 rfl rfl ?_
        refine j_iald (pc := 199) C 2 rfl (v := f171 34) (vin (by decide)) rfl d_Model_goesBy_199 ?_
        refine j_iload (pc := 200) C d_Model_goesBy_200 1 rfl ?_
        refine j_iadd (pc := 202) C (v := (f171 34) + ((r1 + (r3 + v)) - v131)) d_Model_goesBy_202 rfl ?_
        refine j_anyI (fun v173 => ?_)
        refine j_iast (pc := 203) C 2 rfl (ws' := [(ma 48, .inl (y 0, 224, .inl g48)), (ma 46, .inl (y 0, 108, .inl g46)), (ma 62, .inl (y 0, 63, .inl (upd f171 34 v173))), (ma 63, .inl (y 0, 9, .inl u2)), (ma 45, .inl (y 0, 14, .inl g45)), (ma 50, .inl (y 0, 3200, .inl g50)), (ma 55, .inl (y 2, 16, .inl g55)), (ma 56, .inl (y 0, 16, .inl g56)), (ma 57, .inl (y 0, 16, .inl g57)), (ma 58, .inl (y 0, 16, .inl g58)), (ma 60, .inl (y 1, 1700, .inr (.inl u133.2))), MB mo ma (nI t1) i2 i3 i4 i5 i6 i7 i8 i42 i49 i51 i53 i54 i59 u133.1 v131 i66 (nI t67) i76 i78, (ma 43, .inl (y 0, 8, .inl g43))]) (vin (by decide)) rfl d_Model_goesBy_203 ?_
        refine j_genW (fun f174 => [(ma 48, .inl (y 0, 224, .inl g48)), (ma 46, .inl (y 0, 108, .inl g46)), (ma 62, .inl (y 0, 63, .inl f174)), (ma 63, .inl (y 0, 9, .inl u2)), (ma 45, .inl (y 0, 14, .inl g45)), (ma 50, .inl (y 0, 3200, .inl g50)), (ma 55, .inl (y 2, 16, .inl g55)), (ma 56, .inl (y 0, 16, .inl g56)), (ma 57, .inl (y 0, 16, .inl g57)), (ma 58, .inl (y 0, 16, .inl g58)), (ma 60, .inl (y 1, 1700, .inr (.inl u133.2))), MB mo ma (nI t1) i2 i3 i4 i5 i6 i7 i8 i42 i49 i51 i53 i54 i59 u133.1 v131 i66 (nI t67) i76 i78, (ma 43, .inl (y 0, 8, .inl g43))]) (upd f171 34 v173) rfl (fun f174 => (f174 0 = nI dy)) (show upd f171 34 v173 0 = nI dy by rw [pk_un (by omega)]; exact xh172) ?_
        rintro f174 xh175
        refine j_ws (ws' := [(ma 48, .inl (y 0, 224, .inl g48)), (ma 46, .inl (y 0, 108, .inl g46)), (ma 62, .inl (y 0, 63, .inl f174)), (ma 63, .inl (y 0, 9, .inl u2)), (ma 45, .inl (y 0, 14, .inl g45)), (ma 50, .inl (y 0, 3200, .inl g50)), (ma 55, .inl (y 2, 16, .inl g55)), (ma 56, .inl (y 0, 16, .inl g56)), (ma 57, .inl (y 0, 16, .inl g57)), (ma 58, .inl (y 0, 16, .inl g58)), (ma 60, .inl (y 1, 1700, .inr (.inl u133.2))), MB mo ma (nI t1) i2 i3 i4 i5 i6 i7 i8 i42 i49 i51 i53 i54 i59 u133.1 v131 i66 (nI t67) i76 i78, (ma 43, .inl (y 0, 8, .inl g43))]) rfl ?_
        have xh175 : f174 0 = nI dy := xh175
        refine j_aload_n (pc := 204) C d_Model_goesBy_204 rfl 6 rfl ?_
        refine j_get (pc := 205) C gf_Model_158 11 rfl rfl d_Model_goesBy_205 ?_
        refine j_iconst (pc := 208) C (v := 1) d_Model_goesBy_208 (by decide) ?_
        refine j_iload (pc := 209) C d_Model_goesBy_209 2 rfl ?_
        refine j_iload (pc := 211) C d_Model_goesBy_211 1 rfl ?_
        refine j_isub (pc := 213) C (v := ((r1 + (r3 + v)) - v131) - ((r1 + (r3 + v)) - v131)) d_Model_goesBy_213 rfl ?_
        refine j_anyI (fun v176 => ?_)
        refine j_iast (pc := 214) C 2 rfl (ws' := [(ma 48, .inl (y 0, 224, .inl g48)), (ma 46, .inl (y 0, 108, .inl g46)), (ma 62, .inl (y 0, 63, .inl (upd f174 1 v176))), (ma 63, .inl (y 0, 9, .inl u2)), (ma 45, .inl (y 0, 14, .inl g45)), (ma 50, .inl (y 0, 3200, .inl g50)), (ma 55, .inl (y 2, 16, .inl g55)), (ma 56, .inl (y 0, 16, .inl g56)), (ma 57, .inl (y 0, 16, .inl g57)), (ma 58, .inl (y 0, 16, .inl g58)), (ma 60, .inl (y 1, 1700, .inr (.inl u133.2))), MB mo ma (nI t1) i2 i3 i4 i5 i6 i7 i8 i42 i49 i51 i53 i54 i59 u133.1 v131 i66 (nI t67) i76 i78, (ma 43, .inl (y 0, 8, .inl g43))]) (vin (by decide)) rfl d_Model_goesBy_214 ?_
        refine j_genW (fun f177 => [(ma 48, .inl (y 0, 224, .inl g48)), (ma 46, .inl (y 0, 108, .inl g46)), (ma 62, .inl (y 0, 63, .inl f177)), (ma 63, .inl (y 0, 9, .inl u2)), (ma 45, .inl (y 0, 14, .inl g45)), (ma 50, .inl (y 0, 3200, .inl g50)), (ma 55, .inl (y 2, 16, .inl g55)), (ma 56, .inl (y 0, 16, .inl g56)), (ma 57, .inl (y 0, 16, .inl g57)), (ma 58, .inl (y 0, 16, .inl g58)), (ma 60, .inl (y 1, 1700, .inr (.inl u133.2))), MB mo ma (nI t1) i2 i3 i4 i5 i6 i7 i8 i42 i49 i51 i53 i54 i59 u133.1 v131 i66 (nI t67) i76 i78, (ma 43, .inl (y 0, 8, .inl g43))]) (upd f174 1 v176) rfl (fun f177 => (f177 0 = nI dy)) (show upd f174 1 v176 0 = nI dy by rw [pk_un (by omega)]; exact xh175) ?_
        rintro f177 xh178
        refine j_ws (ws' := [(ma 48, .inl (y 0, 224, .inl g48)), (ma 46, .inl (y 0, 108, .inl g46)), (ma 62, .inl (y 0, 63, .inl f177)), (ma 63, .inl (y 0, 9, .inl u2)), (ma 45, .inl (y 0, 14, .inl g45)), (ma 50, .inl (y 0, 3200, .inl g50)), (ma 55, .inl (y 2, 16, .inl g55)), (ma 56, .inl (y 0, 16, .inl g56)), (ma 57, .inl (y 0, 16, .inl g57)), (ma 58, .inl (y 0, 16, .inl g58)), (ma 60, .inl (y 1, 1700, .inr (.inl u133.2))), MB mo ma (nI t1) i2 i3 i4 i5 i6 i7 i8 i42 i49 i51 i53 i54 i59 u133.1 v131 i66 (nI t67) i76 i78, (ma 43, .inl (y 0, 8, .inl g43))]) rfl ?_
        have xh178 : f177 0 = nI dy := xh178
        refine j_aload_n (pc := 215) C d_Model_goesBy_215 rfl 6 rfl ?_
        refine j_iload (pc := 216) C d_Model_goesBy_216 3 rfl ?_
        refine j_aload_n (pc := 218) C d_Model_goesBy_218 rfl 6 rfl ?_
        refine j_get (pc := 219) C gf_Model_124 11 rfl rfl d_Model_goesBy_219 ?_
        refine j_bipush (pc := 222) C (v := 7) d_Model_goesBy_222 (by decide) ?_
        refine j_iald (pc := 224) C 4 rfl (v := g45 7) (vin (by decide)) rfl d_Model_goesBy_224 ?_
        refine j_idiv (pc := 225) C (v := (r1 + (r3 + v)) / (g45 7)) d_Model_goesBy_225 hL rfl ?_
        refine j_aload_n (pc := 226) C d_Model_goesBy_226 rfl 6 rfl ?_
        refine j_get (pc := 227) C gf_Model_124 11 rfl rfl d_Model_goesBy_227 ?_
        refine j_bipush (pc := 230) C (v := 12) d_Model_goesBy_230 (by decide) ?_
        refine j_iald (pc := 232) C 4 rfl (v := g45 12) (vin (by decide)) rfl d_Model_goesBy_232 ?_
        refine j_icmp_le (pc := 233) C (tgt := 240) d_Model_goesBy_233 (by decide) (fun c179 => ?_) (fun c179 => ?_)
        · refine j_iconst (pc := 240) C (v := 0) d_Model_goesBy_240 (by decide) ?_
          refine j_callVv (pc := 241) C (c_M_worths l D y mo ma t1 i2 i3 i4 i5 i6 i7 i8 i42 i49 i51 i53 i54 i59 u133.1 v131 i66 t67 i76 i78 g43 g45 g48 f177 u2 0 c1 c2 dy hc1 bc1 hc2 bc2 hL hTh xh178 bD) kw_Model_444 kv_Model_worths 0 10 rfl rfl ⟨by decide, by decide⟩ ⟨by decide, by decide⟩ (wr := [(ma 46, .inl (y 0, 108, .inl g46)), (ma 50, .inl (y 0, 3200, .inl g50)), (ma 55, .inl (y 2, 16, .inl g55)), (ma 56, .inl (y 0, 16, .inl g56)), (ma 57, .inl (y 0, 16, .inl g57)), (ma 58, .inl (y 0, 16, .inl g58)), (ma 60, .inl (y 1, 1700, .inr (.inl u133.2)))]) [11, 12, 4, 0, 2, 3] [1, 5, 6, 7, 8, 9, 10] rfl rfl (by decide +kernel) (by decide +kernel) (by decide +kernel) (As := [.int 0]) (rest := []) rfl (nb rfl) rfl d_Model_goesBy_241 (fun u180 hu181 => ?_)
          have xh182 := hu181
          refine j_ws (ws' := [(ma 46, .inl (y 0, 108, .inl g46)), (ma 50, .inl (y 0, 3200, .inl g50)), (ma 55, .inl (y 2, 16, .inl g55)), (ma 56, .inl (y 0, 16, .inl g56)), (ma 57, .inl (y 0, 16, .inl g57)), (ma 58, .inl (y 0, 16, .inl g58)), (ma 60, .inl (y 1, 1700, .inr (.inl u133.2))), MB mo ma (nI t1) i2 i3 i4 i5 i6 i7 i8 i42 i49 i51 i53 i54 i59 u133.1 v131 i66 (nI t67) i76 i78, (ma 43, .inl (y 0, 8, .inl g43)), (ma 45, .inl (y 0, 14, .inl g45)), (ma 48, .inl (y 0, 224, .inl g48)), (ma 62, .inl (y 0, 63, .inl u180)), (ma 63, .inl (y 0, 9, .inl u2))]) rfl ?_
          refine j_aload_n (pc := 244) C d_Model_goesBy_244 rfl 6 rfl ?_
          refine j_get (pc := 245) C gf_Model_158 7 rfl rfl d_Model_goesBy_245 ?_
          refine j_iconst (pc := 248) C (v := 0) d_Model_goesBy_248 (by decide) ?_
          refine j_dup2 (pc := 249) C d_Model_goesBy_249 rfl rfl ?_
          refine j_iald (pc := 250) C 11 rfl (v := nI dy) (vin (by decide)) (by exact xh182) d_Model_goesBy_250 ?_
          refine j_iconst (pc := 251) C (v := 1) d_Model_goesBy_251 (by decide) ?_
          refine j_iadd (pc := 252) C (v := nI (dy + 1)) d_Model_goesBy_252 (nI_add _ _) ?_
          refine j_iast (pc := 253) C 11 rfl (ws' := [(ma 46, .inl (y 0, 108, .inl g46)), (ma 50, .inl (y 0, 3200, .inl g50)), (ma 55, .inl (y 2, 16, .inl g55)), (ma 56, .inl (y 0, 16, .inl g56)), (ma 57, .inl (y 0, 16, .inl g57)), (ma 58, .inl (y 0, 16, .inl g58)), (ma 60, .inl (y 1, 1700, .inr (.inl u133.2))), MB mo ma (nI t1) i2 i3 i4 i5 i6 i7 i8 i42 i49 i51 i53 i54 i59 u133.1 v131 i66 (nI t67) i76 i78, (ma 43, .inl (y 0, 8, .inl g43)), (ma 45, .inl (y 0, 14, .inl g45)), (ma 48, .inl (y 0, 224, .inl g48)), (ma 62, .inl (y 0, 63, .inl (upd u180 0 (nI (dy + 1))))), (ma 63, .inl (y 0, 9, .inl u2))]) (vin (by decide)) rfl d_Model_goesBy_253 ?_
          refine j_genW (fun f183 => [(ma 46, .inl (y 0, 108, .inl g46)), (ma 50, .inl (y 0, 3200, .inl g50)), (ma 55, .inl (y 2, 16, .inl g55)), (ma 56, .inl (y 0, 16, .inl g56)), (ma 57, .inl (y 0, 16, .inl g57)), (ma 58, .inl (y 0, 16, .inl g58)), (ma 60, .inl (y 1, 1700, .inr (.inl u133.2))), MB mo ma (nI t1) i2 i3 i4 i5 i6 i7 i8 i42 i49 i51 i53 i54 i59 u133.1 v131 i66 (nI t67) i76 i78, (ma 43, .inl (y 0, 8, .inl g43)), (ma 45, .inl (y 0, 14, .inl g45)), (ma 48, .inl (y 0, 224, .inl g48)), (ma 62, .inl (y 0, 63, .inl f183)), (ma 63, .inl (y 0, 9, .inl u2))]) (upd u180 0 (nI (dy + 1))) rfl (fun f183 => (f183 0 = nI (dy + 1))) (show upd u180 0 (nI (dy + 1)) 0 = nI (dy + 1) from pk_us) ?_
          rintro f183 xh184
          refine j_ws (ws' := [(ma 46, .inl (y 0, 108, .inl g46)), (ma 50, .inl (y 0, 3200, .inl g50)), (ma 55, .inl (y 2, 16, .inl g55)), (ma 56, .inl (y 0, 16, .inl g56)), (ma 57, .inl (y 0, 16, .inl g57)), (ma 58, .inl (y 0, 16, .inl g58)), (ma 60, .inl (y 1, 1700, .inr (.inl u133.2))), MB mo ma (nI t1) i2 i3 i4 i5 i6 i7 i8 i42 i49 i51 i53 i54 i59 u133.1 v131 i66 (nI t67) i76 i78, (ma 43, .inl (y 0, 8, .inl g43)), (ma 45, .inl (y 0, 14, .inl g45)), (ma 48, .inl (y 0, 224, .inl g48)), (ma 62, .inl (y 0, 63, .inl f183)), (ma 63, .inl (y 0, 9, .inl u2))]) rfl ?_
          have xh184 : f183 0 = nI (dy + 1) := xh184
          exact j_vret (pc := 254) C hr (u133.1, v131, u133.2, f183, u2) xh184 [7, 8, 9, 0, 10, 1, 2, 3, 4, 5, 6, 11, 12] rfl (by decide) (by decide) (by decide) d_Model_goesBy_254
        · refine j_iconst (pc := 236) C (v := 1) d_Model_goesBy_236 (by decide) ?_
          refine j_goto (pc := 237) C (tgt := 241) d_Model_goesBy_237 (by decide) ?_
          refine j_callVv (pc := 241) C (c_M_worths l D y mo ma t1 i2 i3 i4 i5 i6 i7 i8 i42 i49 i51 i53 i54 i59 u133.1 v131 i66 t67 i76 i78 g43 g45 g48 f177 u2 1 c1 c2 dy hc1 bc1 hc2 bc2 hL hTh xh178 bD) kw_Model_444 kv_Model_worths 0 10 rfl rfl ⟨by decide, by decide⟩ ⟨by decide, by decide⟩ (wr := [(ma 46, .inl (y 0, 108, .inl g46)), (ma 50, .inl (y 0, 3200, .inl g50)), (ma 55, .inl (y 2, 16, .inl g55)), (ma 56, .inl (y 0, 16, .inl g56)), (ma 57, .inl (y 0, 16, .inl g57)), (ma 58, .inl (y 0, 16, .inl g58)), (ma 60, .inl (y 1, 1700, .inr (.inl u133.2)))]) [11, 12, 4, 0, 2, 3] [1, 5, 6, 7, 8, 9, 10] rfl rfl (by decide +kernel) (by decide +kernel) (by decide +kernel) (As := [.int 1]) (rest := []) rfl (nb rfl) rfl d_Model_goesBy_241 (fun u185 hu186 => ?_)
          have xh187 := hu186
          refine j_ws (ws' := [(ma 46, .inl (y 0, 108, .inl g46)), (ma 50, .inl (y 0, 3200, .inl g50)), (ma 55, .inl (y 2, 16, .inl g55)), (ma 56, .inl (y 0, 16, .inl g56)), (ma 57, .inl (y 0, 16, .inl g57)), (ma 58, .inl (y 0, 16, .inl g58)), (ma 60, .inl (y 1, 1700, .inr (.inl u133.2))), MB mo ma (nI t1) i2 i3 i4 i5 i6 i7 i8 i42 i49 i51 i53 i54 i59 u133.1 v131 i66 (nI t67) i76 i78, (ma 43, .inl (y 0, 8, .inl g43)), (ma 45, .inl (y 0, 14, .inl g45)), (ma 48, .inl (y 0, 224, .inl g48)), (ma 62, .inl (y 0, 63, .inl u185)), (ma 63, .inl (y 0, 9, .inl u2))]) rfl ?_
          refine j_aload_n (pc := 244) C d_Model_goesBy_244 rfl 6 rfl ?_
          refine j_get (pc := 245) C gf_Model_158 7 rfl rfl d_Model_goesBy_245 ?_
          refine j_iconst (pc := 248) C (v := 0) d_Model_goesBy_248 (by decide) ?_
          refine j_dup2 (pc := 249) C d_Model_goesBy_249 rfl rfl ?_
          refine j_iald (pc := 250) C 11 rfl (v := nI dy) (vin (by decide)) (by exact xh187) d_Model_goesBy_250 ?_
          refine j_iconst (pc := 251) C (v := 1) d_Model_goesBy_251 (by decide) ?_
          refine j_iadd (pc := 252) C (v := nI (dy + 1)) d_Model_goesBy_252 (nI_add _ _) ?_
          refine j_iast (pc := 253) C 11 rfl (ws' := [(ma 46, .inl (y 0, 108, .inl g46)), (ma 50, .inl (y 0, 3200, .inl g50)), (ma 55, .inl (y 2, 16, .inl g55)), (ma 56, .inl (y 0, 16, .inl g56)), (ma 57, .inl (y 0, 16, .inl g57)), (ma 58, .inl (y 0, 16, .inl g58)), (ma 60, .inl (y 1, 1700, .inr (.inl u133.2))), MB mo ma (nI t1) i2 i3 i4 i5 i6 i7 i8 i42 i49 i51 i53 i54 i59 u133.1 v131 i66 (nI t67) i76 i78, (ma 43, .inl (y 0, 8, .inl g43)), (ma 45, .inl (y 0, 14, .inl g45)), (ma 48, .inl (y 0, 224, .inl g48)), (ma 62, .inl (y 0, 63, .inl (upd u185 0 (nI (dy + 1))))), (ma 63, .inl (y 0, 9, .inl u2))]) (vin (by decide)) rfl d_Model_goesBy_253 ?_
          refine j_genW (fun f188 => [(ma 46, .inl (y 0, 108, .inl g46)), (ma 50, .inl (y 0, 3200, .inl g50)), (ma 55, .inl (y 2, 16, .inl g55)), (ma 56, .inl (y 0, 16, .inl g56)), (ma 57, .inl (y 0, 16, .inl g57)), (ma 58, .inl (y 0, 16, .inl g58)), (ma 60, .inl (y 1, 1700, .inr (.inl u133.2))), MB mo ma (nI t1) i2 i3 i4 i5 i6 i7 i8 i42 i49 i51 i53 i54 i59 u133.1 v131 i66 (nI t67) i76 i78, (ma 43, .inl (y 0, 8, .inl g43)), (ma 45, .inl (y 0, 14, .inl g45)), (ma 48, .inl (y 0, 224, .inl g48)), (ma 62, .inl (y 0, 63, .inl f188)), (ma 63, .inl (y 0, 9, .inl u2))]) (upd u185 0 (nI (dy + 1))) rfl (fun f188 => (f188 0 = nI (dy + 1))) (show upd u185 0 (nI (dy + 1)) 0 = nI (dy + 1) from pk_us) ?_
          rintro f188 xh189
          refine j_ws (ws' := [(ma 46, .inl (y 0, 108, .inl g46)), (ma 50, .inl (y 0, 3200, .inl g50)), (ma 55, .inl (y 2, 16, .inl g55)), (ma 56, .inl (y 0, 16, .inl g56)), (ma 57, .inl (y 0, 16, .inl g57)), (ma 58, .inl (y 0, 16, .inl g58)), (ma 60, .inl (y 1, 1700, .inr (.inl u133.2))), MB mo ma (nI t1) i2 i3 i4 i5 i6 i7 i8 i42 i49 i51 i53 i54 i59 u133.1 v131 i66 (nI t67) i76 i78, (ma 43, .inl (y 0, 8, .inl g43)), (ma 45, .inl (y 0, 14, .inl g45)), (ma 48, .inl (y 0, 224, .inl g48)), (ma 62, .inl (y 0, 63, .inl f188)), (ma 63, .inl (y 0, 9, .inl u2))]) rfl ?_
          have xh189 : f188 0 = nI (dy + 1) := xh189
          exact j_vret (pc := 254) C hr (u133.1, v131, u133.2, f188, u2) xh189 [7, 8, 9, 0, 10, 1, 2, 3, 4, 5, 6, 11, 12] rfl (by decide) (by decide) (by decide) d_Model_goesBy_254
      · refine j_icmp_geF (pc := 104) C (tgt := 167) d_Model_goesBy_104 (by decide) (show ¬ nI c0 ≤ nI iz from nI_ge (by omega) (by omega)) ?_
        refine j_aload_n (pc := 107) C d_Model_goesBy_107 rfl 6 rfl ?_
        refine j_get (pc := 108) C gf_Model_158 11 rfl rfl d_Model_goesBy_108 ?_
        refine j_bipush (pc := 111) C (v := 12) d_Model_goesBy_111 (by decide) ?_
        refine j_iload (pc := 113) C d_Model_goesBy_113 0 rfl ?_
        refine j_iadd (pc := 115) C (v := nI (12 + iz)) d_Model_goesBy_115 (nI_add _ _) ?_
        refine j_aload_n (pc := 116) C d_Model_goesBy_116 rfl 6 rfl ?_
        refine j_get (pc := 117) C gf_Model_161 11 rfl rfl d_Model_goesBy_117 ?_
        refine j_iload (pc := 120) C d_Model_goesBy_120 0 rfl ?_
        refine j_iald (pc := 122) C 3 rfl (v := u2 iz) (vp_in_nI (by omega) (by decide)) (by rw [nI_clamp (by omega)]) d_Model_goesBy_122 ?_
        refine j_iast (pc := 123) C 2 rfl (ws' := [(ma 48, .inl (y 0, 224, .inl g48)), (ma 46, .inl (y 0, 108, .inl g46)), (ma 62, .inl (y 0, 63, .inl (upd nz (12 + iz) (u2 iz)))), (ma 63, .inl (y 0, 9, .inl u2)), (ma 45, .inl (y 0, 14, .inl g45)), (ma 50, .inl (y 0, 3200, .inl g50)), (ma 55, .inl (y 2, 16, .inl g55)), (ma 56, .inl (y 0, 16, .inl g56)), (ma 57, .inl (y 0, 16, .inl g57)), (ma 58, .inl (y 0, 16, .inl g58)), (ma 60, .inl (y 1, 1700, .inr (.inl u133.2))), MB mo ma (nI t1) i2 i3 i4 i5 i6 i7 i8 i42 i49 i51 i53 i54 i59 u133.1 v131 i66 (nI t67) i76 i78, (ma 43, .inl (y 0, 8, .inl g43))]) (vp_in_nI (by omega) (by decide)) (by rw [nI_clamp (by omega)]; rfl) d_Model_goesBy_123 ?_
        refine j_genW (fun f190 => [(ma 48, .inl (y 0, 224, .inl g48)), (ma 46, .inl (y 0, 108, .inl g46)), (ma 62, .inl (y 0, 63, .inl f190)), (ma 63, .inl (y 0, 9, .inl u2)), (ma 45, .inl (y 0, 14, .inl g45)), (ma 50, .inl (y 0, 3200, .inl g50)), (ma 55, .inl (y 2, 16, .inl g55)), (ma 56, .inl (y 0, 16, .inl g56)), (ma 57, .inl (y 0, 16, .inl g57)), (ma 58, .inl (y 0, 16, .inl g58)), (ma 60, .inl (y 1, 1700, .inr (.inl u133.2))), MB mo ma (nI t1) i2 i3 i4 i5 i6 i7 i8 i42 i49 i51 i53 i54 i59 u133.1 v131 i66 (nI t67) i76 i78, (ma 43, .inl (y 0, 8, .inl g43))]) (upd nz (12 + iz) (u2 iz)) rfl (fun f190 => (f190 0 = nI dy)) (show upd nz (12 + iz) (u2 iz) 0 = nI dy by rw [pk_un (by omega)]; exact hn_) ?_
        rintro f190 xh191
        refine j_ws (ws' := [(ma 48, .inl (y 0, 224, .inl g48)), (ma 46, .inl (y 0, 108, .inl g46)), (ma 62, .inl (y 0, 63, .inl f190)), (ma 63, .inl (y 0, 9, .inl u2)), (ma 45, .inl (y 0, 14, .inl g45)), (ma 50, .inl (y 0, 3200, .inl g50)), (ma 55, .inl (y 2, 16, .inl g55)), (ma 56, .inl (y 0, 16, .inl g56)), (ma 57, .inl (y 0, 16, .inl g57)), (ma 58, .inl (y 0, 16, .inl g58)), (ma 60, .inl (y 1, 1700, .inr (.inl u133.2))), MB mo ma (nI t1) i2 i3 i4 i5 i6 i7 i8 i42 i49 i51 i53 i54 i59 u133.1 v131 i66 (nI t67) i76 i78, (ma 43, .inl (y 0, 8, .inl g43))]) rfl ?_
        have xh191 : f190 0 = nI dy := xh191
        refine j_aload_n (pc := 124) C d_Model_goesBy_124 rfl 6 rfl ?_
        refine j_get (pc := 125) C gf_Model_158 11 rfl rfl d_Model_goesBy_125 ?_
        refine j_bipush (pc := 128) C (v := 21) d_Model_goesBy_128 (by decide) ?_
        refine j_iload (pc := 130) C d_Model_goesBy_130 0 rfl ?_
        refine j_iadd (pc := 132) C (v := nI (21 + iz)) d_Model_goesBy_132 (nI_add _ _) ?_
        refine j_dup2 (pc := 133) C d_Model_goesBy_133 rfl rfl ?_
        refine j_iald (pc := 134) C 2 rfl (v := f190 (21 + iz)) (vp_in_nI (by omega) (by decide)) (by rw [nI_clamp (by omega)]) d_Model_goesBy_134 ?_
        refine j_aload_n (pc := 135) C d_Model_goesBy_135 rfl 6 rfl ?_
        refine j_get (pc := 136) C gf_Model_161 11 rfl rfl d_Model_goesBy_136 ?_
        refine j_iload (pc := 139) C d_Model_goesBy_139 0 rfl ?_
        refine j_iald (pc := 141) C 3 rfl (v := u2 iz) (vp_in_nI (by omega) (by decide)) (by rw [nI_clamp (by omega)]) d_Model_goesBy_141 ?_
        refine j_iadd (pc := 142) C (v := (f190 (21 + iz)) + (u2 iz)) d_Model_goesBy_142 rfl ?_
        refine j_anyI (fun v192 => ?_)
        refine j_iast (pc := 143) C 2 rfl (ws' := [(ma 48, .inl (y 0, 224, .inl g48)), (ma 46, .inl (y 0, 108, .inl g46)), (ma 62, .inl (y 0, 63, .inl (upd f190 (21 + iz) v192))), (ma 63, .inl (y 0, 9, .inl u2)), (ma 45, .inl (y 0, 14, .inl g45)), (ma 50, .inl (y 0, 3200, .inl g50)), (ma 55, .inl (y 2, 16, .inl g55)), (ma 56, .inl (y 0, 16, .inl g56)), (ma 57, .inl (y 0, 16, .inl g57)), (ma 58, .inl (y 0, 16, .inl g58)), (ma 60, .inl (y 1, 1700, .inr (.inl u133.2))), MB mo ma (nI t1) i2 i3 i4 i5 i6 i7 i8 i42 i49 i51 i53 i54 i59 u133.1 v131 i66 (nI t67) i76 i78, (ma 43, .inl (y 0, 8, .inl g43))]) (vp_in_nI (by omega) (by decide)) (by rw [nI_clamp (by omega)]; rfl) d_Model_goesBy_143 ?_
        refine j_genW (fun f193 => [(ma 48, .inl (y 0, 224, .inl g48)), (ma 46, .inl (y 0, 108, .inl g46)), (ma 62, .inl (y 0, 63, .inl f193)), (ma 63, .inl (y 0, 9, .inl u2)), (ma 45, .inl (y 0, 14, .inl g45)), (ma 50, .inl (y 0, 3200, .inl g50)), (ma 55, .inl (y 2, 16, .inl g55)), (ma 56, .inl (y 0, 16, .inl g56)), (ma 57, .inl (y 0, 16, .inl g57)), (ma 58, .inl (y 0, 16, .inl g58)), (ma 60, .inl (y 1, 1700, .inr (.inl u133.2))), MB mo ma (nI t1) i2 i3 i4 i5 i6 i7 i8 i42 i49 i51 i53 i54 i59 u133.1 v131 i66 (nI t67) i76 i78, (ma 43, .inl (y 0, 8, .inl g43))]) (upd f190 (21 + iz) v192) rfl (fun f193 => (f193 0 = nI dy)) (show upd f190 (21 + iz) v192 0 = nI dy by rw [pk_un (by omega)]; exact xh191) ?_
        rintro f193 xh194
        refine j_ws (ws' := [(ma 48, .inl (y 0, 224, .inl g48)), (ma 46, .inl (y 0, 108, .inl g46)), (ma 62, .inl (y 0, 63, .inl f193)), (ma 63, .inl (y 0, 9, .inl u2)), (ma 45, .inl (y 0, 14, .inl g45)), (ma 50, .inl (y 0, 3200, .inl g50)), (ma 55, .inl (y 2, 16, .inl g55)), (ma 56, .inl (y 0, 16, .inl g56)), (ma 57, .inl (y 0, 16, .inl g57)), (ma 58, .inl (y 0, 16, .inl g58)), (ma 60, .inl (y 1, 1700, .inr (.inl u133.2))), MB mo ma (nI t1) i2 i3 i4 i5 i6 i7 i8 i42 i49 i51 i53 i54 i59 u133.1 v131 i66 (nI t67) i76 i78, (ma 43, .inl (y 0, 8, .inl g43))]) rfl ?_
        have xh194 : f193 0 = nI dy := xh194
        refine j_aload_n (pc := 144) C d_Model_goesBy_144 rfl 6 rfl ?_
        refine j_get (pc := 145) C gf_Model_158 11 rfl rfl d_Model_goesBy_145 ?_
        refine j_bipush (pc := 148) C (v := 33) d_Model_goesBy_148 (by decide) ?_
        refine j_dup2 (pc := 150) C d_Model_goesBy_150 rfl rfl ?_
        refine j_iald (pc := 151) C 2 rfl (v := f193 33) (vin (by decide)) rfl d_Model_goesBy_151 ?_
        refine j_aload_n (pc := 152) C d_Model_goesBy_152 rfl 6 rfl ?_
        refine j_get (pc := 153) C gf_Model_161 11 rfl rfl d_Model_goesBy_153 ?_
        refine j_iload (pc := 156) C d_Model_goesBy_156 0 rfl ?_
        refine j_iald (pc := 158) C 3 rfl (v := u2 iz) (vp_in_nI (by omega) (by decide)) (by rw [nI_clamp (by omega)]) d_Model_goesBy_158 ?_
        refine j_iadd (pc := 159) C (v := (f193 33) + (u2 iz)) d_Model_goesBy_159 rfl ?_
        refine j_iast (pc := 160) C 2 rfl (ws' := [(ma 48, .inl (y 0, 224, .inl g48)), (ma 46, .inl (y 0, 108, .inl g46)), (ma 62, .inl (y 0, 63, .inl (upd f193 33 ((f193 33) + (u2 iz))))), (ma 63, .inl (y 0, 9, .inl u2)), (ma 45, .inl (y 0, 14, .inl g45)), (ma 50, .inl (y 0, 3200, .inl g50)), (ma 55, .inl (y 2, 16, .inl g55)), (ma 56, .inl (y 0, 16, .inl g56)), (ma 57, .inl (y 0, 16, .inl g57)), (ma 58, .inl (y 0, 16, .inl g58)), (ma 60, .inl (y 1, 1700, .inr (.inl u133.2))), MB mo ma (nI t1) i2 i3 i4 i5 i6 i7 i8 i42 i49 i51 i53 i54 i59 u133.1 v131 i66 (nI t67) i76 i78, (ma 43, .inl (y 0, 8, .inl g43))]) (vin (by decide)) rfl d_Model_goesBy_160 ?_
        refine j_genW (fun f195 => [(ma 48, .inl (y 0, 224, .inl g48)), (ma 46, .inl (y 0, 108, .inl g46)), (ma 62, .inl (y 0, 63, .inl f195)), (ma 63, .inl (y 0, 9, .inl u2)), (ma 45, .inl (y 0, 14, .inl g45)), (ma 50, .inl (y 0, 3200, .inl g50)), (ma 55, .inl (y 2, 16, .inl g55)), (ma 56, .inl (y 0, 16, .inl g56)), (ma 57, .inl (y 0, 16, .inl g57)), (ma 58, .inl (y 0, 16, .inl g58)), (ma 60, .inl (y 1, 1700, .inr (.inl u133.2))), MB mo ma (nI t1) i2 i3 i4 i5 i6 i7 i8 i42 i49 i51 i53 i54 i59 u133.1 v131 i66 (nI t67) i76 i78, (ma 43, .inl (y 0, 8, .inl g43))]) (upd f193 33 ((f193 33) + (u2 iz))) rfl (fun f195 => (f195 0 = nI dy)) (show upd f193 33 ((f193 33) + (u2 iz)) 0 = nI dy by rw [pk_un (by omega)]; exact xh194) ?_
        rintro f195 xh196
        refine j_ws (ws' := [(ma 48, .inl (y 0, 224, .inl g48)), (ma 46, .inl (y 0, 108, .inl g46)), (ma 62, .inl (y 0, 63, .inl f195)), (ma 63, .inl (y 0, 9, .inl u2)), (ma 45, .inl (y 0, 14, .inl g45)), (ma 50, .inl (y 0, 3200, .inl g50)), (ma 55, .inl (y 2, 16, .inl g55)), (ma 56, .inl (y 0, 16, .inl g56)), (ma 57, .inl (y 0, 16, .inl g57)), (ma 58, .inl (y 0, 16, .inl g58)), (ma 60, .inl (y 1, 1700, .inr (.inl u133.2))), MB mo ma (nI t1) i2 i3 i4 i5 i6 i7 i8 i42 i49 i51 i53 i54 i59 u133.1 v131 i66 (nI t67) i76 i78, (ma 43, .inl (y 0, 8, .inl g43))]) rfl ?_
        have xh196 : f195 0 = nI dy := xh196
        refine j_iinc (pc := 161) C (v := nI (iz + 1)) (lv' := [(7, .int (nI (iz + 1))), (6, .int ((r1 + (r3 + v)) - v131)), (5, .int ((r1 + (r3 + v)) - v131)), (4, .int (r1 + (r3 + v))), (3, .int (r3 + v)), (2, .int r1), (0, .ref mo), (1, .int v)]) d_Model_goesBy_161 0 rfl (nI_add _ _) (by decide) rfl ?_
        refine j_goto (pc := 164) C (tgt := 98) d_Model_goesBy_164 (by decide) ?_
        refine j_sub (ws' := [(ma 48, .inl (y 0, 224, .inl g48)), (ma 46, .inl (y 0, 108, .inl g46)), (ma 62, .inl (y 0, 63, .inl f195)), (ma 63, .inl (y 0, 9, .inl u2)), MB mo ma (nI t1) i2 i3 i4 i5 i6 i7 i8 i42 i49 i51 i53 i54 i59 u133.1 v131 i66 (nI t67) i76 i78, (ma 43, .inl (y 0, 8, .inl g43)), (ma 45, .inl (y 0, 14, .inl g45)), (ma 50, .inl (y 0, 3200, .inl g50)), (ma 55, .inl (y 2, 16, .inl g55)), (ma 56, .inl (y 0, 16, .inl g56)), (ma 57, .inl (y 0, 16, .inl g57)), (ma 58, .inl (y 0, 16, .inl g58)), (ma 60, .inl (y 1, 1700, .inr (.inl u133.2)))]) [0, 1, 2, 3, 11, 12, 4, 5, 6, 7, 8, 9, 10] rfl (by decide +kernel) ?_
        exact ih166 ((iz + 1), f195) ⟨(show (iz + 1) ≤ c0 by omega), xh196⟩ (show c0 - (iz + 1) < c0 - iz by omega)
    · refine j_iload (pc := 86) C d_Model_goesBy_86 0 rfl ?_
      refine j_goto (pc := 88) C (tgt := 93) d_Model_goesBy_88 (by decide) ?_
      refine j_istore (pc := 93) C (lv' := [(6, .int r132), (5, .int ((r1 + (r3 + v)) - v131)), (4, .int (r1 + (r3 + v))), (3, .int (r3 + v)), (2, .int r1), (0, .ref mo), (1, .int v)]) d_Model_goesBy_93 (by decide) rfl ?_
      refine j_iconst (pc := 95) C (v := 0) d_Model_goesBy_95 (by decide) ?_
      refine j_istore (pc := 96) C (lv' := [(7, .int 0), (6, .int r132), (5, .int ((r1 + (r3 + v)) - v131)), (4, .int (r1 + (r3 + v))), (3, .int (r3 + v)), (2, .int r1), (0, .ref mo), (1, .int v)]) d_Model_goesBy_96 (by decide) rfl ?_
      refine j_loop (α := Nat × (Nat → Int32)) (fun a => c0 - a.1) (fun a => (a.1 ≤ c0) ∧ (a.2 0 = nI dy)) (fun a => [(ma 48, .inl (y 0, 224, .inl g48)), (ma 46, .inl (y 0, 108, .inl g46)), (ma 62, .inl (y 0, 63, .inl a.2)), (ma 63, .inl (y 0, 9, .inl u2)), MB mo ma (nI t1) i2 i3 i4 i5 i6 i7 i8 i42 i49 i51 i53 i54 i59 u133.1 v131 i66 (nI t67) i76 i78, (ma 43, .inl (y 0, 8, .inl g43)), (ma 45, .inl (y 0, 14, .inl g45)), (ma 50, .inl (y 0, 3200, .inl g50)), (ma 55, .inl (y 2, 16, .inl g55)), (ma 56, .inl (y 0, 16, .inl g56)), (ma 57, .inl (y 0, 16, .inl g57)), (ma 58, .inl (y 0, 16, .inl g58)), (ma 60, .inl (y 1, 1700, .inr (.inl u133.2)))]) (fun a => [(7, .int (nI a.1)), (6, .int r132), (5, .int ((r1 + (r3 + v)) - v131)), (4, .int (r1 + (r3 + v))), (3, .int (r3 + v)), (2, .int r1), (0, .ref mo), (1, .int v)]) (0, g62) rfl rfl ⟨(show 0 ≤ c0 by omega), hD⟩ ?_
      rintro ⟨iz, nz⟩ hP226 ih227
      obtain ⟨hi__, hn__⟩ := hP226
      have hi_ : iz ≤ c0 := hi__
      have hn_ : nz 0 = nI dy := hn__
      refine j_ws (ws' := [(ma 48, .inl (y 0, 224, .inl g48)), (ma 46, .inl (y 0, 108, .inl g46)), (ma 62, .inl (y 0, 63, .inl nz)), (ma 63, .inl (y 0, 9, .inl u2)), MB mo ma (nI t1) i2 i3 i4 i5 i6 i7 i8 i42 i49 i51 i53 i54 i59 u133.1 v131 i66 (nI t67) i76 i78, (ma 43, .inl (y 0, 8, .inl g43)), (ma 45, .inl (y 0, 14, .inl g45)), (ma 50, .inl (y 0, 3200, .inl g50)), (ma 55, .inl (y 2, 16, .inl g55)), (ma 56, .inl (y 0, 16, .inl g56)), (ma 57, .inl (y 0, 16, .inl g57)), (ma 58, .inl (y 0, 16, .inl g58)), (ma 60, .inl (y 1, 1700, .inr (.inl u133.2)))]) rfl ?_
      refine j_lv (lv' := [(7, .int (nI iz)), (6, .int r132), (5, .int ((r1 + (r3 + v)) - v131)), (4, .int (r1 + (r3 + v))), (3, .int (r3 + v)), (2, .int r1), (0, .ref mo), (1, .int v)]) rfl ?_
      refine j_iload (pc := 98) C d_Model_goesBy_98 0 rfl ?_
      refine j_aload_n (pc := 100) C d_Model_goesBy_100 rfl 6 rfl ?_
      refine j_callVi (pc := 101) C (c_M_gateMany l D y mo ma t1 i2 i3 i4 i5 i6 i7 i8 i42 i49 i51 i53 i54 i59 u133.1 v131 i66 t67 i76 i78 g43 c0 hc0 bc0) kw_Model_341 kv_Model_gateMany 0 10 rfl rfl ⟨by decide, by decide⟩ ⟨by decide, by decide⟩ (wr := [(ma 48, .inl (y 0, 224, .inl g48)), (ma 46, .inl (y 0, 108, .inl g46)), (ma 62, .inl (y 0, 63, .inl nz)), (ma 63, .inl (y 0, 9, .inl u2)), (ma 45, .inl (y 0, 14, .inl g45)), (ma 50, .inl (y 0, 3200, .inl g50)), (ma 55, .inl (y 2, 16, .inl g55)), (ma 56, .inl (y 0, 16, .inl g56)), (ma 57, .inl (y 0, 16, .inl g57)), (ma 58, .inl (y 0, 16, .inl g58)), (ma 60, .inl (y 1, 1700, .inr (.inl u133.2)))]) [4, 5] [0, 1, 2, 3, 6, 7, 8, 9, 10, 11, 12] rfl rfl (by decide +kernel) (by decide +kernel) (by decide +kernel) (As := []) (rest := [.int (nI iz)]) rfl (nb rfl) rfl d_Model_goesBy_101 (fun r228 _ hr228 => ?_)
      obtain rfl := hr228
      refine j_ws (ws' := [(ma 48, .inl (y 0, 224, .inl g48)), (ma 46, .inl (y 0, 108, .inl g46)), (ma 62, .inl (y 0, 63, .inl nz)), (ma 63, .inl (y 0, 9, .inl u2)), (ma 45, .inl (y 0, 14, .inl g45)), (ma 50, .inl (y 0, 3200, .inl g50)), (ma 55, .inl (y 2, 16, .inl g55)), (ma 56, .inl (y 0, 16, .inl g56)), (ma 57, .inl (y 0, 16, .inl g57)), (ma 58, .inl (y 0, 16, .inl g58)), (ma 60, .inl (y 1, 1700, .inr (.inl u133.2))), MB mo ma (nI t1) i2 i3 i4 i5 i6 i7 i8 i42 i49 i51 i53 i54 i59 u133.1 v131 i66 (nI t67) i76 i78, (ma 43, .inl (y 0, 8, .inl g43))]) rfl ?_
      by_cases c229 : c0 ≤ iz
      · refine j_icmp_geT (pc := 104) C (tgt := 167) d_Model_goesBy_104 (by decide) (show nI c0 ≤ nI iz from nI_le (by omega) (by omega)) ?_
        refine j_aload_n (pc := 167) C d_Model_goesBy_167 rfl 6 rfl ?_
        refine j_get (pc := 168) C gf_Model_158 11 rfl rfl d_Model_goesBy_168 ?_
        refine j_bipush (pc := 171) C (v := 31) d_Model_goesBy_171 (by decide) ?_
        refine j_dup2 (pc := 173) C d_Model_goesBy_173 rfl rfl ?_
        refine j_iald (pc := 174) C 2 rfl (v := nz 31) (vin (by decide)) rfl d_Model_goesBy_174 ?_
        refine j_iload_n (pc := 175) C d_Model_goesBy_175 rfl 4 rfl ?_
        refine j_iadd (pc := 176) C (v := (nz 31) + (r3 + v)) d_Model_goesBy_176 rfl ?_
        refine j_iast (pc := 177) C 2 rfl (ws' := [(ma 48, .inl (y 0, 224, .inl g48)), (ma 46, .inl (y 0, 108, .inl g46)), (ma 62, .inl (y 0, 63, .inl (upd nz 31 ((nz 31) + (r3 + v))))), (ma 63, .inl (y 0, 9, .inl u2)), (ma 45, .inl (y 0, 14, .inl g45)), (ma 50, .inl (y 0, 3200, .inl g50)), (ma 55, .inl (y 2, 16, .inl g55)), (ma 56, .inl (y 0, 16, .inl g56)), (ma 57, .inl (y 0, 16, .inl g57)), (ma 58, .inl (y 0, 16, .inl g58)), (ma 60, .inl (y 1, 1700, .inr (.inl u133.2))), MB mo ma (nI t1) i2 i3 i4 i5 i6 i7 i8 i42 i49 i51 i53 i54 i59 u133.1 v131 i66 (nI t67) i76 i78, (ma 43, .inl (y 0, 8, .inl g43))]) (vin (by decide)) rfl d_Model_goesBy_177 ?_
        refine j_genW (fun f230 => [(ma 48, .inl (y 0, 224, .inl g48)), (ma 46, .inl (y 0, 108, .inl g46)), (ma 62, .inl (y 0, 63, .inl f230)), (ma 63, .inl (y 0, 9, .inl u2)), (ma 45, .inl (y 0, 14, .inl g45)), (ma 50, .inl (y 0, 3200, .inl g50)), (ma 55, .inl (y 2, 16, .inl g55)), (ma 56, .inl (y 0, 16, .inl g56)), (ma 57, .inl (y 0, 16, .inl g57)), (ma 58, .inl (y 0, 16, .inl g58)), (ma 60, .inl (y 1, 1700, .inr (.inl u133.2))), MB mo ma (nI t1) i2 i3 i4 i5 i6 i7 i8 i42 i49 i51 i53 i54 i59 u133.1 v131 i66 (nI t67) i76 i78, (ma 43, .inl (y 0, 8, .inl g43))]) (upd nz 31 ((nz 31) + (r3 + v))) rfl (fun f230 => (f230 0 = nI dy)) (show upd nz 31 ((nz 31) + (r3 + v)) 0 = nI dy by rw [pk_un (by omega)]; exact hn_) ?_
        rintro f230 xh231
        refine j_ws (ws' := [(ma 48, .inl (y 0, 224, .inl g48)), (ma 46, .inl (y 0, 108, .inl g46)), (ma 62, .inl (y 0, 63, .inl f230)), (ma 63, .inl (y 0, 9, .inl u2)), (ma 45, .inl (y 0, 14, .inl g45)), (ma 50, .inl (y 0, 3200, .inl g50)), (ma 55, .inl (y 2, 16, .inl g55)), (ma 56, .inl (y 0, 16, .inl g56)), (ma 57, .inl (y 0, 16, .inl g57)), (ma 58, .inl (y 0, 16, .inl g58)), (ma 60, .inl (y 1, 1700, .inr (.inl u133.2))), MB mo ma (nI t1) i2 i3 i4 i5 i6 i7 i8 i42 i49 i51 i53 i54 i59 u133.1 v131 i66 (nI t67) i76 i78, (ma 43, .inl (y 0, 8, .inl g43))]) rfl ?_
        have xh231 : f230 0 = nI dy := xh231
        refine j_aload_n (pc := 178) C d_Model_goesBy_178 rfl 6 rfl ?_
        refine j_get (pc := 179) C gf_Model_158 11 rfl rfl d_Model_goesBy_179 ?_
        refine j_bipush (pc := 182) C (v := 32) d_Model_goesBy_182 (by decide) ?_
        refine j_dup2 (pc := 184) C d_Model_goesBy_184 rfl rfl ?_
        refine j_iald (pc := 185) C 2 rfl (v := f230 32) (vin (by decide)) rfl d_Model_goesBy_185 ?_
        refine j_aload_n (pc := 186) C d_Model_goesBy_186 rfl 6 rfl ?_
        refine j_get (pc := 187) C gf_Model_441 11 rfl rfl d_Model_goesBy_187 ?_
        refine j_iadd (pc := 190) C (v := (f230 32) + v131) d_Model_goesBy_190 rfl ?_
        refine j_iast (pc := 191) C 2 rfl (ws' := [(ma 48, .inl (y 0, 224, .inl g48)), (ma 46, .inl (y 0, 108, .inl g46)), (ma 62, .inl (y 0, 63, .inl (upd f230 32 ((f230 32) + v131)))), (ma 63, .inl (y 0, 9, .inl u2)), (ma 45, .inl (y 0, 14, .inl g45)), (ma 50, .inl (y 0, 3200, .inl g50)), (ma 55, .inl (y 2, 16, .inl g55)), (ma 56, .inl (y 0, 16, .inl g56)), (ma 57, .inl (y 0, 16, .inl g57)), (ma 58, .inl (y 0, 16, .inl g58)), (ma 60, .inl (y 1, 1700, .inr (.inl u133.2))), MB mo ma (nI t1) i2 i3 i4 i5 i6 i7 i8 i42 i49 i51 i53 i54 i59 u133.1 v131 i66 (nI t67) i76 i78, (ma 43, .inl (y 0, 8, .inl g43))]) (vin (by decide)) rfl d_Model_goesBy_191 ?_
        refine j_genW (fun f232 => [(ma 48, .inl (y 0, 224, .inl g48)), (ma 46, .inl (y 0, 108, .inl g46)), (ma 62, .inl (y 0, 63, .inl f232)), (ma 63, .inl (y 0, 9, .inl u2)), (ma 45, .inl (y 0, 14, .inl g45)), (ma 50, .inl (y 0, 3200, .inl g50)), (ma 55, .inl (y 2, 16, .inl g55)), (ma 56, .inl (y 0, 16, .inl g56)), (ma 57, .inl (y 0, 16, .inl g57)), (ma 58, .inl (y 0, 16, .inl g58)), (ma 60, .inl (y 1, 1700, .inr (.inl u133.2))), MB mo ma (nI t1) i2 i3 i4 i5 i6 i7 i8 i42 i49 i51 i53 i54 i59 u133.1 v131 i66 (nI t67) i76 i78, (ma 43, .inl (y 0, 8, .inl g43))]) (upd f230 32 ((f230 32) + v131)) rfl (fun f232 => (f232 0 = nI dy)) (show upd f230 32 ((f230 32) + v131) 0 = nI dy by rw [pk_un (by omega)]; exact xh231) ?_
        rintro f232 xh233
        refine j_ws (ws' := [(ma 48, .inl (y 0, 224, .inl g48)), (ma 46, .inl (y 0, 108, .inl g46)), (ma 62, .inl (y 0, 63, .inl f232)), (ma 63, .inl (y 0, 9, .inl u2)), (ma 45, .inl (y 0, 14, .inl g45)), (ma 50, .inl (y 0, 3200, .inl g50)), (ma 55, .inl (y 2, 16, .inl g55)), (ma 56, .inl (y 0, 16, .inl g56)), (ma 57, .inl (y 0, 16, .inl g57)), (ma 58, .inl (y 0, 16, .inl g58)), (ma 60, .inl (y 1, 1700, .inr (.inl u133.2))), MB mo ma (nI t1) i2 i3 i4 i5 i6 i7 i8 i42 i49 i51 i53 i54 i59 u133.1 v131 i66 (nI t67) i76 i78, (ma 43, .inl (y 0, 8, .inl g43))]) rfl ?_
        have xh233 : f232 0 = nI dy := xh233
        refine j_aload_n (pc := 192) C d_Model_goesBy_192 rfl 6 rfl ?_
        refine j_get (pc := 193) C gf_Model_158 11 rfl rfl d_Model_goesBy_193 ?_
        refine j_bipush (pc := 196) C (v := 34) d_Model_goesBy_196 (by decide) ?_
        refine j_dup2 (pc := 198) C d_Model_goesBy_198 rfl rfl ?_
        refine j_iald (pc := 199) C 2 rfl (v := f232 34) (vin (by decide)) rfl d_Model_goesBy_199 ?_
        refine j_iload (pc := 200) C d_Model_goesBy_200 1 rfl ?_
        refine j_iadd (pc := 202) C (v := (f232 34) + r132) d_Model_goesBy_202 rfl ?_
        refine j_iast (pc := 203) C 2 rfl (ws' := [(ma 48, .inl (y 0, 224, .inl g48)), (ma 46, .inl (y 0, 108, .inl g46)), (ma 62, .inl (y 0, 63, .inl (upd f232 34 ((f232 34) + r132)))), (ma 63, .inl (y 0, 9, .inl u2)), (ma 45, .inl (y 0, 14, .inl g45)), (ma 50, .inl (y 0, 3200, .inl g50)), (ma 55, .inl (y 2, 16, .inl g55)), (ma 56, .inl (y 0, 16, .inl g56)), (ma 57, .inl (y 0, 16, .inl g57)), (ma 58, .inl (y 0, 16, .inl g58)), (ma 60, .inl (y 1, 1700, .inr (.inl u133.2))), MB mo ma (nI t1) i2 i3 i4 i5 i6 i7 i8 i42 i49 i51 i53 i54 i59 u133.1 v131 i66 (nI t67) i76 i78, (ma 43, .inl (y 0, 8, .inl g43))]) (vin (by decide)) rfl d_Model_goesBy_203 ?_
        refine j_genW (fun f234 => [(ma 48, .inl (y 0, 224, .inl g48)), (ma 46, .inl (y 0, 108, .inl g46)), (ma 62, .inl (y 0, 63, .inl f234)), (ma 63, .inl (y 0, 9, .inl u2)), (ma 45, .inl (y 0, 14, .inl g45)), (ma 50, .inl (y 0, 3200, .inl g50)), (ma 55, .inl (y 2, 16, .inl g55)), (ma 56, .inl (y 0, 16, .inl g56)), (ma 57, .inl (y 0, 16, .inl g57)), (ma 58, .inl (y 0, 16, .inl g58)), (ma 60, .inl (y 1, 1700, .inr (.inl u133.2))), MB mo ma (nI t1) i2 i3 i4 i5 i6 i7 i8 i42 i49 i51 i53 i54 i59 u133.1 v131 i66 (nI t67) i76 i78, (ma 43, .inl (y 0, 8, .inl g43))]) (upd f232 34 ((f232 34) + r132)) rfl (fun f234 => (f234 0 = nI dy)) (show upd f232 34 ((f232 34) + r132) 0 = nI dy by rw [pk_un (by omega)]; exact xh233) ?_
        rintro f234 xh235
        refine j_ws (ws' := [(ma 48, .inl (y 0, 224, .inl g48)), (ma 46, .inl (y 0, 108, .inl g46)), (ma 62, .inl (y 0, 63, .inl f234)), (ma 63, .inl (y 0, 9, .inl u2)), (ma 45, .inl (y 0, 14, .inl g45)), (ma 50, .inl (y 0, 3200, .inl g50)), (ma 55, .inl (y 2, 16, .inl g55)), (ma 56, .inl (y 0, 16, .inl g56)), (ma 57, .inl (y 0, 16, .inl g57)), (ma 58, .inl (y 0, 16, .inl g58)), (ma 60, .inl (y 1, 1700, .inr (.inl u133.2))), MB mo ma (nI t1) i2 i3 i4 i5 i6 i7 i8 i42 i49 i51 i53 i54 i59 u133.1 v131 i66 (nI t67) i76 i78, (ma 43, .inl (y 0, 8, .inl g43))]) rfl ?_
        have xh235 : f234 0 = nI dy := xh235
        refine j_aload_n (pc := 204) C d_Model_goesBy_204 rfl 6 rfl ?_
        refine j_get (pc := 205) C gf_Model_158 11 rfl rfl d_Model_goesBy_205 ?_
        refine j_iconst (pc := 208) C (v := 1) d_Model_goesBy_208 (by decide) ?_
        refine j_iload (pc := 209) C d_Model_goesBy_209 2 rfl ?_
        refine j_iload (pc := 211) C d_Model_goesBy_211 1 rfl ?_
        refine j_isub (pc := 213) C (v := ((r1 + (r3 + v)) - v131) - r132) d_Model_goesBy_213 rfl ?_
        refine j_anyI (fun v236 => ?_)
        refine j_iast (pc := 214) C 2 rfl (ws' := [(ma 48, .inl (y 0, 224, .inl g48)), (ma 46, .inl (y 0, 108, .inl g46)), (ma 62, .inl (y 0, 63, .inl (upd f234 1 v236))), (ma 63, .inl (y 0, 9, .inl u2)), (ma 45, .inl (y 0, 14, .inl g45)), (ma 50, .inl (y 0, 3200, .inl g50)), (ma 55, .inl (y 2, 16, .inl g55)), (ma 56, .inl (y 0, 16, .inl g56)), (ma 57, .inl (y 0, 16, .inl g57)), (ma 58, .inl (y 0, 16, .inl g58)), (ma 60, .inl (y 1, 1700, .inr (.inl u133.2))), MB mo ma (nI t1) i2 i3 i4 i5 i6 i7 i8 i42 i49 i51 i53 i54 i59 u133.1 v131 i66 (nI t67) i76 i78, (ma 43, .inl (y 0, 8, .inl g43))]) (vin (by decide)) rfl d_Model_goesBy_214 ?_
        refine j_genW (fun f237 => [(ma 48, .inl (y 0, 224, .inl g48)), (ma 46, .inl (y 0, 108, .inl g46)), (ma 62, .inl (y 0, 63, .inl f237)), (ma 63, .inl (y 0, 9, .inl u2)), (ma 45, .inl (y 0, 14, .inl g45)), (ma 50, .inl (y 0, 3200, .inl g50)), (ma 55, .inl (y 2, 16, .inl g55)), (ma 56, .inl (y 0, 16, .inl g56)), (ma 57, .inl (y 0, 16, .inl g57)), (ma 58, .inl (y 0, 16, .inl g58)), (ma 60, .inl (y 1, 1700, .inr (.inl u133.2))), MB mo ma (nI t1) i2 i3 i4 i5 i6 i7 i8 i42 i49 i51 i53 i54 i59 u133.1 v131 i66 (nI t67) i76 i78, (ma 43, .inl (y 0, 8, .inl g43))]) (upd f234 1 v236) rfl (fun f237 => (f237 0 = nI dy)) (show upd f234 1 v236 0 = nI dy by rw [pk_un (by omega)]; exact xh235) ?_
        rintro f237 xh238
        refine j_ws (ws' := [(ma 48, .inl (y 0, 224, .inl g48)), (ma 46, .inl (y 0, 108, .inl g46)), (ma 62, .inl (y 0, 63, .inl f237)), (ma 63, .inl (y 0, 9, .inl u2)), (ma 45, .inl (y 0, 14, .inl g45)), (ma 50, .inl (y 0, 3200, .inl g50)), (ma 55, .inl (y 2, 16, .inl g55)), (ma 56, .inl (y 0, 16, .inl g56)), (ma 57, .inl (y 0, 16, .inl g57)), (ma 58, .inl (y 0, 16, .inl g58)), (ma 60, .inl (y 1, 1700, .inr (.inl u133.2))), MB mo ma (nI t1) i2 i3 i4 i5 i6 i7 i8 i42 i49 i51 i53 i54 i59 u133.1 v131 i66 (nI t67) i76 i78, (ma 43, .inl (y 0, 8, .inl g43))]) rfl ?_
        have xh238 : f237 0 = nI dy := xh238
        refine j_aload_n (pc := 215) C d_Model_goesBy_215 rfl 6 rfl ?_
        refine j_iload (pc := 216) C d_Model_goesBy_216 3 rfl ?_
        refine j_aload_n (pc := 218) C d_Model_goesBy_218 rfl 6 rfl ?_
        refine j_get (pc := 219) C gf_Model_124 11 rfl rfl d_Model_goesBy_219 ?_
        refine j_bipush (pc := 222) C (v := 7) d_Model_goesBy_222 (by decide) ?_
        refine j_iald (pc := 224) C 4 rfl (v := g45 7) (vin (by decide)) rfl d_Model_goesBy_224 ?_
        refine j_idiv (pc := 225) C (v := (r1 + (r3 + v)) / (g45 7)) d_Model_goesBy_225 hL rfl ?_
        refine j_aload_n (pc := 226) C d_Model_goesBy_226 rfl 6 rfl ?_
        refine j_get (pc := 227) C gf_Model_124 11 rfl rfl d_Model_goesBy_227 ?_
        refine j_bipush (pc := 230) C (v := 12) d_Model_goesBy_230 (by decide) ?_
        refine j_iald (pc := 232) C 4 rfl (v := g45 12) (vin (by decide)) rfl d_Model_goesBy_232 ?_
        refine j_icmp_le (pc := 233) C (tgt := 240) d_Model_goesBy_233 (by decide) (fun c239 => ?_) (fun c239 => ?_)
        · refine j_iconst (pc := 240) C (v := 0) d_Model_goesBy_240 (by decide) ?_
          refine j_callVv (pc := 241) C (c_M_worths l D y mo ma t1 i2 i3 i4 i5 i6 i7 i8 i42 i49 i51 i53 i54 i59 u133.1 v131 i66 t67 i76 i78 g43 g45 g48 f237 u2 0 c1 c2 dy hc1 bc1 hc2 bc2 hL hTh xh238 bD) kw_Model_444 kv_Model_worths 0 10 rfl rfl ⟨by decide, by decide⟩ ⟨by decide, by decide⟩ (wr := [(ma 46, .inl (y 0, 108, .inl g46)), (ma 50, .inl (y 0, 3200, .inl g50)), (ma 55, .inl (y 2, 16, .inl g55)), (ma 56, .inl (y 0, 16, .inl g56)), (ma 57, .inl (y 0, 16, .inl g57)), (ma 58, .inl (y 0, 16, .inl g58)), (ma 60, .inl (y 1, 1700, .inr (.inl u133.2)))]) [11, 12, 4, 0, 2, 3] [1, 5, 6, 7, 8, 9, 10] rfl rfl (by decide +kernel) (by decide +kernel) (by decide +kernel) (As := [.int 0]) (rest := []) rfl (nb rfl) rfl d_Model_goesBy_241 (fun u240 hu241 => ?_)
          have xh242 := hu241
          refine j_ws (ws' := [(ma 46, .inl (y 0, 108, .inl g46)), (ma 50, .inl (y 0, 3200, .inl g50)), (ma 55, .inl (y 2, 16, .inl g55)), (ma 56, .inl (y 0, 16, .inl g56)), (ma 57, .inl (y 0, 16, .inl g57)), (ma 58, .inl (y 0, 16, .inl g58)), (ma 60, .inl (y 1, 1700, .inr (.inl u133.2))), MB mo ma (nI t1) i2 i3 i4 i5 i6 i7 i8 i42 i49 i51 i53 i54 i59 u133.1 v131 i66 (nI t67) i76 i78, (ma 43, .inl (y 0, 8, .inl g43)), (ma 45, .inl (y 0, 14, .inl g45)), (ma 48, .inl (y 0, 224, .inl g48)), (ma 62, .inl (y 0, 63, .inl u240)), (ma 63, .inl (y 0, 9, .inl u2))]) rfl ?_
          refine j_aload_n (pc := 244) C d_Model_goesBy_244 rfl 6 rfl ?_
          refine j_get (pc := 245) C gf_Model_158 7 rfl rfl d_Model_goesBy_245 ?_
          refine j_iconst (pc := 248) C (v := 0) d_Model_goesBy_248 (by decide) ?_
          refine j_dup2 (pc := 249) C d_Model_goesBy_249 rfl rfl ?_
          refine j_iald (pc := 250) C 11 rfl (v := nI dy) (vin (by decide)) (by exact xh242) d_Model_goesBy_250 ?_
          refine j_iconst (pc := 251) C (v := 1) d_Model_goesBy_251 (by decide) ?_
          refine j_iadd (pc := 252) C (v := nI (dy + 1)) d_Model_goesBy_252 (nI_add _ _) ?_
          refine j_iast (pc := 253) C 11 rfl (ws' := [(ma 46, .inl (y 0, 108, .inl g46)), (ma 50, .inl (y 0, 3200, .inl g50)), (ma 55, .inl (y 2, 16, .inl g55)), (ma 56, .inl (y 0, 16, .inl g56)), (ma 57, .inl (y 0, 16, .inl g57)), (ma 58, .inl (y 0, 16, .inl g58)), (ma 60, .inl (y 1, 1700, .inr (.inl u133.2))), MB mo ma (nI t1) i2 i3 i4 i5 i6 i7 i8 i42 i49 i51 i53 i54 i59 u133.1 v131 i66 (nI t67) i76 i78, (ma 43, .inl (y 0, 8, .inl g43)), (ma 45, .inl (y 0, 14, .inl g45)), (ma 48, .inl (y 0, 224, .inl g48)), (ma 62, .inl (y 0, 63, .inl (upd u240 0 (nI (dy + 1))))), (ma 63, .inl (y 0, 9, .inl u2))]) (vin (by decide)) rfl d_Model_goesBy_253 ?_
          refine j_genW (fun f243 => [(ma 46, .inl (y 0, 108, .inl g46)), (ma 50, .inl (y 0, 3200, .inl g50)), (ma 55, .inl (y 2, 16, .inl g55)), (ma 56, .inl (y 0, 16, .inl g56)), (ma 57, .inl (y 0, 16, .inl g57)), (ma 58, .inl (y 0, 16, .inl g58)), (ma 60, .inl (y 1, 1700, .inr (.inl u133.2))), MB mo ma (nI t1) i2 i3 i4 i5 i6 i7 i8 i42 i49 i51 i53 i54 i59 u133.1 v131 i66 (nI t67) i76 i78, (ma 43, .inl (y 0, 8, .inl g43)), (ma 45, .inl (y 0, 14, .inl g45)), (ma 48, .inl (y 0, 224, .inl g48)), (ma 62, .inl (y 0, 63, .inl f243)), (ma 63, .inl (y 0, 9, .inl u2))]) (upd u240 0 (nI (dy + 1))) rfl (fun f243 => (f243 0 = nI (dy + 1))) (show upd u240 0 (nI (dy + 1)) 0 = nI (dy + 1) from pk_us) ?_
          rintro f243 xh244
          refine j_ws (ws' := [(ma 46, .inl (y 0, 108, .inl g46)), (ma 50, .inl (y 0, 3200, .inl g50)), (ma 55, .inl (y 2, 16, .inl g55)), (ma 56, .inl (y 0, 16, .inl g56)), (ma 57, .inl (y 0, 16, .inl g57)), (ma 58, .inl (y 0, 16, .inl g58)), (ma 60, .inl (y 1, 1700, .inr (.inl u133.2))), MB mo ma (nI t1) i2 i3 i4 i5 i6 i7 i8 i42 i49 i51 i53 i54 i59 u133.1 v131 i66 (nI t67) i76 i78, (ma 43, .inl (y 0, 8, .inl g43)), (ma 45, .inl (y 0, 14, .inl g45)), (ma 48, .inl (y 0, 224, .inl g48)), (ma 62, .inl (y 0, 63, .inl f243)), (ma 63, .inl (y 0, 9, .inl u2))]) rfl ?_
          have xh244 : f243 0 = nI (dy + 1) := xh244
          exact j_vret (pc := 254) C hr (u133.1, v131, u133.2, f243, u2) xh244 [7, 8, 9, 0, 10, 1, 2, 3, 4, 5, 6, 11, 12] rfl (by decide) (by decide) (by decide) d_Model_goesBy_254
        · refine j_iconst (pc := 236) C (v := 1) d_Model_goesBy_236 (by decide) ?_
          refine j_goto (pc := 237) C (tgt := 241) d_Model_goesBy_237 (by decide) ?_
          refine j_callVv (pc := 241) C (c_M_worths l D y mo ma t1 i2 i3 i4 i5 i6 i7 i8 i42 i49 i51 i53 i54 i59 u133.1 v131 i66 t67 i76 i78 g43 g45 g48 f237 u2 1 c1 c2 dy hc1 bc1 hc2 bc2 hL hTh xh238 bD) kw_Model_444 kv_Model_worths 0 10 rfl rfl ⟨by decide, by decide⟩ ⟨by decide, by decide⟩ (wr := [(ma 46, .inl (y 0, 108, .inl g46)), (ma 50, .inl (y 0, 3200, .inl g50)), (ma 55, .inl (y 2, 16, .inl g55)), (ma 56, .inl (y 0, 16, .inl g56)), (ma 57, .inl (y 0, 16, .inl g57)), (ma 58, .inl (y 0, 16, .inl g58)), (ma 60, .inl (y 1, 1700, .inr (.inl u133.2)))]) [11, 12, 4, 0, 2, 3] [1, 5, 6, 7, 8, 9, 10] rfl rfl (by decide +kernel) (by decide +kernel) (by decide +kernel) (As := [.int 1]) (rest := []) rfl (nb rfl) rfl d_Model_goesBy_241 (fun u245 hu246 => ?_)
          have xh247 := hu246
          refine j_ws (ws' := [(ma 46, .inl (y 0, 108, .inl g46)), (ma 50, .inl (y 0, 3200, .inl g50)), (ma 55, .inl (y 2, 16, .inl g55)), (ma 56, .inl (y 0, 16, .inl g56)), (ma 57, .inl (y 0, 16, .inl g57)), (ma 58, .inl (y 0, 16, .inl g58)), (ma 60, .inl (y 1, 1700, .inr (.inl u133.2))), MB mo ma (nI t1) i2 i3 i4 i5 i6 i7 i8 i42 i49 i51 i53 i54 i59 u133.1 v131 i66 (nI t67) i76 i78, (ma 43, .inl (y 0, 8, .inl g43)), (ma 45, .inl (y 0, 14, .inl g45)), (ma 48, .inl (y 0, 224, .inl g48)), (ma 62, .inl (y 0, 63, .inl u245)), (ma 63, .inl (y 0, 9, .inl u2))]) rfl ?_
          refine j_aload_n (pc := 244) C d_Model_goesBy_244 rfl 6 rfl ?_
          refine j_get (pc := 245) C gf_Model_158 7 rfl rfl d_Model_goesBy_245 ?_
          refine j_iconst (pc := 248) C (v := 0) d_Model_goesBy_248 (by decide) ?_
          refine j_dup2 (pc := 249) C d_Model_goesBy_249 rfl rfl ?_
          refine j_iald (pc := 250) C 11 rfl (v := nI dy) (vin (by decide)) (by exact xh247) d_Model_goesBy_250 ?_
          refine j_iconst (pc := 251) C (v := 1) d_Model_goesBy_251 (by decide) ?_
          refine j_iadd (pc := 252) C (v := nI (dy + 1)) d_Model_goesBy_252 (nI_add _ _) ?_
          refine j_iast (pc := 253) C 11 rfl (ws' := [(ma 46, .inl (y 0, 108, .inl g46)), (ma 50, .inl (y 0, 3200, .inl g50)), (ma 55, .inl (y 2, 16, .inl g55)), (ma 56, .inl (y 0, 16, .inl g56)), (ma 57, .inl (y 0, 16, .inl g57)), (ma 58, .inl (y 0, 16, .inl g58)), (ma 60, .inl (y 1, 1700, .inr (.inl u133.2))), MB mo ma (nI t1) i2 i3 i4 i5 i6 i7 i8 i42 i49 i51 i53 i54 i59 u133.1 v131 i66 (nI t67) i76 i78, (ma 43, .inl (y 0, 8, .inl g43)), (ma 45, .inl (y 0, 14, .inl g45)), (ma 48, .inl (y 0, 224, .inl g48)), (ma 62, .inl (y 0, 63, .inl (upd u245 0 (nI (dy + 1))))), (ma 63, .inl (y 0, 9, .inl u2))]) (vin (by decide)) rfl d_Model_goesBy_253 ?_
          refine j_genW (fun f248 => [(ma 46, .inl (y 0, 108, .inl g46)), (ma 50, .inl (y 0, 3200, .inl g50)), (ma 55, .inl (y 2, 16, .inl g55)), (ma 56, .inl (y 0, 16, .inl g56)), (ma 57, .inl (y 0, 16, .inl g57)), (ma 58, .inl (y 0, 16, .inl g58)), (ma 60, .inl (y 1, 1700, .inr (.inl u133.2))), MB mo ma (nI t1) i2 i3 i4 i5 i6 i7 i8 i42 i49 i51 i53 i54 i59 u133.1 v131 i66 (nI t67) i76 i78, (ma 43, .inl (y 0, 8, .inl g43)), (ma 45, .inl (y 0, 14, .inl g45)), (ma 48, .inl (y 0, 224, .inl g48)), (ma 62, .inl (y 0, 63, .inl f248)), (ma 63, .inl (y 0, 9, .inl u2))]) (upd u245 0 (nI (dy + 1))) rfl (fun f248 => (f248 0 = nI (dy + 1))) (show upd u245 0 (nI (dy + 1)) 0 = nI (dy + 1) from pk_us) ?_
          rintro f248 xh249
          refine j_ws (ws' := [(ma 46, .inl (y 0, 108, .inl g46)), (ma 50, .inl (y 0, 3200, .inl g50)), (ma 55, .inl (y 2, 16, .inl g55)), (ma 56, .inl (y 0, 16, .inl g56)), (ma 57, .inl (y 0, 16, .inl g57)), (ma 58, .inl (y 0, 16, .inl g58)), (ma 60, .inl (y 1, 1700, .inr (.inl u133.2))), MB mo ma (nI t1) i2 i3 i4 i5 i6 i7 i8 i42 i49 i51 i53 i54 i59 u133.1 v131 i66 (nI t67) i76 i78, (ma 43, .inl (y 0, 8, .inl g43)), (ma 45, .inl (y 0, 14, .inl g45)), (ma 48, .inl (y 0, 224, .inl g48)), (ma 62, .inl (y 0, 63, .inl f248)), (ma 63, .inl (y 0, 9, .inl u2))]) rfl ?_
          have xh249 : f248 0 = nI (dy + 1) := xh249
          exact j_vret (pc := 254) C hr (u133.1, v131, u133.2, f248, u2) xh249 [7, 8, 9, 0, 10, 1, 2, 3, 4, 5, 6, 11, 12] rfl (by decide) (by decide) (by decide) d_Model_goesBy_254
      · refine j_icmp_geF (pc := 104) C (tgt := 167) d_Model_goesBy_104 (by decide) (show ¬ nI c0 ≤ nI iz from nI_ge (by omega) (by omega)) ?_
        refine j_aload_n (pc := 107) C d_Model_goesBy_107 rfl 6 rfl ?_
        refine j_get (pc := 108) C gf_Model_158 11 rfl rfl d_Model_goesBy_108 ?_
        refine j_bipush (pc := 111) C (v := 12) d_Model_goesBy_111 (by decide) ?_
        refine j_iload (pc := 113) C d_Model_goesBy_113 0 rfl ?_
        refine j_iadd (pc := 115) C (v := nI (12 + iz)) d_Model_goesBy_115 (nI_add _ _) ?_
        refine j_aload_n (pc := 116) C d_Model_goesBy_116 rfl 6 rfl ?_
        refine j_get (pc := 117) C gf_Model_161 11 rfl rfl d_Model_goesBy_117 ?_
        refine j_iload (pc := 120) C d_Model_goesBy_120 0 rfl ?_
        refine j_iald (pc := 122) C 3 rfl (v := u2 iz) (vp_in_nI (by omega) (by decide)) (by rw [nI_clamp (by omega)]) d_Model_goesBy_122 ?_
        refine j_iast (pc := 123) C 2 rfl (ws' := [(ma 48, .inl (y 0, 224, .inl g48)), (ma 46, .inl (y 0, 108, .inl g46)), (ma 62, .inl (y 0, 63, .inl (upd nz (12 + iz) (u2 iz)))), (ma 63, .inl (y 0, 9, .inl u2)), (ma 45, .inl (y 0, 14, .inl g45)), (ma 50, .inl (y 0, 3200, .inl g50)), (ma 55, .inl (y 2, 16, .inl g55)), (ma 56, .inl (y 0, 16, .inl g56)), (ma 57, .inl (y 0, 16, .inl g57)), (ma 58, .inl (y 0, 16, .inl g58)), (ma 60, .inl (y 1, 1700, .inr (.inl u133.2))), MB mo ma (nI t1) i2 i3 i4 i5 i6 i7 i8 i42 i49 i51 i53 i54 i59 u133.1 v131 i66 (nI t67) i76 i78, (ma 43, .inl (y 0, 8, .inl g43))]) (vp_in_nI (by omega) (by decide)) (by rw [nI_clamp (by omega)]; rfl) d_Model_goesBy_123 ?_
        refine j_genW (fun f250 => [(ma 48, .inl (y 0, 224, .inl g48)), (ma 46, .inl (y 0, 108, .inl g46)), (ma 62, .inl (y 0, 63, .inl f250)), (ma 63, .inl (y 0, 9, .inl u2)), (ma 45, .inl (y 0, 14, .inl g45)), (ma 50, .inl (y 0, 3200, .inl g50)), (ma 55, .inl (y 2, 16, .inl g55)), (ma 56, .inl (y 0, 16, .inl g56)), (ma 57, .inl (y 0, 16, .inl g57)), (ma 58, .inl (y 0, 16, .inl g58)), (ma 60, .inl (y 1, 1700, .inr (.inl u133.2))), MB mo ma (nI t1) i2 i3 i4 i5 i6 i7 i8 i42 i49 i51 i53 i54 i59 u133.1 v131 i66 (nI t67) i76 i78, (ma 43, .inl (y 0, 8, .inl g43))]) (upd nz (12 + iz) (u2 iz)) rfl (fun f250 => (f250 0 = nI dy)) (show upd nz (12 + iz) (u2 iz) 0 = nI dy by rw [pk_un (by omega)]; exact hn_) ?_
        rintro f250 xh251
        refine j_ws (ws' := [(ma 48, .inl (y 0, 224, .inl g48)), (ma 46, .inl (y 0, 108, .inl g46)), (ma 62, .inl (y 0, 63, .inl f250)), (ma 63, .inl (y 0, 9, .inl u2)), (ma 45, .inl (y 0, 14, .inl g45)), (ma 50, .inl (y 0, 3200, .inl g50)), (ma 55, .inl (y 2, 16, .inl g55)), (ma 56, .inl (y 0, 16, .inl g56)), (ma 57, .inl (y 0, 16, .inl g57)), (ma 58, .inl (y 0, 16, .inl g58)), (ma 60, .inl (y 1, 1700, .inr (.inl u133.2))), MB mo ma (nI t1) i2 i3 i4 i5 i6 i7 i8 i42 i49 i51 i53 i54 i59 u133.1 v131 i66 (nI t67) i76 i78, (ma 43, .inl (y 0, 8, .inl g43))]) rfl ?_
        have xh251 : f250 0 = nI dy := xh251
        refine j_aload_n (pc := 124) C d_Model_goesBy_124 rfl 6 rfl ?_
        refine j_get (pc := 125) C gf_Model_158 11 rfl rfl d_Model_goesBy_125 ?_
        refine j_bipush (pc := 128) C (v := 21) d_Model_goesBy_128 (by decide) ?_
        refine j_iload (pc := 130) C d_Model_goesBy_130 0 rfl ?_
        refine j_iadd (pc := 132) C (v := nI (21 + iz)) d_Model_goesBy_132 (nI_add _ _) ?_
        refine j_dup2 (pc := 133) C d_Model_goesBy_133 rfl rfl ?_
        refine j_iald (pc := 134) C 2 rfl (v := f250 (21 + iz)) (vp_in_nI (by omega) (by decide)) (by rw [nI_clamp (by omega)]) d_Model_goesBy_134 ?_
        refine j_aload_n (pc := 135) C d_Model_goesBy_135 rfl 6 rfl ?_
        refine j_get (pc := 136) C gf_Model_161 11 rfl rfl d_Model_goesBy_136 ?_
        refine j_iload (pc := 139) C d_Model_goesBy_139 0 rfl ?_
        refine j_iald (pc := 141) C 3 rfl (v := u2 iz) (vp_in_nI (by omega) (by decide)) (by rw [nI_clamp (by omega)]) d_Model_goesBy_141 ?_
        refine j_iadd (pc := 142) C (v := (f250 (21 + iz)) + (u2 iz)) d_Model_goesBy_142 rfl ?_
        refine j_anyI (fun v252 => ?_)
        refine j_iast (pc := 143) C 2 rfl (ws' := [(ma 48, .inl (y 0, 224, .inl g48)), (ma 46, .inl (y 0, 108, .inl g46)), (ma 62, .inl (y 0, 63, .inl (upd f250 (21 + iz) v252))), (ma 63, .inl (y 0, 9, .inl u2)), (ma 45, .inl (y 0, 14, .inl g45)), (ma 50, .inl (y 0, 3200, .inl g50)), (ma 55, .inl (y 2, 16, .inl g55)), (ma 56, .inl (y 0, 16, .inl g56)), (ma 57, .inl (y 0, 16, .inl g57)), (ma 58, .inl (y 0, 16, .inl g58)), (ma 60, .inl (y 1, 1700, .inr (.inl u133.2))), MB mo ma (nI t1) i2 i3 i4 i5 i6 i7 i8 i42 i49 i51 i53 i54 i59 u133.1 v131 i66 (nI t67) i76 i78, (ma 43, .inl (y 0, 8, .inl g43))]) (vp_in_nI (by omega) (by decide)) (by rw [nI_clamp (by omega)]; rfl) d_Model_goesBy_143 ?_
        refine j_genW (fun f253 => [(ma 48, .inl (y 0, 224, .inl g48)), (ma 46, .inl (y 0, 108, .inl g46)), (ma 62, .inl (y 0, 63, .inl f253)), (ma 63, .inl (y 0, 9, .inl u2)), (ma 45, .inl (y 0, 14, .inl g45)), (ma 50, .inl (y 0, 3200, .inl g50)), (ma 55, .inl (y 2, 16, .inl g55)), (ma 56, .inl (y 0, 16, .inl g56)), (ma 57, .inl (y 0, 16, .inl g57)), (ma 58, .inl (y 0, 16, .inl g58)), (ma 60, .inl (y 1, 1700, .inr (.inl u133.2))), MB mo ma (nI t1) i2 i3 i4 i5 i6 i7 i8 i42 i49 i51 i53 i54 i59 u133.1 v131 i66 (nI t67) i76 i78, (ma 43, .inl (y 0, 8, .inl g43))]) (upd f250 (21 + iz) v252) rfl (fun f253 => (f253 0 = nI dy)) (show upd f250 (21 + iz) v252 0 = nI dy by rw [pk_un (by omega)]; exact xh251) ?_
        rintro f253 xh254
        refine j_ws (ws' := [(ma 48, .inl (y 0, 224, .inl g48)), (ma 46, .inl (y 0, 108, .inl g46)), (ma 62, .inl (y 0, 63, .inl f253)), (ma 63, .inl (y 0, 9, .inl u2)), (ma 45, .inl (y 0, 14, .inl g45)), (ma 50, .inl (y 0, 3200, .inl g50)), (ma 55, .inl (y 2, 16, .inl g55)), (ma 56, .inl (y 0, 16, .inl g56)), (ma 57, .inl (y 0, 16, .inl g57)), (ma 58, .inl (y 0, 16, .inl g58)), (ma 60, .inl (y 1, 1700, .inr (.inl u133.2))), MB mo ma (nI t1) i2 i3 i4 i5 i6 i7 i8 i42 i49 i51 i53 i54 i59 u133.1 v131 i66 (nI t67) i76 i78, (ma 43, .inl (y 0, 8, .inl g43))]) rfl ?_
        have xh254 : f253 0 = nI dy := xh254
        refine j_aload_n (pc := 144) C d_Model_goesBy_144 rfl 6 rfl ?_
        refine j_get (pc := 145) C gf_Model_158 11 rfl rfl d_Model_goesBy_145 ?_
        refine j_bipush (pc := 148) C (v := 33) d_Model_goesBy_148 (by decide) ?_
        refine j_dup2 (pc := 150) C d_Model_goesBy_150 rfl rfl ?_
        refine j_iald (pc := 151) C 2 rfl (v := f253 33) (vin (by decide)) rfl d_Model_goesBy_151 ?_
        refine j_aload_n (pc := 152) C d_Model_goesBy_152 rfl 6 rfl ?_
        refine j_get (pc := 153) C gf_Model_161 11 rfl rfl d_Model_goesBy_153 ?_
        refine j_iload (pc := 156) C d_Model_goesBy_156 0 rfl ?_
        refine j_iald (pc := 158) C 3 rfl (v := u2 iz) (vp_in_nI (by omega) (by decide)) (by rw [nI_clamp (by omega)]) d_Model_goesBy_158 ?_
        refine j_iadd (pc := 159) C (v := (f253 33) + (u2 iz)) d_Model_goesBy_159 rfl ?_
        refine j_iast (pc := 160) C 2 rfl (ws' := [(ma 48, .inl (y 0, 224, .inl g48)), (ma 46, .inl (y 0, 108, .inl g46)), (ma 62, .inl (y 0, 63, .inl (upd f253 33 ((f253 33) + (u2 iz))))), (ma 63, .inl (y 0, 9, .inl u2)), (ma 45, .inl (y 0, 14, .inl g45)), (ma 50, .inl (y 0, 3200, .inl g50)), (ma 55, .inl (y 2, 16, .inl g55)), (ma 56, .inl (y 0, 16, .inl g56)), (ma 57, .inl (y 0, 16, .inl g57)), (ma 58, .inl (y 0, 16, .inl g58)), (ma 60, .inl (y 1, 1700, .inr (.inl u133.2))), MB mo ma (nI t1) i2 i3 i4 i5 i6 i7 i8 i42 i49 i51 i53 i54 i59 u133.1 v131 i66 (nI t67) i76 i78, (ma 43, .inl (y 0, 8, .inl g43))]) (vin (by decide)) rfl d_Model_goesBy_160 ?_
        refine j_genW (fun f255 => [(ma 48, .inl (y 0, 224, .inl g48)), (ma 46, .inl (y 0, 108, .inl g46)), (ma 62, .inl (y 0, 63, .inl f255)), (ma 63, .inl (y 0, 9, .inl u2)), (ma 45, .inl (y 0, 14, .inl g45)), (ma 50, .inl (y 0, 3200, .inl g50)), (ma 55, .inl (y 2, 16, .inl g55)), (ma 56, .inl (y 0, 16, .inl g56)), (ma 57, .inl (y 0, 16, .inl g57)), (ma 58, .inl (y 0, 16, .inl g58)), (ma 60, .inl (y 1, 1700, .inr (.inl u133.2))), MB mo ma (nI t1) i2 i3 i4 i5 i6 i7 i8 i42 i49 i51 i53 i54 i59 u133.1 v131 i66 (nI t67) i76 i78, (ma 43, .inl (y 0, 8, .inl g43))]) (upd f253 33 ((f253 33) + (u2 iz))) rfl (fun f255 => (f255 0 = nI dy)) (show upd f253 33 ((f253 33) + (u2 iz)) 0 = nI dy by rw [pk_un (by omega)]; exact xh254) ?_
        rintro f255 xh256
        refine j_ws (ws' := [(ma 48, .inl (y 0, 224, .inl g48)), (ma 46, .inl (y 0, 108, .inl g46)), (ma 62, .inl (y 0, 63, .inl f255)), (ma 63, .inl (y 0, 9, .inl u2)), (ma 45, .inl (y 0, 14, .inl g45)), (ma 50, .inl (y 0, 3200, .inl g50)), (ma 55, .inl (y 2, 16, .inl g55)), (ma 56, .inl (y 0, 16, .inl g56)), (ma 57, .inl (y 0, 16, .inl g57)), (ma 58, .inl (y 0, 16, .inl g58)), (ma 60, .inl (y 1, 1700, .inr (.inl u133.2))), MB mo ma (nI t1) i2 i3 i4 i5 i6 i7 i8 i42 i49 i51 i53 i54 i59 u133.1 v131 i66 (nI t67) i76 i78, (ma 43, .inl (y 0, 8, .inl g43))]) rfl ?_
        have xh256 : f255 0 = nI dy := xh256
        refine j_iinc (pc := 161) C (v := nI (iz + 1)) (lv' := [(7, .int (nI (iz + 1))), (6, .int r132), (5, .int ((r1 + (r3 + v)) - v131)), (4, .int (r1 + (r3 + v))), (3, .int (r3 + v)), (2, .int r1), (0, .ref mo), (1, .int v)]) d_Model_goesBy_161 0 rfl (nI_add _ _) (by decide) rfl ?_
        refine j_goto (pc := 164) C (tgt := 98) d_Model_goesBy_164 (by decide) ?_
        refine j_sub (ws' := [(ma 48, .inl (y 0, 224, .inl g48)), (ma 46, .inl (y 0, 108, .inl g46)), (ma 62, .inl (y 0, 63, .inl f255)), (ma 63, .inl (y 0, 9, .inl u2)), MB mo ma (nI t1) i2 i3 i4 i5 i6 i7 i8 i42 i49 i51 i53 i54 i59 u133.1 v131 i66 (nI t67) i76 i78, (ma 43, .inl (y 0, 8, .inl g43)), (ma 45, .inl (y 0, 14, .inl g45)), (ma 50, .inl (y 0, 3200, .inl g50)), (ma 55, .inl (y 2, 16, .inl g55)), (ma 56, .inl (y 0, 16, .inl g56)), (ma 57, .inl (y 0, 16, .inl g57)), (ma 58, .inl (y 0, 16, .inl g58)), (ma 60, .inl (y 1, 1700, .inr (.inl u133.2)))]) [0, 1, 2, 3, 11, 12, 4, 5, 6, 7, 8, 9, 10] rfl (by decide +kernel) ?_
        exact ih227 ((iz + 1), f255) ⟨(show (iz + 1) ≤ c0 by omega), xh256⟩ (show c0 - (iz + 1) < c0 - iz by omega)
