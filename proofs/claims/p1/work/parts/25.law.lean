theorem d_L_law_505 : decode code 505 = .ok (.aload_n 1, 1) := by decide +kernel
theorem d_L_law_506 : decode code 506 = .ok (.aload_n 0, 1) := by decide +kernel
theorem d_L_law_507 : decode code 507 = .ok (.iload_n 3, 1) := by decide +kernel
theorem d_L_law_508 : decode code 508 = .ok (.iconst 1, 1) := by decide +kernel
theorem d_L_law_509 : decode code 509 = .ok (.iadd, 1) := by decide +kernel
theorem d_L_law_510 : decode code 510 = .ok (.iaload, 1) := by decide +kernel
theorem d_L_law_511 : decode code 511 = .ok (.invokevirtual 64, 3) := by decide +kernel
theorem kw_L_64 : KW "NineBoardsLaw" 64 ⟨"NineBoards", "act", "(I)I"⟩ prog_1_method_13_code 3 (some .int) 1 := ⟨(mt_4 (List.mem_of_getElem? (i := 52) rfl) rfl), (mt_1 (List.mem_of_getElem? (i := 1) rfl) rfl), (mt_4 (List.mem_of_getElem? (i := 55) rfl) rfl), by decide +kernel⟩
theorem kv_Nine_act : Cond.instanceMethod ⟨"NineBoards", "act", "(I)I"⟩ ∈ TB ∧ Cond.selects "NineBoards" ⟨"NineBoards", "act", "(I)I"⟩ ⟨"NineBoards", "act", "(I)I"⟩ ∈ TB := ⟨(mt_4 (List.mem_of_getElem? (i := 53) rfl) rfl), (mt_4 (List.mem_of_getElem? (i := 54) rfl) rfl)⟩
theorem d_L_law_514 : decode code 514 = .ok (.aload_n 2, 1) := by decide +kernel
theorem d_L_law_515 : decode code 515 = .ok (.aload_n 0, 1) := by decide +kernel
theorem d_L_law_516 : decode code 516 = .ok (.iload_n 3, 1) := by decide +kernel
theorem d_L_law_517 : decode code 517 = .ok (.iconst 1, 1) := by decide +kernel
theorem d_L_law_518 : decode code 518 = .ok (.iadd, 1) := by decide +kernel
theorem d_L_law_519 : decode code 519 = .ok (.iaload, 1) := by decide +kernel
theorem d_L_law_520 : decode code 520 = .ok (.invokevirtual 67, 3) := by decide +kernel
theorem kw_L_67 : KW "NineBoardsLaw" 67 ⟨"NineBoardsModel", "act", "(I)I"⟩ prog_13_method_81_code 2 (some .int) 1 := ⟨(mt_7 (List.mem_of_getElem? (i := 111) rfl) rfl), (mt_1 (List.mem_of_getElem? (i := 16) rfl) rfl), (mt_7 (List.mem_of_getElem? (i := 114) rfl) rfl), by decide +kernel⟩
theorem kv_Model_act : Cond.instanceMethod ⟨"NineBoardsModel", "act", "(I)I"⟩ ∈ TB ∧ Cond.selects "NineBoardsModel" ⟨"NineBoardsModel", "act", "(I)I"⟩ ⟨"NineBoardsModel", "act", "(I)I"⟩ ∈ TB := ⟨(mt_7 (List.mem_of_getElem? (i := 112) rfl) rfl), (mt_7 (List.mem_of_getElem? (i := 113) rfl) rfl)⟩
theorem d_L_law_523 : decode code 523 = .ok (.if_icmp .eq 601, 3) := by decide +kernel
set_option maxHeartbeats 4000000 in
set_option maxRecDepth 100000 in
theorem lc_11 {p : Program} {l : Launch} {e : Env} {s : State} {m : MethodId} {below : List Frame} {meth : Method} {c : Code} {Q : State → Prop} {D : va_G} {y : Nat → ClassId} {nm : String} {b : Nat} {xs : Nat → Int32} (C : Cx p s m #[Value.ref b] meth c D y (LA s) code 4 "NineBoardsLaw" nm) (hX : va_X b 6 xs s s.heap) (hbl : b < s.heap.size) (x : Nat) (mo : Nat) (u1 : Nat → Nat) (r1 : Nat → Nat) (r2 : Nat → Nat → Nat) (h1 : Nat → Nat) (a1 : Nat → Nat → Nat) (g1 : Nat → Nat) (c1 : Nat → Nat) (v1 : Nat → Nat) (kx : J p l e room_1 s m #[Value.ref b] below meth c Q D (LA s) 4 [] [(3, .int 0), (0, .ref b)] 451 27020 1124 []) : J p l e room_1 s m #[Value.ref b] below meth c Q D (LA s) 4 (LW y x mo u1 r1 r2 h1 a1 g1 c1 v1) [(3, .int 0), (2, .ref mo), (1, .ref x), (0, .ref b)] 451 27020 505 [] := by
  by_cases hz : xs 1 = 0
  · refine j_aload_n (pc := 505) C d_L_law_505 rfl 2 rfl ?_
    refine j_aload_n (pc := 506) C d_L_law_506 rfl 3 rfl ?_
    refine j_iload_n (pc := 507) C d_L_law_507 rfl 0 rfl ?_
    refine j_iconst (pc := 508) C (v := 1) d_L_law_508 (by decide) ?_
    refine j_iadd (pc := 509) C (v := 1) d_L_law_509 (by decide) ?_
    refine j_sld (pc := 510) C hX hbl (v := 0) (vin (by decide)) hz d_L_law_510 ?_
    refine j_sl (ws' := (([(x, .inr (9, [.ref (u1 0), .ref (u1 1), .ref (u1 2), .ref (u1 3), .ref (u1 4), .ref (u1 5), .ref (u1 6), .ref (u1 7), .ref (u1 8), .int 1])), (u1 0, .inr (0, [.ref (u1 9), .int 0])), (u1 9, .inl (y 0, 1600, .inl (fun _ => 0))), (u1 1, .inr (0, [.ref (u1 10), .int 0])), (u1 10, .inl (y 0, 15, .inl (fun _ => 0))), (u1 2, .inr (7, [.int 0, .int 0, .int 0, .ref (u1 11), .ref (u1 12), .ref (u1 13), .ref (u1 14), .ref (u1 15), .ref (u1 16), .ref (u1 17)])), (u1 11, .inl (y 0, 9, .inl (fun _ => 0))), (u1 12, .inl (y 0, 9, .inl (fun _ => 0))), (u1 13, .inl (y 1, 9, .inr (.inl (fun _ => 0)))), (u1 14, .inl (y 0, 6, .inl (fun _ => 0))), (u1 15, .inl (y 0, 6, .inl (fun _ => 0))), (u1 16, .inl (y 0, 16, .inl (fun _ => 0))), (u1 17, .inl (y 1, 5, .inr (.inl (fun _ => 0)))), (u1 3, .inr (7, [.int 0, .int 0, .int 0, .ref (u1 18), .ref (u1 19), .ref (u1 20), .ref (u1 21), .ref (u1 22), .ref (u1 23), .ref (u1 24)])), (u1 18, .inl (y 0, 9, .inl (fun _ => 0))), (u1 19, .inl (y 0, 9, .inl (fun _ => 0))), (u1 20, .inl (y 1, 9, .inr (.inl (fun _ => 0)))), (u1 21, .inl (y 0, 6, .inl (fun _ => 0))), (u1 22, .inl (y 0, 6, .inl (fun _ => 0))), (u1 23, .inl (y 0, 16, .inl (fun _ => 0))), (u1 24, .inl (y 1, 5, .inr (.inl (fun _ => 0)))), (u1 4, .inr (3, [.int 0, .int (nI 0), .ref (u1 25)])), (u1 25, .inl (y 4, 30, .inr (.inr (.inr (.inr (fun j => some (r1 j))))))), (u1 5, .inr (2, [.int 0, .int 1, .int 1, .int 0, .ref (u1 26), .int 0, .ref (u1 27), .ref (u1 28), .ref (u1 29), .ref (u1 30), .int 0, .int 0, .int 9999, .int 0])), (u1 26, .inr (1, [.int 0, .ref (u1 31), .ref (u1 32), .ref (u1 33), .ref (u1 34), .ref (u1 35), .ref (u1 36), .ref (u1 37)])), (u1 29, .inr (8, [.int 0, .ref (u1 38), .ref (u1 39), .ref (u1 40), .ref (u1 41), .ref (u1 42), .ref (u1 43), .ref (u1 44)])), (u1 30, .inr (6, [.int 0, .int 0, .ref (u1 45), .ref (u1 46), .ref (u1 47), .ref (u1 48), .ref (u1 49), .ref (u1 50)])), (u1 6, .inr (2, [.int 0, .int 1, .int 1, .int 0, .ref (u1 51), .int 0, .ref (u1 52), .ref (u1 53), .ref (u1 54), .ref (u1 55), .int 0, .int 0, .int 9999, .int 0])), (u1 51, .inr (1, [.int 0, .ref (u1 56), .ref (u1 57), .ref (u1 58), .ref (u1 59), .ref (u1 60), .ref (u1 61), .ref (u1 62)])), (u1 54, .inr (8, [.int 0, .ref (u1 63), .ref (u1 64), .ref (u1 65), .ref (u1 66), .ref (u1 67), .ref (u1 68), .ref (u1 69)])), (u1 55, .inr (6, [.int 0, .int 0, .ref (u1 70), .ref (u1 71), .ref (u1 72), .ref (u1 73), .ref (u1 74), .ref (u1 75)])), (u1 7, .inr (5, [.int 0, .int (-1), .ref (u1 76), .ref (u1 0), .ref (u1 6), .int 0, .int 0, .int 0, .long 0, .int 0, .int 0, .int 0])), (u1 8, .inr (4, [.ref (u1 77), .ref (u1 78), .ref (u1 79), .ref (u1 5), .int 0, .int 0])), (u1 77, .inl (y 4, 7, .inr (.inr (.inr (.inr (fun j => some (h1 j))))))), (u1 78, .inl (y 5, 7, .inr (.inr (.inr (.inr (fun j => some (g1 j))))))), (u1 79, .inl (y 5, 7, .inr (.inr (.inr (.inr (fun j => some (c1 j))))))), MB mo v1 0 0 0 0 0 0 0 (-1) 0 0 0 0 0 0 0 0 0 0 1 0, (v1 0, .inl (y 0, 1600, .inl (fun _ => 0))), (v1 43, .inl (y 0, 8, .inl (fun _ => 0))), (v1 45, .inl (y 0, 14, .inl lakeF)), (v1 62, .inl (y 0, 63, .inl (dayF 0))), (v1 65, .inl (y 0, 1890, .inl (fun _ => 0))), (v1 68, .inl (y 0, 63, .inl (fun _ => 0))), (v1 70, .inl (y 0, 6558, .inl (fun _ => 0))), (v1 71, .inl (y 0, 1093, .inl (fun _ => 0))), (v1 72, .inl (y 0, 7, .inl powF)), (v1 74, .inl (y 0, 13, .inl (fun _ => 0))), (v1 75, .inl (y 0, 13, .inl (fun _ => 0))), (v1 77, .inl (y 0, 15, .inl (fun _ => 0)))] : va_W) ++ RG y r1 r2 (fun _ => 0) (List.range 30))) (List.Sublist.append (List.Sublist.refl _) (List.sublist_append_right _ _)) ?_
    refine j_subT (X' := [(x, .inr (9, [.ref (u1 0), .ref (u1 1), .ref (u1 2), .ref (u1 3), .ref (u1 4), .ref (u1 5), .ref (u1 6), .ref (u1 7), .ref (u1 8), .int 1])), (u1 4, .inr (3, [.int 0, .int (nI 0), .ref (u1 25)])), (u1 25, .inl (y 4, 30, .inr (.inr (.inr (.inr (fun j => some (r1 j))))))), (u1 5, .inr (2, [.int 0, .int 1, .int 1, .int 0, .ref (u1 26), .int 0, .ref (u1 27), .ref (u1 28), .ref (u1 29), .ref (u1 30), .int 0, .int 0, .int 9999, .int 0])), (u1 26, .inr (1, [.int 0, .ref (u1 31), .ref (u1 32), .ref (u1 33), .ref (u1 34), .ref (u1 35), .ref (u1 36), .ref (u1 37)])), (u1 29, .inr (8, [.int 0, .ref (u1 38), .ref (u1 39), .ref (u1 40), .ref (u1 41), .ref (u1 42), .ref (u1 43), .ref (u1 44)])), (u1 30, .inr (6, [.int 0, .int 0, .ref (u1 45), .ref (u1 46), .ref (u1 47), .ref (u1 48), .ref (u1 49), .ref (u1 50)])), (u1 2, .inr (7, [.int 0, .int 0, .int 0, .ref (u1 11), .ref (u1 12), .ref (u1 13), .ref (u1 14), .ref (u1 15), .ref (u1 16), .ref (u1 17)])), (u1 11, .inl (y 0, 9, .inl (fun _ => 0))), (u1 12, .inl (y 0, 9, .inl (fun _ => 0))), (u1 13, .inl (y 1, 9, .inr (.inl (fun _ => 0)))), (u1 14, .inl (y 0, 6, .inl (fun _ => 0))), (u1 15, .inl (y 0, 6, .inl (fun _ => 0))), (u1 16, .inl (y 0, 16, .inl (fun _ => 0))), (u1 17, .inl (y 1, 5, .inr (.inl (fun _ => 0)))), MB mo v1 0 0 0 0 0 0 0 (-1) 0 0 0 0 0 0 0 0 0 0 1 0, (v1 0, .inl (y 0, 1600, .inl (fun _ => 0))), (v1 43, .inl (y 0, 8, .inl (fun _ => 0))), (v1 45, .inl (y 0, 14, .inl lakeF)), (v1 62, .inl (y 0, 63, .inl (dayF 0))), (v1 65, .inl (y 0, 1890, .inl (fun _ => 0))), (v1 68, .inl (y 0, 63, .inl (fun _ => 0))), (v1 70, .inl (y 0, 6558, .inl (fun _ => 0))), (v1 71, .inl (y 0, 1093, .inl (fun _ => 0))), (v1 72, .inl (y 0, 7, .inl powF)), (v1 74, .inl (y 0, 13, .inl (fun _ => 0))), (v1 75, .inl (y 0, 13, .inl (fun _ => 0))), (v1 77, .inl (y 0, 15, .inl (fun _ => 0)))]) [0, 21, 22, 23, 24, 25, 26, 5, 6, 7, 8, 9, 10, 11, 12, 36, 37, 38, 39, 40, 41, 42, 43, 44, 45, 46, 47, 48] rfl (by decide) ?_
    refine j_callViP (pc := 511) (ws' := fun (_ : Unit) => ([] : va_W)) (T' := fun (_ : Unit) => ([] : va_W)) C (c_N_act_0 l D y x (u1 0) (u1 1) (u1 2) (u1 3) (u1 4) (u1 5) (u1 6) (u1 7) (u1 8) (u1 25) (fun _ => none) r1 (u1 26) (u1 27) (u1 28) (u1 29) (u1 30) (u1 31) (u1 32) (u1 33) (u1 34) (u1 35) (u1 36) (u1 37) (u1 38) (u1 39) (u1 40) (u1 41) (u1 42) (u1 43) (u1 44) (u1 45) (u1 46) (u1 47) (u1 48) (u1 49) (u1 50) (u1 11) (u1 12) (u1 13) (u1 14) (u1 15) (u1 16) (u1 17) r2 (fun _ => 0)) kw_L_64 kv_Nine_act 0 9 rfl rfl ⟨by decide, by decide⟩ ⟨by decide, by decide⟩ (wr := [MB mo v1 0 0 0 0 0 0 0 (-1) 0 0 0 0 0 0 0 0 0 0 1 0, (v1 0, .inl (y 0, 1600, .inl (fun _ => 0))), (v1 43, .inl (y 0, 8, .inl (fun _ => 0))), (v1 45, .inl (y 0, 14, .inl lakeF)), (v1 62, .inl (y 0, 63, .inl (dayF 0))), (v1 65, .inl (y 0, 1890, .inl (fun _ => 0))), (v1 68, .inl (y 0, 63, .inl (fun _ => 0))), (v1 70, .inl (y 0, 6558, .inl (fun _ => 0))), (v1 71, .inl (y 0, 1093, .inl (fun _ => 0))), (v1 72, .inl (y 0, 7, .inl powF)), (v1 74, .inl (y 0, 13, .inl (fun _ => 0))), (v1 75, .inl (y 0, 13, .inl (fun _ => 0))), (v1 77, .inl (y 0, 15, .inl (fun _ => 0)))]) [0, 1, 2, 3, 4, 5, 6, 7, 8, 9, 10, 11, 12, 13, 14] [15, 16, 17, 18, 19, 20, 21, 22, 23, 24, 25, 26, 27] rfl rfl (by decide) (by decide) (by decide) (As := [.int 0]) (rest := []) rfl (nb rfl) rfl d_L_law_511 (fun r3 _ hr3 => ?_)
    subst hr3
    refine j_ws (ws' := [MB mo v1 0 0 0 0 0 0 0 (-1) 0 0 0 0 0 0 0 0 0 0 1 0, (v1 0, .inl (y 0, 1600, .inl (fun _ => 0))), (v1 43, .inl (y 0, 8, .inl (fun _ => 0))), (v1 45, .inl (y 0, 14, .inl lakeF)), (v1 62, .inl (y 0, 63, .inl (dayF 0))), (v1 65, .inl (y 0, 1890, .inl (fun _ => 0))), (v1 68, .inl (y 0, 63, .inl (fun _ => 0))), (v1 70, .inl (y 0, 6558, .inl (fun _ => 0))), (v1 71, .inl (y 0, 1093, .inl (fun _ => 0))), (v1 72, .inl (y 0, 7, .inl powF)), (v1 74, .inl (y 0, 13, .inl (fun _ => 0))), (v1 75, .inl (y 0, 13, .inl (fun _ => 0))), (v1 77, .inl (y 0, 15, .inl (fun _ => 0)))]) rfl ?_
    refine j_st (st' := [.int 0]) rfl ?_
    refine j_aload_n (pc := 514) C d_L_law_514 rfl 1 rfl ?_
    refine j_aload_n (pc := 515) C d_L_law_515 rfl 3 rfl ?_
    refine j_iload_n (pc := 516) C d_L_law_516 rfl 0 rfl ?_
    refine j_iconst (pc := 517) C (v := 1) d_L_law_517 (by decide) ?_
    refine j_iadd (pc := 518) C (v := 1) d_L_law_518 (by decide) ?_
    refine j_sld (pc := 519) C hX hbl (v := 0) (vin (by decide)) hz d_L_law_519 ?_
    refine j_sub (ws' := [MB mo v1 0 0 0 0 0 0 0 (-1) 0 0 0 0 0 0 0 0 0 (nI 0) 1 0, (v1 43, .inl (y 0, 8, .inl (fun _ => 0))), (v1 62, .inl (y 0, 63, .inl (dayF 0))), (v1 45, .inl (y 0, 14, .inl lakeF)), (v1 65, .inl (y 0, 1890, .inl (fun _ => 0)))]) [0, 2, 4, 3, 5] rfl (by decide) ?_
    refine j_callVi (pc := 520) C (c_M_act_0 l D y mo v1 (fun _ => 0)) kw_L_67 kv_Model_act 0 10 rfl rfl ⟨by decide, by decide⟩ ⟨by decide, by decide⟩ (wr := []) [0, 1, 2, 3, 4] [] rfl rfl (by decide) (by decide) (by decide) (As := [.int 0]) (rest := [.int 0]) rfl (nb rfl) rfl d_L_law_520 (fun r4 _ hr4 => ?_)
    subst hr4
    refine j_ws (ws' := []) rfl ?_
    refine j_st (st' := [.int 0, .int 0]) rfl ?_
    refine j_icmp_eqT (pc := 523) C (tgt := 1124) d_L_law_523 (by decide) (by decide) ?_
    refine j_sub (ws' := []) [] rfl (by decide) ?_
    refine j_locs (lv' := [(3, .int 0), (0, .ref b)]) [0, 3] rfl ?_
    exact kx
  · refine j_aload_n (pc := 505) C d_L_law_505 rfl 2 rfl ?_
    refine j_aload_n (pc := 506) C d_L_law_506 rfl 3 rfl ?_
    refine j_iload_n (pc := 507) C d_L_law_507 rfl 0 rfl ?_
    refine j_iconst (pc := 508) C (v := 1) d_L_law_508 (by decide) ?_
    refine j_iadd (pc := 509) C (v := 1) d_L_law_509 (by decide) ?_
    refine j_sld (pc := 510) C hX hbl (v := xs 1) (vin (by decide)) rfl d_L_law_510 ?_
    refine j_drop ?_
    refine j_sub (ws' := [(x, .inr (9, [.ref (u1 0), .ref (u1 1), .ref (u1 2), .ref (u1 3), .ref (u1 4), .ref (u1 5), .ref (u1 6), .ref (u1 7), .ref (u1 8), .int 1])), (u1 5, .inr (2, [.int 0, .int 1, .int 1, .int 0, .ref (u1 26), .int 0, .ref (u1 27), .ref (u1 28), .ref (u1 29), .ref (u1 30), .int 0, .int 0, .int 9999, .int 0])), (u1 2, .inr (7, [.int 0, .int 0, .int 0, .ref (u1 11), .ref (u1 12), .ref (u1 13), .ref (u1 14), .ref (u1 15), .ref (u1 16), .ref (u1 17)])), MB mo v1 0 0 0 0 0 0 0 (-1) 0 0 0 0 0 0 0 0 0 0 1 0, (v1 0, .inl (y 0, 1600, .inl (fun _ => 0))), (v1 43, .inl (y 0, 8, .inl (fun _ => 0))), (v1 45, .inl (y 0, 14, .inl lakeF)), (v1 62, .inl (y 0, 63, .inl (dayF 0))), (v1 65, .inl (y 0, 1890, .inl (fun _ => 0))), (v1 68, .inl (y 0, 63, .inl (fun _ => 0))), (v1 70, .inl (y 0, 6558, .inl (fun _ => 0))), (v1 71, .inl (y 0, 1093, .inl (fun _ => 0))), (v1 72, .inl (y 0, 7, .inl powF)), (v1 74, .inl (y 0, 13, .inl (fun _ => 0))), (v1 75, .inl (y 0, 13, .inl (fun _ => 0))), (v1 77, .inl (y 0, 15, .inl (fun _ => 0)))]) [0, 23, 5, 36, 37, 38, 39, 40, 41, 42, 43, 44, 45, 46, 47, 48] rfl (by decide) ?_
    refine j_callVi (pc := 511) C (c_N_act_n l D y x (u1 0) (u1 1) (u1 2) (u1 3) (u1 4) (u1 5) (u1 6) (u1 7) (u1 8) (u1 26) (u1 27) (u1 28) (u1 29) (u1 30) (u1 11) (u1 12) (u1 13) (u1 14) (u1 15) (u1 16) (u1 17) (xs 1) hz) kw_L_64 kv_Nine_act 0 9 rfl rfl ⟨by decide, by decide⟩ ⟨by decide, by decide⟩ (wr := [MB mo v1 0 0 0 0 0 0 0 (-1) 0 0 0 0 0 0 0 0 0 0 1 0, (v1 0, .inl (y 0, 1600, .inl (fun _ => 0))), (v1 43, .inl (y 0, 8, .inl (fun _ => 0))), (v1 45, .inl (y 0, 14, .inl lakeF)), (v1 62, .inl (y 0, 63, .inl (dayF 0))), (v1 65, .inl (y 0, 1890, .inl (fun _ => 0))), (v1 68, .inl (y 0, 63, .inl (fun _ => 0))), (v1 70, .inl (y 0, 6558, .inl (fun _ => 0))), (v1 71, .inl (y 0, 1093, .inl (fun _ => 0))), (v1 72, .inl (y 0, 7, .inl powF)), (v1 74, .inl (y 0, 13, .inl (fun _ => 0))), (v1 75, .inl (y 0, 13, .inl (fun _ => 0))), (v1 77, .inl (y 0, 15, .inl (fun _ => 0)))]) [0, 1, 2] [3, 4, 5, 6, 7, 8, 9, 10, 11, 12, 13, 14, 15] rfl rfl (by decide) (by decide) (by decide) (As := [.int (xs 1)]) (rest := []) rfl (nb rfl) rfl d_L_law_511 (fun r5 _ hr5 => ?_)
    subst hr5
    refine j_ws (ws' := [MB mo v1 0 0 0 0 0 0 0 (-1) 0 0 0 0 0 0 0 0 0 0 1 0, (v1 0, .inl (y 0, 1600, .inl (fun _ => 0))), (v1 43, .inl (y 0, 8, .inl (fun _ => 0))), (v1 45, .inl (y 0, 14, .inl lakeF)), (v1 62, .inl (y 0, 63, .inl (dayF 0))), (v1 65, .inl (y 0, 1890, .inl (fun _ => 0))), (v1 68, .inl (y 0, 63, .inl (fun _ => 0))), (v1 70, .inl (y 0, 6558, .inl (fun _ => 0))), (v1 71, .inl (y 0, 1093, .inl (fun _ => 0))), (v1 72, .inl (y 0, 7, .inl powF)), (v1 74, .inl (y 0, 13, .inl (fun _ => 0))), (v1 75, .inl (y 0, 13, .inl (fun _ => 0))), (v1 77, .inl (y 0, 15, .inl (fun _ => 0)))]) rfl ?_
    refine j_st (st' := [.int (-1)]) rfl ?_
    refine j_aload_n (pc := 514) C d_L_law_514 rfl 1 rfl ?_
    refine j_aload_n (pc := 515) C d_L_law_515 rfl 3 rfl ?_
    refine j_iload_n (pc := 516) C d_L_law_516 rfl 0 rfl ?_
    refine j_iconst (pc := 517) C (v := 1) d_L_law_517 (by decide) ?_
    refine j_iadd (pc := 518) C (v := 1) d_L_law_518 (by decide) ?_
    refine j_sld (pc := 519) C hX hbl (v := xs 1) (vin (by decide)) rfl d_L_law_519 ?_
    refine j_sub (ws' := [MB mo v1 0 0 0 0 0 0 0 (-1) 0 0 0 0 0 0 0 0 0 0 1 0, (v1 43, .inl (y 0, 8, .inl (fun _ => 0))), (v1 62, .inl (y 0, 63, .inl (dayF 0)))]) [0, 2, 4] rfl (by decide) ?_
    refine j_callVi (pc := 520) C (c_M_act_n l D y mo v1 (xs 1) hz) kw_L_67 kv_Model_act 0 10 rfl rfl ⟨by decide, by decide⟩ ⟨by decide, by decide⟩ (wr := []) [0, 1, 2] [] rfl rfl (by decide) (by decide) (by decide) (As := [.int (xs 1)]) (rest := [.int (-1)]) rfl (nb rfl) rfl d_L_law_520 (fun r6 _ hr6 => ?_)
    subst hr6
    refine j_ws (ws' := []) rfl ?_
    refine j_st (st' := [.int (-1), .int (-1)]) rfl ?_
    refine j_icmp_eqT (pc := 523) C (tgt := 1124) d_L_law_523 (by decide) (by decide) ?_
    refine j_sub (ws' := []) [] rfl (by decide) ?_
    refine j_locs (lv' := [(3, .int 0), (0, .ref b)]) [0, 3] rfl ?_
    exact kx
theorem d_L_law_528 : decode code 528 = .ok (.aload_n 1, 1) := by decide +kernel
theorem d_L_law_529 : decode code 529 = .ok (.aload_n 0, 1) := by decide +kernel
theorem d_L_law_530 : decode code 530 = .ok (.iload_n 3, 1) := by decide +kernel
theorem d_L_law_531 : decode code 531 = .ok (.iconst 1, 1) := by decide +kernel
theorem d_L_law_532 : decode code 532 = .ok (.iadd, 1) := by decide +kernel
theorem d_L_law_533 : decode code 533 = .ok (.iaload, 1) := by decide +kernel
theorem d_L_law_534 : decode code 534 = .ok (.invokevirtual 68, 3) := by decide +kernel
theorem kw_L_68 : KW "NineBoardsLaw" 68 ⟨"NineBoards", "rest", "(I)I"⟩ prog_1_method_14_code 3 (some .int) 1 := ⟨(mt_4 (List.mem_of_getElem? (i := 110) rfl) rfl), (mt_1 (List.mem_of_getElem? (i := 1) rfl) rfl), (mt_4 (List.mem_of_getElem? (i := 113) rfl) rfl), by decide +kernel⟩
theorem kv_Nine_rest : Cond.instanceMethod ⟨"NineBoards", "rest", "(I)I"⟩ ∈ TB ∧ Cond.selects "NineBoards" ⟨"NineBoards", "rest", "(I)I"⟩ ⟨"NineBoards", "rest", "(I)I"⟩ ∈ TB := ⟨(mt_4 (List.mem_of_getElem? (i := 111) rfl) rfl), (mt_4 (List.mem_of_getElem? (i := 112) rfl) rfl)⟩
theorem d_L_law_537 : decode code 537 = .ok (.aload_n 2, 1) := by decide +kernel
theorem d_L_law_538 : decode code 538 = .ok (.aload_n 0, 1) := by decide +kernel
theorem d_L_law_539 : decode code 539 = .ok (.iload_n 3, 1) := by decide +kernel
theorem d_L_law_540 : decode code 540 = .ok (.iconst 1, 1) := by decide +kernel
theorem d_L_law_541 : decode code 541 = .ok (.iadd, 1) := by decide +kernel
theorem d_L_law_542 : decode code 542 = .ok (.iaload, 1) := by decide +kernel
theorem d_L_law_543 : decode code 543 = .ok (.invokevirtual 71, 3) := by decide +kernel
theorem kw_L_71 : KW "NineBoardsLaw" 71 ⟨"NineBoardsModel", "rest", "(I)I"⟩ prog_13_method_82_code 3 (some .int) 1 := ⟨(mt_7 (List.mem_of_getElem? (i := 167) rfl) rfl), (mt_1 (List.mem_of_getElem? (i := 16) rfl) rfl), (mt_7 (List.mem_of_getElem? (i := 170) rfl) rfl), by decide +kernel⟩
theorem kv_Model_rest : Cond.instanceMethod ⟨"NineBoardsModel", "rest", "(I)I"⟩ ∈ TB ∧ Cond.selects "NineBoardsModel" ⟨"NineBoardsModel", "rest", "(I)I"⟩ ⟨"NineBoardsModel", "rest", "(I)I"⟩ ∈ TB := ⟨(mt_7 (List.mem_of_getElem? (i := 168) rfl) rfl), (mt_7 (List.mem_of_getElem? (i := 169) rfl) rfl)⟩
theorem d_L_law_546 : decode code 546 = .ok (.if_icmp .eq 578, 3) := by decide +kernel
set_option maxHeartbeats 4000000 in
set_option maxRecDepth 100000 in
theorem lc_12 {p : Program} {l : Launch} {e : Env} {s : State} {m : MethodId} {below : List Frame} {meth : Method} {c : Code} {Q : State → Prop} {D : va_G} {y : Nat → ClassId} {nm : String} {b : Nat} {xs : Nat → Int32} (C : Cx p s m #[Value.ref b] meth c D y (LA s) code 4 "NineBoardsLaw" nm) (hX : va_X b 6 xs s s.heap) (hbl : b < s.heap.size) (x : Nat) (mo : Nat) (u1 : Nat → Nat) (r1 : Nat → Nat) (r2 : Nat → Nat → Nat) (h1 : Nat → Nat) (a1 : Nat → Nat → Nat) (g1 : Nat → Nat) (c1 : Nat → Nat) (v1 : Nat → Nat) (kx : J p l e room_1 s m #[Value.ref b] below meth c Q D (LA s) 4 [] [(3, .int 0), (0, .ref b)] 451 27020 1124 []) : J p l e room_1 s m #[Value.ref b] below meth c Q D (LA s) 4 (LW y x mo u1 r1 r2 h1 a1 g1 c1 v1) [(3, .int 0), (2, .ref mo), (1, .ref x), (0, .ref b)] 451 27020 528 [] := by
  refine j_aload_n (pc := 528) C d_L_law_528 rfl 2 rfl ?_
  refine j_aload_n (pc := 529) C d_L_law_529 rfl 3 rfl ?_
  refine j_iload_n (pc := 530) C d_L_law_530 rfl 0 rfl ?_
  refine j_iconst (pc := 531) C (v := 1) d_L_law_531 (by decide) ?_
  refine j_iadd (pc := 532) C (v := 1) d_L_law_532 (by decide) ?_
  refine j_sld (pc := 533) C hX hbl (v := xs 1) (vin (by decide)) rfl d_L_law_533 ?_
  refine j_sl (ws' := (([(x, .inr (9, [.ref (u1 0), .ref (u1 1), .ref (u1 2), .ref (u1 3), .ref (u1 4), .ref (u1 5), .ref (u1 6), .ref (u1 7), .ref (u1 8), .int 1])), (u1 0, .inr (0, [.ref (u1 9), .int 0])), (u1 9, .inl (y 0, 1600, .inl (fun _ => 0))), (u1 1, .inr (0, [.ref (u1 10), .int 0])), (u1 10, .inl (y 0, 15, .inl (fun _ => 0))), (u1 2, .inr (7, [.int 0, .int 0, .int 0, .ref (u1 11), .ref (u1 12), .ref (u1 13), .ref (u1 14), .ref (u1 15), .ref (u1 16), .ref (u1 17)])), (u1 11, .inl (y 0, 9, .inl (fun _ => 0))), (u1 12, .inl (y 0, 9, .inl (fun _ => 0))), (u1 13, .inl (y 1, 9, .inr (.inl (fun _ => 0)))), (u1 14, .inl (y 0, 6, .inl (fun _ => 0))), (u1 15, .inl (y 0, 6, .inl (fun _ => 0))), (u1 16, .inl (y 0, 16, .inl (fun _ => 0))), (u1 17, .inl (y 1, 5, .inr (.inl (fun _ => 0)))), (u1 3, .inr (7, [.int 0, .int 0, .int 0, .ref (u1 18), .ref (u1 19), .ref (u1 20), .ref (u1 21), .ref (u1 22), .ref (u1 23), .ref (u1 24)])), (u1 18, .inl (y 0, 9, .inl (fun _ => 0))), (u1 19, .inl (y 0, 9, .inl (fun _ => 0))), (u1 20, .inl (y 1, 9, .inr (.inl (fun _ => 0)))), (u1 21, .inl (y 0, 6, .inl (fun _ => 0))), (u1 22, .inl (y 0, 6, .inl (fun _ => 0))), (u1 23, .inl (y 0, 16, .inl (fun _ => 0))), (u1 24, .inl (y 1, 5, .inr (.inl (fun _ => 0)))), (u1 4, .inr (3, [.int 0, .int (nI 0), .ref (u1 25)])), (u1 25, .inl (y 4, 30, .inr (.inr (.inr (.inr (fun j => some (r1 j))))))), (u1 5, .inr (2, [.int 0, .int 1, .int 1, .int 0, .ref (u1 26), .int 0, .ref (u1 27), .ref (u1 28), .ref (u1 29), .ref (u1 30), .int 0, .int 0, .int 9999, .int 0])), (u1 26, .inr (1, [.int 0, .ref (u1 31), .ref (u1 32), .ref (u1 33), .ref (u1 34), .ref (u1 35), .ref (u1 36), .ref (u1 37)])), (u1 29, .inr (8, [.int 0, .ref (u1 38), .ref (u1 39), .ref (u1 40), .ref (u1 41), .ref (u1 42), .ref (u1 43), .ref (u1 44)])), (u1 30, .inr (6, [.int 0, .int 0, .ref (u1 45), .ref (u1 46), .ref (u1 47), .ref (u1 48), .ref (u1 49), .ref (u1 50)])), (u1 6, .inr (2, [.int 0, .int 1, .int 1, .int 0, .ref (u1 51), .int 0, .ref (u1 52), .ref (u1 53), .ref (u1 54), .ref (u1 55), .int 0, .int 0, .int 9999, .int 0])), (u1 51, .inr (1, [.int 0, .ref (u1 56), .ref (u1 57), .ref (u1 58), .ref (u1 59), .ref (u1 60), .ref (u1 61), .ref (u1 62)])), (u1 54, .inr (8, [.int 0, .ref (u1 63), .ref (u1 64), .ref (u1 65), .ref (u1 66), .ref (u1 67), .ref (u1 68), .ref (u1 69)])), (u1 55, .inr (6, [.int 0, .int 0, .ref (u1 70), .ref (u1 71), .ref (u1 72), .ref (u1 73), .ref (u1 74), .ref (u1 75)])), (u1 7, .inr (5, [.int 0, .int (-1), .ref (u1 76), .ref (u1 0), .ref (u1 6), .int 0, .int 0, .int 0, .long 0, .int 0, .int 0, .int 0])), (u1 8, .inr (4, [.ref (u1 77), .ref (u1 78), .ref (u1 79), .ref (u1 5), .int 0, .int 0])), (u1 77, .inl (y 4, 7, .inr (.inr (.inr (.inr (fun j => some (h1 j))))))), (u1 78, .inl (y 5, 7, .inr (.inr (.inr (.inr (fun j => some (g1 j))))))), (u1 79, .inl (y 5, 7, .inr (.inr (.inr (.inr (fun j => some (c1 j))))))), MB mo v1 0 0 0 0 0 0 0 (-1) 0 0 0 0 0 0 0 0 0 0 1 0, (v1 0, .inl (y 0, 1600, .inl (fun _ => 0))), (v1 43, .inl (y 0, 8, .inl (fun _ => 0))), (v1 45, .inl (y 0, 14, .inl lakeF)), (v1 62, .inl (y 0, 63, .inl (dayF 0))), (v1 65, .inl (y 0, 1890, .inl (fun _ => 0))), (v1 68, .inl (y 0, 63, .inl (fun _ => 0))), (v1 70, .inl (y 0, 6558, .inl (fun _ => 0))), (v1 71, .inl (y 0, 1093, .inl (fun _ => 0))), (v1 72, .inl (y 0, 7, .inl powF)), (v1 74, .inl (y 0, 13, .inl (fun _ => 0))), (v1 75, .inl (y 0, 13, .inl (fun _ => 0))), (v1 77, .inl (y 0, 15, .inl (fun _ => 0)))] : va_W) ++ RG y r1 r2 (fun _ => 0) (List.range 30))) (List.Sublist.append (List.Sublist.refl _) (List.sublist_append_right _ _)) ?_
  refine j_subT (X' := [(x, .inr (9, [.ref (u1 0), .ref (u1 1), .ref (u1 2), .ref (u1 3), .ref (u1 4), .ref (u1 5), .ref (u1 6), .ref (u1 7), .ref (u1 8), .int 1])), (u1 4, .inr (3, [.int 0, .int (nI 0), .ref (u1 25)])), (u1 25, .inl (y 4, 30, .inr (.inr (.inr (.inr (fun j => some (r1 j))))))), (u1 5, .inr (2, [.int 0, .int 1, .int 1, .int 0, .ref (u1 26), .int 0, .ref (u1 27), .ref (u1 28), .ref (u1 29), .ref (u1 30), .int 0, .int 0, .int 9999, .int 0])), (u1 26, .inr (1, [.int 0, .ref (u1 31), .ref (u1 32), .ref (u1 33), .ref (u1 34), .ref (u1 35), .ref (u1 36), .ref (u1 37)])), (u1 29, .inr (8, [.int 0, .ref (u1 38), .ref (u1 39), .ref (u1 40), .ref (u1 41), .ref (u1 42), .ref (u1 43), .ref (u1 44)])), (u1 30, .inr (6, [.int 0, .int 0, .ref (u1 45), .ref (u1 46), .ref (u1 47), .ref (u1 48), .ref (u1 49), .ref (u1 50)])), (u1 2, .inr (7, [.int 0, .int 0, .int 0, .ref (u1 11), .ref (u1 12), .ref (u1 13), .ref (u1 14), .ref (u1 15), .ref (u1 16), .ref (u1 17)])), (u1 11, .inl (y 0, 9, .inl (fun _ => 0))), (u1 12, .inl (y 0, 9, .inl (fun _ => 0))), (u1 13, .inl (y 1, 9, .inr (.inl (fun _ => 0)))), (u1 14, .inl (y 0, 6, .inl (fun _ => 0))), (u1 15, .inl (y 0, 6, .inl (fun _ => 0))), (u1 16, .inl (y 0, 16, .inl (fun _ => 0))), (u1 17, .inl (y 1, 5, .inr (.inl (fun _ => 0)))), MB mo v1 0 0 0 0 0 0 0 (-1) 0 0 0 0 0 0 0 0 0 0 1 0, (v1 0, .inl (y 0, 1600, .inl (fun _ => 0))), (v1 43, .inl (y 0, 8, .inl (fun _ => 0))), (v1 45, .inl (y 0, 14, .inl lakeF)), (v1 62, .inl (y 0, 63, .inl (dayF 0))), (v1 65, .inl (y 0, 1890, .inl (fun _ => 0))), (v1 68, .inl (y 0, 63, .inl (fun _ => 0))), (v1 70, .inl (y 0, 6558, .inl (fun _ => 0))), (v1 71, .inl (y 0, 1093, .inl (fun _ => 0))), (v1 72, .inl (y 0, 7, .inl powF)), (v1 74, .inl (y 0, 13, .inl (fun _ => 0))), (v1 75, .inl (y 0, 13, .inl (fun _ => 0))), (v1 77, .inl (y 0, 15, .inl (fun _ => 0)))]) [0, 21, 22, 23, 24, 25, 26, 5, 6, 7, 8, 9, 10, 11, 12, 36, 37, 38, 39, 40, 41, 42, 43, 44, 45, 46, 47, 48] rfl (by decide) ?_
  refine j_callViP (pc := 534) (ws' := fun (_ : Unit) => ([] : va_W)) (T' := fun (_ : Unit) => ([] : va_W)) C (c_N_rest l D y x (u1 0) (u1 1) (u1 2) (u1 3) (u1 4) (u1 5) (u1 6) (u1 7) (u1 8) (u1 25) (fun _ => none) r1 (u1 26) (u1 27) (u1 28) (u1 29) (u1 30) (u1 31) (u1 32) (u1 33) (u1 34) (u1 35) (u1 36) (u1 37) (u1 38) (u1 39) (u1 40) (u1 41) (u1 42) (u1 43) (u1 44) (u1 45) (u1 46) (u1 47) (u1 48) (u1 49) (u1 50) (u1 11) (u1 12) (u1 13) (u1 14) (u1 15) (u1 16) (u1 17) (xs 1) r2 (fun _ => 0)) kw_L_68 kv_Nine_rest 0 9 rfl rfl ⟨by decide, by decide⟩ ⟨by decide, by decide⟩ (wr := [MB mo v1 0 0 0 0 0 0 0 (-1) 0 0 0 0 0 0 0 0 0 0 1 0, (v1 0, .inl (y 0, 1600, .inl (fun _ => 0))), (v1 43, .inl (y 0, 8, .inl (fun _ => 0))), (v1 45, .inl (y 0, 14, .inl lakeF)), (v1 62, .inl (y 0, 63, .inl (dayF 0))), (v1 65, .inl (y 0, 1890, .inl (fun _ => 0))), (v1 68, .inl (y 0, 63, .inl (fun _ => 0))), (v1 70, .inl (y 0, 6558, .inl (fun _ => 0))), (v1 71, .inl (y 0, 1093, .inl (fun _ => 0))), (v1 72, .inl (y 0, 7, .inl powF)), (v1 74, .inl (y 0, 13, .inl (fun _ => 0))), (v1 75, .inl (y 0, 13, .inl (fun _ => 0))), (v1 77, .inl (y 0, 15, .inl (fun _ => 0)))]) [0, 1, 2, 3, 4, 5, 6, 7, 8, 9, 10, 11, 12, 13, 14] [15, 16, 17, 18, 19, 20, 21, 22, 23, 24, 25, 26, 27] rfl rfl (by decide) (by decide) (by decide) (As := [.int (xs 1)]) (rest := []) rfl (nb rfl) rfl d_L_law_534 (fun r3 _ hr3 => ?_)
  subst hr3
  refine j_ws (ws' := [MB mo v1 0 0 0 0 0 0 0 (-1) 0 0 0 0 0 0 0 0 0 0 1 0, (v1 0, .inl (y 0, 1600, .inl (fun _ => 0))), (v1 43, .inl (y 0, 8, .inl (fun _ => 0))), (v1 45, .inl (y 0, 14, .inl lakeF)), (v1 62, .inl (y 0, 63, .inl (dayF 0))), (v1 65, .inl (y 0, 1890, .inl (fun _ => 0))), (v1 68, .inl (y 0, 63, .inl (fun _ => 0))), (v1 70, .inl (y 0, 6558, .inl (fun _ => 0))), (v1 71, .inl (y 0, 1093, .inl (fun _ => 0))), (v1 72, .inl (y 0, 7, .inl powF)), (v1 74, .inl (y 0, 13, .inl (fun _ => 0))), (v1 75, .inl (y 0, 13, .inl (fun _ => 0))), (v1 77, .inl (y 0, 15, .inl (fun _ => 0)))]) rfl ?_
  refine j_st (st' := [.int (if 1 ≤ (xs 1).toInt ∧ (xs 1).toInt ≤ 99 then (xs 1) else -1)]) rfl ?_
  refine j_aload_n (pc := 537) C d_L_law_537 rfl 1 rfl ?_
  refine j_aload_n (pc := 538) C d_L_law_538 rfl 3 rfl ?_
  refine j_iload_n (pc := 539) C d_L_law_539 rfl 0 rfl ?_
  refine j_iconst (pc := 540) C (v := 1) d_L_law_540 (by decide) ?_
  refine j_iadd (pc := 541) C (v := 1) d_L_law_541 (by decide) ?_
  refine j_sld (pc := 542) C hX hbl (v := xs 1) (vin (by decide)) rfl d_L_law_542 ?_
  refine j_sub (ws' := [MB mo v1 0 0 0 0 0 0 0 (-1) 0 0 0 0 0 0 0 0 0 (nI 0) 1 0, (v1 43, .inl (y 0, 8, .inl (fun _ => 0))), (v1 62, .inl (y 0, 63, .inl (dayF 0))), (v1 45, .inl (y 0, 14, .inl lakeF)), (v1 65, .inl (y 0, 1890, .inl (fun _ => 0)))]) [0, 2, 4, 3, 5] rfl (by decide) ?_
  refine j_callVi (pc := 543) C (c_M_rest l D y mo v1 (xs 1) (fun _ => 0)) kw_L_71 kv_Model_rest 0 10 rfl rfl ⟨by decide, by decide⟩ ⟨by decide, by decide⟩ (wr := []) [0, 1, 2, 3, 4] [] rfl rfl (by decide) (by decide) (by decide) (As := [.int (xs 1)]) (rest := [.int (if 1 ≤ (xs 1).toInt ∧ (xs 1).toInt ≤ 99 then (xs 1) else -1)]) rfl (nb rfl) rfl d_L_law_543 (fun r4 _ hr4 => ?_)
  subst hr4
  refine j_ws (ws' := []) rfl ?_
  refine j_st (st' := [.int (if 1 ≤ (xs 1).toInt ∧ (xs 1).toInt ≤ 99 then (xs 1) else -1), .int (if 1 ≤ (xs 1).toInt ∧ (xs 1).toInt ≤ 99 then (xs 1) else -1)]) rfl ?_
  refine j_icmp_eqT (pc := 546) C (tgt := 1124) d_L_law_546 (by decide) rfl ?_
  refine j_sub (ws' := []) [] rfl (by decide) ?_
  refine j_locs (lv' := [(3, .int 0), (0, .ref b)]) [0, 3] rfl ?_
  exact kx
theorem d_L_law_551 : decode code 551 = .ok (.aload_n 1, 1) := by decide +kernel
theorem d_L_law_552 : decode code 552 = .ok (.invokevirtual 72, 3) := by decide +kernel
theorem kw_L_72 : KW "NineBoardsLaw" 72 ⟨"NineBoards", "undo", "()Z"⟩ prog_1_method_15_code 1 (some .boolean) 0 := ⟨(mt_4 (List.mem_of_getElem? (i := 114) rfl) rfl), (mt_1 (List.mem_of_getElem? (i := 1) rfl) rfl), (mt_4 (List.mem_of_getElem? (i := 117) rfl) rfl), by decide +kernel⟩
theorem kv_Nine_undo : Cond.instanceMethod ⟨"NineBoards", "undo", "()Z"⟩ ∈ TB ∧ Cond.selects "NineBoards" ⟨"NineBoards", "undo", "()Z"⟩ ⟨"NineBoards", "undo", "()Z"⟩ ∈ TB := ⟨(mt_4 (List.mem_of_getElem? (i := 115) rfl) rfl), (mt_4 (List.mem_of_getElem? (i := 116) rfl) rfl)⟩
theorem d_L_law_555 : decode code 555 = .ok (.aload_n 2, 1) := by decide +kernel
theorem d_L_law_556 : decode code 556 = .ok (.invokevirtual 76, 3) := by decide +kernel
theorem kw_L_76 : KW "NineBoardsLaw" 76 ⟨"NineBoardsModel", "undo", "()Z"⟩ prog_13_method_83_code 2 (some .boolean) 0 := ⟨(mt_7 (List.mem_of_getElem? (i := 172) rfl) rfl), (mt_1 (List.mem_of_getElem? (i := 16) rfl) rfl), (mt_7 (List.mem_of_getElem? (i := 175) rfl) rfl), by decide +kernel⟩
theorem kv_Model_undo : Cond.instanceMethod ⟨"NineBoardsModel", "undo", "()Z"⟩ ∈ TB ∧ Cond.selects "NineBoardsModel" ⟨"NineBoardsModel", "undo", "()Z"⟩ ⟨"NineBoardsModel", "undo", "()Z"⟩ ∈ TB := ⟨(mt_7 (List.mem_of_getElem? (i := 173) rfl) rfl), (mt_7 (List.mem_of_getElem? (i := 174) rfl) rfl)⟩
theorem d_L_law_559 : decode code 559 = .ok (.if_icmp .eq 565, 3) := by decide +kernel
set_option maxHeartbeats 4000000 in
set_option maxRecDepth 100000 in
theorem lc_13 {p : Program} {l : Launch} {e : Env} {s : State} {m : MethodId} {below : List Frame} {meth : Method} {c : Code} {Q : State → Prop} {D : va_G} {y : Nat → ClassId} {nm : String} {b : Nat} {xs : Nat → Int32} (C : Cx p s m #[Value.ref b] meth c D y (LA s) code 4 "NineBoardsLaw" nm) (hX : va_X b 6 xs s s.heap) (hbl : b < s.heap.size) (x : Nat) (mo : Nat) (u1 : Nat → Nat) (r1 : Nat → Nat) (r2 : Nat → Nat → Nat) (h1 : Nat → Nat) (a1 : Nat → Nat → Nat) (g1 : Nat → Nat) (c1 : Nat → Nat) (v1 : Nat → Nat) (kx : J p l e room_1 s m #[Value.ref b] below meth c Q D (LA s) 4 [] [(3, .int 0), (0, .ref b)] 451 27020 1124 []) : J p l e room_1 s m #[Value.ref b] below meth c Q D (LA s) 4 (LW y x mo u1 r1 r2 h1 a1 g1 c1 v1) [(3, .int 0), (2, .ref mo), (1, .ref x), (0, .ref b)] 451 27020 551 [] := by
  refine j_aload_n (pc := 551) C d_L_law_551 rfl 2 rfl ?_
  refine j_drop ?_
  refine j_sub (ws' := [(x, .inr (9, [.ref (u1 0), .ref (u1 1), .ref (u1 2), .ref (u1 3), .ref (u1 4), .ref (u1 5), .ref (u1 6), .ref (u1 7), .ref (u1 8), .int 1])), (u1 4, .inr (3, [.int 0, .int 0, .ref (u1 25)])), MB mo v1 0 0 0 0 0 0 0 (-1) 0 0 0 0 0 0 0 0 0 0 1 0, (v1 0, .inl (y 0, 1600, .inl (fun _ => 0))), (v1 43, .inl (y 0, 8, .inl (fun _ => 0))), (v1 45, .inl (y 0, 14, .inl lakeF)), (v1 62, .inl (y 0, 63, .inl (dayF 0))), (v1 65, .inl (y 0, 1890, .inl (fun _ => 0))), (v1 68, .inl (y 0, 63, .inl (fun _ => 0))), (v1 70, .inl (y 0, 6558, .inl (fun _ => 0))), (v1 71, .inl (y 0, 1093, .inl (fun _ => 0))), (v1 72, .inl (y 0, 7, .inl powF)), (v1 74, .inl (y 0, 13, .inl (fun _ => 0))), (v1 75, .inl (y 0, 13, .inl (fun _ => 0))), (v1 77, .inl (y 0, 15, .inl (fun _ => 0)))]) [0, 21, 36, 37, 38, 39, 40, 41, 42, 43, 44, 45, 46, 47, 48] rfl (by decide) ?_
  refine j_callVi (pc := 552) C (c_N_undo l D y x (u1 0) (u1 1) (u1 2) (u1 3) (u1 4) (u1 5) (u1 6) (u1 7) (u1 8) (u1 25)) kw_L_72 kv_Nine_undo 0 9 rfl rfl ⟨by decide, by decide⟩ ⟨by decide, by decide⟩ (wr := [MB mo v1 0 0 0 0 0 0 0 (-1) 0 0 0 0 0 0 0 0 0 0 1 0, (v1 0, .inl (y 0, 1600, .inl (fun _ => 0))), (v1 43, .inl (y 0, 8, .inl (fun _ => 0))), (v1 45, .inl (y 0, 14, .inl lakeF)), (v1 62, .inl (y 0, 63, .inl (dayF 0))), (v1 65, .inl (y 0, 1890, .inl (fun _ => 0))), (v1 68, .inl (y 0, 63, .inl (fun _ => 0))), (v1 70, .inl (y 0, 6558, .inl (fun _ => 0))), (v1 71, .inl (y 0, 1093, .inl (fun _ => 0))), (v1 72, .inl (y 0, 7, .inl powF)), (v1 74, .inl (y 0, 13, .inl (fun _ => 0))), (v1 75, .inl (y 0, 13, .inl (fun _ => 0))), (v1 77, .inl (y 0, 15, .inl (fun _ => 0)))]) [0, 1] [2, 3, 4, 5, 6, 7, 8, 9, 10, 11, 12, 13, 14] rfl rfl (by decide) (by decide) (by decide) (As := []) (rest := []) rfl (nb rfl) rfl d_L_law_552 (fun r1 _ hr1 => ?_)
  subst hr1
  refine j_ws (ws' := [MB mo v1 0 0 0 0 0 0 0 (-1) 0 0 0 0 0 0 0 0 0 0 1 0, (v1 0, .inl (y 0, 1600, .inl (fun _ => 0))), (v1 43, .inl (y 0, 8, .inl (fun _ => 0))), (v1 45, .inl (y 0, 14, .inl lakeF)), (v1 62, .inl (y 0, 63, .inl (dayF 0))), (v1 65, .inl (y 0, 1890, .inl (fun _ => 0))), (v1 68, .inl (y 0, 63, .inl (fun _ => 0))), (v1 70, .inl (y 0, 6558, .inl (fun _ => 0))), (v1 71, .inl (y 0, 1093, .inl (fun _ => 0))), (v1 72, .inl (y 0, 7, .inl powF)), (v1 74, .inl (y 0, 13, .inl (fun _ => 0))), (v1 75, .inl (y 0, 13, .inl (fun _ => 0))), (v1 77, .inl (y 0, 15, .inl (fun _ => 0)))]) rfl ?_
  refine j_st (st' := [.int 0]) rfl ?_
  refine j_aload_n (pc := 555) C d_L_law_555 rfl 1 rfl ?_
  refine j_sub (ws' := [MB mo v1 0 0 0 0 0 0 0 (-1) 0 0 0 0 0 0 0 0 0 0 1 0]) [0] rfl (by decide) ?_
  refine j_callVi (pc := 556) C (c_M_undo l D y mo v1) kw_L_76 kv_Model_undo 0 10 rfl rfl ⟨by decide, by decide⟩ ⟨by decide, by decide⟩ (wr := []) [0] [] rfl rfl (by decide) (by decide) (by decide) (As := []) (rest := [.int 0]) rfl (nb rfl) rfl d_L_law_556 (fun r2 _ hr2 => ?_)
  subst hr2
  refine j_ws (ws' := []) rfl ?_
  refine j_st (st' := [.int 0, .int 0]) rfl ?_
  refine j_icmp_eqT (pc := 559) C (tgt := 1124) d_L_law_559 (by decide) (by decide) ?_
  refine j_sub (ws' := []) [] rfl (by decide) ?_
  refine j_locs (lv' := [(3, .int 0), (0, .ref b)]) [0, 3] rfl ?_
  exact kx
theorem d_L_law_564 : decode code 564 = .ok (.aload_n 1, 1) := by decide +kernel
theorem d_L_law_565 : decode code 565 = .ok (.aload_n 0, 1) := by decide +kernel
theorem d_L_law_566 : decode code 566 = .ok (.iload_n 3, 1) := by decide +kernel
theorem d_L_law_567 : decode code 567 = .ok (.iconst 1, 1) := by decide +kernel
theorem d_L_law_568 : decode code 568 = .ok (.iadd, 1) := by decide +kernel
theorem d_L_law_569 : decode code 569 = .ok (.iaload, 1) := by decide +kernel
theorem d_L_law_570 : decode code 570 = .ok (.aload_n 0, 1) := by decide +kernel
theorem d_L_law_571 : decode code 571 = .ok (.iload_n 3, 1) := by decide +kernel
theorem d_L_law_572 : decode code 572 = .ok (.iconst 2, 1) := by decide +kernel
theorem d_L_law_573 : decode code 573 = .ok (.iadd, 1) := by decide +kernel
theorem d_L_law_574 : decode code 574 = .ok (.iaload, 1) := by decide +kernel
theorem d_L_law_575 : decode code 575 = .ok (.aload_n 0, 1) := by decide +kernel
theorem d_L_law_576 : decode code 576 = .ok (.iload_n 3, 1) := by decide +kernel
theorem d_L_law_577 : decode code 577 = .ok (.iconst 3, 1) := by decide +kernel
theorem d_L_law_578 : decode code 578 = .ok (.iadd, 1) := by decide +kernel
theorem d_L_law_579 : decode code 579 = .ok (.iaload, 1) := by decide +kernel
theorem d_L_law_580 : decode code 580 = .ok (.ifCond .eq 7, 3) := by decide +kernel
theorem d_L_law_587 : decode code 587 = .ok (.iconst 0, 1) := by decide +kernel
theorem d_L_law_588 : decode code 588 = .ok (.invokevirtual 77, 3) := by decide +kernel
theorem kw_L_77 : KW "NineBoardsLaw" 77 ⟨"NineBoards", "weather", "(IIZ)I"⟩ prog_1_method_16_code 5 (some .int) 3 := ⟨(mt_4 (List.mem_of_getElem? (i := 122) rfl) rfl), (mt_1 (List.mem_of_getElem? (i := 1) rfl) rfl), (mt_4 (List.mem_of_getElem? (i := 125) rfl) rfl), by decide +kernel⟩
theorem kv_Nine_weather : Cond.instanceMethod ⟨"NineBoards", "weather", "(IIZ)I"⟩ ∈ TB ∧ Cond.selects "NineBoards" ⟨"NineBoards", "weather", "(IIZ)I"⟩ ⟨"NineBoards", "weather", "(IIZ)I"⟩ ∈ TB := ⟨(mt_4 (List.mem_of_getElem? (i := 123) rfl) rfl), (mt_4 (List.mem_of_getElem? (i := 124) rfl) rfl)⟩
theorem d_L_law_591 : decode code 591 = .ok (.aload_n 2, 1) := by decide +kernel
theorem d_L_law_592 : decode code 592 = .ok (.aload_n 0, 1) := by decide +kernel
theorem d_L_law_593 : decode code 593 = .ok (.iload_n 3, 1) := by decide +kernel
theorem d_L_law_594 : decode code 594 = .ok (.iconst 1, 1) := by decide +kernel
theorem d_L_law_595 : decode code 595 = .ok (.iadd, 1) := by decide +kernel
theorem d_L_law_596 : decode code 596 = .ok (.iaload, 1) := by decide +kernel
theorem d_L_law_597 : decode code 597 = .ok (.aload_n 0, 1) := by decide +kernel
theorem d_L_law_598 : decode code 598 = .ok (.iload_n 3, 1) := by decide +kernel
theorem d_L_law_599 : decode code 599 = .ok (.iconst 2, 1) := by decide +kernel
theorem d_L_law_600 : decode code 600 = .ok (.iadd, 1) := by decide +kernel
theorem d_L_law_601 : decode code 601 = .ok (.iaload, 1) := by decide +kernel
theorem d_L_law_602 : decode code 602 = .ok (.aload_n 0, 1) := by decide +kernel
theorem d_L_law_603 : decode code 603 = .ok (.iload_n 3, 1) := by decide +kernel
theorem d_L_law_604 : decode code 604 = .ok (.iconst 3, 1) := by decide +kernel
theorem d_L_law_605 : decode code 605 = .ok (.iadd, 1) := by decide +kernel
theorem d_L_law_606 : decode code 606 = .ok (.iaload, 1) := by decide +kernel
theorem d_L_law_607 : decode code 607 = .ok (.ifCond .eq 7, 3) := by decide +kernel
theorem d_L_law_614 : decode code 614 = .ok (.iconst 0, 1) := by decide +kernel
theorem d_L_law_615 : decode code 615 = .ok (.invokevirtual 81, 3) := by decide +kernel
theorem kw_L_81 : KW "NineBoardsLaw" 81 ⟨"NineBoardsModel", "weather", "(IIZ)I"⟩ prog_13_method_84_code 4 (some .int) 3 := ⟨(mt_7 (List.mem_of_getElem? (i := 176) rfl) rfl), (mt_1 (List.mem_of_getElem? (i := 16) rfl) rfl), (mt_7 (List.mem_of_getElem? (i := 179) rfl) rfl), by decide +kernel⟩
theorem kv_Model_weather : Cond.instanceMethod ⟨"NineBoardsModel", "weather", "(IIZ)I"⟩ ∈ TB ∧ Cond.selects "NineBoardsModel" ⟨"NineBoardsModel", "weather", "(IIZ)I"⟩ ⟨"NineBoardsModel", "weather", "(IIZ)I"⟩ ∈ TB := ⟨(mt_7 (List.mem_of_getElem? (i := 177) rfl) rfl), (mt_7 (List.mem_of_getElem? (i := 178) rfl) rfl)⟩
theorem d_L_law_618 : decode code 618 = .ok (.if_icmp .eq 506, 3) := by decide +kernel
theorem d_L_law_583 : decode code 583 = .ok (.iconst 1, 1) := by decide +kernel
theorem d_L_law_584 : decode code 584 = .ok (.goto 4, 3) := by decide +kernel
theorem d_L_law_610 : decode code 610 = .ok (.iconst 1, 1) := by decide +kernel
theorem d_L_law_611 : decode code 611 = .ok (.goto 4, 3) := by decide +kernel
set_option maxHeartbeats 4000000 in
set_option maxRecDepth 100000 in
theorem lc_14 {p : Program} {l : Launch} {e : Env} {s : State} {m : MethodId} {below : List Frame} {meth : Method} {c : Code} {Q : State → Prop} {D : va_G} {y : Nat → ClassId} {nm : String} {b : Nat} {xs : Nat → Int32} (C : Cx p s m #[Value.ref b] meth c D y (LA s) code 4 "NineBoardsLaw" nm) (hX : va_X b 6 xs s s.heap) (hbl : b < s.heap.size) (x : Nat) (mo : Nat) (u1 : Nat → Nat) (r1 : Nat → Nat) (r2 : Nat → Nat → Nat) (h1 : Nat → Nat) (a1 : Nat → Nat → Nat) (g1 : Nat → Nat) (c1 : Nat → Nat) (v1 : Nat → Nat) (kx : J p l e room_1 s m #[Value.ref b] below meth c Q D (LA s) 4 [] [(3, .int 0), (0, .ref b)] 451 27020 1124 []) : J p l e room_1 s m #[Value.ref b] below meth c Q D (LA s) 4 (LW y x mo u1 r1 r2 h1 a1 g1 c1 v1) [(3, .int 0), (2, .ref mo), (1, .ref x), (0, .ref b)] 451 27020 564 [] := by
  refine j_aload_n (pc := 564) C d_L_law_564 rfl 2 rfl ?_
  refine j_aload_n (pc := 565) C d_L_law_565 rfl 3 rfl ?_
  refine j_iload_n (pc := 566) C d_L_law_566 rfl 0 rfl ?_
  refine j_iconst (pc := 567) C (v := 1) d_L_law_567 (by decide) ?_
  refine j_iadd (pc := 568) C (v := 1) d_L_law_568 (by decide) ?_
  refine j_sld (pc := 569) C hX hbl (v := xs 1) (vin (by decide)) rfl d_L_law_569 ?_
  refine j_aload_n (pc := 570) C d_L_law_570 rfl 3 rfl ?_
  refine j_iload_n (pc := 571) C d_L_law_571 rfl 0 rfl ?_
  refine j_iconst (pc := 572) C (v := 2) d_L_law_572 (by decide) ?_
  refine j_iadd (pc := 573) C (v := 2) d_L_law_573 (by decide) ?_
  refine j_sld (pc := 574) C hX hbl (v := xs 2) (vin (by decide)) rfl d_L_law_574 ?_
  refine j_aload_n (pc := 575) C d_L_law_575 rfl 3 rfl ?_
  refine j_iload_n (pc := 576) C d_L_law_576 rfl 0 rfl ?_
  refine j_iconst (pc := 577) C (v := 3) d_L_law_577 (by decide) ?_
  refine j_iadd (pc := 578) C (v := 3) d_L_law_578 (by decide) ?_
  refine j_sld (pc := 579) C hX hbl (v := xs 3) (vin (by decide)) rfl d_L_law_579 ?_
  refine j_if_eq (pc := 580) C (tgt := 587) d_L_law_580 (by decide) (fun c2 => ?_) (fun c2 => ?_)
  · refine j_iconst (pc := 587) C (v := 0) d_L_law_587 (by decide) ?_
    refine j_drop ?_
    refine j_sub (ws' := [(x, .inr (9, [.ref (u1 0), .ref (u1 1), .ref (u1 2), .ref (u1 3), .ref (u1 4), .ref (u1 5), .ref (u1 6), .ref (u1 7), .ref (u1 8), .int 1])), (u1 5, .inr (2, [.int 0, .int 1, .int 1, .int 0, .ref (u1 26), .int 0, .ref (u1 27), .ref (u1 28), .ref (u1 29), .ref (u1 30), .int 0, .int 0, .int 9999, .int 0])), (u1 30, .inr (6, [.int 0, .int 0, .ref (u1 45), .ref (u1 46), .ref (u1 47), .ref (u1 48), .ref (u1 49), .ref (u1 50)])), MB mo v1 0 0 0 0 0 0 0 (-1) 0 0 0 0 0 0 0 0 0 0 1 0, (v1 0, .inl (y 0, 1600, .inl (fun _ => 0))), (v1 43, .inl (y 0, 8, .inl (fun _ => 0))), (v1 45, .inl (y 0, 14, .inl lakeF)), (v1 62, .inl (y 0, 63, .inl (dayF 0))), (v1 65, .inl (y 0, 1890, .inl (fun _ => 0))), (v1 68, .inl (y 0, 63, .inl (fun _ => 0))), (v1 70, .inl (y 0, 6558, .inl (fun _ => 0))), (v1 71, .inl (y 0, 1093, .inl (fun _ => 0))), (v1 72, .inl (y 0, 7, .inl powF)), (v1 74, .inl (y 0, 13, .inl (fun _ => 0))), (v1 75, .inl (y 0, 13, .inl (fun _ => 0))), (v1 77, .inl (y 0, 15, .inl (fun _ => 0)))]) [0, 23, 26, 36, 37, 38, 39, 40, 41, 42, 43, 44, 45, 46, 47, 48] rfl (by decide) ?_
    refine j_callVi (pc := 588) C (c_N_weather l D y x (u1 0) (u1 1) (u1 2) (u1 3) (u1 4) (u1 5) (u1 6) (u1 7) (u1 8) (u1 26) (u1 27) (u1 28) (u1 29) (u1 30) (u1 45) (u1 46) (u1 47) (u1 48) (u1 49) (u1 50) (xs 1) (xs 2) 0) kw_L_77 kv_Nine_weather 0 9 rfl rfl ⟨by decide, by decide⟩ ⟨by decide, by decide⟩ (wr := [MB mo v1 0 0 0 0 0 0 0 (-1) 0 0 0 0 0 0 0 0 0 0 1 0, (v1 0, .inl (y 0, 1600, .inl (fun _ => 0))), (v1 43, .inl (y 0, 8, .inl (fun _ => 0))), (v1 45, .inl (y 0, 14, .inl lakeF)), (v1 62, .inl (y 0, 63, .inl (dayF 0))), (v1 65, .inl (y 0, 1890, .inl (fun _ => 0))), (v1 68, .inl (y 0, 63, .inl (fun _ => 0))), (v1 70, .inl (y 0, 6558, .inl (fun _ => 0))), (v1 71, .inl (y 0, 1093, .inl (fun _ => 0))), (v1 72, .inl (y 0, 7, .inl powF)), (v1 74, .inl (y 0, 13, .inl (fun _ => 0))), (v1 75, .inl (y 0, 13, .inl (fun _ => 0))), (v1 77, .inl (y 0, 15, .inl (fun _ => 0)))]) [0, 1, 2] [3, 4, 5, 6, 7, 8, 9, 10, 11, 12, 13, 14, 15] rfl rfl (by decide) (by decide) (by decide) (As := [.int (xs 1), .int (xs 2), .int 0]) (rest := []) rfl (nb rfl) rfl d_L_law_588 (fun r3 _ hr3 => ?_)
    subst hr3
    refine j_ws (ws' := [MB mo v1 0 0 0 0 0 0 0 (-1) 0 0 0 0 0 0 0 0 0 0 1 0, (v1 0, .inl (y 0, 1600, .inl (fun _ => 0))), (v1 43, .inl (y 0, 8, .inl (fun _ => 0))), (v1 45, .inl (y 0, 14, .inl lakeF)), (v1 62, .inl (y 0, 63, .inl (dayF 0))), (v1 65, .inl (y 0, 1890, .inl (fun _ => 0))), (v1 68, .inl (y 0, 63, .inl (fun _ => 0))), (v1 70, .inl (y 0, 6558, .inl (fun _ => 0))), (v1 71, .inl (y 0, 1093, .inl (fun _ => 0))), (v1 72, .inl (y 0, 7, .inl powF)), (v1 74, .inl (y 0, 13, .inl (fun _ => 0))), (v1 75, .inl (y 0, 13, .inl (fun _ => 0))), (v1 77, .inl (y 0, 15, .inl (fun _ => 0)))]) rfl ?_
    refine j_st (st' := [.int (if 0 ≤ (xs 1).toInt ∧ (xs 1).toInt < 999 ∧ 0 ≤ (xs 2).toInt ∧ (xs 2).toInt ≤ 9999 then 0 else -1)]) rfl ?_
    refine j_aload_n (pc := 591) C d_L_law_591 rfl 1 rfl ?_
    refine j_aload_n (pc := 592) C d_L_law_592 rfl 3 rfl ?_
    refine j_iload_n (pc := 593) C d_L_law_593 rfl 0 rfl ?_
    refine j_iconst (pc := 594) C (v := 1) d_L_law_594 (by decide) ?_
    refine j_iadd (pc := 595) C (v := 1) d_L_law_595 (by decide) ?_
    refine j_sld (pc := 596) C hX hbl (v := xs 1) (vin (by decide)) rfl d_L_law_596 ?_
    refine j_aload_n (pc := 597) C d_L_law_597 rfl 3 rfl ?_
    refine j_iload_n (pc := 598) C d_L_law_598 rfl 0 rfl ?_
    refine j_iconst (pc := 599) C (v := 2) d_L_law_599 (by decide) ?_
    refine j_iadd (pc := 600) C (v := 2) d_L_law_600 (by decide) ?_
    refine j_sld (pc := 601) C hX hbl (v := xs 2) (vin (by decide)) rfl d_L_law_601 ?_
    refine j_aload_n (pc := 602) C d_L_law_602 rfl 3 rfl ?_
    refine j_iload_n (pc := 603) C d_L_law_603 rfl 0 rfl ?_
    refine j_iconst (pc := 604) C (v := 3) d_L_law_604 (by decide) ?_
    refine j_iadd (pc := 605) C (v := 3) d_L_law_605 (by decide) ?_
    refine j_sld (pc := 606) C hX hbl (v := xs 3) (vin (by decide)) rfl d_L_law_606 ?_
    refine j_if_eqT (pc := 607) C (tgt := 614) d_L_law_607 (by decide) c2 ?_
    refine j_iconst (pc := 614) C (v := 0) d_L_law_614 (by decide) ?_
    refine j_sub (ws' := [MB mo v1 0 0 0 0 0 0 0 (-1) 0 0 0 0 0 0 0 0 0 0 1 0, (v1 43, .inl (y 0, 8, .inl (fun _ => 0)))]) [0, 2] rfl (by decide) ?_
    refine j_callVi (pc := 615) C (c_M_weather l D y mo v1 (xs 1) (xs 2) 0) kw_L_81 kv_Model_weather 0 10 rfl rfl ⟨by decide, by decide⟩ ⟨by decide, by decide⟩ (wr := []) [0, 1] [] rfl rfl (by decide) (by decide) (by decide) (As := [.int (xs 1), .int (xs 2), .int 0]) (rest := [.int (if 0 ≤ (xs 1).toInt ∧ (xs 1).toInt < 999 ∧ 0 ≤ (xs 2).toInt ∧ (xs 2).toInt ≤ 9999 then 0 else -1)]) rfl (nb rfl) rfl d_L_law_615 (fun r4 _ hr4 => ?_)
    subst hr4
    refine j_ws (ws' := []) rfl ?_
    refine j_st (st' := [.int (if 0 ≤ (xs 1).toInt ∧ (xs 1).toInt < 999 ∧ 0 ≤ (xs 2).toInt ∧ (xs 2).toInt ≤ 9999 then 0 else -1), .int (if 0 ≤ (xs 1).toInt ∧ (xs 1).toInt < 999 ∧ 0 ≤ (xs 2).toInt ∧ (xs 2).toInt ≤ 9999 then 0 else -1)]) rfl ?_
    refine j_icmp_eqT (pc := 618) C (tgt := 1124) d_L_law_618 (by decide) rfl ?_
    refine j_sub (ws' := []) [] rfl (by decide) ?_
    refine j_locs (lv' := [(3, .int 0), (0, .ref b)]) [0, 3] rfl ?_
    exact kx
  · refine j_iconst (pc := 583) C (v := 1) d_L_law_583 (by decide) ?_
    refine j_goto (pc := 584) C (tgt := 588) d_L_law_584 (by decide) ?_
    refine j_drop ?_
    refine j_sub (ws' := [(x, .inr (9, [.ref (u1 0), .ref (u1 1), .ref (u1 2), .ref (u1 3), .ref (u1 4), .ref (u1 5), .ref (u1 6), .ref (u1 7), .ref (u1 8), .int 1])), (u1 5, .inr (2, [.int 0, .int 1, .int 1, .int 0, .ref (u1 26), .int 0, .ref (u1 27), .ref (u1 28), .ref (u1 29), .ref (u1 30), .int 0, .int 0, .int 9999, .int 0])), (u1 30, .inr (6, [.int 0, .int 0, .ref (u1 45), .ref (u1 46), .ref (u1 47), .ref (u1 48), .ref (u1 49), .ref (u1 50)])), MB mo v1 0 0 0 0 0 0 0 (-1) 0 0 0 0 0 0 0 0 0 0 1 0, (v1 0, .inl (y 0, 1600, .inl (fun _ => 0))), (v1 43, .inl (y 0, 8, .inl (fun _ => 0))), (v1 45, .inl (y 0, 14, .inl lakeF)), (v1 62, .inl (y 0, 63, .inl (dayF 0))), (v1 65, .inl (y 0, 1890, .inl (fun _ => 0))), (v1 68, .inl (y 0, 63, .inl (fun _ => 0))), (v1 70, .inl (y 0, 6558, .inl (fun _ => 0))), (v1 71, .inl (y 0, 1093, .inl (fun _ => 0))), (v1 72, .inl (y 0, 7, .inl powF)), (v1 74, .inl (y 0, 13, .inl (fun _ => 0))), (v1 75, .inl (y 0, 13, .inl (fun _ => 0))), (v1 77, .inl (y 0, 15, .inl (fun _ => 0)))]) [0, 23, 26, 36, 37, 38, 39, 40, 41, 42, 43, 44, 45, 46, 47, 48] rfl (by decide) ?_
    refine j_callVi (pc := 588) C (c_N_weather l D y x (u1 0) (u1 1) (u1 2) (u1 3) (u1 4) (u1 5) (u1 6) (u1 7) (u1 8) (u1 26) (u1 27) (u1 28) (u1 29) (u1 30) (u1 45) (u1 46) (u1 47) (u1 48) (u1 49) (u1 50) (xs 1) (xs 2) 1) kw_L_77 kv_Nine_weather 0 9 rfl rfl ⟨by decide, by decide⟩ ⟨by decide, by decide⟩ (wr := [MB mo v1 0 0 0 0 0 0 0 (-1) 0 0 0 0 0 0 0 0 0 0 1 0, (v1 0, .inl (y 0, 1600, .inl (fun _ => 0))), (v1 43, .inl (y 0, 8, .inl (fun _ => 0))), (v1 45, .inl (y 0, 14, .inl lakeF)), (v1 62, .inl (y 0, 63, .inl (dayF 0))), (v1 65, .inl (y 0, 1890, .inl (fun _ => 0))), (v1 68, .inl (y 0, 63, .inl (fun _ => 0))), (v1 70, .inl (y 0, 6558, .inl (fun _ => 0))), (v1 71, .inl (y 0, 1093, .inl (fun _ => 0))), (v1 72, .inl (y 0, 7, .inl powF)), (v1 74, .inl (y 0, 13, .inl (fun _ => 0))), (v1 75, .inl (y 0, 13, .inl (fun _ => 0))), (v1 77, .inl (y 0, 15, .inl (fun _ => 0)))]) [0, 1, 2] [3, 4, 5, 6, 7, 8, 9, 10, 11, 12, 13, 14, 15] rfl rfl (by decide) (by decide) (by decide) (As := [.int (xs 1), .int (xs 2), .int 1]) (rest := []) rfl (nb rfl) rfl d_L_law_588 (fun r5 _ hr5 => ?_)
    subst hr5
    refine j_ws (ws' := [MB mo v1 0 0 0 0 0 0 0 (-1) 0 0 0 0 0 0 0 0 0 0 1 0, (v1 0, .inl (y 0, 1600, .inl (fun _ => 0))), (v1 43, .inl (y 0, 8, .inl (fun _ => 0))), (v1 45, .inl (y 0, 14, .inl lakeF)), (v1 62, .inl (y 0, 63, .inl (dayF 0))), (v1 65, .inl (y 0, 1890, .inl (fun _ => 0))), (v1 68, .inl (y 0, 63, .inl (fun _ => 0))), (v1 70, .inl (y 0, 6558, .inl (fun _ => 0))), (v1 71, .inl (y 0, 1093, .inl (fun _ => 0))), (v1 72, .inl (y 0, 7, .inl powF)), (v1 74, .inl (y 0, 13, .inl (fun _ => 0))), (v1 75, .inl (y 0, 13, .inl (fun _ => 0))), (v1 77, .inl (y 0, 15, .inl (fun _ => 0)))]) rfl ?_
    refine j_st (st' := [.int (if 0 ≤ (xs 1).toInt ∧ (xs 1).toInt < 999 ∧ 0 ≤ (xs 2).toInt ∧ (xs 2).toInt ≤ 9999 then 0 else -1)]) rfl ?_
    refine j_aload_n (pc := 591) C d_L_law_591 rfl 1 rfl ?_
    refine j_aload_n (pc := 592) C d_L_law_592 rfl 3 rfl ?_
    refine j_iload_n (pc := 593) C d_L_law_593 rfl 0 rfl ?_
    refine j_iconst (pc := 594) C (v := 1) d_L_law_594 (by decide) ?_
    refine j_iadd (pc := 595) C (v := 1) d_L_law_595 (by decide) ?_
    refine j_sld (pc := 596) C hX hbl (v := xs 1) (vin (by decide)) rfl d_L_law_596 ?_
    refine j_aload_n (pc := 597) C d_L_law_597 rfl 3 rfl ?_
    refine j_iload_n (pc := 598) C d_L_law_598 rfl 0 rfl ?_
    refine j_iconst (pc := 599) C (v := 2) d_L_law_599 (by decide) ?_
    refine j_iadd (pc := 600) C (v := 2) d_L_law_600 (by decide) ?_
    refine j_sld (pc := 601) C hX hbl (v := xs 2) (vin (by decide)) rfl d_L_law_601 ?_
    refine j_aload_n (pc := 602) C d_L_law_602 rfl 3 rfl ?_
    refine j_iload_n (pc := 603) C d_L_law_603 rfl 0 rfl ?_
    refine j_iconst (pc := 604) C (v := 3) d_L_law_604 (by decide) ?_
    refine j_iadd (pc := 605) C (v := 3) d_L_law_605 (by decide) ?_
    refine j_sld (pc := 606) C hX hbl (v := xs 3) (vin (by decide)) rfl d_L_law_606 ?_
    refine j_if_eqF (pc := 607) C (tgt := 614) d_L_law_607 (by decide) c2 ?_
    refine j_iconst (pc := 610) C (v := 1) d_L_law_610 (by decide) ?_
    refine j_goto (pc := 611) C (tgt := 615) d_L_law_611 (by decide) ?_
    refine j_sub (ws' := [MB mo v1 0 0 0 0 0 0 0 (-1) 0 0 0 0 0 0 0 0 0 0 1 0, (v1 43, .inl (y 0, 8, .inl (fun _ => 0)))]) [0, 2] rfl (by decide) ?_
    refine j_callVi (pc := 615) C (c_M_weather l D y mo v1 (xs 1) (xs 2) 1) kw_L_81 kv_Model_weather 0 10 rfl rfl ⟨by decide, by decide⟩ ⟨by decide, by decide⟩ (wr := []) [0, 1] [] rfl rfl (by decide) (by decide) (by decide) (As := [.int (xs 1), .int (xs 2), .int 1]) (rest := [.int (if 0 ≤ (xs 1).toInt ∧ (xs 1).toInt < 999 ∧ 0 ≤ (xs 2).toInt ∧ (xs 2).toInt ≤ 9999 then 0 else -1)]) rfl (nb rfl) rfl d_L_law_615 (fun r6 _ hr6 => ?_)
    subst hr6
    refine j_ws (ws' := []) rfl ?_
    refine j_st (st' := [.int (if 0 ≤ (xs 1).toInt ∧ (xs 1).toInt < 999 ∧ 0 ≤ (xs 2).toInt ∧ (xs 2).toInt ≤ 9999 then 0 else -1), .int (if 0 ≤ (xs 1).toInt ∧ (xs 1).toInt < 999 ∧ 0 ≤ (xs 2).toInt ∧ (xs 2).toInt ≤ 9999 then 0 else -1)]) rfl ?_
    refine j_icmp_eqT (pc := 618) C (tgt := 1124) d_L_law_618 (by decide) rfl ?_
    refine j_sub (ws' := []) [] rfl (by decide) ?_
    refine j_locs (lv' := [(3, .int 0), (0, .ref b)]) [0, 3] rfl ?_
    exact kx
theorem d_L_law_623 : decode code 623 = .ok (.aload_n 1, 1) := by decide +kernel
theorem d_L_law_624 : decode code 624 = .ok (.aload_n 0, 1) := by decide +kernel
theorem d_L_law_625 : decode code 625 = .ok (.iload_n 3, 1) := by decide +kernel
theorem d_L_law_626 : decode code 626 = .ok (.iconst 1, 1) := by decide +kernel
theorem d_L_law_627 : decode code 627 = .ok (.iadd, 1) := by decide +kernel
theorem d_L_law_628 : decode code 628 = .ok (.iaload, 1) := by decide +kernel
theorem d_L_law_629 : decode code 629 = .ok (.aload_n 0, 1) := by decide +kernel
theorem d_L_law_630 : decode code 630 = .ok (.iload_n 3, 1) := by decide +kernel
theorem d_L_law_631 : decode code 631 = .ok (.iconst 2, 1) := by decide +kernel
theorem d_L_law_632 : decode code 632 = .ok (.iadd, 1) := by decide +kernel
theorem d_L_law_633 : decode code 633 = .ok (.iaload, 1) := by decide +kernel
theorem d_L_law_634 : decode code 634 = .ok (.invokevirtual 82, 3) := by decide +kernel
theorem kw_L_82 : KW "NineBoardsLaw" 82 ⟨"NineBoards", "would", "(II)I"⟩ prog_1_method_17_code 3 (some .int) 2 := ⟨(mt_4 (List.mem_of_getElem? (i := 128) rfl) rfl), (mt_1 (List.mem_of_getElem? (i := 1) rfl) rfl), (mt_4 (List.mem_of_getElem? (i := 131) rfl) rfl), by decide +kernel⟩
theorem kv_Nine_would : Cond.instanceMethod ⟨"NineBoards", "would", "(II)I"⟩ ∈ TB ∧ Cond.selects "NineBoards" ⟨"NineBoards", "would", "(II)I"⟩ ⟨"NineBoards", "would", "(II)I"⟩ ∈ TB := ⟨(mt_4 (List.mem_of_getElem? (i := 129) rfl) rfl), (mt_4 (List.mem_of_getElem? (i := 130) rfl) rfl)⟩
theorem d_L_law_637 : decode code 637 = .ok (.aload_n 2, 1) := by decide +kernel
theorem d_L_law_638 : decode code 638 = .ok (.aload_n 0, 1) := by decide +kernel
theorem d_L_law_639 : decode code 639 = .ok (.iload_n 3, 1) := by decide +kernel
theorem d_L_law_640 : decode code 640 = .ok (.iconst 1, 1) := by decide +kernel
theorem d_L_law_641 : decode code 641 = .ok (.iadd, 1) := by decide +kernel
theorem d_L_law_642 : decode code 642 = .ok (.iaload, 1) := by decide +kernel
theorem d_L_law_643 : decode code 643 = .ok (.aload_n 0, 1) := by decide +kernel
theorem d_L_law_644 : decode code 644 = .ok (.iload_n 3, 1) := by decide +kernel
theorem d_L_law_645 : decode code 645 = .ok (.iconst 2, 1) := by decide +kernel
theorem d_L_law_646 : decode code 646 = .ok (.iadd, 1) := by decide +kernel
theorem d_L_law_647 : decode code 647 = .ok (.iaload, 1) := by decide +kernel
theorem d_L_law_648 : decode code 648 = .ok (.invokevirtual 85, 3) := by decide +kernel
theorem kw_L_85 : KW "NineBoardsLaw" 85 ⟨"NineBoardsModel", "would", "(II)I"⟩ prog_13_method_101_code 3 (some .int) 2 := ⟨(mt_8 (List.mem_of_getElem? (i := 7) rfl) rfl), (mt_1 (List.mem_of_getElem? (i := 16) rfl) rfl), (mt_8 (List.mem_of_getElem? (i := 10) rfl) rfl), by decide +kernel⟩
theorem kv_Model_would : Cond.instanceMethod ⟨"NineBoardsModel", "would", "(II)I"⟩ ∈ TB ∧ Cond.selects "NineBoardsModel" ⟨"NineBoardsModel", "would", "(II)I"⟩ ⟨"NineBoardsModel", "would", "(II)I"⟩ ∈ TB := ⟨(mt_8 (List.mem_of_getElem? (i := 8) rfl) rfl), (mt_8 (List.mem_of_getElem? (i := 9) rfl) rfl)⟩
theorem d_L_law_651 : decode code 651 = .ok (.if_icmp .eq 473, 3) := by decide +kernel
set_option maxHeartbeats 4000000 in
set_option maxRecDepth 100000 in
theorem lc_15 {p : Program} {l : Launch} {e : Env} {s : State} {m : MethodId} {below : List Frame} {meth : Method} {c : Code} {Q : State → Prop} {D : va_G} {y : Nat → ClassId} {nm : String} {b : Nat} {xs : Nat → Int32} (C : Cx p s m #[Value.ref b] meth c D y (LA s) code 4 "NineBoardsLaw" nm) (hX : va_X b 6 xs s s.heap) (hbl : b < s.heap.size) (x : Nat) (mo : Nat) (u1 : Nat → Nat) (r1 : Nat → Nat) (r2 : Nat → Nat → Nat) (h1 : Nat → Nat) (a1 : Nat → Nat → Nat) (g1 : Nat → Nat) (c1 : Nat → Nat) (v1 : Nat → Nat) (kx : J p l e room_1 s m #[Value.ref b] below meth c Q D (LA s) 4 [] [(3, .int 0), (0, .ref b)] 451 27020 1124 []) : J p l e room_1 s m #[Value.ref b] below meth c Q D (LA s) 4 (LW y x mo u1 r1 r2 h1 a1 g1 c1 v1) [(3, .int 0), (2, .ref mo), (1, .ref x), (0, .ref b)] 451 27020 623 [] := by
  refine j_aload_n (pc := 623) C d_L_law_623 rfl 2 rfl ?_
  refine j_aload_n (pc := 624) C d_L_law_624 rfl 3 rfl ?_
  refine j_iload_n (pc := 625) C d_L_law_625 rfl 0 rfl ?_
  refine j_iconst (pc := 626) C (v := 1) d_L_law_626 (by decide) ?_
  refine j_iadd (pc := 627) C (v := 1) d_L_law_627 (by decide) ?_
  refine j_sld (pc := 628) C hX hbl (v := xs 1) (vin (by decide)) rfl d_L_law_628 ?_
  refine j_aload_n (pc := 629) C d_L_law_629 rfl 3 rfl ?_
  refine j_iload_n (pc := 630) C d_L_law_630 rfl 0 rfl ?_
  refine j_iconst (pc := 631) C (v := 2) d_L_law_631 (by decide) ?_
  refine j_iadd (pc := 632) C (v := 2) d_L_law_632 (by decide) ?_
  refine j_sld (pc := 633) C hX hbl (v := xs 2) (vin (by decide)) rfl d_L_law_633 ?_
  refine j_drop ?_
  refine j_sub (ws' := [(x, .inr (9, [.ref (u1 0), .ref (u1 1), .ref (u1 2), .ref (u1 3), .ref (u1 4), .ref (u1 5), .ref (u1 6), .ref (u1 7), .ref (u1 8), .int 1])), (u1 5, .inr (2, [.int 0, .int 1, .int 1, .int 0, .ref (u1 26), .int 0, .ref (u1 27), .ref (u1 28), .ref (u1 29), .ref (u1 30), .int 0, .int 0, .int 9999, .int 0])), (u1 26, .inr (1, [.int 0, .ref (u1 31), .ref (u1 32), .ref (u1 33), .ref (u1 34), .ref (u1 35), .ref (u1 36), .ref (u1 37)])), MB mo v1 0 0 0 0 0 0 0 (-1) 0 0 0 0 0 0 0 0 0 0 1 0, (v1 0, .inl (y 0, 1600, .inl (fun _ => 0))), (v1 43, .inl (y 0, 8, .inl (fun _ => 0))), (v1 45, .inl (y 0, 14, .inl lakeF)), (v1 62, .inl (y 0, 63, .inl (dayF 0))), (v1 65, .inl (y 0, 1890, .inl (fun _ => 0))), (v1 68, .inl (y 0, 63, .inl (fun _ => 0))), (v1 70, .inl (y 0, 6558, .inl (fun _ => 0))), (v1 71, .inl (y 0, 1093, .inl (fun _ => 0))), (v1 72, .inl (y 0, 7, .inl powF)), (v1 74, .inl (y 0, 13, .inl (fun _ => 0))), (v1 75, .inl (y 0, 13, .inl (fun _ => 0))), (v1 77, .inl (y 0, 15, .inl (fun _ => 0)))]) [0, 23, 24, 36, 37, 38, 39, 40, 41, 42, 43, 44, 45, 46, 47, 48] rfl (by decide) ?_
  refine j_callVi (pc := 634) C (c_N_would l D y x (u1 0) (u1 1) (u1 2) (u1 3) (u1 4) (u1 5) (u1 6) (u1 7) (u1 8) (u1 26) (u1 27) (u1 28) (u1 29) (u1 30) (u1 31) (u1 32) (u1 33) (u1 34) (u1 35) (u1 36) (u1 37) (xs 1) (xs 2)) kw_L_82 kv_Nine_would 0 9 rfl rfl ⟨by decide, by decide⟩ ⟨by decide, by decide⟩ (wr := [MB mo v1 0 0 0 0 0 0 0 (-1) 0 0 0 0 0 0 0 0 0 0 1 0, (v1 0, .inl (y 0, 1600, .inl (fun _ => 0))), (v1 43, .inl (y 0, 8, .inl (fun _ => 0))), (v1 45, .inl (y 0, 14, .inl lakeF)), (v1 62, .inl (y 0, 63, .inl (dayF 0))), (v1 65, .inl (y 0, 1890, .inl (fun _ => 0))), (v1 68, .inl (y 0, 63, .inl (fun _ => 0))), (v1 70, .inl (y 0, 6558, .inl (fun _ => 0))), (v1 71, .inl (y 0, 1093, .inl (fun _ => 0))), (v1 72, .inl (y 0, 7, .inl powF)), (v1 74, .inl (y 0, 13, .inl (fun _ => 0))), (v1 75, .inl (y 0, 13, .inl (fun _ => 0))), (v1 77, .inl (y 0, 15, .inl (fun _ => 0)))]) [0, 1, 2] [3, 4, 5, 6, 7, 8, 9, 10, 11, 12, 13, 14, 15] rfl rfl (by decide) (by decide) (by decide) (As := [.int (xs 1), .int (xs 2)]) (rest := []) rfl (nb rfl) rfl d_L_law_634 (fun r1 _ hr1 => ?_)
  subst hr1
  refine j_ws (ws' := [MB mo v1 0 0 0 0 0 0 0 (-1) 0 0 0 0 0 0 0 0 0 0 1 0, (v1 0, .inl (y 0, 1600, .inl (fun _ => 0))), (v1 43, .inl (y 0, 8, .inl (fun _ => 0))), (v1 45, .inl (y 0, 14, .inl lakeF)), (v1 62, .inl (y 0, 63, .inl (dayF 0))), (v1 65, .inl (y 0, 1890, .inl (fun _ => 0))), (v1 68, .inl (y 0, 63, .inl (fun _ => 0))), (v1 70, .inl (y 0, 6558, .inl (fun _ => 0))), (v1 71, .inl (y 0, 1093, .inl (fun _ => 0))), (v1 72, .inl (y 0, 7, .inl powF)), (v1 74, .inl (y 0, 13, .inl (fun _ => 0))), (v1 75, .inl (y 0, 13, .inl (fun _ => 0))), (v1 77, .inl (y 0, 15, .inl (fun _ => 0)))]) rfl ?_
  refine j_st (st' := [.int (-1)]) rfl ?_
  refine j_aload_n (pc := 637) C d_L_law_637 rfl 1 rfl ?_
  refine j_aload_n (pc := 638) C d_L_law_638 rfl 3 rfl ?_
  refine j_iload_n (pc := 639) C d_L_law_639 rfl 0 rfl ?_
  refine j_iconst (pc := 640) C (v := 1) d_L_law_640 (by decide) ?_
  refine j_iadd (pc := 641) C (v := 1) d_L_law_641 (by decide) ?_
  refine j_sld (pc := 642) C hX hbl (v := xs 1) (vin (by decide)) rfl d_L_law_642 ?_
  refine j_aload_n (pc := 643) C d_L_law_643 rfl 3 rfl ?_
  refine j_iload_n (pc := 644) C d_L_law_644 rfl 0 rfl ?_
  refine j_iconst (pc := 645) C (v := 2) d_L_law_645 (by decide) ?_
  refine j_iadd (pc := 646) C (v := 2) d_L_law_646 (by decide) ?_
  refine j_sld (pc := 647) C hX hbl (v := xs 2) (vin (by decide)) rfl d_L_law_647 ?_
  refine j_sub (ws' := [MB mo v1 0 0 0 0 0 0 0 (-1) 0 0 0 0 0 0 0 0 0 0 1 0, (v1 43, .inl (y 0, 8, .inl (fun _ => 0)))]) [0, 2] rfl (by decide) ?_
  refine j_callVi (pc := 648) C (c_M_would l D y mo v1 (xs 1) (xs 2)) kw_L_85 kv_Model_would 0 10 rfl rfl ⟨by decide, by decide⟩ ⟨by decide, by decide⟩ (wr := []) [0, 1] [] rfl rfl (by decide) (by decide) (by decide) (As := [.int (xs 1), .int (xs 2)]) (rest := [.int (-1)]) rfl (nb rfl) rfl d_L_law_648 (fun r2 _ hr2 => ?_)
  subst hr2
  refine j_ws (ws' := []) rfl ?_
  refine j_st (st' := [.int (-1), .int (-1)]) rfl ?_
  refine j_icmp_eqT (pc := 651) C (tgt := 1124) d_L_law_651 (by decide) (by decide) ?_
  refine j_sub (ws' := []) [] rfl (by decide) ?_
  refine j_locs (lv' := [(3, .int 0), (0, .ref b)]) [0, 3] rfl ?_
  exact kx
theorem d_L_law_656 : decode code 656 = .ok (.aload_n 1, 1) := by decide +kernel
theorem d_L_law_657 : decode code 657 = .ok (.aload_n 0, 1) := by decide +kernel
theorem d_L_law_658 : decode code 658 = .ok (.iload_n 3, 1) := by decide +kernel
theorem d_L_law_659 : decode code 659 = .ok (.iconst 1, 1) := by decide +kernel
theorem d_L_law_660 : decode code 660 = .ok (.iadd, 1) := by decide +kernel
theorem d_L_law_661 : decode code 661 = .ok (.iaload, 1) := by decide +kernel
theorem d_L_law_662 : decode code 662 = .ok (.invokevirtual 86, 3) := by decide +kernel
theorem kw_L_86 : KW "NineBoardsLaw" 86 ⟨"NineBoards", "need", "(I)I"⟩ prog_1_method_18_code 3 (some .int) 1 := ⟨(mt_4 (List.mem_of_getElem? (i := 136) rfl) rfl), (mt_1 (List.mem_of_getElem? (i := 1) rfl) rfl), (mt_4 (List.mem_of_getElem? (i := 139) rfl) rfl), by decide +kernel⟩
theorem kv_Nine_need : Cond.instanceMethod ⟨"NineBoards", "need", "(I)I"⟩ ∈ TB ∧ Cond.selects "NineBoards" ⟨"NineBoards", "need", "(I)I"⟩ ⟨"NineBoards", "need", "(I)I"⟩ ∈ TB := ⟨(mt_4 (List.mem_of_getElem? (i := 137) rfl) rfl), (mt_4 (List.mem_of_getElem? (i := 138) rfl) rfl)⟩
theorem d_L_law_665 : decode code 665 = .ok (.aload_n 2, 1) := by decide +kernel
theorem d_L_law_666 : decode code 666 = .ok (.aload_n 0, 1) := by decide +kernel
theorem d_L_law_667 : decode code 667 = .ok (.iload_n 3, 1) := by decide +kernel
theorem d_L_law_668 : decode code 668 = .ok (.iconst 1, 1) := by decide +kernel
theorem d_L_law_669 : decode code 669 = .ok (.iadd, 1) := by decide +kernel
theorem d_L_law_670 : decode code 670 = .ok (.iaload, 1) := by decide +kernel
theorem d_L_law_671 : decode code 671 = .ok (.invokevirtual 89, 3) := by decide +kernel
theorem kw_L_89 : KW "NineBoardsLaw" 89 ⟨"NineBoardsModel", "need", "(I)I"⟩ prog_13_method_105_code 3 (some .int) 1 := ⟨(mt_8 (List.mem_of_getElem? (i := 20) rfl) rfl), (mt_1 (List.mem_of_getElem? (i := 16) rfl) rfl), (mt_8 (List.mem_of_getElem? (i := 23) rfl) rfl), by decide +kernel⟩
theorem kv_Model_need : Cond.instanceMethod ⟨"NineBoardsModel", "need", "(I)I"⟩ ∈ TB ∧ Cond.selects "NineBoardsModel" ⟨"NineBoardsModel", "need", "(I)I"⟩ ⟨"NineBoardsModel", "need", "(I)I"⟩ ∈ TB := ⟨(mt_8 (List.mem_of_getElem? (i := 21) rfl) rfl), (mt_8 (List.mem_of_getElem? (i := 22) rfl) rfl)⟩
theorem d_L_law_674 : decode code 674 = .ok (.if_icmp .eq 450, 3) := by decide +kernel
set_option maxHeartbeats 4000000 in
set_option maxRecDepth 100000 in
theorem lc_16 {p : Program} {l : Launch} {e : Env} {s : State} {m : MethodId} {below : List Frame} {meth : Method} {c : Code} {Q : State → Prop} {D : va_G} {y : Nat → ClassId} {nm : String} {b : Nat} {xs : Nat → Int32} (C : Cx p s m #[Value.ref b] meth c D y (LA s) code 4 "NineBoardsLaw" nm) (hX : va_X b 6 xs s s.heap) (hbl : b < s.heap.size) (x : Nat) (mo : Nat) (u1 : Nat → Nat) (r1 : Nat → Nat) (r2 : Nat → Nat → Nat) (h1 : Nat → Nat) (a1 : Nat → Nat → Nat) (g1 : Nat → Nat) (c1 : Nat → Nat) (v1 : Nat → Nat) (kx : J p l e room_1 s m #[Value.ref b] below meth c Q D (LA s) 4 [] [(3, .int 0), (0, .ref b)] 451 27020 1124 []) : J p l e room_1 s m #[Value.ref b] below meth c Q D (LA s) 4 (LW y x mo u1 r1 r2 h1 a1 g1 c1 v1) [(3, .int 0), (2, .ref mo), (1, .ref x), (0, .ref b)] 451 27020 656 [] := by
  refine j_aload_n (pc := 656) C d_L_law_656 rfl 2 rfl ?_
  refine j_aload_n (pc := 657) C d_L_law_657 rfl 3 rfl ?_
  refine j_iload_n (pc := 658) C d_L_law_658 rfl 0 rfl ?_
  refine j_iconst (pc := 659) C (v := 1) d_L_law_659 (by decide) ?_
  refine j_iadd (pc := 660) C (v := 1) d_L_law_660 (by decide) ?_
  refine j_sld (pc := 661) C hX hbl (v := xs 1) (vin (by decide)) rfl d_L_law_661 ?_
  refine j_drop ?_
  refine j_sub (ws' := [(x, .inr (9, [.ref (u1 0), .ref (u1 1), .ref (u1 2), .ref (u1 3), .ref (u1 4), .ref (u1 5), .ref (u1 6), .ref (u1 7), .ref (u1 8), .int 1])), (u1 5, .inr (2, [.int 0, .int 1, .int 1, .int 0, .ref (u1 26), .int 0, .ref (u1 27), .ref (u1 28), .ref (u1 29), .ref (u1 30), .int 0, .int 0, .int 9999, .int 0])), (u1 29, .inr (8, [.int 0, .ref (u1 38), .ref (u1 39), .ref (u1 40), .ref (u1 41), .ref (u1 42), .ref (u1 43), .ref (u1 44)])), MB mo v1 0 0 0 0 0 0 0 (-1) 0 0 0 0 0 0 0 0 0 0 1 0, (v1 0, .inl (y 0, 1600, .inl (fun _ => 0))), (v1 43, .inl (y 0, 8, .inl (fun _ => 0))), (v1 45, .inl (y 0, 14, .inl lakeF)), (v1 62, .inl (y 0, 63, .inl (dayF 0))), (v1 65, .inl (y 0, 1890, .inl (fun _ => 0))), (v1 68, .inl (y 0, 63, .inl (fun _ => 0))), (v1 70, .inl (y 0, 6558, .inl (fun _ => 0))), (v1 71, .inl (y 0, 1093, .inl (fun _ => 0))), (v1 72, .inl (y 0, 7, .inl powF)), (v1 74, .inl (y 0, 13, .inl (fun _ => 0))), (v1 75, .inl (y 0, 13, .inl (fun _ => 0))), (v1 77, .inl (y 0, 15, .inl (fun _ => 0)))]) [0, 23, 25, 36, 37, 38, 39, 40, 41, 42, 43, 44, 45, 46, 47, 48] rfl (by decide) ?_
  refine j_callVi (pc := 662) C (c_N_need l D y x (u1 0) (u1 1) (u1 2) (u1 3) (u1 4) (u1 5) (u1 6) (u1 7) (u1 8) (u1 26) (u1 27) (u1 28) (u1 29) (u1 30) (u1 38) (u1 39) (u1 40) (u1 41) (u1 42) (u1 43) (u1 44) (xs 1)) kw_L_86 kv_Nine_need 0 9 rfl rfl ⟨by decide, by decide⟩ ⟨by decide, by decide⟩ (wr := [MB mo v1 0 0 0 0 0 0 0 (-1) 0 0 0 0 0 0 0 0 0 0 1 0, (v1 0, .inl (y 0, 1600, .inl (fun _ => 0))), (v1 43, .inl (y 0, 8, .inl (fun _ => 0))), (v1 45, .inl (y 0, 14, .inl lakeF)), (v1 62, .inl (y 0, 63, .inl (dayF 0))), (v1 65, .inl (y 0, 1890, .inl (fun _ => 0))), (v1 68, .inl (y 0, 63, .inl (fun _ => 0))), (v1 70, .inl (y 0, 6558, .inl (fun _ => 0))), (v1 71, .inl (y 0, 1093, .inl (fun _ => 0))), (v1 72, .inl (y 0, 7, .inl powF)), (v1 74, .inl (y 0, 13, .inl (fun _ => 0))), (v1 75, .inl (y 0, 13, .inl (fun _ => 0))), (v1 77, .inl (y 0, 15, .inl (fun _ => 0)))]) [0, 1, 2] [3, 4, 5, 6, 7, 8, 9, 10, 11, 12, 13, 14, 15] rfl rfl (by decide) (by decide) (by decide) (As := [.int (xs 1)]) (rest := []) rfl (nb rfl) rfl d_L_law_662 (fun r1 _ hr1 => ?_)
  subst hr1
  refine j_ws (ws' := [MB mo v1 0 0 0 0 0 0 0 (-1) 0 0 0 0 0 0 0 0 0 0 1 0, (v1 0, .inl (y 0, 1600, .inl (fun _ => 0))), (v1 43, .inl (y 0, 8, .inl (fun _ => 0))), (v1 45, .inl (y 0, 14, .inl lakeF)), (v1 62, .inl (y 0, 63, .inl (dayF 0))), (v1 65, .inl (y 0, 1890, .inl (fun _ => 0))), (v1 68, .inl (y 0, 63, .inl (fun _ => 0))), (v1 70, .inl (y 0, 6558, .inl (fun _ => 0))), (v1 71, .inl (y 0, 1093, .inl (fun _ => 0))), (v1 72, .inl (y 0, 7, .inl powF)), (v1 74, .inl (y 0, 13, .inl (fun _ => 0))), (v1 75, .inl (y 0, 13, .inl (fun _ => 0))), (v1 77, .inl (y 0, 15, .inl (fun _ => 0)))]) rfl ?_
  refine j_st (st' := [.int (-1)]) rfl ?_
  refine j_aload_n (pc := 665) C d_L_law_665 rfl 1 rfl ?_
  refine j_aload_n (pc := 666) C d_L_law_666 rfl 3 rfl ?_
  refine j_iload_n (pc := 667) C d_L_law_667 rfl 0 rfl ?_
  refine j_iconst (pc := 668) C (v := 1) d_L_law_668 (by decide) ?_
  refine j_iadd (pc := 669) C (v := 1) d_L_law_669 (by decide) ?_
  refine j_sld (pc := 670) C hX hbl (v := xs 1) (vin (by decide)) rfl d_L_law_670 ?_
  refine j_sub (ws' := [MB mo v1 0 0 0 0 0 0 0 (-1) 0 0 0 0 0 0 0 0 0 0 1 0, (v1 43, .inl (y 0, 8, .inl (fun _ => 0)))]) [0, 2] rfl (by decide) ?_
  refine j_callVi (pc := 671) C (c_M_need l D y mo v1 (xs 1)) kw_L_89 kv_Model_need 0 10 rfl rfl ⟨by decide, by decide⟩ ⟨by decide, by decide⟩ (wr := []) [0, 1] [] rfl rfl (by decide) (by decide) (by decide) (As := [.int (xs 1)]) (rest := [.int (-1)]) rfl (nb rfl) rfl d_L_law_671 (fun r2 _ hr2 => ?_)
  subst hr2
  refine j_ws (ws' := []) rfl ?_
  refine j_st (st' := [.int (-1), .int (-1)]) rfl ?_
  refine j_icmp_eqT (pc := 674) C (tgt := 1124) d_L_law_674 (by decide) (by decide) ?_
  refine j_sub (ws' := []) [] rfl (by decide) ?_
  refine j_locs (lv' := [(3, .int 0), (0, .ref b)]) [0, 3] rfl ?_
  exact kx
theorem d_L_law_679 : decode code 679 = .ok (.aload_n 1, 1) := by decide +kernel
theorem d_L_law_680 : decode code 680 = .ok (.aload_n 0, 1) := by decide +kernel
theorem d_L_law_681 : decode code 681 = .ok (.iload_n 3, 1) := by decide +kernel
theorem d_L_law_682 : decode code 682 = .ok (.iconst 1, 1) := by decide +kernel
theorem d_L_law_683 : decode code 683 = .ok (.iadd, 1) := by decide +kernel
theorem d_L_law_684 : decode code 684 = .ok (.iaload, 1) := by decide +kernel
theorem d_L_law_685 : decode code 685 = .ok (.aload_n 0, 1) := by decide +kernel
theorem d_L_law_686 : decode code 686 = .ok (.iload_n 3, 1) := by decide +kernel
theorem d_L_law_687 : decode code 687 = .ok (.iconst 2, 1) := by decide +kernel
theorem d_L_law_688 : decode code 688 = .ok (.iadd, 1) := by decide +kernel
theorem d_L_law_689 : decode code 689 = .ok (.iaload, 1) := by decide +kernel
theorem d_L_law_690 : decode code 690 = .ok (.invokevirtual 90, 3) := by decide +kernel
theorem kw_L_90 : KW "NineBoardsLaw" 90 ⟨"NineBoards", "both", "(II)I"⟩ prog_1_method_19_code 9 (some .int) 2 := ⟨(mt_4 (List.mem_of_getElem? (i := 145) rfl) rfl), (mt_1 (List.mem_of_getElem? (i := 1) rfl) rfl), (mt_4 (List.mem_of_getElem? (i := 148) rfl) rfl), by decide +kernel⟩
theorem kv_Nine_both : Cond.instanceMethod ⟨"NineBoards", "both", "(II)I"⟩ ∈ TB ∧ Cond.selects "NineBoards" ⟨"NineBoards", "both", "(II)I"⟩ ⟨"NineBoards", "both", "(II)I"⟩ ∈ TB := ⟨(mt_4 (List.mem_of_getElem? (i := 146) rfl) rfl), (mt_4 (List.mem_of_getElem? (i := 147) rfl) rfl)⟩
theorem d_L_law_693 : decode code 693 = .ok (.aload_n 2, 1) := by decide +kernel
theorem d_L_law_694 : decode code 694 = .ok (.aload_n 0, 1) := by decide +kernel
theorem d_L_law_695 : decode code 695 = .ok (.iload_n 3, 1) := by decide +kernel
theorem d_L_law_696 : decode code 696 = .ok (.iconst 1, 1) := by decide +kernel
theorem d_L_law_697 : decode code 697 = .ok (.iadd, 1) := by decide +kernel
theorem d_L_law_698 : decode code 698 = .ok (.iaload, 1) := by decide +kernel
theorem d_L_law_699 : decode code 699 = .ok (.aload_n 0, 1) := by decide +kernel
theorem d_L_law_700 : decode code 700 = .ok (.iload_n 3, 1) := by decide +kernel
theorem d_L_law_701 : decode code 701 = .ok (.iconst 2, 1) := by decide +kernel
theorem d_L_law_702 : decode code 702 = .ok (.iadd, 1) := by decide +kernel
theorem d_L_law_703 : decode code 703 = .ok (.iaload, 1) := by decide +kernel
theorem d_L_law_704 : decode code 704 = .ok (.invokevirtual 93, 3) := by decide +kernel
theorem kw_L_93 : KW "NineBoardsLaw" 93 ⟨"NineBoardsModel", "both", "(II)I"⟩ prog_13_method_106_code 9 (some .int) 2 := ⟨(mt_8 (List.mem_of_getElem? (i := 36) rfl) rfl), (mt_1 (List.mem_of_getElem? (i := 16) rfl) rfl), (mt_8 (List.mem_of_getElem? (i := 39) rfl) rfl), by decide +kernel⟩
theorem kv_Model_both : Cond.instanceMethod ⟨"NineBoardsModel", "both", "(II)I"⟩ ∈ TB ∧ Cond.selects "NineBoardsModel" ⟨"NineBoardsModel", "both", "(II)I"⟩ ⟨"NineBoardsModel", "both", "(II)I"⟩ ∈ TB := ⟨(mt_8 (List.mem_of_getElem? (i := 37) rfl) rfl), (mt_8 (List.mem_of_getElem? (i := 38) rfl) rfl)⟩
theorem d_L_law_707 : decode code 707 = .ok (.if_icmp .eq 417, 3) := by decide +kernel
set_option maxHeartbeats 4000000 in
set_option maxRecDepth 100000 in
theorem lc_17 {p : Program} {l : Launch} {e : Env} {s : State} {m : MethodId} {below : List Frame} {meth : Method} {c : Code} {Q : State → Prop} {D : va_G} {y : Nat → ClassId} {nm : String} {b : Nat} {xs : Nat → Int32} (C : Cx p s m #[Value.ref b] meth c D y (LA s) code 4 "NineBoardsLaw" nm) (hX : va_X b 6 xs s s.heap) (hbl : b < s.heap.size) (x : Nat) (mo : Nat) (u1 : Nat → Nat) (r1 : Nat → Nat) (r2 : Nat → Nat → Nat) (h1 : Nat → Nat) (a1 : Nat → Nat → Nat) (g1 : Nat → Nat) (c1 : Nat → Nat) (v1 : Nat → Nat) (kx : J p l e room_1 s m #[Value.ref b] below meth c Q D (LA s) 4 [] [(3, .int 0), (0, .ref b)] 451 27020 1124 []) : J p l e room_1 s m #[Value.ref b] below meth c Q D (LA s) 4 (LW y x mo u1 r1 r2 h1 a1 g1 c1 v1) [(3, .int 0), (2, .ref mo), (1, .ref x), (0, .ref b)] 451 27020 679 [] := by
  refine j_aload_n (pc := 679) C d_L_law_679 rfl 2 rfl ?_
  refine j_aload_n (pc := 680) C d_L_law_680 rfl 3 rfl ?_
  refine j_iload_n (pc := 681) C d_L_law_681 rfl 0 rfl ?_
  refine j_iconst (pc := 682) C (v := 1) d_L_law_682 (by decide) ?_
  refine j_iadd (pc := 683) C (v := 1) d_L_law_683 (by decide) ?_
  refine j_sld (pc := 684) C hX hbl (v := xs 1) (vin (by decide)) rfl d_L_law_684 ?_
  refine j_aload_n (pc := 685) C d_L_law_685 rfl 3 rfl ?_
  refine j_iload_n (pc := 686) C d_L_law_686 rfl 0 rfl ?_
  refine j_iconst (pc := 687) C (v := 2) d_L_law_687 (by decide) ?_
  refine j_iadd (pc := 688) C (v := 2) d_L_law_688 (by decide) ?_
  refine j_sld (pc := 689) C hX hbl (v := xs 2) (vin (by decide)) rfl d_L_law_689 ?_
  refine j_drop ?_
  refine j_sub (ws' := [(x, .inr (9, [.ref (u1 0), .ref (u1 1), .ref (u1 2), .ref (u1 3), .ref (u1 4), .ref (u1 5), .ref (u1 6), .ref (u1 7), .ref (u1 8), .int 1])), (u1 5, .inr (2, [.int 0, .int 1, .int 1, .int 0, .ref (u1 26), .int 0, .ref (u1 27), .ref (u1 28), .ref (u1 29), .ref (u1 30), .int 0, .int 0, .int 9999, .int 0])), (u1 29, .inr (8, [.int 0, .ref (u1 38), .ref (u1 39), .ref (u1 40), .ref (u1 41), .ref (u1 42), .ref (u1 43), .ref (u1 44)])), MB mo v1 0 0 0 0 0 0 0 (-1) 0 0 0 0 0 0 0 0 0 0 1 0, (v1 0, .inl (y 0, 1600, .inl (fun _ => 0))), (v1 43, .inl (y 0, 8, .inl (fun _ => 0))), (v1 45, .inl (y 0, 14, .inl lakeF)), (v1 62, .inl (y 0, 63, .inl (dayF 0))), (v1 65, .inl (y 0, 1890, .inl (fun _ => 0))), (v1 68, .inl (y 0, 63, .inl (fun _ => 0))), (v1 70, .inl (y 0, 6558, .inl (fun _ => 0))), (v1 71, .inl (y 0, 1093, .inl (fun _ => 0))), (v1 72, .inl (y 0, 7, .inl powF)), (v1 74, .inl (y 0, 13, .inl (fun _ => 0))), (v1 75, .inl (y 0, 13, .inl (fun _ => 0))), (v1 77, .inl (y 0, 15, .inl (fun _ => 0)))]) [0, 23, 25, 36, 37, 38, 39, 40, 41, 42, 43, 44, 45, 46, 47, 48] rfl (by decide) ?_
  refine j_callVi (pc := 690) C (c_N_both l D y x (u1 0) (u1 1) (u1 2) (u1 3) (u1 4) (u1 5) (u1 6) (u1 7) (u1 8) (u1 26) (u1 27) (u1 28) (u1 29) (u1 30) (u1 38) (u1 39) (u1 40) (u1 41) (u1 42) (u1 43) (u1 44) (xs 1) (xs 2)) kw_L_90 kv_Nine_both 0 9 rfl rfl ⟨by decide, by decide⟩ ⟨by decide, by decide⟩ (wr := [MB mo v1 0 0 0 0 0 0 0 (-1) 0 0 0 0 0 0 0 0 0 0 1 0, (v1 0, .inl (y 0, 1600, .inl (fun _ => 0))), (v1 43, .inl (y 0, 8, .inl (fun _ => 0))), (v1 45, .inl (y 0, 14, .inl lakeF)), (v1 62, .inl (y 0, 63, .inl (dayF 0))), (v1 65, .inl (y 0, 1890, .inl (fun _ => 0))), (v1 68, .inl (y 0, 63, .inl (fun _ => 0))), (v1 70, .inl (y 0, 6558, .inl (fun _ => 0))), (v1 71, .inl (y 0, 1093, .inl (fun _ => 0))), (v1 72, .inl (y 0, 7, .inl powF)), (v1 74, .inl (y 0, 13, .inl (fun _ => 0))), (v1 75, .inl (y 0, 13, .inl (fun _ => 0))), (v1 77, .inl (y 0, 15, .inl (fun _ => 0)))]) [0, 1, 2] [3, 4, 5, 6, 7, 8, 9, 10, 11, 12, 13, 14, 15] rfl rfl (by decide) (by decide) (by decide) (As := [.int (xs 1), .int (xs 2)]) (rest := []) rfl (nb rfl) rfl d_L_law_690 (fun r1 _ hr1 => ?_)
  subst hr1
  refine j_ws (ws' := [MB mo v1 0 0 0 0 0 0 0 (-1) 0 0 0 0 0 0 0 0 0 0 1 0, (v1 0, .inl (y 0, 1600, .inl (fun _ => 0))), (v1 43, .inl (y 0, 8, .inl (fun _ => 0))), (v1 45, .inl (y 0, 14, .inl lakeF)), (v1 62, .inl (y 0, 63, .inl (dayF 0))), (v1 65, .inl (y 0, 1890, .inl (fun _ => 0))), (v1 68, .inl (y 0, 63, .inl (fun _ => 0))), (v1 70, .inl (y 0, 6558, .inl (fun _ => 0))), (v1 71, .inl (y 0, 1093, .inl (fun _ => 0))), (v1 72, .inl (y 0, 7, .inl powF)), (v1 74, .inl (y 0, 13, .inl (fun _ => 0))), (v1 75, .inl (y 0, 13, .inl (fun _ => 0))), (v1 77, .inl (y 0, 15, .inl (fun _ => 0)))]) rfl ?_
  refine j_st (st' := [.int (-1)]) rfl ?_
  refine j_aload_n (pc := 693) C d_L_law_693 rfl 1 rfl ?_
  refine j_aload_n (pc := 694) C d_L_law_694 rfl 3 rfl ?_
  refine j_iload_n (pc := 695) C d_L_law_695 rfl 0 rfl ?_
  refine j_iconst (pc := 696) C (v := 1) d_L_law_696 (by decide) ?_
  refine j_iadd (pc := 697) C (v := 1) d_L_law_697 (by decide) ?_
  refine j_sld (pc := 698) C hX hbl (v := xs 1) (vin (by decide)) rfl d_L_law_698 ?_
  refine j_aload_n (pc := 699) C d_L_law_699 rfl 3 rfl ?_
  refine j_iload_n (pc := 700) C d_L_law_700 rfl 0 rfl ?_
  refine j_iconst (pc := 701) C (v := 2) d_L_law_701 (by decide) ?_
  refine j_iadd (pc := 702) C (v := 2) d_L_law_702 (by decide) ?_
  refine j_sld (pc := 703) C hX hbl (v := xs 2) (vin (by decide)) rfl d_L_law_703 ?_
  refine j_sub (ws' := [MB mo v1 0 0 0 0 0 0 0 (-1) 0 0 0 0 0 0 0 0 0 0 1 0, (v1 43, .inl (y 0, 8, .inl (fun _ => 0)))]) [0, 2] rfl (by decide) ?_
  refine j_callVi (pc := 704) C (c_M_both l D y mo v1 (xs 1) (xs 2)) kw_L_93 kv_Model_both 0 10 rfl rfl ⟨by decide, by decide⟩ ⟨by decide, by decide⟩ (wr := []) [0, 1] [] rfl rfl (by decide) (by decide) (by decide) (As := [.int (xs 1), .int (xs 2)]) (rest := [.int (-1)]) rfl (nb rfl) rfl d_L_law_704 (fun r2 _ hr2 => ?_)
  subst hr2
  refine j_ws (ws' := []) rfl ?_
  refine j_st (st' := [.int (-1), .int (-1)]) rfl ?_
  refine j_icmp_eqT (pc := 707) C (tgt := 1124) d_L_law_707 (by decide) (by decide) ?_
  refine j_sub (ws' := []) [] rfl (by decide) ?_
  refine j_locs (lv' := [(3, .int 0), (0, .ref b)]) [0, 3] rfl ?_
  exact kx
theorem d_L_law_712 : decode code 712 = .ok (.aload_n 1, 1) := by decide +kernel
theorem d_L_law_713 : decode code 713 = .ok (.aload_n 0, 1) := by decide +kernel
theorem d_L_law_714 : decode code 714 = .ok (.iload_n 3, 1) := by decide +kernel
theorem d_L_law_715 : decode code 715 = .ok (.iconst 1, 1) := by decide +kernel
theorem d_L_law_716 : decode code 716 = .ok (.iadd, 1) := by decide +kernel
theorem d_L_law_717 : decode code 717 = .ok (.iaload, 1) := by decide +kernel
theorem d_L_law_718 : decode code 718 = .ok (.aload_n 0, 1) := by decide +kernel
theorem d_L_law_719 : decode code 719 = .ok (.iload_n 3, 1) := by decide +kernel
theorem d_L_law_720 : decode code 720 = .ok (.iconst 2, 1) := by decide +kernel
theorem d_L_law_721 : decode code 721 = .ok (.iadd, 1) := by decide +kernel
theorem d_L_law_722 : decode code 722 = .ok (.iaload, 1) := by decide +kernel
theorem d_L_law_723 : decode code 723 = .ok (.ifCond .eq 7, 3) := by decide +kernel
theorem d_L_law_730 : decode code 730 = .ok (.iconst 0, 1) := by decide +kernel
theorem d_L_law_731 : decode code 731 = .ok (.invokevirtual 94, 3) := by decide +kernel
theorem kw_L_94 : KW "NineBoardsLaw" 94 ⟨"NineBoards", "until", "(IZ)I"⟩ prog_1_method_20_code 5 (some .int) 2 := ⟨(mt_4 (List.mem_of_getElem? (i := 149) rfl) rfl), (mt_1 (List.mem_of_getElem? (i := 1) rfl) rfl), (mt_4 (List.mem_of_getElem? (i := 152) rfl) rfl), by decide +kernel⟩
theorem kv_Nine_until : Cond.instanceMethod ⟨"NineBoards", "until", "(IZ)I"⟩ ∈ TB ∧ Cond.selects "NineBoards" ⟨"NineBoards", "until", "(IZ)I"⟩ ⟨"NineBoards", "until", "(IZ)I"⟩ ∈ TB := ⟨(mt_4 (List.mem_of_getElem? (i := 150) rfl) rfl), (mt_4 (List.mem_of_getElem? (i := 151) rfl) rfl)⟩
theorem d_L_law_734 : decode code 734 = .ok (.aload_n 2, 1) := by decide +kernel
theorem d_L_law_735 : decode code 735 = .ok (.aload_n 0, 1) := by decide +kernel
theorem d_L_law_736 : decode code 736 = .ok (.iload_n 3, 1) := by decide +kernel
theorem d_L_law_737 : decode code 737 = .ok (.iconst 1, 1) := by decide +kernel
theorem d_L_law_738 : decode code 738 = .ok (.iadd, 1) := by decide +kernel
theorem d_L_law_739 : decode code 739 = .ok (.iaload, 1) := by decide +kernel
theorem d_L_law_740 : decode code 740 = .ok (.aload_n 0, 1) := by decide +kernel
theorem d_L_law_741 : decode code 741 = .ok (.iload_n 3, 1) := by decide +kernel
theorem d_L_law_742 : decode code 742 = .ok (.iconst 2, 1) := by decide +kernel
theorem d_L_law_743 : decode code 743 = .ok (.iadd, 1) := by decide +kernel
theorem d_L_law_744 : decode code 744 = .ok (.iaload, 1) := by decide +kernel
theorem d_L_law_745 : decode code 745 = .ok (.ifCond .eq 7, 3) := by decide +kernel
theorem d_L_law_752 : decode code 752 = .ok (.iconst 0, 1) := by decide +kernel
theorem d_L_law_753 : decode code 753 = .ok (.invokevirtual 98, 3) := by decide +kernel
theorem kw_L_98 : KW "NineBoardsLaw" 98 ⟨"NineBoardsModel", "until", "(IZ)I"⟩ prog_13_method_107_code 5 (some .int) 2 := ⟨(mt_8 (List.mem_of_getElem? (i := 40) rfl) rfl), (mt_1 (List.mem_of_getElem? (i := 16) rfl) rfl), (mt_8 (List.mem_of_getElem? (i := 43) rfl) rfl), by decide +kernel⟩
theorem kv_Model_until : Cond.instanceMethod ⟨"NineBoardsModel", "until", "(IZ)I"⟩ ∈ TB ∧ Cond.selects "NineBoardsModel" ⟨"NineBoardsModel", "until", "(IZ)I"⟩ ⟨"NineBoardsModel", "until", "(IZ)I"⟩ ∈ TB := ⟨(mt_8 (List.mem_of_getElem? (i := 41) rfl) rfl), (mt_8 (List.mem_of_getElem? (i := 42) rfl) rfl)⟩
theorem d_L_law_756 : decode code 756 = .ok (.if_icmp .eq 368, 3) := by decide +kernel
theorem d_L_law_726 : decode code 726 = .ok (.iconst 1, 1) := by decide +kernel
theorem d_L_law_727 : decode code 727 = .ok (.goto 4, 3) := by decide +kernel
theorem d_L_law_748 : decode code 748 = .ok (.iconst 1, 1) := by decide +kernel
theorem d_L_law_749 : decode code 749 = .ok (.goto 4, 3) := by decide +kernel
set_option maxHeartbeats 4000000 in
set_option maxRecDepth 100000 in
theorem lc_18 {p : Program} {l : Launch} {e : Env} {s : State} {m : MethodId} {below : List Frame} {meth : Method} {c : Code} {Q : State → Prop} {D : va_G} {y : Nat → ClassId} {nm : String} {b : Nat} {xs : Nat → Int32} (C : Cx p s m #[Value.ref b] meth c D y (LA s) code 4 "NineBoardsLaw" nm) (hX : va_X b 6 xs s s.heap) (hbl : b < s.heap.size) (x : Nat) (mo : Nat) (u1 : Nat → Nat) (r1 : Nat → Nat) (r2 : Nat → Nat → Nat) (h1 : Nat → Nat) (a1 : Nat → Nat → Nat) (g1 : Nat → Nat) (c1 : Nat → Nat) (v1 : Nat → Nat) (kx : J p l e room_1 s m #[Value.ref b] below meth c Q D (LA s) 4 [] [(3, .int 0), (0, .ref b)] 451 27020 1124 []) : J p l e room_1 s m #[Value.ref b] below meth c Q D (LA s) 4 (LW y x mo u1 r1 r2 h1 a1 g1 c1 v1) [(3, .int 0), (2, .ref mo), (1, .ref x), (0, .ref b)] 451 27020 712 [] := by
  refine j_aload_n (pc := 712) C d_L_law_712 rfl 2 rfl ?_
  refine j_aload_n (pc := 713) C d_L_law_713 rfl 3 rfl ?_
  refine j_iload_n (pc := 714) C d_L_law_714 rfl 0 rfl ?_
  refine j_iconst (pc := 715) C (v := 1) d_L_law_715 (by decide) ?_
  refine j_iadd (pc := 716) C (v := 1) d_L_law_716 (by decide) ?_
  refine j_sld (pc := 717) C hX hbl (v := xs 1) (vin (by decide)) rfl d_L_law_717 ?_
  refine j_aload_n (pc := 718) C d_L_law_718 rfl 3 rfl ?_
  refine j_iload_n (pc := 719) C d_L_law_719 rfl 0 rfl ?_
  refine j_iconst (pc := 720) C (v := 2) d_L_law_720 (by decide) ?_
  refine j_iadd (pc := 721) C (v := 2) d_L_law_721 (by decide) ?_
  refine j_sld (pc := 722) C hX hbl (v := xs 2) (vin (by decide)) rfl d_L_law_722 ?_
  refine j_if_eq (pc := 723) C (tgt := 730) d_L_law_723 (by decide) (fun c2 => ?_) (fun c2 => ?_)
  · refine j_iconst (pc := 730) C (v := 0) d_L_law_730 (by decide) ?_
    refine j_drop ?_
    refine j_sub (ws' := [(x, .inr (9, [.ref (u1 0), .ref (u1 1), .ref (u1 2), .ref (u1 3), .ref (u1 4), .ref (u1 5), .ref (u1 6), .ref (u1 7), .ref (u1 8), .int 1])), (u1 5, .inr (2, [.int 0, .int 1, .int 1, .int 0, .ref (u1 26), .int 0, .ref (u1 27), .ref (u1 28), .ref (u1 29), .ref (u1 30), .int 0, .int 0, .int 9999, .int 0])), (u1 26, .inr (1, [.int 0, .ref (u1 31), .ref (u1 32), .ref (u1 33), .ref (u1 34), .ref (u1 35), .ref (u1 36), .ref (u1 37)])), (u1 29, .inr (8, [.int 0, .ref (u1 38), .ref (u1 39), .ref (u1 40), .ref (u1 41), .ref (u1 42), .ref (u1 43), .ref (u1 44)])), (u1 30, .inr (6, [.int 0, .int 0, .ref (u1 45), .ref (u1 46), .ref (u1 47), .ref (u1 48), .ref (u1 49), .ref (u1 50)])), (u1 3, .inr (7, [.int 0, .int 0, .int 0, .ref (u1 18), .ref (u1 19), .ref (u1 20), .ref (u1 21), .ref (u1 22), .ref (u1 23), .ref (u1 24)])), (u1 18, .inl (y 0, 9, .inl (fun _ => 0))), (u1 19, .inl (y 0, 9, .inl (fun _ => 0))), (u1 20, .inl (y 1, 9, .inr (.inl (fun _ => 0)))), (u1 21, .inl (y 0, 6, .inl (fun _ => 0))), (u1 22, .inl (y 0, 6, .inl (fun _ => 0))), (u1 23, .inl (y 0, 16, .inl (fun _ => 0))), (u1 24, .inl (y 1, 5, .inr (.inl (fun _ => 0)))), (u1 2, .inr (7, [.int 0, .int 0, .int 0, .ref (u1 11), .ref (u1 12), .ref (u1 13), .ref (u1 14), .ref (u1 15), .ref (u1 16), .ref (u1 17)])), (u1 11, .inl (y 0, 9, .inl (fun _ => 0))), (u1 12, .inl (y 0, 9, .inl (fun _ => 0))), (u1 13, .inl (y 1, 9, .inr (.inl (fun _ => 0)))), (u1 14, .inl (y 0, 6, .inl (fun _ => 0))), (u1 15, .inl (y 0, 6, .inl (fun _ => 0))), (u1 16, .inl (y 0, 16, .inl (fun _ => 0))), (u1 17, .inl (y 1, 5, .inr (.inl (fun _ => 0)))), MB mo v1 0 0 0 0 0 0 0 (-1) 0 0 0 0 0 0 0 0 0 0 1 0, (v1 0, .inl (y 0, 1600, .inl (fun _ => 0))), (v1 43, .inl (y 0, 8, .inl (fun _ => 0))), (v1 45, .inl (y 0, 14, .inl lakeF)), (v1 62, .inl (y 0, 63, .inl (dayF 0))), (v1 65, .inl (y 0, 1890, .inl (fun _ => 0))), (v1 68, .inl (y 0, 63, .inl (fun _ => 0))), (v1 70, .inl (y 0, 6558, .inl (fun _ => 0))), (v1 71, .inl (y 0, 1093, .inl (fun _ => 0))), (v1 72, .inl (y 0, 7, .inl powF)), (v1 74, .inl (y 0, 13, .inl (fun _ => 0))), (v1 75, .inl (y 0, 13, .inl (fun _ => 0))), (v1 77, .inl (y 0, 15, .inl (fun _ => 0)))]) [0, 23, 24, 25, 26, 13, 14, 15, 16, 17, 18, 19, 20, 5, 6, 7, 8, 9, 10, 11, 12, 36, 37, 38, 39, 40, 41, 42, 43, 44, 45, 46, 47, 48] rfl (by decide) ?_
    refine j_callVi (pc := 731) C (c_N_until l D y x (u1 0) (u1 1) (u1 2) (u1 3) (u1 4) (u1 5) (u1 6) (u1 7) (u1 8) (u1 26) (u1 27) (u1 28) (u1 29) (u1 30) (u1 31) (u1 32) (u1 33) (u1 34) (u1 35) (u1 36) (u1 37) (u1 38) (u1 39) (u1 40) (u1 41) (u1 42) (u1 43) (u1 44) (u1 45) (u1 46) (u1 47) (u1 48) (u1 49) (u1 50) 0 (u1 18) (u1 19) (u1 20) (u1 21) (u1 22) (u1 23) (u1 24) (u1 11) (u1 12) (u1 13) (u1 14) (u1 15) (u1 16) (u1 17) (xs 1) 0) kw_L_94 kv_Nine_until 0 9 rfl rfl ⟨by decide, by decide⟩ ⟨by decide, by decide⟩ (wr := [MB mo v1 0 0 0 0 0 0 0 (-1) 0 0 0 0 0 0 0 0 0 0 1 0, (v1 0, .inl (y 0, 1600, .inl (fun _ => 0))), (v1 43, .inl (y 0, 8, .inl (fun _ => 0))), (v1 45, .inl (y 0, 14, .inl lakeF)), (v1 62, .inl (y 0, 63, .inl (dayF 0))), (v1 65, .inl (y 0, 1890, .inl (fun _ => 0))), (v1 68, .inl (y 0, 63, .inl (fun _ => 0))), (v1 70, .inl (y 0, 6558, .inl (fun _ => 0))), (v1 71, .inl (y 0, 1093, .inl (fun _ => 0))), (v1 72, .inl (y 0, 7, .inl powF)), (v1 74, .inl (y 0, 13, .inl (fun _ => 0))), (v1 75, .inl (y 0, 13, .inl (fun _ => 0))), (v1 77, .inl (y 0, 15, .inl (fun _ => 0)))]) [0, 1, 2, 3, 4, 5, 6, 7, 8, 9, 10, 11, 12, 13, 14, 15, 16, 17, 18, 19, 20] [21, 22, 23, 24, 25, 26, 27, 28, 29, 30, 31, 32, 33] rfl rfl (by decide) (by decide) (by decide) (As := [.int (xs 1), .int 0]) (rest := []) rfl (nb rfl) rfl d_L_law_731 (fun r3 _ hr3 => ?_)
    subst hr3
    refine j_ws (ws' := [MB mo v1 0 0 0 0 0 0 0 (-1) 0 0 0 0 0 0 0 0 0 0 1 0, (v1 0, .inl (y 0, 1600, .inl (fun _ => 0))), (v1 43, .inl (y 0, 8, .inl (fun _ => 0))), (v1 45, .inl (y 0, 14, .inl lakeF)), (v1 62, .inl (y 0, 63, .inl (dayF 0))), (v1 65, .inl (y 0, 1890, .inl (fun _ => 0))), (v1 68, .inl (y 0, 63, .inl (fun _ => 0))), (v1 70, .inl (y 0, 6558, .inl (fun _ => 0))), (v1 71, .inl (y 0, 1093, .inl (fun _ => 0))), (v1 72, .inl (y 0, 7, .inl powF)), (v1 74, .inl (y 0, 13, .inl (fun _ => 0))), (v1 75, .inl (y 0, 13, .inl (fun _ => 0))), (v1 77, .inl (y 0, 15, .inl (fun _ => 0)))]) rfl ?_
    refine j_st (st' := [.int (if ((0 : Int32).toInt ≠ 0 ∧ (xs 1).toInt < 0) ∨ ((0 : Int32).toInt = 0 ∧ 0 < (xs 1).toInt) then 0 else -1)]) rfl ?_
    refine j_aload_n (pc := 734) C d_L_law_734 rfl 1 rfl ?_
    refine j_aload_n (pc := 735) C d_L_law_735 rfl 3 rfl ?_
    refine j_iload_n (pc := 736) C d_L_law_736 rfl 0 rfl ?_
    refine j_iconst (pc := 737) C (v := 1) d_L_law_737 (by decide) ?_
    refine j_iadd (pc := 738) C (v := 1) d_L_law_738 (by decide) ?_
    refine j_sld (pc := 739) C hX hbl (v := xs 1) (vin (by decide)) rfl d_L_law_739 ?_
    refine j_aload_n (pc := 740) C d_L_law_740 rfl 3 rfl ?_
    refine j_iload_n (pc := 741) C d_L_law_741 rfl 0 rfl ?_
    refine j_iconst (pc := 742) C (v := 2) d_L_law_742 (by decide) ?_
    refine j_iadd (pc := 743) C (v := 2) d_L_law_743 (by decide) ?_
    refine j_sld (pc := 744) C hX hbl (v := xs 2) (vin (by decide)) rfl d_L_law_744 ?_
    refine j_if_eqT (pc := 745) C (tgt := 752) d_L_law_745 (by decide) c2 ?_
    refine j_iconst (pc := 752) C (v := 0) d_L_law_752 (by decide) ?_
    refine j_sub (ws' := [MB mo v1 0 0 0 0 0 0 0 (-1) 0 0 0 0 0 0 0 0 0 0 1 0, (v1 43, .inl (y 0, 8, .inl (fun _ => 0))), (v1 62, .inl (y 0, 63, .inl (dayF 0))), (v1 45, .inl (y 0, 14, .inl lakeF)), (v1 68, .inl (y 0, 63, .inl (fun _ => 0)))]) [0, 2, 4, 3, 6] rfl (by decide) ?_
    refine j_callVi (pc := 753) C (c_M_until l D y mo v1 (xs 1) 0 (fun _ => 0)) kw_L_98 kv_Model_until 0 10 rfl rfl ⟨by decide, by decide⟩ ⟨by decide, by decide⟩ (wr := []) [0, 1, 2, 3, 4] [] rfl rfl (by decide) (by decide) (by decide) (As := [.int (xs 1), .int 0]) (rest := [.int (if ((0 : Int32).toInt ≠ 0 ∧ (xs 1).toInt < 0) ∨ ((0 : Int32).toInt = 0 ∧ 0 < (xs 1).toInt) then 0 else -1)]) rfl (nb rfl) rfl d_L_law_753 (fun r4 _ hr4 => ?_)
    subst hr4
    refine j_ws (ws' := []) rfl ?_
    refine j_st (st' := [.int (if ((0 : Int32).toInt ≠ 0 ∧ (xs 1).toInt < 0) ∨ ((0 : Int32).toInt = 0 ∧ 0 < (xs 1).toInt) then 0 else -1), .int (if ((0 : Int32).toInt ≠ 0 ∧ (xs 1).toInt < 0) ∨ ((0 : Int32).toInt = 0 ∧ 0 < (xs 1).toInt) then 0 else -1)]) rfl ?_
    refine j_icmp_eqT (pc := 756) C (tgt := 1124) d_L_law_756 (by decide) rfl ?_
    refine j_sub (ws' := []) [] rfl (by decide) ?_
    refine j_locs (lv' := [(3, .int 0), (0, .ref b)]) [0, 3] rfl ?_
    exact kx
  · refine j_iconst (pc := 726) C (v := 1) d_L_law_726 (by decide) ?_
    refine j_goto (pc := 727) C (tgt := 731) d_L_law_727 (by decide) ?_
    refine j_drop ?_
    refine j_sub (ws' := [(x, .inr (9, [.ref (u1 0), .ref (u1 1), .ref (u1 2), .ref (u1 3), .ref (u1 4), .ref (u1 5), .ref (u1 6), .ref (u1 7), .ref (u1 8), .int 1])), (u1 5, .inr (2, [.int 0, .int 1, .int 1, .int 0, .ref (u1 26), .int 0, .ref (u1 27), .ref (u1 28), .ref (u1 29), .ref (u1 30), .int 0, .int 0, .int 9999, .int 0])), (u1 26, .inr (1, [.int 0, .ref (u1 31), .ref (u1 32), .ref (u1 33), .ref (u1 34), .ref (u1 35), .ref (u1 36), .ref (u1 37)])), (u1 29, .inr (8, [.int 0, .ref (u1 38), .ref (u1 39), .ref (u1 40), .ref (u1 41), .ref (u1 42), .ref (u1 43), .ref (u1 44)])), (u1 30, .inr (6, [.int 0, .int 0, .ref (u1 45), .ref (u1 46), .ref (u1 47), .ref (u1 48), .ref (u1 49), .ref (u1 50)])), (u1 3, .inr (7, [.int 0, .int 0, .int 0, .ref (u1 18), .ref (u1 19), .ref (u1 20), .ref (u1 21), .ref (u1 22), .ref (u1 23), .ref (u1 24)])), (u1 18, .inl (y 0, 9, .inl (fun _ => 0))), (u1 19, .inl (y 0, 9, .inl (fun _ => 0))), (u1 20, .inl (y 1, 9, .inr (.inl (fun _ => 0)))), (u1 21, .inl (y 0, 6, .inl (fun _ => 0))), (u1 22, .inl (y 0, 6, .inl (fun _ => 0))), (u1 23, .inl (y 0, 16, .inl (fun _ => 0))), (u1 24, .inl (y 1, 5, .inr (.inl (fun _ => 0)))), (u1 2, .inr (7, [.int 0, .int 0, .int 0, .ref (u1 11), .ref (u1 12), .ref (u1 13), .ref (u1 14), .ref (u1 15), .ref (u1 16), .ref (u1 17)])), (u1 11, .inl (y 0, 9, .inl (fun _ => 0))), (u1 12, .inl (y 0, 9, .inl (fun _ => 0))), (u1 13, .inl (y 1, 9, .inr (.inl (fun _ => 0)))), (u1 14, .inl (y 0, 6, .inl (fun _ => 0))), (u1 15, .inl (y 0, 6, .inl (fun _ => 0))), (u1 16, .inl (y 0, 16, .inl (fun _ => 0))), (u1 17, .inl (y 1, 5, .inr (.inl (fun _ => 0)))), MB mo v1 0 0 0 0 0 0 0 (-1) 0 0 0 0 0 0 0 0 0 0 1 0, (v1 0, .inl (y 0, 1600, .inl (fun _ => 0))), (v1 43, .inl (y 0, 8, .inl (fun _ => 0))), (v1 45, .inl (y 0, 14, .inl lakeF)), (v1 62, .inl (y 0, 63, .inl (dayF 0))), (v1 65, .inl (y 0, 1890, .inl (fun _ => 0))), (v1 68, .inl (y 0, 63, .inl (fun _ => 0))), (v1 70, .inl (y 0, 6558, .inl (fun _ => 0))), (v1 71, .inl (y 0, 1093, .inl (fun _ => 0))), (v1 72, .inl (y 0, 7, .inl powF)), (v1 74, .inl (y 0, 13, .inl (fun _ => 0))), (v1 75, .inl (y 0, 13, .inl (fun _ => 0))), (v1 77, .inl (y 0, 15, .inl (fun _ => 0)))]) [0, 23, 24, 25, 26, 13, 14, 15, 16, 17, 18, 19, 20, 5, 6, 7, 8, 9, 10, 11, 12, 36, 37, 38, 39, 40, 41, 42, 43, 44, 45, 46, 47, 48] rfl (by decide) ?_
    refine j_callVi (pc := 731) C (c_N_until l D y x (u1 0) (u1 1) (u1 2) (u1 3) (u1 4) (u1 5) (u1 6) (u1 7) (u1 8) (u1 26) (u1 27) (u1 28) (u1 29) (u1 30) (u1 31) (u1 32) (u1 33) (u1 34) (u1 35) (u1 36) (u1 37) (u1 38) (u1 39) (u1 40) (u1 41) (u1 42) (u1 43) (u1 44) (u1 45) (u1 46) (u1 47) (u1 48) (u1 49) (u1 50) 0 (u1 18) (u1 19) (u1 20) (u1 21) (u1 22) (u1 23) (u1 24) (u1 11) (u1 12) (u1 13) (u1 14) (u1 15) (u1 16) (u1 17) (xs 1) 1) kw_L_94 kv_Nine_until 0 9 rfl rfl ⟨by decide, by decide⟩ ⟨by decide, by decide⟩ (wr := [MB mo v1 0 0 0 0 0 0 0 (-1) 0 0 0 0 0 0 0 0 0 0 1 0, (v1 0, .inl (y 0, 1600, .inl (fun _ => 0))), (v1 43, .inl (y 0, 8, .inl (fun _ => 0))), (v1 45, .inl (y 0, 14, .inl lakeF)), (v1 62, .inl (y 0, 63, .inl (dayF 0))), (v1 65, .inl (y 0, 1890, .inl (fun _ => 0))), (v1 68, .inl (y 0, 63, .inl (fun _ => 0))), (v1 70, .inl (y 0, 6558, .inl (fun _ => 0))), (v1 71, .inl (y 0, 1093, .inl (fun _ => 0))), (v1 72, .inl (y 0, 7, .inl powF)), (v1 74, .inl (y 0, 13, .inl (fun _ => 0))), (v1 75, .inl (y 0, 13, .inl (fun _ => 0))), (v1 77, .inl (y 0, 15, .inl (fun _ => 0)))]) [0, 1, 2, 3, 4, 5, 6, 7, 8, 9, 10, 11, 12, 13, 14, 15, 16, 17, 18, 19, 20] [21, 22, 23, 24, 25, 26, 27, 28, 29, 30, 31, 32, 33] rfl rfl (by decide) (by decide) (by decide) (As := [.int (xs 1), .int 1]) (rest := []) rfl (nb rfl) rfl d_L_law_731 (fun r5 _ hr5 => ?_)
    subst hr5
    refine j_ws (ws' := [MB mo v1 0 0 0 0 0 0 0 (-1) 0 0 0 0 0 0 0 0 0 0 1 0, (v1 0, .inl (y 0, 1600, .inl (fun _ => 0))), (v1 43, .inl (y 0, 8, .inl (fun _ => 0))), (v1 45, .inl (y 0, 14, .inl lakeF)), (v1 62, .inl (y 0, 63, .inl (dayF 0))), (v1 65, .inl (y 0, 1890, .inl (fun _ => 0))), (v1 68, .inl (y 0, 63, .inl (fun _ => 0))), (v1 70, .inl (y 0, 6558, .inl (fun _ => 0))), (v1 71, .inl (y 0, 1093, .inl (fun _ => 0))), (v1 72, .inl (y 0, 7, .inl powF)), (v1 74, .inl (y 0, 13, .inl (fun _ => 0))), (v1 75, .inl (y 0, 13, .inl (fun _ => 0))), (v1 77, .inl (y 0, 15, .inl (fun _ => 0)))]) rfl ?_
    refine j_st (st' := [.int (if ((1 : Int32).toInt ≠ 0 ∧ (xs 1).toInt < 0) ∨ ((1 : Int32).toInt = 0 ∧ 0 < (xs 1).toInt) then 0 else -1)]) rfl ?_
    refine j_aload_n (pc := 734) C d_L_law_734 rfl 1 rfl ?_
    refine j_aload_n (pc := 735) C d_L_law_735 rfl 3 rfl ?_
    refine j_iload_n (pc := 736) C d_L_law_736 rfl 0 rfl ?_
    refine j_iconst (pc := 737) C (v := 1) d_L_law_737 (by decide) ?_
    refine j_iadd (pc := 738) C (v := 1) d_L_law_738 (by decide) ?_
    refine j_sld (pc := 739) C hX hbl (v := xs 1) (vin (by decide)) rfl d_L_law_739 ?_
    refine j_aload_n (pc := 740) C d_L_law_740 rfl 3 rfl ?_
    refine j_iload_n (pc := 741) C d_L_law_741 rfl 0 rfl ?_
    refine j_iconst (pc := 742) C (v := 2) d_L_law_742 (by decide) ?_
    refine j_iadd (pc := 743) C (v := 2) d_L_law_743 (by decide) ?_
    refine j_sld (pc := 744) C hX hbl (v := xs 2) (vin (by decide)) rfl d_L_law_744 ?_
    refine j_if_eqF (pc := 745) C (tgt := 752) d_L_law_745 (by decide) c2 ?_
    refine j_iconst (pc := 748) C (v := 1) d_L_law_748 (by decide) ?_
    refine j_goto (pc := 749) C (tgt := 753) d_L_law_749 (by decide) ?_
    refine j_sub (ws' := [MB mo v1 0 0 0 0 0 0 0 (-1) 0 0 0 0 0 0 0 0 0 0 1 0, (v1 43, .inl (y 0, 8, .inl (fun _ => 0))), (v1 62, .inl (y 0, 63, .inl (dayF 0))), (v1 45, .inl (y 0, 14, .inl lakeF)), (v1 68, .inl (y 0, 63, .inl (fun _ => 0)))]) [0, 2, 4, 3, 6] rfl (by decide) ?_
    refine j_callVi (pc := 753) C (c_M_until l D y mo v1 (xs 1) 1 (fun _ => 0)) kw_L_98 kv_Model_until 0 10 rfl rfl ⟨by decide, by decide⟩ ⟨by decide, by decide⟩ (wr := []) [0, 1, 2, 3, 4] [] rfl rfl (by decide) (by decide) (by decide) (As := [.int (xs 1), .int 1]) (rest := [.int (if ((1 : Int32).toInt ≠ 0 ∧ (xs 1).toInt < 0) ∨ ((1 : Int32).toInt = 0 ∧ 0 < (xs 1).toInt) then 0 else -1)]) rfl (nb rfl) rfl d_L_law_753 (fun r6 _ hr6 => ?_)
    subst hr6
    refine j_ws (ws' := []) rfl ?_
    refine j_st (st' := [.int (if ((1 : Int32).toInt ≠ 0 ∧ (xs 1).toInt < 0) ∨ ((1 : Int32).toInt = 0 ∧ 0 < (xs 1).toInt) then 0 else -1), .int (if ((1 : Int32).toInt ≠ 0 ∧ (xs 1).toInt < 0) ∨ ((1 : Int32).toInt = 0 ∧ 0 < (xs 1).toInt) then 0 else -1)]) rfl ?_
    refine j_icmp_eqT (pc := 756) C (tgt := 1124) d_L_law_756 (by decide) rfl ?_
    refine j_sub (ws' := []) [] rfl (by decide) ?_
    refine j_locs (lv' := [(3, .int 0), (0, .ref b)]) [0, 3] rfl ?_
    exact kx
theorem d_L_law_761 : decode code 761 = .ok (.aload_n 1, 1) := by decide +kernel
theorem d_L_law_762 : decode code 762 = .ok (.aload_n 0, 1) := by decide +kernel
theorem d_L_law_763 : decode code 763 = .ok (.iload_n 3, 1) := by decide +kernel
theorem d_L_law_764 : decode code 764 = .ok (.iconst 1, 1) := by decide +kernel
theorem d_L_law_765 : decode code 765 = .ok (.iadd, 1) := by decide +kernel
theorem d_L_law_766 : decode code 766 = .ok (.iaload, 1) := by decide +kernel
theorem d_L_law_767 : decode code 767 = .ok (.invokevirtual 99, 3) := by decide +kernel
theorem kw_L_99 : KW "NineBoardsLaw" 99 ⟨"NineBoards", "rows", "(I)I"⟩ prog_1_method_21_code 2 (some .int) 1 := ⟨(mt_4 (List.mem_of_getElem? (i := 153) rfl) rfl), (mt_1 (List.mem_of_getElem? (i := 1) rfl) rfl), (mt_4 (List.mem_of_getElem? (i := 156) rfl) rfl), by decide +kernel⟩
theorem kv_Nine_rows : Cond.instanceMethod ⟨"NineBoards", "rows", "(I)I"⟩ ∈ TB ∧ Cond.selects "NineBoards" ⟨"NineBoards", "rows", "(I)I"⟩ ⟨"NineBoards", "rows", "(I)I"⟩ ∈ TB := ⟨(mt_4 (List.mem_of_getElem? (i := 154) rfl) rfl), (mt_4 (List.mem_of_getElem? (i := 155) rfl) rfl)⟩
theorem d_L_law_770 : decode code 770 = .ok (.aload_n 2, 1) := by decide +kernel
theorem d_L_law_771 : decode code 771 = .ok (.aload_n 0, 1) := by decide +kernel
theorem d_L_law_772 : decode code 772 = .ok (.iload_n 3, 1) := by decide +kernel
theorem d_L_law_773 : decode code 773 = .ok (.iconst 1, 1) := by decide +kernel
theorem d_L_law_774 : decode code 774 = .ok (.iadd, 1) := by decide +kernel
theorem d_L_law_775 : decode code 775 = .ok (.iaload, 1) := by decide +kernel
theorem d_L_law_776 : decode code 776 = .ok (.invokevirtual 102, 3) := by decide +kernel
theorem kw_L_102 : KW "NineBoardsLaw" 102 ⟨"NineBoardsModel", "rows", "(I)I"⟩ prog_13_method_109_code 5 (some .int) 1 := ⟨(mt_8 (List.mem_of_getElem? (i := 44) rfl) rfl), (mt_1 (List.mem_of_getElem? (i := 16) rfl) rfl), (mt_8 (List.mem_of_getElem? (i := 47) rfl) rfl), by decide +kernel⟩
theorem kv_Model_rows : Cond.instanceMethod ⟨"NineBoardsModel", "rows", "(I)I"⟩ ∈ TB ∧ Cond.selects "NineBoardsModel" ⟨"NineBoardsModel", "rows", "(I)I"⟩ ⟨"NineBoardsModel", "rows", "(I)I"⟩ ∈ TB := ⟨(mt_8 (List.mem_of_getElem? (i := 45) rfl) rfl), (mt_8 (List.mem_of_getElem? (i := 46) rfl) rfl)⟩
theorem d_L_law_779 : decode code 779 = .ok (.if_icmp .eq 345, 3) := by decide +kernel
set_option maxHeartbeats 4000000 in
set_option maxRecDepth 100000 in
theorem lc_19 {p : Program} {l : Launch} {e : Env} {s : State} {m : MethodId} {below : List Frame} {meth : Method} {c : Code} {Q : State → Prop} {D : va_G} {y : Nat → ClassId} {nm : String} {b : Nat} {xs : Nat → Int32} (C : Cx p s m #[Value.ref b] meth c D y (LA s) code 4 "NineBoardsLaw" nm) (hX : va_X b 6 xs s s.heap) (hbl : b < s.heap.size) (x : Nat) (mo : Nat) (u1 : Nat → Nat) (r1 : Nat → Nat) (r2 : Nat → Nat → Nat) (h1 : Nat → Nat) (a1 : Nat → Nat → Nat) (g1 : Nat → Nat) (c1 : Nat → Nat) (v1 : Nat → Nat) (kx : J p l e room_1 s m #[Value.ref b] below meth c Q D (LA s) 4 [] [(3, .int 0), (0, .ref b)] 451 27020 1124 []) : J p l e room_1 s m #[Value.ref b] below meth c Q D (LA s) 4 (LW y x mo u1 r1 r2 h1 a1 g1 c1 v1) [(3, .int 0), (2, .ref mo), (1, .ref x), (0, .ref b)] 451 27020 761 [] := by
  refine j_aload_n (pc := 761) C d_L_law_761 rfl 2 rfl ?_
  refine j_aload_n (pc := 762) C d_L_law_762 rfl 3 rfl ?_
  refine j_iload_n (pc := 763) C d_L_law_763 rfl 0 rfl ?_
  refine j_iconst (pc := 764) C (v := 1) d_L_law_764 (by decide) ?_
  refine j_iadd (pc := 765) C (v := 1) d_L_law_765 (by decide) ?_
  refine j_sld (pc := 766) C hX hbl (v := xs 1) (vin (by decide)) rfl d_L_law_766 ?_
  refine j_drop ?_
  refine j_sub (ws' := [(x, .inr (9, [.ref (u1 0), .ref (u1 1), .ref (u1 2), .ref (u1 3), .ref (u1 4), .ref (u1 5), .ref (u1 6), .ref (u1 7), .ref (u1 8), .int 1])), (u1 5, .inr (2, [.int 0, .int 1, .int 1, .int 0, .ref (u1 26), .int 0, .ref (u1 27), .ref (u1 28), .ref (u1 29), .ref (u1 30), .int 0, .int 0, .int 9999, .int 0])), (u1 3, .inr (7, [.int 0, .int 0, .int 0, .ref (u1 18), .ref (u1 19), .ref (u1 20), .ref (u1 21), .ref (u1 22), .ref (u1 23), .ref (u1 24)])), (u1 18, .inl (y 0, 9, .inl (fun _ => 0))), (u1 19, .inl (y 0, 9, .inl (fun _ => 0))), (u1 20, .inl (y 1, 9, .inr (.inl (fun _ => 0)))), (u1 21, .inl (y 0, 6, .inl (fun _ => 0))), (u1 22, .inl (y 0, 6, .inl (fun _ => 0))), (u1 23, .inl (y 0, 16, .inl (fun _ => 0))), (u1 24, .inl (y 1, 5, .inr (.inl (fun _ => 0)))), (u1 2, .inr (7, [.int 0, .int 0, .int 0, .ref (u1 11), .ref (u1 12), .ref (u1 13), .ref (u1 14), .ref (u1 15), .ref (u1 16), .ref (u1 17)])), (u1 11, .inl (y 0, 9, .inl (fun _ => 0))), (u1 12, .inl (y 0, 9, .inl (fun _ => 0))), (u1 13, .inl (y 1, 9, .inr (.inl (fun _ => 0)))), (u1 14, .inl (y 0, 6, .inl (fun _ => 0))), (u1 15, .inl (y 0, 6, .inl (fun _ => 0))), (u1 16, .inl (y 0, 16, .inl (fun _ => 0))), (u1 17, .inl (y 1, 5, .inr (.inl (fun _ => 0)))), MB mo v1 0 0 0 0 0 0 0 (-1) 0 0 0 0 0 0 0 0 0 0 1 0, (v1 0, .inl (y 0, 1600, .inl (fun _ => 0))), (v1 43, .inl (y 0, 8, .inl (fun _ => 0))), (v1 45, .inl (y 0, 14, .inl lakeF)), (v1 62, .inl (y 0, 63, .inl (dayF 0))), (v1 65, .inl (y 0, 1890, .inl (fun _ => 0))), (v1 68, .inl (y 0, 63, .inl (fun _ => 0))), (v1 70, .inl (y 0, 6558, .inl (fun _ => 0))), (v1 71, .inl (y 0, 1093, .inl (fun _ => 0))), (v1 72, .inl (y 0, 7, .inl powF)), (v1 74, .inl (y 0, 13, .inl (fun _ => 0))), (v1 75, .inl (y 0, 13, .inl (fun _ => 0))), (v1 77, .inl (y 0, 15, .inl (fun _ => 0)))]) [0, 23, 13, 14, 15, 16, 17, 18, 19, 20, 5, 6, 7, 8, 9, 10, 11, 12, 36, 37, 38, 39, 40, 41, 42, 43, 44, 45, 46, 47, 48] rfl (by decide) ?_
  refine j_callVi (pc := 767) C (c_N_rows l D y x (u1 0) (u1 1) (u1 2) (u1 3) (u1 4) (u1 5) (u1 6) (u1 7) (u1 8) (u1 26) (u1 27) (u1 28) (u1 29) (u1 30) 0 (u1 18) (u1 19) (u1 20) (u1 21) (u1 22) (u1 23) (u1 24) (u1 11) (u1 12) (u1 13) (u1 14) (u1 15) (u1 16) (u1 17) (xs 1)) kw_L_99 kv_Nine_rows 0 9 rfl rfl ⟨by decide, by decide⟩ ⟨by decide, by decide⟩ (wr := [MB mo v1 0 0 0 0 0 0 0 (-1) 0 0 0 0 0 0 0 0 0 0 1 0, (v1 0, .inl (y 0, 1600, .inl (fun _ => 0))), (v1 43, .inl (y 0, 8, .inl (fun _ => 0))), (v1 45, .inl (y 0, 14, .inl lakeF)), (v1 62, .inl (y 0, 63, .inl (dayF 0))), (v1 65, .inl (y 0, 1890, .inl (fun _ => 0))), (v1 68, .inl (y 0, 63, .inl (fun _ => 0))), (v1 70, .inl (y 0, 6558, .inl (fun _ => 0))), (v1 71, .inl (y 0, 1093, .inl (fun _ => 0))), (v1 72, .inl (y 0, 7, .inl powF)), (v1 74, .inl (y 0, 13, .inl (fun _ => 0))), (v1 75, .inl (y 0, 13, .inl (fun _ => 0))), (v1 77, .inl (y 0, 15, .inl (fun _ => 0)))]) [0, 1, 2, 3, 4, 5, 6, 7, 8, 9, 10, 11, 12, 13, 14, 15, 16, 17] [18, 19, 20, 21, 22, 23, 24, 25, 26, 27, 28, 29, 30] rfl rfl (by decide) (by decide) (by decide) (As := [.int (xs 1)]) (rest := []) rfl (nb rfl) rfl d_L_law_767 (fun r1 _ hr1 => ?_)
  subst hr1
  refine j_ws (ws' := [MB mo v1 0 0 0 0 0 0 0 (-1) 0 0 0 0 0 0 0 0 0 0 1 0, (v1 0, .inl (y 0, 1600, .inl (fun _ => 0))), (v1 43, .inl (y 0, 8, .inl (fun _ => 0))), (v1 45, .inl (y 0, 14, .inl lakeF)), (v1 62, .inl (y 0, 63, .inl (dayF 0))), (v1 65, .inl (y 0, 1890, .inl (fun _ => 0))), (v1 68, .inl (y 0, 63, .inl (fun _ => 0))), (v1 70, .inl (y 0, 6558, .inl (fun _ => 0))), (v1 71, .inl (y 0, 1093, .inl (fun _ => 0))), (v1 72, .inl (y 0, 7, .inl powF)), (v1 74, .inl (y 0, 13, .inl (fun _ => 0))), (v1 75, .inl (y 0, 13, .inl (fun _ => 0))), (v1 77, .inl (y 0, 15, .inl (fun _ => 0)))]) rfl ?_
  refine j_st (st' := [.int (if 1 ≤ (xs 1).toInt ∧ (xs 1).toInt ≤ 12 then 1 else -1)]) rfl ?_
  refine j_aload_n (pc := 770) C d_L_law_770 rfl 1 rfl ?_
  refine j_aload_n (pc := 771) C d_L_law_771 rfl 3 rfl ?_
  refine j_iload_n (pc := 772) C d_L_law_772 rfl 0 rfl ?_
  refine j_iconst (pc := 773) C (v := 1) d_L_law_773 (by decide) ?_
  refine j_iadd (pc := 774) C (v := 1) d_L_law_774 (by decide) ?_
  refine j_sld (pc := 775) C hX hbl (v := xs 1) (vin (by decide)) rfl d_L_law_775 ?_
  refine j_sub (ws' := [MB mo v1 0 0 0 0 0 0 0 (-1) 0 0 0 0 0 0 0 0 0 0 1 0, (v1 43, .inl (y 0, 8, .inl (fun _ => 0))), (v1 62, .inl (y 0, 63, .inl (dayF 0))), (v1 74, .inl (y 0, 13, .inl (fun _ => 0))), (v1 75, .inl (y 0, 13, .inl (fun _ => 0))), (v1 68, .inl (y 0, 63, .inl (fun _ => 0)))]) [0, 2, 4, 10, 11, 6] rfl (by decide) ?_
  refine j_callVi (pc := 776) C (c_M_rows l D y mo v1 (xs 1) (fun _ => 0)) kw_L_102 kv_Model_rows 0 10 rfl rfl ⟨by decide, by decide⟩ ⟨by decide, by decide⟩ (wr := []) [0, 1, 2, 3, 4, 5] [] rfl rfl (by decide) (by decide) (by decide) (As := [.int (xs 1)]) (rest := [.int (if 1 ≤ (xs 1).toInt ∧ (xs 1).toInt ≤ 12 then 1 else -1)]) rfl (nb rfl) rfl d_L_law_776 (fun r2 _ hr2 => ?_)
  subst hr2
  refine j_ws (ws' := []) rfl ?_
  refine j_st (st' := [.int (if 1 ≤ (xs 1).toInt ∧ (xs 1).toInt ≤ 12 then 1 else -1), .int (if 1 ≤ (xs 1).toInt ∧ (xs 1).toInt ≤ 12 then 1 else -1)]) rfl ?_
  refine j_icmp_eqT (pc := 779) C (tgt := 1124) d_L_law_779 (by decide) rfl ?_
  refine j_sub (ws' := []) [] rfl (by decide) ?_
  refine j_locs (lv' := [(3, .int 0), (0, .ref b)]) [0, 3] rfl ?_
  exact kx
theorem d_L_law_784 : decode code 784 = .ok (.aload_n 1, 1) := by decide +kernel
theorem d_L_law_785 : decode code 785 = .ok (.aload_n 0, 1) := by decide +kernel
theorem d_L_law_786 : decode code 786 = .ok (.iload_n 3, 1) := by decide +kernel
theorem d_L_law_787 : decode code 787 = .ok (.iconst 1, 1) := by decide +kernel
theorem d_L_law_788 : decode code 788 = .ok (.iadd, 1) := by decide +kernel
theorem d_L_law_789 : decode code 789 = .ok (.iaload, 1) := by decide +kernel
theorem d_L_law_790 : decode code 790 = .ok (.aload_n 0, 1) := by decide +kernel
theorem d_L_law_791 : decode code 791 = .ok (.iload_n 3, 1) := by decide +kernel
theorem d_L_law_792 : decode code 792 = .ok (.iconst 2, 1) := by decide +kernel
theorem d_L_law_793 : decode code 793 = .ok (.iadd, 1) := by decide +kernel
theorem d_L_law_794 : decode code 794 = .ok (.iaload, 1) := by decide +kernel
theorem d_L_law_795 : decode code 795 = .ok (.invokevirtual 103, 3) := by decide +kernel
theorem kw_L_103 : KW "NineBoardsLaw" 103 ⟨"NineBoards", "today", "(II)I"⟩ prog_1_method_22_code 8 (some .int) 2 := ⟨(mt_4 (List.mem_of_getElem? (i := 161) rfl) rfl), (mt_1 (List.mem_of_getElem? (i := 1) rfl) rfl), (mt_4 (List.mem_of_getElem? (i := 164) rfl) rfl), by decide +kernel⟩
theorem kv_Nine_today : Cond.instanceMethod ⟨"NineBoards", "today", "(II)I"⟩ ∈ TB ∧ Cond.selects "NineBoards" ⟨"NineBoards", "today", "(II)I"⟩ ⟨"NineBoards", "today", "(II)I"⟩ ∈ TB := ⟨(mt_4 (List.mem_of_getElem? (i := 162) rfl) rfl), (mt_4 (List.mem_of_getElem? (i := 163) rfl) rfl)⟩
theorem d_L_law_798 : decode code 798 = .ok (.aload_n 2, 1) := by decide +kernel
theorem d_L_law_799 : decode code 799 = .ok (.aload_n 0, 1) := by decide +kernel
theorem d_L_law_800 : decode code 800 = .ok (.iload_n 3, 1) := by decide +kernel
theorem d_L_law_801 : decode code 801 = .ok (.iconst 1, 1) := by decide +kernel
theorem d_L_law_802 : decode code 802 = .ok (.iadd, 1) := by decide +kernel
theorem d_L_law_803 : decode code 803 = .ok (.iaload, 1) := by decide +kernel
theorem d_L_law_804 : decode code 804 = .ok (.aload_n 0, 1) := by decide +kernel
theorem d_L_law_805 : decode code 805 = .ok (.iload_n 3, 1) := by decide +kernel
theorem d_L_law_806 : decode code 806 = .ok (.iconst 2, 1) := by decide +kernel
theorem d_L_law_807 : decode code 807 = .ok (.iadd, 1) := by decide +kernel
theorem d_L_law_808 : decode code 808 = .ok (.iaload, 1) := by decide +kernel
theorem d_L_law_809 : decode code 809 = .ok (.invokevirtual 106, 3) := by decide +kernel
theorem kw_L_106 : KW "NineBoardsLaw" 106 ⟨"NineBoardsModel", "today", "(II)I"⟩ prog_13_method_110_code 7 (some .int) 2 := ⟨(mt_8 (List.mem_of_getElem? (i := 53) rfl) rfl), (mt_1 (List.mem_of_getElem? (i := 16) rfl) rfl), (mt_8 (List.mem_of_getElem? (i := 56) rfl) rfl), by decide +kernel⟩
theorem kv_Model_today : Cond.instanceMethod ⟨"NineBoardsModel", "today", "(II)I"⟩ ∈ TB ∧ Cond.selects "NineBoardsModel" ⟨"NineBoardsModel", "today", "(II)I"⟩ ⟨"NineBoardsModel", "today", "(II)I"⟩ ∈ TB := ⟨(mt_8 (List.mem_of_getElem? (i := 54) rfl) rfl), (mt_8 (List.mem_of_getElem? (i := 55) rfl) rfl)⟩
theorem d_L_law_812 : decode code 812 = .ok (.if_icmp .eq 312, 3) := by decide +kernel
set_option maxHeartbeats 4000000 in
set_option maxRecDepth 100000 in
theorem lc_20 {p : Program} {l : Launch} {e : Env} {s : State} {m : MethodId} {below : List Frame} {meth : Method} {c : Code} {Q : State → Prop} {D : va_G} {y : Nat → ClassId} {nm : String} {b : Nat} {xs : Nat → Int32} (C : Cx p s m #[Value.ref b] meth c D y (LA s) code 4 "NineBoardsLaw" nm) (hX : va_X b 6 xs s s.heap) (hbl : b < s.heap.size) (x : Nat) (mo : Nat) (u1 : Nat → Nat) (r1 : Nat → Nat) (r2 : Nat → Nat → Nat) (h1 : Nat → Nat) (a1 : Nat → Nat → Nat) (g1 : Nat → Nat) (c1 : Nat → Nat) (v1 : Nat → Nat) (kx : J p l e room_1 s m #[Value.ref b] below meth c Q D (LA s) 4 [] [(3, .int 0), (0, .ref b)] 451 27020 1124 []) : J p l e room_1 s m #[Value.ref b] below meth c Q D (LA s) 4 (LW y x mo u1 r1 r2 h1 a1 g1 c1 v1) [(3, .int 0), (2, .ref mo), (1, .ref x), (0, .ref b)] 451 27020 784 [] := by
  refine j_aload_n (pc := 784) C d_L_law_784 rfl 2 rfl ?_
  refine j_aload_n (pc := 785) C d_L_law_785 rfl 3 rfl ?_
  refine j_iload_n (pc := 786) C d_L_law_786 rfl 0 rfl ?_
  refine j_iconst (pc := 787) C (v := 1) d_L_law_787 (by decide) ?_
  refine j_iadd (pc := 788) C (v := 1) d_L_law_788 (by decide) ?_
  refine j_sld (pc := 789) C hX hbl (v := xs 1) (vin (by decide)) rfl d_L_law_789 ?_
  refine j_aload_n (pc := 790) C d_L_law_790 rfl 3 rfl ?_
  refine j_iload_n (pc := 791) C d_L_law_791 rfl 0 rfl ?_
  refine j_iconst (pc := 792) C (v := 2) d_L_law_792 (by decide) ?_
  refine j_iadd (pc := 793) C (v := 2) d_L_law_793 (by decide) ?_
  refine j_sld (pc := 794) C hX hbl (v := xs 2) (vin (by decide)) rfl d_L_law_794 ?_
  refine j_drop ?_
  refine j_sub (ws' := [(x, .inr (9, [.ref (u1 0), .ref (u1 1), .ref (u1 2), .ref (u1 3), .ref (u1 4), .ref (u1 5), .ref (u1 6), .ref (u1 7), .ref (u1 8), .int 1])), (u1 5, .inr (2, [.int 0, .int 1, .int 1, .int 0, .ref (u1 26), .int 0, .ref (u1 27), .ref (u1 28), .ref (u1 29), .ref (u1 30), .int 0, .int 0, .int 9999, .int 0])), (u1 26, .inr (1, [.int 0, .ref (u1 31), .ref (u1 32), .ref (u1 33), .ref (u1 34), .ref (u1 35), .ref (u1 36), .ref (u1 37)])), (u1 29, .inr (8, [.int 0, .ref (u1 38), .ref (u1 39), .ref (u1 40), .ref (u1 41), .ref (u1 42), .ref (u1 43), .ref (u1 44)])), (u1 30, .inr (6, [.int 0, .int 0, .ref (u1 45), .ref (u1 46), .ref (u1 47), .ref (u1 48), .ref (u1 49), .ref (u1 50)])), (u1 3, .inr (7, [.int 0, .int 0, .int 0, .ref (u1 18), .ref (u1 19), .ref (u1 20), .ref (u1 21), .ref (u1 22), .ref (u1 23), .ref (u1 24)])), (u1 18, .inl (y 0, 9, .inl (fun _ => 0))), (u1 19, .inl (y 0, 9, .inl (fun _ => 0))), (u1 20, .inl (y 1, 9, .inr (.inl (fun _ => 0)))), (u1 21, .inl (y 0, 6, .inl (fun _ => 0))), (u1 22, .inl (y 0, 6, .inl (fun _ => 0))), (u1 23, .inl (y 0, 16, .inl (fun _ => 0))), (u1 24, .inl (y 1, 5, .inr (.inl (fun _ => 0)))), (u1 2, .inr (7, [.int 0, .int 0, .int 0, .ref (u1 11), .ref (u1 12), .ref (u1 13), .ref (u1 14), .ref (u1 15), .ref (u1 16), .ref (u1 17)])), (u1 11, .inl (y 0, 9, .inl (fun _ => 0))), (u1 12, .inl (y 0, 9, .inl (fun _ => 0))), (u1 13, .inl (y 1, 9, .inr (.inl (fun _ => 0)))), (u1 14, .inl (y 0, 6, .inl (fun _ => 0))), (u1 15, .inl (y 0, 6, .inl (fun _ => 0))), (u1 16, .inl (y 0, 16, .inl (fun _ => 0))), (u1 17, .inl (y 1, 5, .inr (.inl (fun _ => 0)))), MB mo v1 0 0 0 0 0 0 0 (-1) 0 0 0 0 0 0 0 0 0 0 1 0, (v1 0, .inl (y 0, 1600, .inl (fun _ => 0))), (v1 43, .inl (y 0, 8, .inl (fun _ => 0))), (v1 45, .inl (y 0, 14, .inl lakeF)), (v1 62, .inl (y 0, 63, .inl (dayF 0))), (v1 65, .inl (y 0, 1890, .inl (fun _ => 0))), (v1 68, .inl (y 0, 63, .inl (fun _ => 0))), (v1 70, .inl (y 0, 6558, .inl (fun _ => 0))), (v1 71, .inl (y 0, 1093, .inl (fun _ => 0))), (v1 72, .inl (y 0, 7, .inl powF)), (v1 74, .inl (y 0, 13, .inl (fun _ => 0))), (v1 75, .inl (y 0, 13, .inl (fun _ => 0))), (v1 77, .inl (y 0, 15, .inl (fun _ => 0)))]) [0, 23, 24, 25, 26, 13, 14, 15, 16, 17, 18, 19, 20, 5, 6, 7, 8, 9, 10, 11, 12, 36, 37, 38, 39, 40, 41, 42, 43, 44, 45, 46, 47, 48] rfl (by decide) ?_
  refine j_callVi (pc := 795) C (c_N_today l D y x (u1 0) (u1 1) (u1 2) (u1 3) (u1 4) (u1 5) (u1 6) (u1 7) (u1 8) (u1 26) (u1 27) (u1 28) (u1 29) (u1 30) (u1 31) (u1 32) (u1 33) (u1 34) (u1 35) (u1 36) (u1 37) (u1 38) (u1 39) (u1 40) (u1 41) (u1 42) (u1 43) (u1 44) (u1 45) (u1 46) (u1 47) (u1 48) (u1 49) (u1 50) 0 (u1 18) (u1 19) (u1 20) (u1 21) (u1 22) (u1 23) (u1 24) (u1 11) (u1 12) (u1 13) (u1 14) (u1 15) (u1 16) (u1 17) (xs 1) (xs 2)) kw_L_103 kv_Nine_today 0 9 rfl rfl ⟨by decide, by decide⟩ ⟨by decide, by decide⟩ (wr := [MB mo v1 0 0 0 0 0 0 0 (-1) 0 0 0 0 0 0 0 0 0 0 1 0, (v1 0, .inl (y 0, 1600, .inl (fun _ => 0))), (v1 43, .inl (y 0, 8, .inl (fun _ => 0))), (v1 45, .inl (y 0, 14, .inl lakeF)), (v1 62, .inl (y 0, 63, .inl (dayF 0))), (v1 65, .inl (y 0, 1890, .inl (fun _ => 0))), (v1 68, .inl (y 0, 63, .inl (fun _ => 0))), (v1 70, .inl (y 0, 6558, .inl (fun _ => 0))), (v1 71, .inl (y 0, 1093, .inl (fun _ => 0))), (v1 72, .inl (y 0, 7, .inl powF)), (v1 74, .inl (y 0, 13, .inl (fun _ => 0))), (v1 75, .inl (y 0, 13, .inl (fun _ => 0))), (v1 77, .inl (y 0, 15, .inl (fun _ => 0)))]) [0, 1, 2, 3, 4, 5, 6, 7, 8, 9, 10, 11, 12, 13, 14, 15, 16, 17, 18, 19, 20] [21, 22, 23, 24, 25, 26, 27, 28, 29, 30, 31, 32, 33] rfl rfl (by decide) (by decide) (by decide) (As := [.int (xs 1), .int (xs 2)]) (rest := []) rfl (nb rfl) rfl d_L_law_795 (fun r1 _ hr1 => ?_)
  subst hr1
  refine j_ws (ws' := [MB mo v1 0 0 0 0 0 0 0 (-1) 0 0 0 0 0 0 0 0 0 0 1 0, (v1 0, .inl (y 0, 1600, .inl (fun _ => 0))), (v1 43, .inl (y 0, 8, .inl (fun _ => 0))), (v1 45, .inl (y 0, 14, .inl lakeF)), (v1 62, .inl (y 0, 63, .inl (dayF 0))), (v1 65, .inl (y 0, 1890, .inl (fun _ => 0))), (v1 68, .inl (y 0, 63, .inl (fun _ => 0))), (v1 70, .inl (y 0, 6558, .inl (fun _ => 0))), (v1 71, .inl (y 0, 1093, .inl (fun _ => 0))), (v1 72, .inl (y 0, 7, .inl powF)), (v1 74, .inl (y 0, 13, .inl (fun _ => 0))), (v1 75, .inl (y 0, 13, .inl (fun _ => 0))), (v1 77, .inl (y 0, 15, .inl (fun _ => 0)))]) rfl ?_
  refine j_st (st' := [.int (if (xs 2).toInt = 1 then 0 else -1)]) rfl ?_
  refine j_aload_n (pc := 798) C d_L_law_798 rfl 1 rfl ?_
  refine j_aload_n (pc := 799) C d_L_law_799 rfl 3 rfl ?_
  refine j_iload_n (pc := 800) C d_L_law_800 rfl 0 rfl ?_
  refine j_iconst (pc := 801) C (v := 1) d_L_law_801 (by decide) ?_
  refine j_iadd (pc := 802) C (v := 1) d_L_law_802 (by decide) ?_
  refine j_sld (pc := 803) C hX hbl (v := xs 1) (vin (by decide)) rfl d_L_law_803 ?_
  refine j_aload_n (pc := 804) C d_L_law_804 rfl 3 rfl ?_
  refine j_iload_n (pc := 805) C d_L_law_805 rfl 0 rfl ?_
  refine j_iconst (pc := 806) C (v := 2) d_L_law_806 (by decide) ?_
  refine j_iadd (pc := 807) C (v := 2) d_L_law_807 (by decide) ?_
  refine j_sld (pc := 808) C hX hbl (v := xs 2) (vin (by decide)) rfl d_L_law_808 ?_
  refine j_sub (ws' := [MB mo v1 0 0 0 0 0 0 0 (-1) 0 0 0 0 0 0 0 0 0 0 1 0, (v1 43, .inl (y 0, 8, .inl (fun _ => 0))), (v1 62, .inl (y 0, 63, .inl (dayF 0))), (v1 45, .inl (y 0, 14, .inl lakeF)), (v1 68, .inl (y 0, 63, .inl (fun _ => 0)))]) [0, 2, 4, 3, 6] rfl (by decide) ?_
  refine j_callVi (pc := 809) C (c_M_today l D y mo v1 (xs 1) (xs 2) (fun _ => 0)) kw_L_106 kv_Model_today 0 10 rfl rfl ⟨by decide, by decide⟩ ⟨by decide, by decide⟩ (wr := []) [0, 1, 2, 3, 4] [] rfl rfl (by decide) (by decide) (by decide) (As := [.int (xs 1), .int (xs 2)]) (rest := [.int (if (xs 2).toInt = 1 then 0 else -1)]) rfl (nb rfl) rfl d_L_law_809 (fun r2 _ hr2 => ?_)
  subst hr2
  refine j_ws (ws' := []) rfl ?_
  refine j_st (st' := [.int (if (xs 2).toInt = 1 then 0 else -1), .int (if (xs 2).toInt = 1 then 0 else -1)]) rfl ?_
  refine j_icmp_eqT (pc := 812) C (tgt := 1124) d_L_law_812 (by decide) rfl ?_
  refine j_sub (ws' := []) [] rfl (by decide) ?_
  refine j_locs (lv' := [(3, .int 0), (0, .ref b)]) [0, 3] rfl ?_
  exact kx
theorem d_L_law_817 : decode code 817 = .ok (.aload_n 1, 1) := by decide +kernel
theorem d_L_law_818 : decode code 818 = .ok (.aload_n 0, 1) := by decide +kernel
theorem d_L_law_819 : decode code 819 = .ok (.iload_n 3, 1) := by decide +kernel
theorem d_L_law_820 : decode code 820 = .ok (.iconst 1, 1) := by decide +kernel
theorem d_L_law_821 : decode code 821 = .ok (.iadd, 1) := by decide +kernel
theorem d_L_law_822 : decode code 822 = .ok (.iaload, 1) := by decide +kernel
theorem d_L_law_823 : decode code 823 = .ok (.aload_n 0, 1) := by decide +kernel
theorem d_L_law_824 : decode code 824 = .ok (.iload_n 3, 1) := by decide +kernel
theorem d_L_law_825 : decode code 825 = .ok (.iconst 2, 1) := by decide +kernel
theorem d_L_law_826 : decode code 826 = .ok (.iadd, 1) := by decide +kernel
theorem d_L_law_827 : decode code 827 = .ok (.iaload, 1) := by decide +kernel
theorem d_L_law_828 : decode code 828 = .ok (.invokevirtual 107, 3) := by decide +kernel
theorem kw_L_107 : KW "NineBoardsLaw" 107 ⟨"NineBoards", "selfish", "(II)I"⟩ prog_1_method_23_code 3 (some .int) 2 := ⟨(mt_4 (List.mem_of_getElem? (i := 165) rfl) rfl), (mt_1 (List.mem_of_getElem? (i := 1) rfl) rfl), (mt_4 (List.mem_of_getElem? (i := 168) rfl) rfl), by decide +kernel⟩
theorem kv_Nine_selfish : Cond.instanceMethod ⟨"NineBoards", "selfish", "(II)I"⟩ ∈ TB ∧ Cond.selects "NineBoards" ⟨"NineBoards", "selfish", "(II)I"⟩ ⟨"NineBoards", "selfish", "(II)I"⟩ ∈ TB := ⟨(mt_4 (List.mem_of_getElem? (i := 166) rfl) rfl), (mt_4 (List.mem_of_getElem? (i := 167) rfl) rfl)⟩
theorem d_L_law_831 : decode code 831 = .ok (.aload_n 2, 1) := by decide +kernel
theorem d_L_law_832 : decode code 832 = .ok (.aload_n 0, 1) := by decide +kernel
theorem d_L_law_833 : decode code 833 = .ok (.iload_n 3, 1) := by decide +kernel
theorem d_L_law_834 : decode code 834 = .ok (.iconst 1, 1) := by decide +kernel
theorem d_L_law_835 : decode code 835 = .ok (.iadd, 1) := by decide +kernel
theorem d_L_law_836 : decode code 836 = .ok (.iaload, 1) := by decide +kernel
theorem d_L_law_837 : decode code 837 = .ok (.aload_n 0, 1) := by decide +kernel
theorem d_L_law_838 : decode code 838 = .ok (.iload_n 3, 1) := by decide +kernel
theorem d_L_law_839 : decode code 839 = .ok (.iconst 2, 1) := by decide +kernel
theorem d_L_law_840 : decode code 840 = .ok (.iadd, 1) := by decide +kernel
theorem d_L_law_841 : decode code 841 = .ok (.iaload, 1) := by decide +kernel
theorem d_L_law_842 : decode code 842 = .ok (.invokevirtual 110, 3) := by decide +kernel
theorem kw_L_110 : KW "NineBoardsLaw" 110 ⟨"NineBoardsModel", "selfish", "(II)I"⟩ prog_13_method_93_code 3 (some .int) 2 := ⟨(mt_7 (List.mem_of_getElem? (i := 181) rfl) rfl), (mt_1 (List.mem_of_getElem? (i := 16) rfl) rfl), (mt_7 (List.mem_of_getElem? (i := 184) rfl) rfl), by decide +kernel⟩
theorem kv_Model_selfish : Cond.instanceMethod ⟨"NineBoardsModel", "selfish", "(II)I"⟩ ∈ TB ∧ Cond.selects "NineBoardsModel" ⟨"NineBoardsModel", "selfish", "(II)I"⟩ ⟨"NineBoardsModel", "selfish", "(II)I"⟩ ∈ TB := ⟨(mt_7 (List.mem_of_getElem? (i := 182) rfl) rfl), (mt_7 (List.mem_of_getElem? (i := 183) rfl) rfl)⟩
theorem d_L_law_845 : decode code 845 = .ok (.if_icmp .eq 279, 3) := by decide +kernel
set_option maxHeartbeats 4000000 in
set_option maxRecDepth 100000 in
theorem lc_21 {p : Program} {l : Launch} {e : Env} {s : State} {m : MethodId} {below : List Frame} {meth : Method} {c : Code} {Q : State → Prop} {D : va_G} {y : Nat → ClassId} {nm : String} {b : Nat} {xs : Nat → Int32} (C : Cx p s m #[Value.ref b] meth c D y (LA s) code 4 "NineBoardsLaw" nm) (hX : va_X b 6 xs s s.heap) (hbl : b < s.heap.size) (x : Nat) (mo : Nat) (u1 : Nat → Nat) (r1 : Nat → Nat) (r2 : Nat → Nat → Nat) (h1 : Nat → Nat) (a1 : Nat → Nat → Nat) (g1 : Nat → Nat) (c1 : Nat → Nat) (v1 : Nat → Nat) (kx : J p l e room_1 s m #[Value.ref b] below meth c Q D (LA s) 4 [] [(3, .int 0), (0, .ref b)] 451 27020 1124 []) : J p l e room_1 s m #[Value.ref b] below meth c Q D (LA s) 4 (LW y x mo u1 r1 r2 h1 a1 g1 c1 v1) [(3, .int 0), (2, .ref mo), (1, .ref x), (0, .ref b)] 451 27020 817 [] := by
  refine j_aload_n (pc := 817) C d_L_law_817 rfl 2 rfl ?_
  refine j_aload_n (pc := 818) C d_L_law_818 rfl 3 rfl ?_
  refine j_iload_n (pc := 819) C d_L_law_819 rfl 0 rfl ?_
  refine j_iconst (pc := 820) C (v := 1) d_L_law_820 (by decide) ?_
  refine j_iadd (pc := 821) C (v := 1) d_L_law_821 (by decide) ?_
  refine j_sld (pc := 822) C hX hbl (v := xs 1) (vin (by decide)) rfl d_L_law_822 ?_
  refine j_aload_n (pc := 823) C d_L_law_823 rfl 3 rfl ?_
  refine j_iload_n (pc := 824) C d_L_law_824 rfl 0 rfl ?_
  refine j_iconst (pc := 825) C (v := 2) d_L_law_825 (by decide) ?_
  refine j_iadd (pc := 826) C (v := 2) d_L_law_826 (by decide) ?_
  refine j_sld (pc := 827) C hX hbl (v := xs 2) (vin (by decide)) rfl d_L_law_827 ?_
  refine j_sl (ws' := (([(x, .inr (9, [.ref (u1 0), .ref (u1 1), .ref (u1 2), .ref (u1 3), .ref (u1 4), .ref (u1 5), .ref (u1 6), .ref (u1 7), .ref (u1 8), .int 1])), (u1 0, .inr (0, [.ref (u1 9), .int 0])), (u1 9, .inl (y 0, 1600, .inl (fun _ => 0))), (u1 1, .inr (0, [.ref (u1 10), .int 0])), (u1 10, .inl (y 0, 15, .inl (fun _ => 0))), (u1 2, .inr (7, [.int 0, .int 0, .int 0, .ref (u1 11), .ref (u1 12), .ref (u1 13), .ref (u1 14), .ref (u1 15), .ref (u1 16), .ref (u1 17)])), (u1 11, .inl (y 0, 9, .inl (fun _ => 0))), (u1 12, .inl (y 0, 9, .inl (fun _ => 0))), (u1 13, .inl (y 1, 9, .inr (.inl (fun _ => 0)))), (u1 14, .inl (y 0, 6, .inl (fun _ => 0))), (u1 15, .inl (y 0, 6, .inl (fun _ => 0))), (u1 16, .inl (y 0, 16, .inl (fun _ => 0))), (u1 17, .inl (y 1, 5, .inr (.inl (fun _ => 0)))), (u1 3, .inr (7, [.int 0, .int 0, .int 0, .ref (u1 18), .ref (u1 19), .ref (u1 20), .ref (u1 21), .ref (u1 22), .ref (u1 23), .ref (u1 24)])), (u1 18, .inl (y 0, 9, .inl (fun _ => 0))), (u1 19, .inl (y 0, 9, .inl (fun _ => 0))), (u1 20, .inl (y 1, 9, .inr (.inl (fun _ => 0)))), (u1 21, .inl (y 0, 6, .inl (fun _ => 0))), (u1 22, .inl (y 0, 6, .inl (fun _ => 0))), (u1 23, .inl (y 0, 16, .inl (fun _ => 0))), (u1 24, .inl (y 1, 5, .inr (.inl (fun _ => 0)))), (u1 4, .inr (3, [.int 0, .int 0, .ref (u1 25)])), (u1 25, .inl (y 4, 30, .inr (.inr (.inr (.inr (fun j => some (r1 j))))))), (u1 5, .inr (2, [.int 0, .int 1, .int 1, .int 0, .ref (u1 26), .int 0, .ref (u1 27), .ref (u1 28), .ref (u1 29), .ref (u1 30), .int 0, .int 0, .int 9999, .int 0])), (u1 26, .inr (1, [.int 0, .ref (u1 31), .ref (u1 32), .ref (u1 33), .ref (u1 34), .ref (u1 35), .ref (u1 36), .ref (u1 37)])), (u1 29, .inr (8, [.int 0, .ref (u1 38), .ref (u1 39), .ref (u1 40), .ref (u1 41), .ref (u1 42), .ref (u1 43), .ref (u1 44)])), (u1 30, .inr (6, [.int 0, .int 0, .ref (u1 45), .ref (u1 46), .ref (u1 47), .ref (u1 48), .ref (u1 49), .ref (u1 50)])), (u1 6, .inr (2, [.int 0, .int 1, .int 1, .int 0, .ref (u1 51), .int 0, .ref (u1 52), .ref (u1 53), .ref (u1 54), .ref (u1 55), .int 0, .int 0, .int 9999, .int 0])), (u1 51, .inr (1, [.int 0, .ref (u1 56), .ref (u1 57), .ref (u1 58), .ref (u1 59), .ref (u1 60), .ref (u1 61), .ref (u1 62)])), (u1 54, .inr (8, [.int 0, .ref (u1 63), .ref (u1 64), .ref (u1 65), .ref (u1 66), .ref (u1 67), .ref (u1 68), .ref (u1 69)])), (u1 55, .inr (6, [.int 0, .int 0, .ref (u1 70), .ref (u1 71), .ref (u1 72), .ref (u1 73), .ref (u1 74), .ref (u1 75)])), (u1 7, .inr (5, [.int 0, .int (-1), .ref (u1 76), .ref (u1 0), .ref (u1 6), .int 0, .int 0, .int 0, .long 0, .int 0, .int 0, .int 0])), (u1 8, .inr (4, [.ref (u1 77), .ref (u1 78), .ref (u1 79), .ref (u1 5), .int 0, .int 0])), (u1 77, .inl (y 4, 7, .inr (.inr (.inr (.inr (fun j => some (h1 j))))))), (u1 78, .inl (y 5, 7, .inr (.inr (.inr (.inr (fun j => some (g1 j))))))), (u1 79, .inl (y 5, 7, .inr (.inr (.inr (.inr (fun j => some (c1 j))))))), MB mo v1 0 0 0 0 0 0 0 (-1) 0 0 0 0 0 0 0 0 0 0 1 0, (v1 0, .inl (y 0, 1600, .inl (fun _ => 0))), (v1 43, .inl (y 0, 8, .inl (fun _ => 0))), (v1 45, .inl (y 0, 14, .inl lakeF)), (v1 62, .inl (y 0, 63, .inl (dayF 0))), (v1 65, .inl (y 0, 1890, .inl (fun _ => 0))), (v1 68, .inl (y 0, 63, .inl (fun _ => 0))), (v1 70, .inl (y 0, 6558, .inl (fun _ => 0))), (v1 71, .inl (y 0, 1093, .inl (fun _ => 0))), (v1 72, .inl (y 0, 7, .inl powF)), (v1 74, .inl (y 0, 13, .inl (fun _ => 0))), (v1 75, .inl (y 0, 13, .inl (fun _ => 0))), (v1 77, .inl (y 0, 15, .inl (fun _ => 0)))] : va_W) ++ FG (PW y h1 a1 (fun _ => 0) g1 c1) (List.range 7))) (List.Sublist.append (List.Sublist.refl _) (List.sublist_append_left _ _)) ?_
  refine j_subT (X' := [(x, .inr (9, [.ref (u1 0), .ref (u1 1), .ref (u1 2), .ref (u1 3), .ref (u1 4), .ref (u1 5), .ref (u1 6), .ref (u1 7), .ref (u1 8), .int 1])), (u1 5, .inr (2, [.int 0, .int 1, .int 1, .int 0, .ref (u1 26), .int 0, .ref (u1 27), .ref (u1 28), .ref (u1 29), .ref (u1 30), .int 0, .int 0, .int 9999, .int 0])), (u1 26, .inr (1, [.int 0, .ref (u1 31), .ref (u1 32), .ref (u1 33), .ref (u1 34), .ref (u1 35), .ref (u1 36), .ref (u1 37)])), (u1 29, .inr (8, [.int 0, .ref (u1 38), .ref (u1 39), .ref (u1 40), .ref (u1 41), .ref (u1 42), .ref (u1 43), .ref (u1 44)])), (u1 30, .inr (6, [.int 0, .int 0, .ref (u1 45), .ref (u1 46), .ref (u1 47), .ref (u1 48), .ref (u1 49), .ref (u1 50)])), (u1 2, .inr (7, [.int 0, .int 0, .int 0, .ref (u1 11), .ref (u1 12), .ref (u1 13), .ref (u1 14), .ref (u1 15), .ref (u1 16), .ref (u1 17)])), (u1 11, .inl (y 0, 9, .inl (fun _ => 0))), (u1 12, .inl (y 0, 9, .inl (fun _ => 0))), (u1 13, .inl (y 1, 9, .inr (.inl (fun _ => 0)))), (u1 14, .inl (y 0, 6, .inl (fun _ => 0))), (u1 15, .inl (y 0, 6, .inl (fun _ => 0))), (u1 16, .inl (y 0, 16, .inl (fun _ => 0))), (u1 17, .inl (y 1, 5, .inr (.inl (fun _ => 0)))), (u1 8, .inr (4, [.ref (u1 77), .ref (u1 78), .ref (u1 79), .ref (u1 5), .int 0, .int 0])), (u1 77, .inl (y 4, 7, .inr (.inr (.inr (.inr (fun j => some (h1 j))))))), (u1 78, .inl (y 5, 7, .inr (.inr (.inr (.inr (fun j => some (g1 j))))))), (u1 79, .inl (y 5, 7, .inr (.inr (.inr (.inr (fun j => some (c1 j))))))), MB mo v1 0 0 0 0 0 0 0 (-1) 0 0 0 0 0 0 0 0 0 0 1 0, (v1 0, .inl (y 0, 1600, .inl (fun _ => 0))), (v1 43, .inl (y 0, 8, .inl (fun _ => 0))), (v1 45, .inl (y 0, 14, .inl lakeF)), (v1 62, .inl (y 0, 63, .inl (dayF 0))), (v1 65, .inl (y 0, 1890, .inl (fun _ => 0))), (v1 68, .inl (y 0, 63, .inl (fun _ => 0))), (v1 70, .inl (y 0, 6558, .inl (fun _ => 0))), (v1 71, .inl (y 0, 1093, .inl (fun _ => 0))), (v1 72, .inl (y 0, 7, .inl powF)), (v1 74, .inl (y 0, 13, .inl (fun _ => 0))), (v1 75, .inl (y 0, 13, .inl (fun _ => 0))), (v1 77, .inl (y 0, 15, .inl (fun _ => 0)))]) [0, 23, 24, 25, 26, 5, 6, 7, 8, 9, 10, 11, 12, 32, 33, 34, 35, 36, 37, 38, 39, 40, 41, 42, 43, 44, 45, 46, 47, 48] rfl (by decide) ?_
  refine j_callViP (pc := 828) (ws' := fun (_ : Unit) => ([] : va_W)) (T' := fun (_ : Unit) => ([] : va_W)) C (c_N_selfish l D y x (u1 0) (u1 1) (u1 2) (u1 3) (u1 4) (u1 5) (u1 6) (u1 7) (u1 8) (u1 26) (u1 27) (u1 28) (u1 29) (u1 30) (u1 31) (u1 32) (u1 33) (u1 34) (u1 35) (u1 36) (u1 37) (u1 38) (u1 39) (u1 40) (u1 41) (u1 42) (u1 43) (u1 44) (u1 45) (u1 46) (u1 47) (u1 48) (u1 49) (u1 50) (u1 11) (u1 12) (u1 13) (u1 14) (u1 15) (u1 16) (u1 17) (u1 77) (u1 78) (u1 79) h1 g1 c1 (xs 1) (xs 2) a1 (fun _ => 0)) kw_L_107 kv_Nine_selfish 0 9 rfl rfl ⟨by decide, by decide⟩ ⟨by decide, by decide⟩ (wr := [MB mo v1 0 0 0 0 0 0 0 (-1) 0 0 0 0 0 0 0 0 0 0 1 0, (v1 0, .inl (y 0, 1600, .inl (fun _ => 0))), (v1 43, .inl (y 0, 8, .inl (fun _ => 0))), (v1 45, .inl (y 0, 14, .inl lakeF)), (v1 62, .inl (y 0, 63, .inl (dayF 0))), (v1 65, .inl (y 0, 1890, .inl (fun _ => 0))), (v1 68, .inl (y 0, 63, .inl (fun _ => 0))), (v1 70, .inl (y 0, 6558, .inl (fun _ => 0))), (v1 71, .inl (y 0, 1093, .inl (fun _ => 0))), (v1 72, .inl (y 0, 7, .inl powF)), (v1 74, .inl (y 0, 13, .inl (fun _ => 0))), (v1 75, .inl (y 0, 13, .inl (fun _ => 0))), (v1 77, .inl (y 0, 15, .inl (fun _ => 0)))]) [0, 1, 2, 3, 4, 5, 6, 7, 8, 9, 10, 11, 12, 13, 14, 15, 16] [17, 18, 19, 20, 21, 22, 23, 24, 25, 26, 27, 28, 29] rfl rfl (by decide) (by decide) (by decide) (As := [.int (xs 1), .int (xs 2)]) (rest := []) rfl (nb rfl) rfl d_L_law_828 (fun r1 _ hr1 => ?_)
  subst hr1
  refine j_ws (ws' := [MB mo v1 0 0 0 0 0 0 0 (-1) 0 0 0 0 0 0 0 0 0 0 1 0, (v1 0, .inl (y 0, 1600, .inl (fun _ => 0))), (v1 43, .inl (y 0, 8, .inl (fun _ => 0))), (v1 45, .inl (y 0, 14, .inl lakeF)), (v1 62, .inl (y 0, 63, .inl (dayF 0))), (v1 65, .inl (y 0, 1890, .inl (fun _ => 0))), (v1 68, .inl (y 0, 63, .inl (fun _ => 0))), (v1 70, .inl (y 0, 6558, .inl (fun _ => 0))), (v1 71, .inl (y 0, 1093, .inl (fun _ => 0))), (v1 72, .inl (y 0, 7, .inl powF)), (v1 74, .inl (y 0, 13, .inl (fun _ => 0))), (v1 75, .inl (y 0, 13, .inl (fun _ => 0))), (v1 77, .inl (y 0, 15, .inl (fun _ => 0)))]) rfl ?_
  refine j_st (st' := [.int (if 1 ≤ (xs 1).toInt ∧ (xs 1).toInt ≤ 6 ∧ 0 ≤ (xs 2).toInt ∧ (xs 2).toInt < (xs 1).toInt then 0 else -1000000000)]) rfl ?_
  refine j_aload_n (pc := 831) C d_L_law_831 rfl 1 rfl ?_
  refine j_aload_n (pc := 832) C d_L_law_832 rfl 3 rfl ?_
  refine j_iload_n (pc := 833) C d_L_law_833 rfl 0 rfl ?_
  refine j_iconst (pc := 834) C (v := 1) d_L_law_834 (by decide) ?_
  refine j_iadd (pc := 835) C (v := 1) d_L_law_835 (by decide) ?_
  refine j_sld (pc := 836) C hX hbl (v := xs 1) (vin (by decide)) rfl d_L_law_836 ?_
  refine j_aload_n (pc := 837) C d_L_law_837 rfl 3 rfl ?_
  refine j_iload_n (pc := 838) C d_L_law_838 rfl 0 rfl ?_
  refine j_iconst (pc := 839) C (v := 2) d_L_law_839 (by decide) ?_
  refine j_iadd (pc := 840) C (v := 2) d_L_law_840 (by decide) ?_
  refine j_sld (pc := 841) C hX hbl (v := xs 2) (vin (by decide)) rfl d_L_law_841 ?_
  refine j_sub (ws' := [MB mo v1 0 0 0 0 0 0 0 (-1) 0 0 0 0 0 0 0 0 0 0 1 0, (v1 43, .inl (y 0, 8, .inl (fun _ => 0))), (v1 62, .inl (y 0, 63, .inl (dayF 0))), (v1 45, .inl (y 0, 14, .inl lakeF)), (v1 68, .inl (y 0, 63, .inl (fun _ => 0))), (v1 72, .inl (y 0, 7, .inl powF)), (v1 71, .inl (y 0, 1093, .inl (fun _ => 0))), (v1 70, .inl (y 0, 6558, .inl (fun _ => 0)))]) [0, 2, 4, 3, 6, 9, 8, 7] rfl (by decide) ?_
  refine j_callVi (pc := 842) C (c_M_selfish l D y mo v1 (xs 1) (xs 2) (fun _ => 0)) kw_L_110 kv_Model_selfish 0 10 rfl rfl ⟨by decide, by decide⟩ ⟨by decide, by decide⟩ (wr := []) [0, 1, 2, 3, 4, 5, 6, 7] [] rfl rfl (by decide) (by decide) (by decide) (As := [.int (xs 1), .int (xs 2)]) (rest := [.int (if 1 ≤ (xs 1).toInt ∧ (xs 1).toInt ≤ 6 ∧ 0 ≤ (xs 2).toInt ∧ (xs 2).toInt < (xs 1).toInt then 0 else -1000000000)]) rfl (nb rfl) rfl d_L_law_842 (fun r2 _ hr2 => ?_)
  subst hr2
  refine j_ws (ws' := []) rfl ?_
  refine j_st (st' := [.int (if 1 ≤ (xs 1).toInt ∧ (xs 1).toInt ≤ 6 ∧ 0 ≤ (xs 2).toInt ∧ (xs 2).toInt < (xs 1).toInt then 0 else -1000000000), .int (if 1 ≤ (xs 1).toInt ∧ (xs 1).toInt ≤ 6 ∧ 0 ≤ (xs 2).toInt ∧ (xs 2).toInt < (xs 1).toInt then 0 else -1000000000)]) rfl ?_
  refine j_icmp_eqT (pc := 845) C (tgt := 1124) d_L_law_845 (by decide) rfl ?_
  refine j_sub (ws' := []) [] rfl (by decide) ?_
  refine j_locs (lv' := [(3, .int 0), (0, .ref b)]) [0, 3] rfl ?_
  exact kx
