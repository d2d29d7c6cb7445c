theorem d_L_law_1124 : decode code 1124 = .ok (.iinc 3 6, 3) := by decide +kernel
theorem d_L_law_1127 : decode code 1127 = .ok (.goto (-1109), 3) := by decide +kernel
theorem d_L_law_18 : decode code 18 = .ok (.iload_n 3, 1) := by decide +kernel
theorem d_L_law_19 : decode code 19 = .ok (.aload_n 0, 1) := by decide +kernel
theorem d_L_law_20 : decode code 20 = .ok (.arraylength, 1) := by decide +kernel
theorem d_L_law_21 : decode code 21 = .ok (.bipush 6, 2) := by decide +kernel
theorem d_L_law_23 : decode code 23 = .ok (.isub, 1) := by decide +kernel
theorem d_L_law_24 : decode code 24 = .ok (.if_icmp .gt 1106, 3) := by decide +kernel
theorem d_L_law_1130 : decode code 1130 = .ok (.iconst 1, 1) := by decide +kernel
theorem d_L_law_1131 : decode code 1131 = .ok (.ireturn, 1) := by decide +kernel
theorem lc_end {p : Program} {l : Launch} {e : Env} {s : State} {m : MethodId} {below : List Frame} {meth : Method} {c : Code} {D : va_G} {y : Nat → ClassId} {nm : String} {b : Nat} {xs : Nat → Int32} (C : Cx p s m #[Value.ref b] meth c D y (LA s) code 4 "NineBoardsLaw" nm) (hX : va_X b 6 xs s s.heap) (hbl : b < s.heap.size) (hr : meth.sig.returnType = ret) : J p l e room_1 s m #[Value.ref b] below meth c (lw_Z below #[Value.ref b] s) D (LA s) 4 [] [(3, .int 0), (0, .ref b)] 451 27020 1124 [] := by
  refine j_iinc (pc := 1124) C (v := 6) (lv' := [(3, .int 6), (0, .ref b)]) d_L_law_1124 0 rfl (by decide) (by decide) rfl ?_
  refine j_goto (pc := 1127) C (tgt := 18) d_L_law_1127 (by decide) ?_
  refine j_iload_n (pc := 18) C d_L_law_18 rfl 0 rfl ?_
  refine j_aload_n (pc := 19) C d_L_law_19 rfl 1 rfl ?_
  refine j_slen (pc := 20) C hX hbl (v := 6) rfl d_L_law_20 ?_
  refine j_bipush (pc := 21) C (v := 6) d_L_law_21 (by decide) ?_
  refine j_isub (pc := 23) C (v := 0) d_L_law_23 (by decide) ?_
  refine j_icmp_gtT (pc := 24) C (tgt := 1130) d_L_law_24 (by decide) (by decide) ?_
  refine j_iconst (pc := 1130) C (v := 1) d_L_law_1130 (by decide) ?_
  exact j_lret1 (pc := 1131) C hr (by decide) (by decide) d_L_law_1131
theorem lt6 {L : Nat} (h : L < 6) : nI L - 6 < 0 := by
  have : L = 0 ∨ L = 1 ∨ L = 2 ∨ L = 3 ∨ L = 4 ∨ L = 5 := by omega
  rcases this with rfl | rfl | rfl | rfl | rfl | rfl <;> decide
theorem d_L_law_0 : decode code 0 = .ok (.new 7, 3) := by decide +kernel
theorem nf_L_7 : NF "NineBoardsLaw" 7 9 10 [.null, .null, .null, .null, .null, .null, .null, .null, .null, .int 0] := ⟨_, _, ct_Nine, rfl, ci_Nine, cp_Nine, (mt_1 (List.mem_of_getElem? (i := 19) rfl) rfl), (mt_1 (List.mem_of_getElem? (i := 20) rfl) rfl), (mt_1 (List.mem_of_getElem? (i := 1) rfl) rfl), by decide +kernel⟩
theorem d_L_law_3 : decode code 3 = .ok (.dup, 1) := by decide +kernel
theorem d_L_law_4 : decode code 4 = .ok (.invokespecial 9, 3) := by decide +kernel
theorem kw_L_9 : KW "NineBoardsLaw" 9 ⟨"NineBoards", "<init>", "()V"⟩ prog_1_method_1_code 1 none 0 := ⟨(mt_1 (List.mem_of_getElem? (i := 21) rfl) rfl), (mt_1 (List.mem_of_getElem? (i := 1) rfl) rfl), (mt_1 (List.mem_of_getElem? (i := 23) rfl) rfl), by decide +kernel⟩
theorem ki_Nine_init : "<init>" = "<init>" ∧ Cond.instanceMethod ⟨"NineBoards", "<init>", "()V"⟩ ∈ TB := ⟨rfl, (mt_1 (List.mem_of_getElem? (i := 22) rfl) rfl)⟩
theorem d_L_law_7 : decode code 7 = .ok (.astore_n 1, 1) := by decide +kernel
theorem d_L_law_8 : decode code 8 = .ok (.new 10, 3) := by decide +kernel
theorem nf_L_10 : NF "NineBoardsLaw" 10 10 79 [.null, .int 0, .int 0, .int 0, .int 0, .int 0, .int 0, .int 0, .int 0, .null, .null, .null, .null, .null, .null, .null, .null, .null, .null, .null, .null, .null, .null, .null, .null, .null, .null, .null, .null, .null, .null, .null, .null, .null, .null, .null, .null, .null, .null, .null, .null, .null, .int 0, .null, .null, .null, .null, .null, .null, .int 0, .null, .int 0, .null, .int 0, .int 0, .null, .null, .null, .null, .int 0, .null, .int 0, .null, .null, .int 0, .null, .int 0, .int 0, .null, .null, .null, .null, .null, .null, .null, .null, .long 0, .null, .int 0] := ⟨_, _, ct_Model, rfl, ci_Model, cp_Model, (mt_5 (List.mem_of_getElem? (i := 82) rfl) rfl), (mt_5 (List.mem_of_getElem? (i := 83) rfl) rfl), (mt_1 (List.mem_of_getElem? (i := 16) rfl) rfl), by decide +kernel⟩
theorem d_L_law_11 : decode code 11 = .ok (.dup, 1) := by decide +kernel
theorem d_L_law_12 : decode code 12 = .ok (.invokespecial 12, 3) := by decide +kernel
theorem kw_L_12 : KW "NineBoardsLaw" 12 ⟨"NineBoardsModel", "<init>", "()V"⟩ prog_13_method_1_code 1 none 0 := ⟨(mt_5 (List.mem_of_getElem? (i := 84) rfl) rfl), (mt_1 (List.mem_of_getElem? (i := 16) rfl) rfl), (mt_5 (List.mem_of_getElem? (i := 86) rfl) rfl), by decide +kernel⟩
theorem ki_Model_init : "<init>" = "<init>" ∧ Cond.instanceMethod ⟨"NineBoardsModel", "<init>", "()V"⟩ ∈ TB := ⟨rfl, (mt_5 (List.mem_of_getElem? (i := 85) rfl) rfl)⟩
theorem d_L_law_15 : decode code 15 = .ok (.astore_n 2, 1) := by decide +kernel
theorem d_L_law_16 : decode code 16 = .ok (.iconst 0, 1) := by decide +kernel
theorem d_L_law_17 : decode code 17 = .ok (.istore_n 3, 1) := by decide +kernel
theorem d_L_law_27 : decode code 27 = .ok (.aload_n 0, 1) := by decide +kernel
theorem d_L_law_28 : decode code 28 = .ok (.iload_n 3, 1) := by decide +kernel
theorem d_L_law_29 : decode code 29 = .ok (.iaload, 1) := by decide +kernel
theorem d_L_law_30 : decode code 30 = .ok (.bipush 63, 2) := by decide +kernel
theorem d_L_law_32 : decode code 32 = .ok (.iand, 1) := by decide +kernel
theorem d_L_law_33 : decode code 33 = .ok (.tableswitch 1091 0 32 #[147, 210, 233, 246, 269, 292, 335, 368, 392, 416, 449, 472, 495, 518, 531, 590, 623, 646, 679, 728, 751, 784, 817, 850, 883, 916, 939, 952, 965, 988, 1042, 1055, 1078], 147) := by decide +kernel
theorem to_0_32 {x : Int32} (h0 : ¬ x = 0) (h1 : ¬ x = 1) (h2 : ¬ x = 2) (h3 : ¬ x = 3) (h4 : ¬ x = 4) (h5 : ¬ x = 5) (h6 : ¬ x = 6) (h7 : ¬ x = 7) (h8 : ¬ x = 8) (h9 : ¬ x = 9) (h10 : ¬ x = 10) (h11 : ¬ x = 11) (h12 : ¬ x = 12) (h13 : ¬ x = 13) (h14 : ¬ x = 14) (h15 : ¬ x = 15) (h16 : ¬ x = 16) (h17 : ¬ x = 17) (h18 : ¬ x = 18) (h19 : ¬ x = 19) (h20 : ¬ x = 20) (h21 : ¬ x = 21) (h22 : ¬ x = 22) (h23 : ¬ x = 23) (h24 : ¬ x = 24) (h25 : ¬ x = 25) (h26 : ¬ x = 26) (h27 : ¬ x = 27) (h28 : ¬ x = 28) (h29 : ¬ x = 29) (h30 : ¬ x = 30) (h31 : ¬ x = 31) (h32 : ¬ x = 32) : x.toInt < 0 ∨ 32 < x.toInt := by
  have g0 : x.toInt ≠ 0 := fun e => h0 (Int32.toInt_inj.mp (e.trans (by decide)))
  have g1 : x.toInt ≠ 1 := fun e => h1 (Int32.toInt_inj.mp (e.trans (by decide)))
  have g2 : x.toInt ≠ 2 := fun e => h2 (Int32.toInt_inj.mp (e.trans (by decide)))
  have g3 : x.toInt ≠ 3 := fun e => h3 (Int32.toInt_inj.mp (e.trans (by decide)))
  have g4 : x.toInt ≠ 4 := fun e => h4 (Int32.toInt_inj.mp (e.trans (by decide)))
  have g5 : x.toInt ≠ 5 := fun e => h5 (Int32.toInt_inj.mp (e.trans (by decide)))
  have g6 : x.toInt ≠ 6 := fun e => h6 (Int32.toInt_inj.mp (e.trans (by decide)))
  have g7 : x.toInt ≠ 7 := fun e => h7 (Int32.toInt_inj.mp (e.trans (by decide)))
  have g8 : x.toInt ≠ 8 := fun e => h8 (Int32.toInt_inj.mp (e.trans (by decide)))
  have g9 : x.toInt ≠ 9 := fun e => h9 (Int32.toInt_inj.mp (e.trans (by decide)))
  have g10 : x.toInt ≠ 10 := fun e => h10 (Int32.toInt_inj.mp (e.trans (by decide)))
  have g11 : x.toInt ≠ 11 := fun e => h11 (Int32.toInt_inj.mp (e.trans (by decide)))
  have g12 : x.toInt ≠ 12 := fun e => h12 (Int32.toInt_inj.mp (e.trans (by decide)))
  have g13 : x.toInt ≠ 13 := fun e => h13 (Int32.toInt_inj.mp (e.trans (by decide)))
  have g14 : x.toInt ≠ 14 := fun e => h14 (Int32.toInt_inj.mp (e.trans (by decide)))
  have g15 : x.toInt ≠ 15 := fun e => h15 (Int32.toInt_inj.mp (e.trans (by decide)))
  have g16 : x.toInt ≠ 16 := fun e => h16 (Int32.toInt_inj.mp (e.trans (by decide)))
  have g17 : x.toInt ≠ 17 := fun e => h17 (Int32.toInt_inj.mp (e.trans (by decide)))
  have g18 : x.toInt ≠ 18 := fun e => h18 (Int32.toInt_inj.mp (e.trans (by decide)))
  have g19 : x.toInt ≠ 19 := fun e => h19 (Int32.toInt_inj.mp (e.trans (by decide)))
  have g20 : x.toInt ≠ 20 := fun e => h20 (Int32.toInt_inj.mp (e.trans (by decide)))
  have g21 : x.toInt ≠ 21 := fun e => h21 (Int32.toInt_inj.mp (e.trans (by decide)))
  have g22 : x.toInt ≠ 22 := fun e => h22 (Int32.toInt_inj.mp (e.trans (by decide)))
  have g23 : x.toInt ≠ 23 := fun e => h23 (Int32.toInt_inj.mp (e.trans (by decide)))
  have g24 : x.toInt ≠ 24 := fun e => h24 (Int32.toInt_inj.mp (e.trans (by decide)))
  have g25 : x.toInt ≠ 25 := fun e => h25 (Int32.toInt_inj.mp (e.trans (by decide)))
  have g26 : x.toInt ≠ 26 := fun e => h26 (Int32.toInt_inj.mp (e.trans (by decide)))
  have g27 : x.toInt ≠ 27 := fun e => h27 (Int32.toInt_inj.mp (e.trans (by decide)))
  have g28 : x.toInt ≠ 28 := fun e => h28 (Int32.toInt_inj.mp (e.trans (by decide)))
  have g29 : x.toInt ≠ 29 := fun e => h29 (Int32.toInt_inj.mp (e.trans (by decide)))
  have g30 : x.toInt ≠ 30 := fun e => h30 (Int32.toInt_inj.mp (e.trans (by decide)))
  have g31 : x.toInt ≠ 31 := fun e => h31 (Int32.toInt_inj.mp (e.trans (by decide)))
  have g32 : x.toInt ≠ 32 := fun e => h32 (Int32.toInt_inj.mp (e.trans (by decide)))
  omega
set_option maxHeartbeats 4000000 in
set_option maxRecDepth 100000 in
theorem law_J {p : Program} {l : Launch} {e : Env} {s : State} {m : MethodId} {below : List Frame} {meth : Method} {c : Code} {D : va_G} {y : Nat → ClassId} {nm : String} {b : Nat} {xs : Nat → Int32} {L : Nat} (C : Cx p s m #[Value.ref b] meth c D y (LA s) code 4 "NineBoardsLaw" nm) {ak vv : Nat} (hZ : ZS ak vv (LA s) s) (hr : meth.sig.returnType = ret) (hL : L ≤ 6) (hX : va_X b L xs s s.heap) (hbl : b < s.heap.size) : J p l e room_1 s m #[Value.ref b] below meth c (lw_Z below #[Value.ref b] s) D (LA s) 4 [] [(0, .ref b)] 0 0 0 [] := by
  refine j_new (pc := 0) C nf_L_7 (by decide) (by decide) d_L_law_0 (fun q1 => ?_)
  refine j_ws (ws' := [(q1, .inr (9, [.null, .null, .null, .null, .null, .null, .null, .null, .null, .int 0]))]) rfl ?_
  refine j_dup (pc := 3) C d_L_law_3 rfl ?_
  refine j_callIZv (pc := 4) C hZ (c_Nine_init l D y ak vv q1) kw_L_9 ki_Nine_init ⟨by decide, by decide⟩ ⟨by decide, by decide⟩ (wr := []) [0] [] rfl rfl (by decide) (by decide) (by decide) (As := []) (rest := [.ref q1]) rfl (nb rfl) rfl d_L_law_4 (fun u2 _ => ?_)
  refine j_ws (ws' := (([(q1, .inr (9, [.ref (u2.1 0), .ref (u2.1 1), .ref (u2.1 2), .ref (u2.1 3), .ref (u2.1 4), .ref (u2.1 5), .ref (u2.1 6), .ref (u2.1 7), .ref (u2.1 8), .int 1])), (u2.1 0, .inr (0, [.ref (u2.1 9), .int 0])), (u2.1 9, .inl (y 0, 1600, .inl (fun _ => 0))), (u2.1 1, .inr (0, [.ref (u2.1 10), .int 0])), (u2.1 10, .inl (y 0, 15, .inl (fun _ => 0))), (u2.1 2, .inr (7, [.int 0, .int 0, .int 0, .ref (u2.1 11), .ref (u2.1 12), .ref (u2.1 13), .ref (u2.1 14), .ref (u2.1 15), .ref (u2.1 16), .ref (u2.1 17)])), (u2.1 11, .inl (y 0, 9, .inl (fun _ => 0))), (u2.1 12, .inl (y 0, 9, .inl (fun _ => 0))), (u2.1 13, .inl (y 1, 9, .inr (.inl (fun _ => 0)))), (u2.1 14, .inl (y 0, 6, .inl (fun _ => 0))), (u2.1 15, .inl (y 0, 6, .inl (fun _ => 0))), (u2.1 16, .inl (y 0, 16, .inl (fun _ => 0))), (u2.1 17, .inl (y 1, 5, .inr (.inl (fun _ => 0)))), (u2.1 3, .inr (7, [.int 0, .int 0, .int 0, .ref (u2.1 18), .ref (u2.1 19), .ref (u2.1 20), .ref (u2.1 21), .ref (u2.1 22), .ref (u2.1 23), .ref (u2.1 24)])), (u2.1 18, .inl (y 0, 9, .inl (fun _ => 0))), (u2.1 19, .inl (y 0, 9, .inl (fun _ => 0))), (u2.1 20, .inl (y 1, 9, .inr (.inl (fun _ => 0)))), (u2.1 21, .inl (y 0, 6, .inl (fun _ => 0))), (u2.1 22, .inl (y 0, 6, .inl (fun _ => 0))), (u2.1 23, .inl (y 0, 16, .inl (fun _ => 0))), (u2.1 24, .inl (y 1, 5, .inr (.inl (fun _ => 0)))), (u2.1 4, .inr (3, [.int 0, .int 0, .ref (u2.1 25)])), (u2.1 25, .inl (y 4, 30, .inr (.inr (.inr (.inr (fun j => some (u2.2.1.1 j))))))), (u2.1 5, .inr (2, [.int 0, .int 1, .int 1, .int 0, .ref (u2.1 26), .int 0, .ref (u2.1 27), .ref (u2.1 28), .ref (u2.1 29), .ref (u2.1 30), .int 0, .int 0, .int 9999, .int 0])), (u2.1 26, .inr (1, [.int 0, .ref (u2.1 31), .ref (u2.1 32), .ref (u2.1 33), .ref (u2.1 34), .ref (u2.1 35), .ref (u2.1 36), .ref (u2.1 37)])), (u2.1 29, .inr (8, [.int 0, .ref (u2.1 38), .ref (u2.1 39), .ref (u2.1 40), .ref (u2.1 41), .ref (u2.1 42), .ref (u2.1 43), .ref (u2.1 44)])), (u2.1 30, .inr (6, [.int 0, .int 0, .ref (u2.1 45), .ref (u2.1 46), .ref (u2.1 47), .ref (u2.1 48), .ref (u2.1 49), .ref (u2.1 50)])), (u2.1 6, .inr (2, [.int 0, .int 1, .int 1, .int 0, .ref (u2.1 51), .int 0, .ref (u2.1 52), .ref (u2.1 53), .ref (u2.1 54), .ref (u2.1 55), .int 0, .int 0, .int 9999, .int 0])), (u2.1 51, .inr (1, [.int 0, .ref (u2.1 56), .ref (u2.1 57), .ref (u2.1 58), .ref (u2.1 59), .ref (u2.1 60), .ref (u2.1 61), .ref (u2.1 62)])), (u2.1 54, .inr (8, [.int 0, .ref (u2.1 63), .ref (u2.1 64), .ref (u2.1 65), .ref (u2.1 66), .ref (u2.1 67), .ref (u2.1 68), .ref (u2.1 69)])), (u2.1 55, .inr (6, [.int 0, .int 0, .ref (u2.1 70), .ref (u2.1 71), .ref (u2.1 72), .ref (u2.1 73), .ref (u2.1 74), .ref (u2.1 75)])), (u2.1 7, .inr (5, [.int 0, .int (-1), .ref (u2.1 76), .ref (u2.1 0), .ref (u2.1 6), .int 0, .int 0, .int 0, .long 0, .int 0, .int 0, .int 0])), (u2.1 8, .inr (4, [.ref (u2.1 77), .ref (u2.1 78), .ref (u2.1 79), .ref (u2.1 5), .int 0, .int 0])), (u2.1 77, .inl (y 4, 7, .inr (.inr (.inr (.inr (fun j => some (u2.2.2.1 j))))))), (u2.1 78, .inl (y 5, 7, .inr (.inr (.inr (.inr (fun j => some (u2.2.2.2.2.1 j))))))), (u2.1 79, .inl (y 5, 7, .inr (.inr (.inr (.inr (fun j => some (u2.2.2.2.2.2 j)))))))] : va_W) ++ (FG (PW y u2.2.2.1 u2.2.2.2.1 (fun _ => 0) u2.2.2.2.2.1 u2.2.2.2.2.2) (List.range 7) ++ RG y u2.2.1.1 u2.2.1.2 (fun _ => 0) (List.range 30)))) rfl ?_
  refine j_astore_n (pc := 7) C (lv' := [(1, .ref q1), (0, .ref b)]) d_L_law_7 rfl (by decide) rfl ?_
  refine j_new (pc := 8) C nf_L_10 (by decide) (by decide) d_L_law_8 (fun q3 => ?_)
  refine j_mid ?_
  refine j_ws (ws' := (([(q1, .inr (9, [.ref (u2.1 0), .ref (u2.1 1), .ref (u2.1 2), .ref (u2.1 3), .ref (u2.1 4), .ref (u2.1 5), .ref (u2.1 6), .ref (u2.1 7), .ref (u2.1 8), .int 1])), (u2.1 0, .inr (0, [.ref (u2.1 9), .int 0])), (u2.1 9, .inl (y 0, 1600, .inl (fun _ => 0))), (u2.1 1, .inr (0, [.ref (u2.1 10), .int 0])), (u2.1 10, .inl (y 0, 15, .inl (fun _ => 0))), (u2.1 2, .inr (7, [.int 0, .int 0, .int 0, .ref (u2.1 11), .ref (u2.1 12), .ref (u2.1 13), .ref (u2.1 14), .ref (u2.1 15), .ref (u2.1 16), .ref (u2.1 17)])), (u2.1 11, .inl (y 0, 9, .inl (fun _ => 0))), (u2.1 12, .inl (y 0, 9, .inl (fun _ => 0))), (u2.1 13, .inl (y 1, 9, .inr (.inl (fun _ => 0)))), (u2.1 14, .inl (y 0, 6, .inl (fun _ => 0))), (u2.1 15, .inl (y 0, 6, .inl (fun _ => 0))), (u2.1 16, .inl (y 0, 16, .inl (fun _ => 0))), (u2.1 17, .inl (y 1, 5, .inr (.inl (fun _ => 0)))), (u2.1 3, .inr (7, [.int 0, .int 0, .int 0, .ref (u2.1 18), .ref (u2.1 19), .ref (u2.1 20), .ref (u2.1 21), .ref (u2.1 22), .ref (u2.1 23), .ref (u2.1 24)])), (u2.1 18, .inl (y 0, 9, .inl (fun _ => 0))), (u2.1 19, .inl (y 0, 9, .inl (fun _ => 0))), (u2.1 20, .inl (y 1, 9, .inr (.inl (fun _ => 0)))), (u2.1 21, .inl (y 0, 6, .inl (fun _ => 0))), (u2.1 22, .inl (y 0, 6, .inl (fun _ => 0))), (u2.1 23, .inl (y 0, 16, .inl (fun _ => 0))), (u2.1 24, .inl (y 1, 5, .inr (.inl (fun _ => 0)))), (u2.1 4, .inr (3, [.int 0, .int 0, .ref (u2.1 25)])), (u2.1 25, .inl (y 4, 30, .inr (.inr (.inr (.inr (fun j => some (u2.2.1.1 j))))))), (u2.1 5, .inr (2, [.int 0, .int 1, .int 1, .int 0, .ref (u2.1 26), .int 0, .ref (u2.1 27), .ref (u2.1 28), .ref (u2.1 29), .ref (u2.1 30), .int 0, .int 0, .int 9999, .int 0])), (u2.1 26, .inr (1, [.int 0, .ref (u2.1 31), .ref (u2.1 32), .ref (u2.1 33), .ref (u2.1 34), .ref (u2.1 35), .ref (u2.1 36), .ref (u2.1 37)])), (u2.1 29, .inr (8, [.int 0, .ref (u2.1 38), .ref (u2.1 39), .ref (u2.1 40), .ref (u2.1 41), .ref (u2.1 42), .ref (u2.1 43), .ref (u2.1 44)])), (u2.1 30, .inr (6, [.int 0, .int 0, .ref (u2.1 45), .ref (u2.1 46), .ref (u2.1 47), .ref (u2.1 48), .ref (u2.1 49), .ref (u2.1 50)])), (u2.1 6, .inr (2, [.int 0, .int 1, .int 1, .int 0, .ref (u2.1 51), .int 0, .ref (u2.1 52), .ref (u2.1 53), .ref (u2.1 54), .ref (u2.1 55), .int 0, .int 0, .int 9999, .int 0])), (u2.1 51, .inr (1, [.int 0, .ref (u2.1 56), .ref (u2.1 57), .ref (u2.1 58), .ref (u2.1 59), .ref (u2.1 60), .ref (u2.1 61), .ref (u2.1 62)])), (u2.1 54, .inr (8, [.int 0, .ref (u2.1 63), .ref (u2.1 64), .ref (u2.1 65), .ref (u2.1 66), .ref (u2.1 67), .ref (u2.1 68), .ref (u2.1 69)])), (u2.1 55, .inr (6, [.int 0, .int 0, .ref (u2.1 70), .ref (u2.1 71), .ref (u2.1 72), .ref (u2.1 73), .ref (u2.1 74), .ref (u2.1 75)])), (u2.1 7, .inr (5, [.int 0, .int (-1), .ref (u2.1 76), .ref (u2.1 0), .ref (u2.1 6), .int 0, .int 0, .int 0, .long 0, .int 0, .int 0, .int 0])), (u2.1 8, .inr (4, [.ref (u2.1 77), .ref (u2.1 78), .ref (u2.1 79), .ref (u2.1 5), .int 0, .int 0])), (u2.1 77, .inl (y 4, 7, .inr (.inr (.inr (.inr (fun j => some (u2.2.2.1 j))))))), (u2.1 78, .inl (y 5, 7, .inr (.inr (.inr (.inr (fun j => some (u2.2.2.2.2.1 j))))))), (u2.1 79, .inl (y 5, 7, .inr (.inr (.inr (.inr (fun j => some (u2.2.2.2.2.2 j))))))), (q3, .inr (10, [.null, .int 0, .int 0, .int 0, .int 0, .int 0, .int 0, .int 0, .int 0, .null, .null, .null, .null, .null, .null, .null, .null, .null, .null, .null, .null, .null, .null, .null, .null, .null, .null, .null, .null, .null, .null, .null, .null, .null, .null, .null, .null, .null, .null, .null, .null, .null, .int 0, .null, .null, .null, .null, .null, .null, .int 0, .null, .int 0, .null, .int 0, .int 0, .null, .null, .null, .null, .int 0, .null, .int 0, .null, .null, .int 0, .null, .int 0, .int 0, .null, .null, .null, .null, .null, .null, .null, .null, .long 0, .null, .int 0]))] : va_W) ++ (FG (PW y u2.2.2.1 u2.2.2.2.1 (fun _ => 0) u2.2.2.2.2.1 u2.2.2.2.2.2) (List.range 7) ++ RG y u2.2.1.1 u2.2.1.2 (fun _ => 0) (List.range 30)))) rfl ?_
  refine j_dup (pc := 11) C d_L_law_11 rfl ?_
  refine j_callIvT (pc := 12) C (c_M_init l D y q3) kw_L_12 ki_Model_init ⟨by decide, by decide⟩ ⟨by decide, by decide⟩ (wr := [(q1, .inr (9, [.ref (u2.1 0), .ref (u2.1 1), .ref (u2.1 2), .ref (u2.1 3), .ref (u2.1 4), .ref (u2.1 5), .ref (u2.1 6), .ref (u2.1 7), .ref (u2.1 8), .int 1])), (u2.1 0, .inr (0, [.ref (u2.1 9), .int 0])), (u2.1 9, .inl (y 0, 1600, .inl (fun _ => 0))), (u2.1 1, .inr (0, [.ref (u2.1 10), .int 0])), (u2.1 10, .inl (y 0, 15, .inl (fun _ => 0))), (u2.1 2, .inr (7, [.int 0, .int 0, .int 0, .ref (u2.1 11), .ref (u2.1 12), .ref (u2.1 13), .ref (u2.1 14), .ref (u2.1 15), .ref (u2.1 16), .ref (u2.1 17)])), (u2.1 11, .inl (y 0, 9, .inl (fun _ => 0))), (u2.1 12, .inl (y 0, 9, .inl (fun _ => 0))), (u2.1 13, .inl (y 1, 9, .inr (.inl (fun _ => 0)))), (u2.1 14, .inl (y 0, 6, .inl (fun _ => 0))), (u2.1 15, .inl (y 0, 6, .inl (fun _ => 0))), (u2.1 16, .inl (y 0, 16, .inl (fun _ => 0))), (u2.1 17, .inl (y 1, 5, .inr (.inl (fun _ => 0)))), (u2.1 3, .inr (7, [.int 0, .int 0, .int 0, .ref (u2.1 18), .ref (u2.1 19), .ref (u2.1 20), .ref (u2.1 21), .ref (u2.1 22), .ref (u2.1 23), .ref (u2.1 24)])), (u2.1 18, .inl (y 0, 9, .inl (fun _ => 0))), (u2.1 19, .inl (y 0, 9, .inl (fun _ => 0))), (u2.1 20, .inl (y 1, 9, .inr (.inl (fun _ => 0)))), (u2.1 21, .inl (y 0, 6, .inl (fun _ => 0))), (u2.1 22, .inl (y 0, 6, .inl (fun _ => 0))), (u2.1 23, .inl (y 0, 16, .inl (fun _ => 0))), (u2.1 24, .inl (y 1, 5, .inr (.inl (fun _ => 0)))), (u2.1 4, .inr (3, [.int 0, .int 0, .ref (u2.1 25)])), (u2.1 25, .inl (y 4, 30, .inr (.inr (.inr (.inr (fun j => some (u2.2.1.1 j))))))), (u2.1 5, .inr (2, [.int 0, .int 1, .int 1, .int 0, .ref (u2.1 26), .int 0, .ref (u2.1 27), .ref (u2.1 28), .ref (u2.1 29), .ref (u2.1 30), .int 0, .int 0, .int 9999, .int 0])), (u2.1 26, .inr (1, [.int 0, .ref (u2.1 31), .ref (u2.1 32), .ref (u2.1 33), .ref (u2.1 34), .ref (u2.1 35), .ref (u2.1 36), .ref (u2.1 37)])), (u2.1 29, .inr (8, [.int 0, .ref (u2.1 38), .ref (u2.1 39), .ref (u2.1 40), .ref (u2.1 41), .ref (u2.1 42), .ref (u2.1 43), .ref (u2.1 44)])), (u2.1 30, .inr (6, [.int 0, .int 0, .ref (u2.1 45), .ref (u2.1 46), .ref (u2.1 47), .ref (u2.1 48), .ref (u2.1 49), .ref (u2.1 50)])), (u2.1 6, .inr (2, [.int 0, .int 1, .int 1, .int 0, .ref (u2.1 51), .int 0, .ref (u2.1 52), .ref (u2.1 53), .ref (u2.1 54), .ref (u2.1 55), .int 0, .int 0, .int 9999, .int 0])), (u2.1 51, .inr (1, [.int 0, .ref (u2.1 56), .ref (u2.1 57), .ref (u2.1 58), .ref (u2.1 59), .ref (u2.1 60), .ref (u2.1 61), .ref (u2.1 62)])), (u2.1 54, .inr (8, [.int 0, .ref (u2.1 63), .ref (u2.1 64), .ref (u2.1 65), .ref (u2.1 66), .ref (u2.1 67), .ref (u2.1 68), .ref (u2.1 69)])), (u2.1 55, .inr (6, [.int 0, .int 0, .ref (u2.1 70), .ref (u2.1 71), .ref (u2.1 72), .ref (u2.1 73), .ref (u2.1 74), .ref (u2.1 75)])), (u2.1 7, .inr (5, [.int 0, .int (-1), .ref (u2.1 76), .ref (u2.1 0), .ref (u2.1 6), .int 0, .int 0, .int 0, .long 0, .int 0, .int 0, .int 0])), (u2.1 8, .inr (4, [.ref (u2.1 77), .ref (u2.1 78), .ref (u2.1 79), .ref (u2.1 5), .int 0, .int 0])), (u2.1 77, .inl (y 4, 7, .inr (.inr (.inr (.inr (fun j => some (u2.2.2.1 j))))))), (u2.1 78, .inl (y 5, 7, .inr (.inr (.inr (.inr (fun j => some (u2.2.2.2.2.1 j))))))), (u2.1 79, .inl (y 5, 7, .inr (.inr (.inr (.inr (fun j => some (u2.2.2.2.2.2 j)))))))]) [36] [0, 1, 2, 3, 4, 5, 6, 7, 8, 9, 10, 11, 12, 13, 14, 15, 16, 17, 18, 19, 20, 21, 22, 23, 24, 25, 26, 27, 28, 29, 30, 31, 32, 33, 34, 35] rfl rfl (by decide) (by decide) (by decide) (As := []) (rest := [.ref q3]) rfl (nb rfl) rfl d_L_law_12 (fun u4 _ => ?_)
  refine j_ws (ws' := (([(q1, .inr (9, [.ref (u2.1 0), .ref (u2.1 1), .ref (u2.1 2), .ref (u2.1 3), .ref (u2.1 4), .ref (u2.1 5), .ref (u2.1 6), .ref (u2.1 7), .ref (u2.1 8), .int 1])), (u2.1 0, .inr (0, [.ref (u2.1 9), .int 0])), (u2.1 9, .inl (y 0, 1600, .inl (fun _ => 0))), (u2.1 1, .inr (0, [.ref (u2.1 10), .int 0])), (u2.1 10, .inl (y 0, 15, .inl (fun _ => 0))), (u2.1 2, .inr (7, [.int 0, .int 0, .int 0, .ref (u2.1 11), .ref (u2.1 12), .ref (u2.1 13), .ref (u2.1 14), .ref (u2.1 15), .ref (u2.1 16), .ref (u2.1 17)])), (u2.1 11, .inl (y 0, 9, .inl (fun _ => 0))), (u2.1 12, .inl (y 0, 9, .inl (fun _ => 0))), (u2.1 13, .inl (y 1, 9, .inr (.inl (fun _ => 0)))), (u2.1 14, .inl (y 0, 6, .inl (fun _ => 0))), (u2.1 15, .inl (y 0, 6, .inl (fun _ => 0))), (u2.1 16, .inl (y 0, 16, .inl (fun _ => 0))), (u2.1 17, .inl (y 1, 5, .inr (.inl (fun _ => 0)))), (u2.1 3, .inr (7, [.int 0, .int 0, .int 0, .ref (u2.1 18), .ref (u2.1 19), .ref (u2.1 20), .ref (u2.1 21), .ref (u2.1 22), .ref (u2.1 23), .ref (u2.1 24)])), (u2.1 18, .inl (y 0, 9, .inl (fun _ => 0))), (u2.1 19, .inl (y 0, 9, .inl (fun _ => 0))), (u2.1 20, .inl (y 1, 9, .inr (.inl (fun _ => 0)))), (u2.1 21, .inl (y 0, 6, .inl (fun _ => 0))), (u2.1 22, .inl (y 0, 6, .inl (fun _ => 0))), (u2.1 23, .inl (y 0, 16, .inl (fun _ => 0))), (u2.1 24, .inl (y 1, 5, .inr (.inl (fun _ => 0)))), (u2.1 4, .inr (3, [.int 0, .int 0, .ref (u2.1 25)])), (u2.1 25, .inl (y 4, 30, .inr (.inr (.inr (.inr (fun j => some (u2.2.1.1 j))))))), (u2.1 5, .inr (2, [.int 0, .int 1, .int 1, .int 0, .ref (u2.1 26), .int 0, .ref (u2.1 27), .ref (u2.1 28), .ref (u2.1 29), .ref (u2.1 30), .int 0, .int 0, .int 9999, .int 0])), (u2.1 26, .inr (1, [.int 0, .ref (u2.1 31), .ref (u2.1 32), .ref (u2.1 33), .ref (u2.1 34), .ref (u2.1 35), .ref (u2.1 36), .ref (u2.1 37)])), (u2.1 29, .inr (8, [.int 0, .ref (u2.1 38), .ref (u2.1 39), .ref (u2.1 40), .ref (u2.1 41), .ref (u2.1 42), .ref (u2.1 43), .ref (u2.1 44)])), (u2.1 30, .inr (6, [.int 0, .int 0, .ref (u2.1 45), .ref (u2.1 46), .ref (u2.1 47), .ref (u2.1 48), .ref (u2.1 49), .ref (u2.1 50)])), (u2.1 6, .inr (2, [.int 0, .int 1, .int 1, .int 0, .ref (u2.1 51), .int 0, .ref (u2.1 52), .ref (u2.1 53), .ref (u2.1 54), .ref (u2.1 55), .int 0, .int 0, .int 9999, .int 0])), (u2.1 51, .inr (1, [.int 0, .ref (u2.1 56), .ref (u2.1 57), .ref (u2.1 58), .ref (u2.1 59), .ref (u2.1 60), .ref (u2.1 61), .ref (u2.1 62)])), (u2.1 54, .inr (8, [.int 0, .ref (u2.1 63), .ref (u2.1 64), .ref (u2.1 65), .ref (u2.1 66), .ref (u2.1 67), .ref (u2.1 68), .ref (u2.1 69)])), (u2.1 55, .inr (6, [.int 0, .int 0, .ref (u2.1 70), .ref (u2.1 71), .ref (u2.1 72), .ref (u2.1 73), .ref (u2.1 74), .ref (u2.1 75)])), (u2.1 7, .inr (5, [.int 0, .int (-1), .ref (u2.1 76), .ref (u2.1 0), .ref (u2.1 6), .int 0, .int 0, .int 0, .long 0, .int 0, .int 0, .int 0])), (u2.1 8, .inr (4, [.ref (u2.1 77), .ref (u2.1 78), .ref (u2.1 79), .ref (u2.1 5), .int 0, .int 0])), (u2.1 77, .inl (y 4, 7, .inr (.inr (.inr (.inr (fun j => some (u2.2.2.1 j))))))), (u2.1 78, .inl (y 5, 7, .inr (.inr (.inr (.inr (fun j => some (u2.2.2.2.2.1 j))))))), (u2.1 79, .inl (y 5, 7, .inr (.inr (.inr (.inr (fun j => some (u2.2.2.2.2.2 j))))))), MB q3 u4 0 0 0 0 0 0 0 (-1) 0 0 0 0 0 0 0 0 0 0 1 0, (u4 0, .inl (y 0, 1600, .inl (fun _ => 0))), (u4 43, .inl (y 0, 8, .inl (fun _ => 0))), (u4 45, .inl (y 0, 14, .inl lakeF)), (u4 62, .inl (y 0, 63, .inl (dayF 0))), (u4 65, .inl (y 0, 1890, .inl (fun _ => 0))), (u4 68, .inl (y 0, 63, .inl (fun _ => 0))), (u4 70, .inl (y 0, 6558, .inl (fun _ => 0))), (u4 71, .inl (y 0, 1093, .inl (fun _ => 0))), (u4 72, .inl (y 0, 7, .inl powF)), (u4 74, .inl (y 0, 13, .inl (fun _ => 0))), (u4 75, .inl (y 0, 13, .inl (fun _ => 0))), (u4 77, .inl (y 0, 15, .inl (fun _ => 0)))] : va_W) ++ (FG (PW y u2.2.2.1 u2.2.2.2.1 (fun _ => 0) u2.2.2.2.2.1 u2.2.2.2.2.2) (List.range 7) ++ RG y u2.2.1.1 u2.2.1.2 (fun _ => 0) (List.range 30)))) rfl ?_
  refine j_astore_n (pc := 15) C (lv' := [(2, .ref q3), (1, .ref q1), (0, .ref b)]) d_L_law_15 rfl (by decide) rfl ?_
  refine j_iconst (pc := 16) C (v := 0) d_L_law_16 (by decide) ?_
  refine j_istore_n (pc := 17) C (lv' := [(3, .int 0), (2, .ref q3), (1, .ref q1), (0, .ref b)]) d_L_law_17 rfl (by decide) rfl ?_
  by_cases h6 : L = 6
  · subst h6
    refine j_iload_n (pc := 18) C d_L_law_18 rfl 0 rfl ?_
    refine j_aload_n (pc := 19) C d_L_law_19 rfl 3 rfl ?_
    refine j_slen (pc := 20) C hX hbl (v := 6) rfl d_L_law_20 ?_
    refine j_bipush (pc := 21) C (v := 6) d_L_law_21 (by decide) ?_
    refine j_isub (pc := 23) C (v := 0) d_L_law_23 (by decide) ?_
    refine j_icmp_gtF (pc := 24) C (tgt := 1130) d_L_law_24 (by decide) (by decide) ?_
    refine j_aload_n (pc := 27) C d_L_law_27 rfl 3 rfl ?_
    refine j_iload_n (pc := 28) C d_L_law_28 rfl 0 rfl ?_
    refine j_sld (pc := 29) C hX hbl (v := xs 0) (vin (by decide)) rfl d_L_law_29 ?_
    refine j_bipush (pc := 30) C (v := 63) d_L_law_30 (by decide) ?_
    refine j_iand (pc := 32) C (v := (xs 0) &&& 63) d_L_law_32 rfl ?_
    by_cases c5_0 : (xs 0) &&& 63 = 0
    · refine j_tabIn (pc := 33) C (off := 147) (tgt := 180) d_L_law_33 (by rw [c5_0]; decide) (by rw [c5_0]; decide) (by rw [c5_0]; decide) (by decide) ?_
      exact lc_0 C hX hbl q1 q3 u2.1 u2.2.1.1 u2.2.1.2 u2.2.2.1 u2.2.2.2.1 u2.2.2.2.2.1 u2.2.2.2.2.2 u4 (lc_end C hX hbl hr)
    · by_cases c5_1 : (xs 0) &&& 63 = 1
      · refine j_tabIn (pc := 33) C (off := 210) (tgt := 243) d_L_law_33 (by rw [c5_1]; decide) (by rw [c5_1]; decide) (by rw [c5_1]; decide) (by decide) ?_
        exact lc_1 C hX hbl q1 q3 u2.1 u2.2.1.1 u2.2.1.2 u2.2.2.1 u2.2.2.2.1 u2.2.2.2.2.1 u2.2.2.2.2.2 u4 (lc_end C hX hbl hr)
      · by_cases c5_2 : (xs 0) &&& 63 = 2
        · refine j_tabIn (pc := 33) C (off := 233) (tgt := 266) d_L_law_33 (by rw [c5_2]; decide) (by rw [c5_2]; decide) (by rw [c5_2]; decide) (by decide) ?_
          exact lc_2 C hX hbl q1 q3 u2.1 u2.2.1.1 u2.2.1.2 u2.2.2.1 u2.2.2.2.1 u2.2.2.2.2.1 u2.2.2.2.2.2 u4 (lc_end C hX hbl hr)
        · by_cases c5_3 : (xs 0) &&& 63 = 3
          · refine j_tabIn (pc := 33) C (off := 246) (tgt := 279) d_L_law_33 (by rw [c5_3]; decide) (by rw [c5_3]; decide) (by rw [c5_3]; decide) (by decide) ?_
            exact lc_3 C hX hbl q1 q3 u2.1 u2.2.1.1 u2.2.1.2 u2.2.2.1 u2.2.2.2.1 u2.2.2.2.2.1 u2.2.2.2.2.2 u4 (lc_end C hX hbl hr)
          · by_cases c5_4 : (xs 0) &&& 63 = 4
            · refine j_tabIn (pc := 33) C (off := 269) (tgt := 302) d_L_law_33 (by rw [c5_4]; decide) (by rw [c5_4]; decide) (by rw [c5_4]; decide) (by decide) ?_
              exact lc_4 C hX hbl q1 q3 u2.1 u2.2.1.1 u2.2.1.2 u2.2.2.1 u2.2.2.2.1 u2.2.2.2.2.1 u2.2.2.2.2.2 u4 (lc_end C hX hbl hr)
            · by_cases c5_5 : (xs 0) &&& 63 = 5
              · refine j_tabIn (pc := 33) C (off := 292) (tgt := 325) d_L_law_33 (by rw [c5_5]; decide) (by rw [c5_5]; decide) (by rw [c5_5]; decide) (by decide) ?_
                exact lc_5 C hX hbl q1 q3 u2.1 u2.2.1.1 u2.2.1.2 u2.2.2.1 u2.2.2.2.1 u2.2.2.2.2.1 u2.2.2.2.2.2 u4 (lc_end C hX hbl hr)
              · by_cases c5_6 : (xs 0) &&& 63 = 6
                · refine j_tabIn (pc := 33) C (off := 335) (tgt := 368) d_L_law_33 (by rw [c5_6]; decide) (by rw [c5_6]; decide) (by rw [c5_6]; decide) (by decide) ?_
                  exact lc_6 C hX hbl q1 q3 u2.1 u2.2.1.1 u2.2.1.2 u2.2.2.1 u2.2.2.2.1 u2.2.2.2.2.1 u2.2.2.2.2.2 u4 (lc_end C hX hbl hr)
                · by_cases c5_7 : (xs 0) &&& 63 = 7
                  · refine j_tabIn (pc := 33) C (off := 368) (tgt := 401) d_L_law_33 (by rw [c5_7]; decide) (by rw [c5_7]; decide) (by rw [c5_7]; decide) (by decide) ?_
                    exact lc_7 C hX hbl q1 q3 u2.1 u2.2.1.1 u2.2.1.2 u2.2.2.1 u2.2.2.2.1 u2.2.2.2.2.1 u2.2.2.2.2.2 u4 (lc_end C hX hbl hr)
                  · by_cases c5_8 : (xs 0) &&& 63 = 8
                    · refine j_tabIn (pc := 33) C (off := 392) (tgt := 425) d_L_law_33 (by rw [c5_8]; decide) (by rw [c5_8]; decide) (by rw [c5_8]; decide) (by decide) ?_
                      exact lc_8 C hX hbl q1 q3 u2.1 u2.2.1.1 u2.2.1.2 u2.2.2.1 u2.2.2.2.1 u2.2.2.2.2.1 u2.2.2.2.2.2 u4 (lc_end C hX hbl hr)
                    · by_cases c5_9 : (xs 0) &&& 63 = 9
                      · refine j_tabIn (pc := 33) C (off := 416) (tgt := 449) d_L_law_33 (by rw [c5_9]; decide) (by rw [c5_9]; decide) (by rw [c5_9]; decide) (by decide) ?_
                        exact lc_9 C hX hbl q1 q3 u2.1 u2.2.1.1 u2.2.1.2 u2.2.2.1 u2.2.2.2.1 u2.2.2.2.2.1 u2.2.2.2.2.2 u4 (lc_end C hX hbl hr)
                      · by_cases c5_10 : (xs 0) &&& 63 = 10
                        · refine j_tabIn (pc := 33) C (off := 449) (tgt := 482) d_L_law_33 (by rw [c5_10]; decide) (by rw [c5_10]; decide) (by rw [c5_10]; decide) (by decide) ?_
                          exact lc_10 C hX hbl q1 q3 u2.1 u2.2.1.1 u2.2.1.2 u2.2.2.1 u2.2.2.2.1 u2.2.2.2.2.1 u2.2.2.2.2.2 u4 (lc_end C hX hbl hr)
                        · by_cases c5_11 : (xs 0) &&& 63 = 11
                          · refine j_tabIn (pc := 33) C (off := 472) (tgt := 505) d_L_law_33 (by rw [c5_11]; decide) (by rw [c5_11]; decide) (by rw [c5_11]; decide) (by decide) ?_
                            exact lc_11 C hX hbl q1 q3 u2.1 u2.2.1.1 u2.2.1.2 u2.2.2.1 u2.2.2.2.1 u2.2.2.2.2.1 u2.2.2.2.2.2 u4 (lc_end C hX hbl hr)
                          · by_cases c5_12 : (xs 0) &&& 63 = 12
                            · refine j_tabIn (pc := 33) C (off := 495) (tgt := 528) d_L_law_33 (by rw [c5_12]; decide) (by rw [c5_12]; decide) (by rw [c5_12]; decide) (by decide) ?_
                              exact lc_12 C hX hbl q1 q3 u2.1 u2.2.1.1 u2.2.1.2 u2.2.2.1 u2.2.2.2.1 u2.2.2.2.2.1 u2.2.2.2.2.2 u4 (lc_end C hX hbl hr)
                            · by_cases c5_13 : (xs 0) &&& 63 = 13
                              · refine j_tabIn (pc := 33) C (off := 518) (tgt := 551) d_L_law_33 (by rw [c5_13]; decide) (by rw [c5_13]; decide) (by rw [c5_13]; decide) (by decide) ?_
                                exact lc_13 C hX hbl q1 q3 u2.1 u2.2.1.1 u2.2.1.2 u2.2.2.1 u2.2.2.2.1 u2.2.2.2.2.1 u2.2.2.2.2.2 u4 (lc_end C hX hbl hr)
                              · by_cases c5_14 : (xs 0) &&& 63 = 14
                                · refine j_tabIn (pc := 33) C (off := 531) (tgt := 564) d_L_law_33 (by rw [c5_14]; decide) (by rw [c5_14]; decide) (by rw [c5_14]; decide) (by decide) ?_
                                  exact lc_14 C hX hbl q1 q3 u2.1 u2.2.1.1 u2.2.1.2 u2.2.2.1 u2.2.2.2.1 u2.2.2.2.2.1 u2.2.2.2.2.2 u4 (lc_end C hX hbl hr)
                                · by_cases c5_15 : (xs 0) &&& 63 = 15
                                  · refine j_tabIn (pc := 33) C (off := 590) (tgt := 623) d_L_law_33 (by rw [c5_15]; decide) (by rw [c5_15]; decide) (by rw [c5_15]; decide) (by decide) ?_
                                    exact lc_15 C hX hbl q1 q3 u2.1 u2.2.1.1 u2.2.1.2 u2.2.2.1 u2.2.2.2.1 u2.2.2.2.2.1 u2.2.2.2.2.2 u4 (lc_end C hX hbl hr)
                                  · by_cases c5_16 : (xs 0) &&& 63 = 16
                                    · refine j_tabIn (pc := 33) C (off := 623) (tgt := 656) d_L_law_33 (by rw [c5_16]; decide) (by rw [c5_16]; decide) (by rw [c5_16]; decide) (by decide) ?_
                                      exact lc_16 C hX hbl q1 q3 u2.1 u2.2.1.1 u2.2.1.2 u2.2.2.1 u2.2.2.2.1 u2.2.2.2.2.1 u2.2.2.2.2.2 u4 (lc_end C hX hbl hr)
                                    · by_cases c5_17 : (xs 0) &&& 63 = 17
                                      · refine j_tabIn (pc := 33) C (off := 646) (tgt := 679) d_L_law_33 (by rw [c5_17]; decide) (by rw [c5_17]; decide) (by rw [c5_17]; decide) (by decide) ?_
                                        exact lc_17 C hX hbl q1 q3 u2.1 u2.2.1.1 u2.2.1.2 u2.2.2.1 u2.2.2.2.1 u2.2.2.2.2.1 u2.2.2.2.2.2 u4 (lc_end C hX hbl hr)
                                      · by_cases c5_18 : (xs 0) &&& 63 = 18
                                        · refine j_tabIn (pc := 33) C (off := 679) (tgt := 712) d_L_law_33 (by rw [c5_18]; decide) (by rw [c5_18]; decide) (by rw [c5_18]; decide) (by decide) ?_
                                          exact lc_18 C hX hbl q1 q3 u2.1 u2.2.1.1 u2.2.1.2 u2.2.2.1 u2.2.2.2.1 u2.2.2.2.2.1 u2.2.2.2.2.2 u4 (lc_end C hX hbl hr)
                                        · by_cases c5_19 : (xs 0) &&& 63 = 19
                                          · refine j_tabIn (pc := 33) C (off := 728) (tgt := 761) d_L_law_33 (by rw [c5_19]; decide) (by rw [c5_19]; decide) (by rw [c5_19]; decide) (by decide) ?_
                                            exact lc_19 C hX hbl q1 q3 u2.1 u2.2.1.1 u2.2.1.2 u2.2.2.1 u2.2.2.2.1 u2.2.2.2.2.1 u2.2.2.2.2.2 u4 (lc_end C hX hbl hr)
                                          · by_cases c5_20 : (xs 0) &&& 63 = 20
                                            · refine j_tabIn (pc := 33) C (off := 751) (tgt := 784) d_L_law_33 (by rw [c5_20]; decide) (by rw [c5_20]; decide) (by rw [c5_20]; decide) (by decide) ?_
                                              exact lc_20 C hX hbl q1 q3 u2.1 u2.2.1.1 u2.2.1.2 u2.2.2.1 u2.2.2.2.1 u2.2.2.2.2.1 u2.2.2.2.2.2 u4 (lc_end C hX hbl hr)
                                            · by_cases c5_21 : (xs 0) &&& 63 = 21
                                              · refine j_tabIn (pc := 33) C (off := 784) (tgt := 817) d_L_law_33 (by rw [c5_21]; decide) (by rw [c5_21]; decide) (by rw [c5_21]; decide) (by decide) ?_
                                                exact lc_21 C hX hbl q1 q3 u2.1 u2.2.1.1 u2.2.1.2 u2.2.2.1 u2.2.2.2.1 u2.2.2.2.2.1 u2.2.2.2.2.2 u4 (lc_end C hX hbl hr)
                                              · by_cases c5_22 : (xs 0) &&& 63 = 22
                                                · refine j_tabIn (pc := 33) C (off := 817) (tgt := 850) d_L_law_33 (by rw [c5_22]; decide) (by rw [c5_22]; decide) (by rw [c5_22]; decide) (by decide) ?_
                                                  exact lc_22 C hX hbl q1 q3 u2.1 u2.2.1.1 u2.2.1.2 u2.2.2.1 u2.2.2.2.1 u2.2.2.2.2.1 u2.2.2.2.2.2 u4 (lc_end C hX hbl hr)
                                                · by_cases c5_23 : (xs 0) &&& 63 = 23
                                                  · refine j_tabIn (pc := 33) C (off := 850) (tgt := 883) d_L_law_33 (by rw [c5_23]; decide) (by rw [c5_23]; decide) (by rw [c5_23]; decide) (by decide) ?_
                                                    exact lc_23 C hX hbl q1 q3 u2.1 u2.2.1.1 u2.2.1.2 u2.2.2.1 u2.2.2.2.1 u2.2.2.2.2.1 u2.2.2.2.2.2 u4 (lc_end C hX hbl hr)
                                                  · by_cases c5_24 : (xs 0) &&& 63 = 24
                                                    · refine j_tabIn (pc := 33) C (off := 883) (tgt := 916) d_L_law_33 (by rw [c5_24]; decide) (by rw [c5_24]; decide) (by rw [c5_24]; decide) (by decide) ?_
                                                      exact lc_24 C hX hbl q1 q3 u2.1 u2.2.1.1 u2.2.1.2 u2.2.2.1 u2.2.2.2.1 u2.2.2.2.2.1 u2.2.2.2.2.2 u4 (lc_end C hX hbl hr)
                                                    · by_cases c5_25 : (xs 0) &&& 63 = 25
                                                      · refine j_tabIn (pc := 33) C (off := 916) (tgt := 949) d_L_law_33 (by rw [c5_25]; decide) (by rw [c5_25]; decide) (by rw [c5_25]; decide) (by decide) ?_
                                                        exact lc_25 C hX hbl q1 q3 u2.1 u2.2.1.1 u2.2.1.2 u2.2.2.1 u2.2.2.2.1 u2.2.2.2.2.1 u2.2.2.2.2.2 u4 (lc_end C hX hbl hr)
                                                      · by_cases c5_26 : (xs 0) &&& 63 = 26
                                                        · refine j_tabIn (pc := 33) C (off := 939) (tgt := 972) d_L_law_33 (by rw [c5_26]; decide) (by rw [c5_26]; decide) (by rw [c5_26]; decide) (by decide) ?_
                                                          exact lc_26 C hX hbl q1 q3 u2.1 u2.2.1.1 u2.2.1.2 u2.2.2.1 u2.2.2.2.1 u2.2.2.2.2.1 u2.2.2.2.2.2 u4 (lc_end C hX hbl hr)
                                                        · by_cases c5_27 : (xs 0) &&& 63 = 27
                                                          · refine j_tabIn (pc := 33) C (off := 952) (tgt := 985) d_L_law_33 (by rw [c5_27]; decide) (by rw [c5_27]; decide) (by rw [c5_27]; decide) (by decide) ?_
                                                            exact lc_27 C hX hbl q1 q3 u2.1 u2.2.1.1 u2.2.1.2 u2.2.2.1 u2.2.2.2.1 u2.2.2.2.2.1 u2.2.2.2.2.2 u4 (lc_end C hX hbl hr)
                                                          · by_cases c5_28 : (xs 0) &&& 63 = 28
                                                            · refine j_tabIn (pc := 33) C (off := 965) (tgt := 998) d_L_law_33 (by rw [c5_28]; decide) (by rw [c5_28]; decide) (by rw [c5_28]; decide) (by decide) ?_
                                                              exact lc_28 C hX hbl q1 q3 u2.1 u2.2.1.1 u2.2.1.2 u2.2.2.1 u2.2.2.2.1 u2.2.2.2.2.1 u2.2.2.2.2.2 u4 (lc_end C hX hbl hr)
                                                            · by_cases c5_29 : (xs 0) &&& 63 = 29
                                                              · refine j_tabIn (pc := 33) C (off := 988) (tgt := 1021) d_L_law_33 (by rw [c5_29]; decide) (by rw [c5_29]; decide) (by rw [c5_29]; decide) (by decide) ?_
                                                                exact lc_29 C hX hbl q1 q3 u2.1 u2.2.1.1 u2.2.1.2 u2.2.2.1 u2.2.2.2.1 u2.2.2.2.2.1 u2.2.2.2.2.2 u4 (lc_end C hX hbl hr)
                                                              · by_cases c5_30 : (xs 0) &&& 63 = 30
                                                                · refine j_tabIn (pc := 33) C (off := 1042) (tgt := 1075) d_L_law_33 (by rw [c5_30]; decide) (by rw [c5_30]; decide) (by rw [c5_30]; decide) (by decide) ?_
                                                                  exact lc_30 C hX hbl q1 q3 u2.1 u2.2.1.1 u2.2.1.2 u2.2.2.1 u2.2.2.2.1 u2.2.2.2.2.1 u2.2.2.2.2.2 u4 (lc_end C hX hbl hr)
                                                                · by_cases c5_31 : (xs 0) &&& 63 = 31
                                                                  · refine j_tabIn (pc := 33) C (off := 1055) (tgt := 1088) d_L_law_33 (by rw [c5_31]; decide) (by rw [c5_31]; decide) (by rw [c5_31]; decide) (by decide) ?_
                                                                    exact lc_31 C hX hbl q1 q3 u2.1 u2.2.1.1 u2.2.1.2 u2.2.2.1 u2.2.2.2.1 u2.2.2.2.2.1 u2.2.2.2.2.2 u4 (lc_end C hX hbl hr)
                                                                  · by_cases c5_32 : (xs 0) &&& 63 = 32
                                                                    · refine j_tabIn (pc := 33) C (off := 1078) (tgt := 1111) d_L_law_33 (by rw [c5_32]; decide) (by rw [c5_32]; decide) (by rw [c5_32]; decide) (by decide) ?_
                                                                      exact lc_32 C hX hbl q1 q3 u2.1 u2.2.1.1 u2.2.1.2 u2.2.2.1 u2.2.2.2.1 u2.2.2.2.2.1 u2.2.2.2.2.2 u4 (lc_end C hX hbl hr)
                                                                    · refine j_tabOut (pc := 33) C (tgt := 1124) d_L_law_33 (by exact to_0_32 c5_0 c5_1 c5_2 c5_3 c5_4 c5_5 c5_6 c5_7 c5_8 c5_9 c5_10 c5_11 c5_12 c5_13 c5_14 c5_15 c5_16 c5_17 c5_18 c5_19 c5_20 c5_21 c5_22 c5_23 c5_24 c5_25 c5_26 c5_27 c5_28 c5_29 c5_30 c5_31 c5_32) (by decide) ?_
                                                                      refine j_drop ?_
                                                                      refine j_sub (ws' := []) [] rfl (by decide) ?_
                                                                      refine j_locs (lv' := [(3, .int 0), (0, .ref b)]) [0, 3] rfl ?_
                                                                      exact lc_end C hX hbl hr
  · have hlt : L < 6 := by omega
    refine j_iload_n (pc := 18) C d_L_law_18 rfl 0 rfl ?_
    refine j_aload_n (pc := 19) C d_L_law_19 rfl 3 rfl ?_
    refine j_slen (pc := 20) C hX hbl (v := nI L) rfl d_L_law_20 ?_
    refine j_bipush (pc := 21) C (v := 6) d_L_law_21 (by decide) ?_
    refine j_isub (pc := 23) C (v := (nI L) - 6) d_L_law_23 rfl ?_
    refine j_icmp_gtT (pc := 24) C (tgt := 1130) d_L_law_24 (by decide) (lt6 hlt) ?_
    refine j_iconst (pc := 1130) C (v := 1) d_L_law_1130 (by decide) ?_
    exact j_lret1 (pc := 1131) C hr (by decide) (by decide) d_L_law_1131
