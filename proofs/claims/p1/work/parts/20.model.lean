theorem d_Model_rest_16 : decode prog_13_method_82_code 16 = .ok (.iload_n 2, 1) := by decide +kernel
theorem d_Model_rest_17 : decode prog_13_method_82_code 17 = .ok (.iload_n 1, 1) := by decide +kernel
theorem d_Model_rest_18 : decode prog_13_method_82_code 18 = .ok (.if_icmp .ge 30, 3) := by decide +kernel
theorem d_Model_rest_21 : decode prog_13_method_82_code 21 = .ok (.aload_n 0, 1) := by decide +kernel
theorem d_Model_rest_22 : decode prog_13_method_82_code 22 = .ok (.getfield 158, 3) := by decide +kernel
theorem d_Model_rest_25 : decode prog_13_method_82_code 25 = .ok (.iconst 0, 1) := by decide +kernel
theorem d_Model_rest_26 : decode prog_13_method_82_code 26 = .ok (.iaload, 1) := by decide +kernel
theorem d_Model_rest_27 : decode prog_13_method_82_code 27 = .ok (.sipush 999, 3) := by decide +kernel
theorem d_Model_rest_30 : decode prog_13_method_82_code 30 = .ok (.if_icmp .ge 18, 3) := by decide +kernel
theorem d_Model_rest_33 : decode prog_13_method_82_code 33 = .ok (.aload_n 0, 1) := by decide +kernel
theorem d_Model_rest_34 : decode prog_13_method_82_code 34 = .ok (.invokevirtual 482, 3) := by decide +kernel
theorem d_Model_rest_37 : decode prog_13_method_82_code 37 = .ok (.aload_n 0, 1) := by decide +kernel
theorem d_Model_rest_38 : decode prog_13_method_82_code 38 = .ok (.iconst 0, 1) := by decide +kernel
theorem d_Model_rest_39 : decode prog_13_method_82_code 39 = .ok (.invokevirtual 488, 3) := by decide +kernel
theorem d_Model_rest_42 : decode prog_13_method_82_code 42 = .ok (.iinc 2 1, 3) := by decide +kernel
theorem d_Model_rest_45 : decode prog_13_method_82_code 45 = .ok (.goto (-29), 3) := by decide +kernel
theorem d_Model_rest_0 : decode prog_13_method_82_code 0 = .ok (.iload_n 1, 1) := by decide +kernel
theorem d_Model_rest_1 : decode prog_13_method_82_code 1 = .ok (.i2l, 1) := by decide +kernel
theorem d_Model_rest_2 : decode prog_13_method_82_code 2 = .ok (.lconst 1, 1) := by decide +kernel
theorem d_Model_rest_3 : decode prog_13_method_82_code 3 = .ok (.ldc2_w 491, 3) := by decide +kernel
theorem d_Model_rest_6 : decode prog_13_method_82_code 6 = .ok (.invokestatic 240, 3) := by decide +kernel
theorem d_Model_rest_9 : decode prog_13_method_82_code 9 = .ok (.ifCond .ne 5, 3) := by decide +kernel
theorem d_Model_rest_14 : decode prog_13_method_82_code 14 = .ok (.iconst 0, 1) := by decide +kernel
theorem d_Model_rest_15 : decode prog_13_method_82_code 15 = .ok (.istore_n 2, 1) := by decide +kernel
theorem d_Model_rest_48 : decode prog_13_method_82_code 48 = .ok (.iload_n 2, 1) := by decide +kernel
theorem d_Model_rest_49 : decode prog_13_method_82_code 49 = .ok (.ireturn, 1) := by decide +kernel
theorem d_Model_rest_12 : decode prog_13_method_82_code 12 = .ok (.iconst (-1), 1) := by decide +kernel
theorem d_Model_rest_13 : decode prog_13_method_82_code 13 = .ok (.ireturn, 1) := by decide +kernel
set_option maxHeartbeats 4000000 in
set_option maxRecDepth 100000 in
theorem lp_M_rest {p : Program} {l : Launch} {e : Env} {s : State} {m : MethodId} {args : Array Value} {below : List Frame} {meth : Method} {c : Code} {Q : State → Prop} {D : va_G} {y : Nat → ClassId} {A : Nat → Prop} (C : Cx p s m args meth c D y A prog_13_method_82_code 3 "NineBoardsModel" "rest") (mo : Nat) (ad : Nat → Nat) (N : Nat) (hN : N ≤ 99) (kx : ∀ (un : Int32) (j : Nat) (f : Nat → Int32), J p l e ({ frames := 3, cells := 0, slots := 0, locals := 71 } : Room) s m args below meth c Q D A 3 [MB mo ad 0 0 0 0 0 0 0 (-1) 0 0 0 0 0 0 0 0 un (nI j) 1 0, (ad 43, .inl (y 0, 8, .inl (fun _ => 0))), (ad 62, .inl (y 0, 63, .inl (dayF (nI N)))), (ad 45, .inl (y 0, 14, .inl lakeF)), (ad 65, .inl (y 0, 1890, .inl f))] [(0, .ref mo), (1, .int (nI N)), (2, .int (nI N))] 0 0 48 []) : ∀ (n : Nat) (i : Nat) (un : Int32) (j : Nat) (f : Nat → Int32), (i + n = N) → (j < 30) → J p l e ({ frames := 3, cells := 0, slots := 0, locals := 71 } : Room) s m args below meth c Q D A 3 [MB mo ad 0 0 0 0 0 0 0 (-1) 0 0 0 0 0 0 0 0 un (nI j) 1 0, (ad 43, .inl (y 0, 8, .inl (fun _ => 0))), (ad 62, .inl (y 0, 63, .inl (dayF (nI i)))), (ad 45, .inl (y 0, 14, .inl lakeF)), (ad 65, .inl (y 0, 1890, .inl f))] [(0, .ref mo), (1, .int (nI N)), (2, .int (nI i))] 0 0 16 [] := by
  intro n
  induction n with
  | zero =>
    intro i un j f hi hj
    obtain rfl : i = N := by omega
    refine j_iload_n (pc := 16) C d_Model_rest_16 rfl 2 rfl ?_
    refine j_iload_n (pc := 17) C d_Model_rest_17 rfl 1 rfl ?_
    refine j_icmp_geT (pc := 18) C (tgt := 48) d_Model_rest_18 (by decide) (Int32.le_refl _) ?_
    exact kx un j f
  | succ n ih =>
    intro i un j f hi hj
    refine j_iload_n (pc := 16) C d_Model_rest_16 rfl 2 rfl ?_
    refine j_iload_n (pc := 17) C d_Model_rest_17 rfl 1 rfl ?_
    refine j_icmp_geF (pc := 18) C (tgt := 48) d_Model_rest_18 (by decide) (nI_ge (by omega) (by omega)) ?_
    refine j_aload_n (pc := 21) C d_Model_rest_21 rfl 0 rfl ?_
    refine j_get (pc := 22) C gf_Model_158 0 rfl rfl d_Model_rest_22 ?_
    refine j_iconst (pc := 25) C (v := 0) d_Model_rest_25 (by decide) ?_
    refine j_iald (pc := 26) C 2 rfl (v := nI i) (vin (by decide)) rfl d_Model_rest_26 ?_
    refine j_sipush (pc := 27) C (v := 999) d_Model_rest_27 (by decide) ?_
    refine j_icmp_geF (pc := 30) C (tgt := 48) d_Model_rest_30 (by decide) (show ¬ nI 999 ≤ nI i from nI_ge (by omega) (by decide)) ?_
    refine j_aload_n (pc := 33) C d_Model_rest_33 rfl 0 rfl ?_
    refine j_callVv (pc := 34) C (c_M_keepsDay l D y mo ad un 1 (dayF (nI i)) j f hj) kw_Model_482 kv_Model_keepsDay 0 10 rfl rfl ⟨by decide, by decide⟩ ⟨by decide, by decide⟩ (wr := [(ad 43, .inl (y 0, 8, .inl (fun _ => 0))), (ad 45, .inl (y 0, 14, .inl lakeF))]) [0, 2, 4] [1, 3] rfl rfl (by decide) (by decide) (by decide) (As := []) (rest := []) rfl (nb rfl) rfl d_Model_rest_34 (fun u1 _ => ?_)
    refine j_ws (ws' := [(ad 43, .inl (y 0, 8, .inl (fun _ => 0))), (ad 45, .inl (y 0, 14, .inl lakeF)), MB mo ad 0 0 0 0 0 0 0 (-1) 0 0 0 0 0 0 0 0 u1.1 (nI ((j + 1) % 30)) 1 0, (ad 62, .inl (y 0, 63, .inl (dayF (nI i)))), (ad 65, .inl (y 0, 1890, .inl u1.2))]) rfl ?_
    refine j_aload_n (pc := 37) C d_Model_rest_37 rfl 0 rfl ?_
    refine j_iconst (pc := 38) C (v := 0) d_Model_rest_38 (by decide) ?_
    refine j_callVv (pc := 39) C (c_M_goesBy l D y mo ad u1.1 (nI ((j + 1) % 30)) 1 (nI i)) kw_Model_488 kv_Model_goesBy 0 10 rfl rfl ⟨by decide, by decide⟩ ⟨by decide, by decide⟩ (wr := [(ad 65, .inl (y 0, 1890, .inl u1.2))]) [2, 0, 3, 1] [4] rfl rfl (by decide) (by decide) (by decide) (As := [.int 0]) (rest := []) rfl (nb rfl) rfl d_Model_rest_39 (fun _ _ => ?_)
    refine j_ws (ws' := [(ad 65, .inl (y 0, 1890, .inl u1.2)), MB mo ad 0 0 0 0 0 0 0 (-1) 0 0 0 0 0 0 0 0 u1.1 (nI ((j + 1) % 30)) 1 0, (ad 43, .inl (y 0, 8, .inl (fun _ => 0))), (ad 62, .inl (y 0, 63, .inl (dayF ((nI i) + 1)))), (ad 45, .inl (y 0, 14, .inl lakeF))]) rfl ?_
    refine j_ws (ws' := [(ad 65, .inl (y 0, 1890, .inl u1.2)), MB mo ad 0 0 0 0 0 0 0 (-1) 0 0 0 0 0 0 0 0 u1.1 (nI ((j + 1) % 30)) 1 0, (ad 43, .inl (y 0, 8, .inl (fun _ => 0))), (ad 62, .inl (y 0, 63, .inl (dayF (nI (i + 1))))), (ad 45, .inl (y 0, 14, .inl lakeF))]) (by rw [nI_1]) ?_
    refine j_iinc (pc := 42) C (v := nI (i + 1)) (lv' := [(2, .int (nI (i + 1))), (0, .ref mo), (1, .int (nI N))]) d_Model_rest_42 2 rfl (nI_1 _) (by decide) rfl ?_
    refine j_goto (pc := 45) C (tgt := 16) d_Model_rest_45 (by decide) ?_
    refine j_sub (ws' := [MB mo ad 0 0 0 0 0 0 0 (-1) 0 0 0 0 0 0 0 0 u1.1 (nI ((j + 1) % 30)) 1 0, (ad 43, .inl (y 0, 8, .inl (fun _ => 0))), (ad 62, .inl (y 0, 63, .inl (dayF (nI (i + 1))))), (ad 45, .inl (y 0, 14, .inl lakeF)), (ad 65, .inl (y 0, 1890, .inl u1.2))]) [1, 2, 3, 4, 0] rfl (by decide) ?_
    refine j_locs (lv' := [(0, .ref mo), (1, .int (nI N)), (2, .int (nI (i + 1)))]) [1, 2, 0] rfl ?_
    exact ih (i + 1) _ ((j + 1) % 30) _ (by omega) (Nat.mod_lt _ (by decide))
set_option maxHeartbeats 4000000 in
set_option maxRecDepth 100000 in
theorem c_M_rest (l : Launch) (D : va_G) (y : Nat → ClassId) (mo : Nat) (ad : Nat → Nat) (n : Int32) (f : Nat → Int32)  : CT l D y ⟨"NineBoardsModel", "rest", "(I)I"⟩ prog_13_method_82_code 3 (some .int) ({ frames := 3, cells := 0, slots := 0, locals := 71 } : Room) [.ref mo, .int n] [MB mo ad 0 0 0 0 0 0 0 (-1) 0 0 0 0 0 0 0 0 0 (nI 0) 1 0, (ad 43, .inl (y 0, 8, .inl (fun _ => 0))), (ad 62, .inl (y 0, 63, .inl (dayF 0))), (ad 45, .inl (y 0, 14, .inl lakeF)), (ad 65, .inl (y 0, 1890, .inl f))] (QI D [MB mo ad 0 0 0 0 0 0 0 (-1) 0 0 0 0 0 0 0 0 0 (nI 0) 1 0, (ad 43, .inl (y 0, 8, .inl (fun _ => 0))), (ad 62, .inl (y 0, 63, .inl (dayF 0))), (ad 45, .inl (y 0, 14, .inl lakeF)), (ad 65, .inl (y 0, 1890, .inl f))] (fun (r : Int32) (_ : Unit) => r = if 1 ≤ n.toInt ∧ n.toInt ≤ 99 then n else -1) (fun _ => [])) := by
  refine CT.of (by decide) (nb rfl) ?_
  intro p e s m args below meth c C hr
  refine j_lv (lv' := [(0, .ref mo), (1, .int n)]) rfl ?_
  refine j_iload_n (pc := 0) C d_Model_rest_0 rfl 1 rfl ?_
  refine j_i2l (pc := 1) C (v := n.toInt64) d_Model_rest_1 rfl ?_
  refine j_lconst (pc := 2) C (v := 1) d_Model_rest_2 (by decide) ?_
  refine j_ldc2 (pc := 3) C (v := 99) (mt_7 (List.mem_of_getElem? (i := 171) rfl) rfl) d_Model_rest_3 ?_
  refine j_callSi (pc := 6) C (c_isIn_x l D y n 1 99 1 99 (by decide) (by decide)) kw_Model_240 ks_Model_isIn ⟨by decide, by decide⟩ ⟨by decide, by decide⟩ (wr := [MB mo ad 0 0 0 0 0 0 0 (-1) 0 0 0 0 0 0 0 0 0 (nI 0) 1 0, (ad 43, .inl (y 0, 8, .inl (fun _ => 0))), (ad 62, .inl (y 0, 63, .inl (dayF 0))), (ad 45, .inl (y 0, 14, .inl lakeF)), (ad 65, .inl (y 0, 1890, .inl f))]) [] [0, 1, 2, 3, 4] rfl rfl (by decide) (by decide) (by decide) (As := [.long n.toInt64, .long 1, .long 99]) (rest := []) rfl (nb rfl) rfl d_Model_rest_6 (fun r1 _ hr1 => ?_)
  refine j_ws (ws' := [MB mo ad 0 0 0 0 0 0 0 (-1) 0 0 0 0 0 0 0 0 0 (nI 0) 1 0, (ad 43, .inl (y 0, 8, .inl (fun _ => 0))), (ad 62, .inl (y 0, 63, .inl (dayF 0))), (ad 45, .inl (y 0, 14, .inl lakeF)), (ad 65, .inl (y 0, 1890, .inl f))]) rfl ?_
  by_cases g2 : 1 ≤ n.toInt ∧ n.toInt ≤ 99
  · rw [if_pos g2] at hr1
    subst hr1
    refine j_if_neT (pc := 9) C (tgt := 14) d_Model_rest_9 (by decide) (by decide) ?_
    refine j_iconst (pc := 14) C (v := 0) d_Model_rest_14 (by decide) ?_
    refine j_istore_n (pc := 15) C (lv' := [(2, .int 0), (0, .ref mo), (1, .int n)]) d_Model_rest_15 rfl (by decide) rfl ?_
    obtain ⟨N, hN, rfl⟩ := nI_ofT (x := n) (n := 99) (by omega) (by omega) (by decide)
    refine j_locs (lv' := [(0, .ref mo), (1, .int (nI N)), (2, .int 0)]) [1, 2, 0] rfl ?_
    refine j_lv (lv' := [(0, .ref mo), (1, .int (nI N)), (2, .int (nI 0))]) rfl ?_
    refine j_ws (ws' := [MB mo ad 0 0 0 0 0 0 0 (-1) 0 0 0 0 0 0 0 0 0 (nI 0) 1 0, (ad 43, .inl (y 0, 8, .inl (fun _ => 0))), (ad 62, .inl (y 0, 63, .inl (dayF (nI 0)))), (ad 45, .inl (y 0, 14, .inl lakeF)), (ad 65, .inl (y 0, 1890, .inl f))]) rfl ?_
    refine lp_M_rest C mo ad N hN (fun un j f => ?_) N 0 0 0 f (by omega) (by decide)
    refine j_iload_n (pc := 48) C d_Model_rest_48 rfl 2 rfl ?_
    exact j_iret (pc := 49) C hr rfl () (by (first | rw [if_pos (by omega)] | rw [if_neg (by omega)])) [] rfl (by decide) (by decide) (by decide) d_Model_rest_49
  · rw [if_neg g2] at hr1
    subst hr1
    refine j_if_neF (pc := 9) C (tgt := 14) d_Model_rest_9 (by decide) (by decide) ?_
    refine j_iconst (pc := 12) C (v := (-1)) d_Model_rest_12 (by decide) ?_
    exact j_iret (pc := 13) C hr rfl () (by (first | rw [if_pos (by omega)] | rw [if_neg (by omega)])) [] rfl (by decide) (by decide) (by decide) d_Model_rest_13
theorem d_Model_until_9 : decode prog_13_method_107_code 9 = .ok (.iload 4, 2) := by decide +kernel
theorem d_Model_until_11 : decode prog_13_method_107_code 11 = .ok (.bipush 100, 2) := by decide +kernel
theorem d_Model_until_13 : decode prog_13_method_107_code 13 = .ok (.if_icmp .ge 71, 3) := by decide +kernel
theorem d_Model_until_16 : decode prog_13_method_107_code 16 = .ok (.iload_n 3, 1) := by decide +kernel
theorem d_Model_until_17 : decode prog_13_method_107_code 17 = .ok (.iconst (-1), 1) := by decide +kernel
theorem d_Model_until_18 : decode prog_13_method_107_code 18 = .ok (.if_icmp .ne 66, 3) := by decide +kernel
theorem d_Model_until_21 : decode prog_13_method_107_code 21 = .ok (.iload_n 2, 1) := by decide +kernel
theorem d_Model_until_22 : decode prog_13_method_107_code 22 = .ok (.ifCond .eq 14, 3) := by decide +kernel
theorem d_Model_until_25 : decode prog_13_method_107_code 25 = .ok (.aload_n 0, 1) := by decide +kernel
theorem d_Model_until_26 : decode prog_13_method_107_code 26 = .ok (.invokevirtual 427, 3) := by decide +kernel
theorem d_Model_until_29 : decode prog_13_method_107_code 29 = .ok (.iload_n 1, 1) := by decide +kernel
theorem d_Model_until_30 : decode prog_13_method_107_code 30 = .ok (.if_icmp .le 24, 3) := by decide +kernel
theorem d_Model_until_54 : decode prog_13_method_107_code 54 = .ok (.aload_n 0, 1) := by decide +kernel
theorem d_Model_until_55 : decode prog_13_method_107_code 55 = .ok (.getfield 158, 3) := by decide +kernel
theorem d_Model_until_58 : decode prog_13_method_107_code 58 = .ok (.iconst 0, 1) := by decide +kernel
theorem d_Model_until_59 : decode prog_13_method_107_code 59 = .ok (.iaload, 1) := by decide +kernel
theorem d_Model_until_60 : decode prog_13_method_107_code 60 = .ok (.sipush 999, 3) := by decide +kernel
theorem d_Model_until_63 : decode prog_13_method_107_code 63 = .ok (.if_icmp .ne 10, 3) := by decide +kernel
theorem d_Model_until_73 : decode prog_13_method_107_code 73 = .ok (.aload_n 0, 1) := by decide +kernel
theorem d_Model_until_74 : decode prog_13_method_107_code 74 = .ok (.iconst 0, 1) := by decide +kernel
theorem d_Model_until_75 : decode prog_13_method_107_code 75 = .ok (.invokevirtual 488, 3) := by decide +kernel
theorem d_Model_until_78 : decode prog_13_method_107_code 78 = .ok (.iinc 4 1, 3) := by decide +kernel
theorem d_Model_until_81 : decode prog_13_method_107_code 81 = .ok (.goto (-72), 3) := by decide +kernel
theorem d_Model_until_36 : decode prog_13_method_107_code 36 = .ok (.aload_n 0, 1) := by decide +kernel
theorem d_Model_until_37 : decode prog_13_method_107_code 37 = .ok (.invokevirtual 427, 3) := by decide +kernel
theorem d_Model_until_40 : decode prog_13_method_107_code 40 = .ok (.iload_n 1, 1) := by decide +kernel
theorem d_Model_until_41 : decode prog_13_method_107_code 41 = .ok (.if_icmp .ge 13, 3) := by decide +kernel
theorem d_Model_until_0 : decode prog_13_method_107_code 0 = .ok (.iconst (-1), 1) := by decide +kernel
theorem d_Model_until_1 : decode prog_13_method_107_code 1 = .ok (.istore_n 3, 1) := by decide +kernel
theorem d_Model_until_2 : decode prog_13_method_107_code 2 = .ok (.aload_n 0, 1) := by decide +kernel
theorem d_Model_until_3 : decode prog_13_method_107_code 3 = .ok (.invokevirtual 510, 3) := by decide +kernel
theorem kw_Model_510 : KW "NineBoardsModel" 510 ⟨"NineBoardsModel", "putsAside", "()V"⟩ prog_13_method_70_code 2 none 0 := ⟨(mt_7 (List.mem_of_getElem? (i := 194) rfl) rfl), (mt_1 (List.mem_of_getElem? (i := 16) rfl) rfl), (mt_7 (List.mem_of_getElem? (i := 197) rfl) rfl), by decide +kernel⟩
theorem kv_Model_putsAside : Cond.instanceMethod ⟨"NineBoardsModel", "putsAside", "()V"⟩ ∈ TB ∧ Cond.selects "NineBoardsModel" ⟨"NineBoardsModel", "putsAside", "()V"⟩ ⟨"NineBoardsModel", "putsAside", "()V"⟩ ∈ TB := ⟨(mt_7 (List.mem_of_getElem? (i := 196) rfl) rfl), (ms_0 (List.mem_map.mpr ⟨(⟨"NineBoardsModel", "putsAside", "()V"⟩, 79), List.mem_of_getElem? (i := 112) (by decide +kernel), rfl⟩) rfl)⟩
theorem d_Model_until_6 : decode prog_13_method_107_code 6 = .ok (.iconst 0, 1) := by decide +kernel
theorem d_Model_until_7 : decode prog_13_method_107_code 7 = .ok (.istore 4, 2) := by decide +kernel
theorem d_Model_until_84 : decode prog_13_method_107_code 84 = .ok (.aload_n 0, 1) := by decide +kernel
theorem d_Model_until_85 : decode prog_13_method_107_code 85 = .ok (.invokevirtual 495, 3) := by decide +kernel
theorem kw_Model_495 : KW "NineBoardsModel" 495 ⟨"NineBoardsModel", "takesBack", "()V"⟩ prog_13_method_71_code 2 none 0 := ⟨(mt_7 (List.mem_of_getElem? (i := 210) rfl) rfl), (mt_1 (List.mem_of_getElem? (i := 16) rfl) rfl), (mt_7 (List.mem_of_getElem? (i := 213) rfl) rfl), by decide +kernel⟩
theorem kv_Model_takesBack : Cond.instanceMethod ⟨"NineBoardsModel", "takesBack", "()V"⟩ ∈ TB ∧ Cond.selects "NineBoardsModel" ⟨"NineBoardsModel", "takesBack", "()V"⟩ ⟨"NineBoardsModel", "takesBack", "()V"⟩ ∈ TB := ⟨(mt_7 (List.mem_of_getElem? (i := 212) rfl) rfl), (ms_0 (List.mem_map.mpr ⟨(⟨"NineBoardsModel", "takesBack", "()V"⟩, 79), List.mem_of_getElem? (i := 116) (by decide +kernel), rfl⟩) rfl)⟩
theorem d_Model_until_88 : decode prog_13_method_107_code 88 = .ok (.iload_n 3, 1) := by decide +kernel
theorem d_Model_until_89 : decode prog_13_method_107_code 89 = .ok (.ireturn, 1) := by decide +kernel
theorem d_Model_until_44 : decode prog_13_method_107_code 44 = .ok (.aload_n 0, 1) := by decide +kernel
theorem d_Model_until_45 : decode prog_13_method_107_code 45 = .ok (.getfield 158, 3) := by decide +kernel
theorem d_Model_until_48 : decode prog_13_method_107_code 48 = .ok (.iconst 0, 1) := by decide +kernel
theorem d_Model_until_49 : decode prog_13_method_107_code 49 = .ok (.iaload, 1) := by decide +kernel
theorem d_Model_until_50 : decode prog_13_method_107_code 50 = .ok (.istore_n 3, 1) := by decide +kernel
theorem d_Model_until_51 : decode prog_13_method_107_code 51 = .ok (.goto 27, 3) := by decide +kernel
theorem d_Model_until_33 : decode prog_13_method_107_code 33 = .ok (.goto 11, 3) := by decide +kernel
set_option maxHeartbeats 4000000 in
set_option maxRecDepth 100000 in
theorem lp_M_untilA {p : Program} {l : Launch} {e : Env} {s : State} {m : MethodId} {args : Array Value} {below : List Frame} {meth : Method} {c : Code} {Q : State → Prop} {D : va_G} {y : Nat → ClassId} {A : Nat → Prop} (C : Cx p s m args meth c D y A prog_13_method_107_code 5 "NineBoardsModel" "until") (mo : Nat) (ad : Nat → Nat) (va : Int32) (vb : Int32) (h1 : ¬ vb = 0) (h2 : 0 ≤ va) (kx : J p l e ({ frames := 3, cells := 0, slots := 0, locals := 71 } : Room) s m args below meth c Q D A 5 [MB mo ad 0 0 0 0 0 0 0 (-1) 0 0 0 0 0 0 0 0 0 0 1 0, (ad 43, .inl (y 0, 8, .inl (fun _ => 0))), (ad 62, .inl (y 0, 63, .inl (dayF (nI 100)))), (ad 45, .inl (y 0, 14, .inl lakeF)), (ad 68, .inl (y 0, 63, .inl (dayF 0)))] [(0, .ref mo), (1, .int va), (2, .int vb), (3, .int (-1)), (4, .int (nI 100))] 0 0 84 []) : ∀ (n : Nat) (i : Nat), (i + n = 100) → J p l e ({ frames := 3, cells := 0, slots := 0, locals := 71 } : Room) s m args below meth c Q D A 5 [MB mo ad 0 0 0 0 0 0 0 (-1) 0 0 0 0 0 0 0 0 0 0 1 0, (ad 43, .inl (y 0, 8, .inl (fun _ => 0))), (ad 62, .inl (y 0, 63, .inl (dayF (nI i)))), (ad 45, .inl (y 0, 14, .inl lakeF)), (ad 68, .inl (y 0, 63, .inl (dayF 0)))] [(0, .ref mo), (1, .int va), (2, .int vb), (3, .int (-1)), (4, .int (nI i))] 0 0 9 [] := by
  intro n
  induction n with
  | zero =>
    intro i hi
    obtain rfl : i = 100 := by omega
    refine j_iload (pc := 9) C d_Model_until_9 4 rfl ?_
    refine j_bipush (pc := 11) C (v := 100) d_Model_until_11 (by decide) ?_
    refine j_icmp_geT (pc := 13) C (tgt := 84) d_Model_until_13 (by decide) (by decide) ?_
    exact kx
  | succ n ih =>
    intro i hi
    refine j_iload (pc := 9) C d_Model_until_9 4 rfl ?_
    refine j_bipush (pc := 11) C (v := 100) d_Model_until_11 (by decide) ?_
    refine j_icmp_geF (pc := 13) C (tgt := 84) d_Model_until_13 (by decide) (show ¬ nI 100 ≤ nI i from nI_ge (by omega) (by decide)) ?_
    refine j_iload_n (pc := 16) C d_Model_until_16 rfl 3 rfl ?_
    refine j_iconst (pc := 17) C (v := (-1)) d_Model_until_17 (by decide) ?_
    refine j_icmp_neF (pc := 18) C (tgt := 84) d_Model_until_18 (by decide) (by decide) ?_
    refine j_iload_n (pc := 21) C d_Model_until_21 rfl 2 rfl ?_
    refine j_if_eqF (pc := 22) C (tgt := 36) d_Model_until_22 (by decide) h1 ?_
    refine j_aload_n (pc := 25) C d_Model_until_25 rfl 0 rfl ?_
    refine j_callVi (pc := 26) C (c_M_level l D y mo ad 0 0 1 (nI i)) kw_Model_427 kv_Model_level 0 10 rfl rfl ⟨by decide, by decide⟩ ⟨by decide, by decide⟩ (wr := [(ad 43, .inl (y 0, 8, .inl (fun _ => 0))), (ad 68, .inl (y 0, 63, .inl (dayF 0)))]) [0, 2, 3] [1, 4] rfl rfl (by decide) (by decide) (by decide) (As := []) (rest := []) rfl (nb rfl) rfl d_Model_until_26 (fun r1 _ hr1 => ?_)
    subst hr1
    refine j_ws (ws' := [(ad 43, .inl (y 0, 8, .inl (fun _ => 0))), (ad 68, .inl (y 0, 63, .inl (dayF 0))), MB mo ad 0 0 0 0 0 0 0 (-1) 0 0 0 0 0 0 0 0 0 0 1 0, (ad 62, .inl (y 0, 63, .inl (dayF (nI i)))), (ad 45, .inl (y 0, 14, .inl lakeF))]) rfl ?_
    refine j_st (st' := [.int 0]) rfl ?_
    refine j_iload_n (pc := 29) C d_Model_until_29 rfl 1 rfl ?_
    refine j_icmp_leT (pc := 30) C (tgt := 54) d_Model_until_30 (by decide) h2 ?_
    refine j_aload_n (pc := 54) C d_Model_until_54 rfl 0 rfl ?_
    refine j_get (pc := 55) C gf_Model_158 2 rfl rfl d_Model_until_55 ?_
    refine j_iconst (pc := 58) C (v := 0) d_Model_until_58 (by decide) ?_
    refine j_iald (pc := 59) C 3 rfl (v := nI i) (vin (by decide)) rfl d_Model_until_59 ?_
    refine j_sipush (pc := 60) C (v := 999) d_Model_until_60 (by decide) ?_
    refine j_icmp_neT (pc := 63) C (tgt := 73) d_Model_until_63 (by decide) (show ¬ nI i = nI 999 from fun e => absurd ((nI_eq (by omega) (by decide)).mp e) (by omega)) ?_
    refine j_aload_n (pc := 73) C d_Model_until_73 rfl 0 rfl ?_
    refine j_iconst (pc := 74) C (v := 0) d_Model_until_74 (by decide) ?_
    refine j_callVv (pc := 75) C (c_M_goesBy l D y mo ad 0 0 1 (nI i)) kw_Model_488 kv_Model_goesBy 0 10 rfl rfl ⟨by decide, by decide⟩ ⟨by decide, by decide⟩ (wr := [(ad 68, .inl (y 0, 63, .inl (dayF 0)))]) [2, 0, 3, 4] [1] rfl rfl (by decide) (by decide) (by decide) (As := [.int 0]) (rest := []) rfl (nb rfl) rfl d_Model_until_75 (fun _ _ => ?_)
    refine j_ws (ws' := [(ad 68, .inl (y 0, 63, .inl (dayF 0))), MB mo ad 0 0 0 0 0 0 0 (-1) 0 0 0 0 0 0 0 0 0 0 1 0, (ad 43, .inl (y 0, 8, .inl (fun _ => 0))), (ad 62, .inl (y 0, 63, .inl (dayF ((nI i) + 1)))), (ad 45, .inl (y 0, 14, .inl lakeF))]) rfl ?_
    refine j_ws (ws' := [(ad 68, .inl (y 0, 63, .inl (dayF 0))), MB mo ad 0 0 0 0 0 0 0 (-1) 0 0 0 0 0 0 0 0 0 0 1 0, (ad 43, .inl (y 0, 8, .inl (fun _ => 0))), (ad 62, .inl (y 0, 63, .inl (dayF (nI (i + 1))))), (ad 45, .inl (y 0, 14, .inl lakeF))]) (by rw [nI_1]) ?_
    refine j_iinc (pc := 78) C (v := nI (i + 1)) (lv' := [(4, .int (nI (i + 1))), (0, .ref mo), (1, .int va), (2, .int vb), (3, .int (-1))]) d_Model_until_78 4 rfl (nI_1 _) (by decide) rfl ?_
    refine j_goto (pc := 81) C (tgt := 9) d_Model_until_81 (by decide) ?_
    refine j_sub (ws' := [MB mo ad 0 0 0 0 0 0 0 (-1) 0 0 0 0 0 0 0 0 0 0 1 0, (ad 43, .inl (y 0, 8, .inl (fun _ => 0))), (ad 62, .inl (y 0, 63, .inl (dayF (nI (i + 1))))), (ad 45, .inl (y 0, 14, .inl lakeF)), (ad 68, .inl (y 0, 63, .inl (dayF 0)))]) [1, 2, 3, 4, 0] rfl (by decide) ?_
    refine j_locs (lv' := [(0, .ref mo), (1, .int va), (2, .int vb), (3, .int (-1)), (4, .int (nI (i + 1)))]) [1, 2, 3, 4, 0] rfl ?_
    exact ih (i + 1) (by omega)
set_option maxHeartbeats 4000000 in
set_option maxRecDepth 100000 in
theorem lp_M_untilB {p : Program} {l : Launch} {e : Env} {s : State} {m : MethodId} {args : Array Value} {below : List Frame} {meth : Method} {c : Code} {Q : State → Prop} {D : va_G} {y : Nat → ClassId} {A : Nat → Prop} (C : Cx p s m args meth c D y A prog_13_method_107_code 5 "NineBoardsModel" "until") (mo : Nat) (ad : Nat → Nat) (va : Int32) (vb : Int32) (h1 : vb = 0) (h2 : va ≤ 0) (kx : J p l e ({ frames := 3, cells := 0, slots := 0, locals := 71 } : Room) s m args below meth c Q D A 5 [MB mo ad 0 0 0 0 0 0 0 (-1) 0 0 0 0 0 0 0 0 0 0 1 0, (ad 43, .inl (y 0, 8, .inl (fun _ => 0))), (ad 62, .inl (y 0, 63, .inl (dayF (nI 100)))), (ad 45, .inl (y 0, 14, .inl lakeF)), (ad 68, .inl (y 0, 63, .inl (dayF 0)))] [(0, .ref mo), (1, .int va), (2, .int vb), (3, .int (-1)), (4, .int (nI 100))] 0 0 84 []) : ∀ (n : Nat) (i : Nat), (i + n = 100) → J p l e ({ frames := 3, cells := 0, slots := 0, locals := 71 } : Room) s m args below meth c Q D A 5 [MB mo ad 0 0 0 0 0 0 0 (-1) 0 0 0 0 0 0 0 0 0 0 1 0, (ad 43, .inl (y 0, 8, .inl (fun _ => 0))), (ad 62, .inl (y 0, 63, .inl (dayF (nI i)))), (ad 45, .inl (y 0, 14, .inl lakeF)), (ad 68, .inl (y 0, 63, .inl (dayF 0)))] [(0, .ref mo), (1, .int va), (2, .int vb), (3, .int (-1)), (4, .int (nI i))] 0 0 9 [] := by
  intro n
  induction n with
  | zero =>
    intro i hi
    obtain rfl : i = 100 := by omega
    refine j_iload (pc := 9) C d_Model_until_9 4 rfl ?_
    refine j_bipush (pc := 11) C (v := 100) d_Model_until_11 (by decide) ?_
    refine j_icmp_geT (pc := 13) C (tgt := 84) d_Model_until_13 (by decide) (by decide) ?_
    exact kx
  | succ n ih =>
    intro i hi
    refine j_iload (pc := 9) C d_Model_until_9 4 rfl ?_
    refine j_bipush (pc := 11) C (v := 100) d_Model_until_11 (by decide) ?_
    refine j_icmp_geF (pc := 13) C (tgt := 84) d_Model_until_13 (by decide) (show ¬ nI 100 ≤ nI i from nI_ge (by omega) (by decide)) ?_
    refine j_iload_n (pc := 16) C d_Model_until_16 rfl 3 rfl ?_
    refine j_iconst (pc := 17) C (v := (-1)) d_Model_until_17 (by decide) ?_
    refine j_icmp_neF (pc := 18) C (tgt := 84) d_Model_until_18 (by decide) (by decide) ?_
    refine j_iload_n (pc := 21) C d_Model_until_21 rfl 2 rfl ?_
    refine j_if_eqT (pc := 22) C (tgt := 36) d_Model_until_22 (by decide) h1 ?_
    refine j_aload_n (pc := 36) C d_Model_until_36 rfl 0 rfl ?_
    refine j_callVi (pc := 37) C (c_M_level l D y mo ad 0 0 1 (nI i)) kw_Model_427 kv_Model_level 0 10 rfl rfl ⟨by decide, by decide⟩ ⟨by decide, by decide⟩ (wr := [(ad 43, .inl (y 0, 8, .inl (fun _ => 0))), (ad 68, .inl (y 0, 63, .inl (dayF 0)))]) [0, 2, 3] [1, 4] rfl rfl (by decide) (by decide) (by decide) (As := []) (rest := []) rfl (nb rfl) rfl d_Model_until_37 (fun r1 _ hr1 => ?_)
    subst hr1
    refine j_ws (ws' := [(ad 43, .inl (y 0, 8, .inl (fun _ => 0))), (ad 68, .inl (y 0, 63, .inl (dayF 0))), MB mo ad 0 0 0 0 0 0 0 (-1) 0 0 0 0 0 0 0 0 0 0 1 0, (ad 62, .inl (y 0, 63, .inl (dayF (nI i)))), (ad 45, .inl (y 0, 14, .inl lakeF))]) rfl ?_
    refine j_st (st' := [.int 0]) rfl ?_
    refine j_iload_n (pc := 40) C d_Model_until_40 rfl 1 rfl ?_
    refine j_icmp_geT (pc := 41) C (tgt := 54) d_Model_until_41 (by decide) h2 ?_
    refine j_aload_n (pc := 54) C d_Model_until_54 rfl 0 rfl ?_
    refine j_get (pc := 55) C gf_Model_158 2 rfl rfl d_Model_until_55 ?_
    refine j_iconst (pc := 58) C (v := 0) d_Model_until_58 (by decide) ?_
    refine j_iald (pc := 59) C 3 rfl (v := nI i) (vin (by decide)) rfl d_Model_until_59 ?_
    refine j_sipush (pc := 60) C (v := 999) d_Model_until_60 (by decide) ?_
    refine j_icmp_neT (pc := 63) C (tgt := 73) d_Model_until_63 (by decide) (show ¬ nI i = nI 999 from fun e => absurd ((nI_eq (by omega) (by decide)).mp e) (by omega)) ?_
    refine j_aload_n (pc := 73) C d_Model_until_73 rfl 0 rfl ?_
    refine j_iconst (pc := 74) C (v := 0) d_Model_until_74 (by decide) ?_
    refine j_callVv (pc := 75) C (c_M_goesBy l D y mo ad 0 0 1 (nI i)) kw_Model_488 kv_Model_goesBy 0 10 rfl rfl ⟨by decide, by decide⟩ ⟨by decide, by decide⟩ (wr := [(ad 68, .inl (y 0, 63, .inl (dayF 0)))]) [2, 0, 3, 4] [1] rfl rfl (by decide) (by decide) (by decide) (As := [.int 0]) (rest := []) rfl (nb rfl) rfl d_Model_until_75 (fun _ _ => ?_)
    refine j_ws (ws' := [(ad 68, .inl (y 0, 63, .inl (dayF 0))), MB mo ad 0 0 0 0 0 0 0 (-1) 0 0 0 0 0 0 0 0 0 0 1 0, (ad 43, .inl (y 0, 8, .inl (fun _ => 0))), (ad 62, .inl (y 0, 63, .inl (dayF ((nI i) + 1)))), (ad 45, .inl (y 0, 14, .inl lakeF))]) rfl ?_
    refine j_ws (ws' := [(ad 68, .inl (y 0, 63, .inl (dayF 0))), MB mo ad 0 0 0 0 0 0 0 (-1) 0 0 0 0 0 0 0 0 0 0 1 0, (ad 43, .inl (y 0, 8, .inl (fun _ => 0))), (ad 62, .inl (y 0, 63, .inl (dayF (nI (i + 1))))), (ad 45, .inl (y 0, 14, .inl lakeF))]) (by rw [nI_1]) ?_
    refine j_iinc (pc := 78) C (v := nI (i + 1)) (lv' := [(4, .int (nI (i + 1))), (0, .ref mo), (1, .int va), (2, .int vb), (3, .int (-1))]) d_Model_until_78 4 rfl (nI_1 _) (by decide) rfl ?_
    refine j_goto (pc := 81) C (tgt := 9) d_Model_until_81 (by decide) ?_
    refine j_sub (ws' := [MB mo ad 0 0 0 0 0 0 0 (-1) 0 0 0 0 0 0 0 0 0 0 1 0, (ad 43, .inl (y 0, 8, .inl (fun _ => 0))), (ad 62, .inl (y 0, 63, .inl (dayF (nI (i + 1))))), (ad 45, .inl (y 0, 14, .inl lakeF)), (ad 68, .inl (y 0, 63, .inl (dayF 0)))]) [1, 2, 3, 4, 0] rfl (by decide) ?_
    refine j_locs (lv' := [(0, .ref mo), (1, .int va), (2, .int vb), (3, .int (-1)), (4, .int (nI (i + 1)))]) [1, 2, 3, 4, 0] rfl ?_
    exact ih (i + 1) (by omega)
set_option maxHeartbeats 4000000 in
set_option maxRecDepth 100000 in
theorem c_M_until (l : Launch) (D : va_G) (y : Nat → ClassId) (mo : Nat) (ad : Nat → Nat) (va : Int32) (vb : Int32) (f : Nat → Int32)  : CT l D y ⟨"NineBoardsModel", "until", "(IZ)I"⟩ prog_13_method_107_code 5 (some .int) ({ frames := 3, cells := 0, slots := 0, locals := 71 } : Room) [.ref mo, .int va, .int vb] [MB mo ad 0 0 0 0 0 0 0 (-1) 0 0 0 0 0 0 0 0 0 0 1 0, (ad 43, .inl (y 0, 8, .inl (fun _ => 0))), (ad 62, .inl (y 0, 63, .inl (dayF 0))), (ad 45, .inl (y 0, 14, .inl lakeF)), (ad 68, .inl (y 0, 63, .inl f))] (QI D [MB mo ad 0 0 0 0 0 0 0 (-1) 0 0 0 0 0 0 0 0 0 0 1 0, (ad 43, .inl (y 0, 8, .inl (fun _ => 0))), (ad 62, .inl (y 0, 63, .inl (dayF 0))), (ad 45, .inl (y 0, 14, .inl lakeF)), (ad 68, .inl (y 0, 63, .inl f))] (fun (r : Int32) (_ : Unit) => r = if (vb.toInt ≠ 0 ∧ va.toInt < 0) ∨ (vb.toInt = 0 ∧ 0 < va.toInt) then 0 else -1) (fun _ => [])) := by
  refine CT.of (by decide) (nb rfl) ?_
  intro p e s m args below meth c C hr
  refine j_lv (lv' := [(0, .ref mo), (1, .int va), (2, .int vb)]) rfl ?_
  refine j_iconst (pc := 0) C (v := (-1)) d_Model_until_0 (by decide) ?_
  refine j_istore_n (pc := 1) C (lv' := [(3, .int (-1)), (0, .ref mo), (1, .int va), (2, .int vb)]) d_Model_until_1 rfl (by decide) rfl ?_
  refine j_aload_n (pc := 2) C d_Model_until_2 rfl 1 rfl ?_
  refine j_callVv (pc := 3) C (c_M_putsAside l D y mo ad 0 0 1 f (dayF 0)) kw_Model_510 kv_Model_putsAside 0 10 rfl rfl ⟨by decide, by decide⟩ ⟨by decide, by decide⟩ (wr := [(ad 43, .inl (y 0, 8, .inl (fun _ => 0))), (ad 45, .inl (y 0, 14, .inl lakeF))]) [0, 4, 2] [1, 3] rfl rfl (by decide) (by decide) (by decide) (As := []) (rest := []) rfl (nb rfl) rfl d_Model_until_3 (fun _ _ => ?_)
  refine j_ws (ws' := [(ad 43, .inl (y 0, 8, .inl (fun _ => 0))), (ad 45, .inl (y 0, 14, .inl lakeF)), MB mo ad 0 0 0 0 0 0 0 (-1) 0 0 0 0 0 0 0 0 0 0 1 0, (ad 68, .inl (y 0, 63, .inl (dayF 0))), (ad 62, .inl (y 0, 63, .inl (dayF 0)))]) rfl ?_
  refine j_iconst (pc := 6) C (v := 0) d_Model_until_6 (by decide) ?_
  refine j_istore (pc := 7) C (lv' := [(4, .int 0), (3, .int (-1)), (0, .ref mo), (1, .int va), (2, .int vb)]) d_Model_until_7 (by decide) rfl ?_
  refine j_iload (pc := 9) C d_Model_until_9 0 rfl ?_
  refine j_bipush (pc := 11) C (v := 100) d_Model_until_11 (by decide) ?_
  refine j_icmp_geF (pc := 13) C (tgt := 84) d_Model_until_13 (by decide) (by decide) ?_
  refine j_iload_n (pc := 16) C d_Model_until_16 rfl 1 rfl ?_
  refine j_iconst (pc := 17) C (v := (-1)) d_Model_until_17 (by decide) ?_
  refine j_icmp_neF (pc := 18) C (tgt := 84) d_Model_until_18 (by decide) (by decide) ?_
  refine j_iload_n (pc := 21) C d_Model_until_21 rfl 4 rfl ?_
  refine j_if_eq (pc := 22) C (tgt := 36) d_Model_until_22 (by decide) (fun c1 => ?_) (fun c1 => ?_)
  · refine j_aload_n (pc := 36) C d_Model_until_36 rfl 2 rfl ?_
    refine j_callVi (pc := 37) C (c_M_level l D y mo ad 0 0 1 0) kw_Model_427 kv_Model_level 0 10 rfl rfl ⟨by decide, by decide⟩ ⟨by decide, by decide⟩ (wr := [(ad 43, .inl (y 0, 8, .inl (fun _ => 0))), (ad 68, .inl (y 0, 63, .inl (dayF 0)))]) [2, 4, 1] [0, 3] rfl rfl (by decide) (by decide) (by decide) (As := []) (rest := []) rfl (nb rfl) rfl d_Model_until_37 (fun r2 _ hr2 => ?_)
    subst hr2
    refine j_ws (ws' := [(ad 43, .inl (y 0, 8, .inl (fun _ => 0))), (ad 68, .inl (y 0, 63, .inl (dayF 0))), MB mo ad 0 0 0 0 0 0 0 (-1) 0 0 0 0 0 0 0 0 0 0 1 0, (ad 62, .inl (y 0, 63, .inl (dayF 0))), (ad 45, .inl (y 0, 14, .inl lakeF))]) rfl ?_
    refine j_st (st' := [.int 0]) rfl ?_
    refine j_iload_n (pc := 40) C d_Model_until_40 rfl 3 rfl ?_
    refine j_icmp_ge (pc := 41) C (tgt := 54) d_Model_until_41 (by decide) (fun c3 => ?_) (fun c3 => ?_)
    · refine j_aload_n (pc := 54) C d_Model_until_54 rfl 2 rfl ?_
      refine j_get (pc := 55) C gf_Model_158 2 rfl rfl d_Model_until_55 ?_
      refine j_iconst (pc := 58) C (v := 0) d_Model_until_58 (by decide) ?_
      refine j_iald (pc := 59) C 3 rfl (v := 0) (vin (by decide)) rfl d_Model_until_59 ?_
      refine j_sipush (pc := 60) C (v := 999) d_Model_until_60 (by decide) ?_
      refine j_icmp_neT (pc := 63) C (tgt := 73) d_Model_until_63 (by decide) (by decide) ?_
      refine j_aload_n (pc := 73) C d_Model_until_73 rfl 2 rfl ?_
      refine j_iconst (pc := 74) C (v := 0) d_Model_until_74 (by decide) ?_
      refine j_callVv (pc := 75) C (c_M_goesBy l D y mo ad 0 0 1 0) kw_Model_488 kv_Model_goesBy 0 10 rfl rfl ⟨by decide, by decide⟩ ⟨by decide, by decide⟩ (wr := [(ad 68, .inl (y 0, 63, .inl (dayF 0)))]) [2, 0, 3, 4] [1] rfl rfl (by decide) (by decide) (by decide) (As := [.int 0]) (rest := []) rfl (nb rfl) rfl d_Model_until_75 (fun _ _ => ?_)
      refine j_ws (ws' := [(ad 68, .inl (y 0, 63, .inl (dayF 0))), MB mo ad 0 0 0 0 0 0 0 (-1) 0 0 0 0 0 0 0 0 0 0 1 0, (ad 43, .inl (y 0, 8, .inl (fun _ => 0))), (ad 62, .inl (y 0, 63, .inl (dayF (0 + 1)))), (ad 45, .inl (y 0, 14, .inl lakeF))]) rfl ?_
      refine j_iinc (pc := 78) C (v := 1) (lv' := [(4, .int 1), (3, .int (-1)), (0, .ref mo), (1, .int va), (2, .int vb)]) d_Model_until_78 0 rfl (by decide) (by decide) rfl ?_
      refine j_goto (pc := 81) C (tgt := 9) d_Model_until_81 (by decide) ?_
      refine j_sub (ws' := [MB mo ad 0 0 0 0 0 0 0 (-1) 0 0 0 0 0 0 0 0 0 0 1 0, (ad 43, .inl (y 0, 8, .inl (fun _ => 0))), (ad 62, .inl (y 0, 63, .inl (dayF (0 + 1)))), (ad 45, .inl (y 0, 14, .inl lakeF)), (ad 68, .inl (y 0, 63, .inl (dayF 0)))]) [1, 2, 3, 4, 0] rfl (by decide) ?_
      refine j_locs (lv' := [(0, .ref mo), (1, .int va), (2, .int vb), (3, .int (-1)), (4, .int 1)]) [2, 3, 4, 1, 0] rfl ?_
      refine j_ws (ws' := [MB mo ad 0 0 0 0 0 0 0 (-1) 0 0 0 0 0 0 0 0 0 0 1 0, (ad 43, .inl (y 0, 8, .inl (fun _ => 0))), (ad 62, .inl (y 0, 63, .inl (dayF (nI 1)))), (ad 45, .inl (y 0, 14, .inl lakeF)), (ad 68, .inl (y 0, 63, .inl (dayF 0)))]) rfl ?_
      refine j_lv (lv' := [(0, .ref mo), (1, .int va), (2, .int vb), (3, .int (-1)), (4, .int (nI 1))]) rfl ?_
      refine lp_M_untilB C mo ad va vb c1 c3 ?_ 99 1 (by omega)
      refine j_aload_n (pc := 84) C d_Model_until_84 rfl 0 rfl ?_
      refine j_callVv (pc := 85) C (c_M_takesBack l D y mo ad 0 0 1 (dayF (nI 100)) (dayF 0)) kw_Model_495 kv_Model_takesBack 0 10 rfl rfl ⟨by decide, by decide⟩ ⟨by decide, by decide⟩ (wr := [(ad 43, .inl (y 0, 8, .inl (fun _ => 0))), (ad 45, .inl (y 0, 14, .inl lakeF))]) [0, 2, 4] [1, 3] rfl rfl (by decide) (by decide) (by decide) (As := []) (rest := []) rfl (nb rfl) rfl d_Model_until_85 (fun _ _ => ?_)
      refine j_ws (ws' := [(ad 43, .inl (y 0, 8, .inl (fun _ => 0))), (ad 45, .inl (y 0, 14, .inl lakeF)), MB mo ad 0 0 0 0 0 0 0 (-1) 0 0 0 0 0 0 0 0 0 0 1 0, (ad 62, .inl (y 0, 63, .inl (dayF 0))), (ad 68, .inl (y 0, 63, .inl (dayF 0)))]) rfl ?_
      refine j_iload_n (pc := 88) C d_Model_until_88 rfl 3 rfl ?_
      exact j_iret (pc := 89) C hr rfl () (by simp only [Int32.lt_iff_toInt_lt, Int32.le_iff_toInt_le, ← Int32.toInt_inj, (by decide : Int32.toInt 0 = 0), (by decide : Int32.toInt 1 = 1)] at c1 c3; (first | rw [if_pos (by omega)] | rw [if_neg (by omega)])) [] rfl (by decide) (by decide) (by decide) d_Model_until_89
    · refine j_aload_n (pc := 44) C d_Model_until_44 rfl 2 rfl ?_
      refine j_get (pc := 45) C gf_Model_158 2 rfl rfl d_Model_until_45 ?_
      refine j_iconst (pc := 48) C (v := 0) d_Model_until_48 (by decide) ?_
      refine j_iald (pc := 49) C 3 rfl (v := 0) (vin (by decide)) rfl d_Model_until_49 ?_
      refine j_istore_n (pc := 50) C (lv' := [(3, .int 0), (4, .int 0), (0, .ref mo), (1, .int va), (2, .int vb)]) d_Model_until_50 rfl (by decide) rfl ?_
      refine j_goto (pc := 51) C (tgt := 78) d_Model_until_51 (by decide) ?_
      refine j_iinc (pc := 78) C (v := 1) (lv' := [(4, .int 1), (3, .int 0), (0, .ref mo), (1, .int va), (2, .int vb)]) d_Model_until_78 1 rfl (by decide) (by decide) rfl ?_
      refine j_goto (pc := 81) C (tgt := 9) d_Model_until_81 (by decide) ?_
      refine j_iload (pc := 9) C d_Model_until_9 0 rfl ?_
      refine j_bipush (pc := 11) C (v := 100) d_Model_until_11 (by decide) ?_
      refine j_icmp_geF (pc := 13) C (tgt := 84) d_Model_until_13 (by decide) (by decide) ?_
      refine j_iload_n (pc := 16) C d_Model_until_16 rfl 1 rfl ?_
      refine j_iconst (pc := 17) C (v := (-1)) d_Model_until_17 (by decide) ?_
      refine j_icmp_neT (pc := 18) C (tgt := 84) d_Model_until_18 (by decide) (by decide) ?_
      refine j_aload_n (pc := 84) C d_Model_until_84 rfl 2 rfl ?_
      refine j_callVv (pc := 85) C (c_M_takesBack l D y mo ad 0 0 1 (dayF 0) (dayF 0)) kw_Model_495 kv_Model_takesBack 0 10 rfl rfl ⟨by decide, by decide⟩ ⟨by decide, by decide⟩ (wr := [(ad 43, .inl (y 0, 8, .inl (fun _ => 0))), (ad 45, .inl (y 0, 14, .inl lakeF))]) [2, 3, 1] [0, 4] rfl rfl (by decide) (by decide) (by decide) (As := []) (rest := []) rfl (nb rfl) rfl d_Model_until_85 (fun _ _ => ?_)
      refine j_ws (ws' := [(ad 43, .inl (y 0, 8, .inl (fun _ => 0))), (ad 45, .inl (y 0, 14, .inl lakeF)), MB mo ad 0 0 0 0 0 0 0 (-1) 0 0 0 0 0 0 0 0 0 0 1 0, (ad 62, .inl (y 0, 63, .inl (dayF 0))), (ad 68, .inl (y 0, 63, .inl (dayF 0)))]) rfl ?_
      refine j_iload_n (pc := 88) C d_Model_until_88 rfl 1 rfl ?_
      exact j_iret (pc := 89) C hr rfl () (by simp only [Int32.lt_iff_toInt_lt, Int32.le_iff_toInt_le, ← Int32.toInt_inj, (by decide : Int32.toInt 0 = 0), (by decide : Int32.toInt 1 = 1)] at c1 c3; (first | rw [if_pos (by omega)] | rw [if_neg (by omega)])) [] rfl (by decide) (by decide) (by decide) d_Model_until_89
  · refine j_aload_n (pc := 25) C d_Model_until_25 rfl 2 rfl ?_
    refine j_callVi (pc := 26) C (c_M_level l D y mo ad 0 0 1 0) kw_Model_427 kv_Model_level 0 10 rfl rfl ⟨by decide, by decide⟩ ⟨by decide, by decide⟩ (wr := [(ad 43, .inl (y 0, 8, .inl (fun _ => 0))), (ad 68, .inl (y 0, 63, .inl (dayF 0)))]) [2, 4, 1] [0, 3] rfl rfl (by decide) (by decide) (by decide) (As := []) (rest := []) rfl (nb rfl) rfl d_Model_until_26 (fun r4 _ hr4 => ?_)
    subst hr4
    refine j_ws (ws' := [(ad 43, .inl (y 0, 8, .inl (fun _ => 0))), (ad 68, .inl (y 0, 63, .inl (dayF 0))), MB mo ad 0 0 0 0 0 0 0 (-1) 0 0 0 0 0 0 0 0 0 0 1 0, (ad 62, .inl (y 0, 63, .inl (dayF 0))), (ad 45, .inl (y 0, 14, .inl lakeF))]) rfl ?_
    refine j_st (st' := [.int 0]) rfl ?_
    refine j_iload_n (pc := 29) C d_Model_until_29 rfl 3 rfl ?_
    refine j_icmp_le (pc := 30) C (tgt := 54) d_Model_until_30 (by decide) (fun c5 => ?_) (fun c5 => ?_)
    · refine j_aload_n (pc := 54) C d_Model_until_54 rfl 2 rfl ?_
      refine j_get (pc := 55) C gf_Model_158 2 rfl rfl d_Model_until_55 ?_
      refine j_iconst (pc := 58) C (v := 0) d_Model_until_58 (by decide) ?_
      refine j_iald (pc := 59) C 3 rfl (v := 0) (vin (by decide)) rfl d_Model_until_59 ?_
      refine j_sipush (pc := 60) C (v := 999) d_Model_until_60 (by decide) ?_
      refine j_icmp_neT (pc := 63) C (tgt := 73) d_Model_until_63 (by decide) (by decide) ?_
      refine j_aload_n (pc := 73) C d_Model_until_73 rfl 2 rfl ?_
      refine j_iconst (pc := 74) C (v := 0) d_Model_until_74 (by decide) ?_
      refine j_callVv (pc := 75) C (c_M_goesBy l D y mo ad 0 0 1 0) kw_Model_488 kv_Model_goesBy 0 10 rfl rfl ⟨by decide, by decide⟩ ⟨by decide, by decide⟩ (wr := [(ad 68, .inl (y 0, 63, .inl (dayF 0)))]) [2, 0, 3, 4] [1] rfl rfl (by decide) (by decide) (by decide) (As := [.int 0]) (rest := []) rfl (nb rfl) rfl d_Model_until_75 (fun _ _ => ?_)
      refine j_ws (ws' := [(ad 68, .inl (y 0, 63, .inl (dayF 0))), MB mo ad 0 0 0 0 0 0 0 (-1) 0 0 0 0 0 0 0 0 0 0 1 0, (ad 43, .inl (y 0, 8, .inl (fun _ => 0))), (ad 62, .inl (y 0, 63, .inl (dayF (0 + 1)))), (ad 45, .inl (y 0, 14, .inl lakeF))]) rfl ?_
      refine j_iinc (pc := 78) C (v := 1) (lv' := [(4, .int 1), (3, .int (-1)), (0, .ref mo), (1, .int va), (2, .int vb)]) d_Model_until_78 0 rfl (by decide) (by decide) rfl ?_
      refine j_goto (pc := 81) C (tgt := 9) d_Model_until_81 (by decide) ?_
      refine j_sub (ws' := [MB mo ad 0 0 0 0 0 0 0 (-1) 0 0 0 0 0 0 0 0 0 0 1 0, (ad 43, .inl (y 0, 8, .inl (fun _ => 0))), (ad 62, .inl (y 0, 63, .inl (dayF (0 + 1)))), (ad 45, .inl (y 0, 14, .inl lakeF)), (ad 68, .inl (y 0, 63, .inl (dayF 0)))]) [1, 2, 3, 4, 0] rfl (by decide) ?_
      refine j_locs (lv' := [(0, .ref mo), (1, .int va), (2, .int vb), (3, .int (-1)), (4, .int 1)]) [2, 3, 4, 1, 0] rfl ?_
      refine j_ws (ws' := [MB mo ad 0 0 0 0 0 0 0 (-1) 0 0 0 0 0 0 0 0 0 0 1 0, (ad 43, .inl (y 0, 8, .inl (fun _ => 0))), (ad 62, .inl (y 0, 63, .inl (dayF (nI 1)))), (ad 45, .inl (y 0, 14, .inl lakeF)), (ad 68, .inl (y 0, 63, .inl (dayF 0)))]) rfl ?_
      refine j_lv (lv' := [(0, .ref mo), (1, .int va), (2, .int vb), (3, .int (-1)), (4, .int (nI 1))]) rfl ?_
      refine lp_M_untilA C mo ad va vb c1 c5 ?_ 99 1 (by omega)
      refine j_aload_n (pc := 84) C d_Model_until_84 rfl 0 rfl ?_
      refine j_callVv (pc := 85) C (c_M_takesBack l D y mo ad 0 0 1 (dayF (nI 100)) (dayF 0)) kw_Model_495 kv_Model_takesBack 0 10 rfl rfl ⟨by decide, by decide⟩ ⟨by decide, by decide⟩ (wr := [(ad 43, .inl (y 0, 8, .inl (fun _ => 0))), (ad 45, .inl (y 0, 14, .inl lakeF))]) [0, 2, 4] [1, 3] rfl rfl (by decide) (by decide) (by decide) (As := []) (rest := []) rfl (nb rfl) rfl d_Model_until_85 (fun _ _ => ?_)
      refine j_ws (ws' := [(ad 43, .inl (y 0, 8, .inl (fun _ => 0))), (ad 45, .inl (y 0, 14, .inl lakeF)), MB mo ad 0 0 0 0 0 0 0 (-1) 0 0 0 0 0 0 0 0 0 0 1 0, (ad 62, .inl (y 0, 63, .inl (dayF 0))), (ad 68, .inl (y 0, 63, .inl (dayF 0)))]) rfl ?_
      refine j_iload_n (pc := 88) C d_Model_until_88 rfl 3 rfl ?_
      exact j_iret (pc := 89) C hr rfl () (by simp only [Int32.lt_iff_toInt_lt, Int32.le_iff_toInt_le, ← Int32.toInt_inj, (by decide : Int32.toInt 0 = 0), (by decide : Int32.toInt 1 = 1)] at c1 c5; (first | rw [if_pos (by omega)] | rw [if_neg (by omega)])) [] rfl (by decide) (by decide) (by decide) d_Model_until_89
    · refine j_goto (pc := 33) C (tgt := 44) d_Model_until_33 (by decide) ?_
      refine j_aload_n (pc := 44) C d_Model_until_44 rfl 2 rfl ?_
      refine j_get (pc := 45) C gf_Model_158 2 rfl rfl d_Model_until_45 ?_
      refine j_iconst (pc := 48) C (v := 0) d_Model_until_48 (by decide) ?_
      refine j_iald (pc := 49) C 3 rfl (v := 0) (vin (by decide)) rfl d_Model_until_49 ?_
      refine j_istore_n (pc := 50) C (lv' := [(3, .int 0), (4, .int 0), (0, .ref mo), (1, .int va), (2, .int vb)]) d_Model_until_50 rfl (by decide) rfl ?_
      refine j_goto (pc := 51) C (tgt := 78) d_Model_until_51 (by decide) ?_
      refine j_iinc (pc := 78) C (v := 1) (lv' := [(4, .int 1), (3, .int 0), (0, .ref mo), (1, .int va), (2, .int vb)]) d_Model_until_78 1 rfl (by decide) (by decide) rfl ?_
      refine j_goto (pc := 81) C (tgt := 9) d_Model_until_81 (by decide) ?_
      refine j_iload (pc := 9) C d_Model_until_9 0 rfl ?_
      refine j_bipush (pc := 11) C (v := 100) d_Model_until_11 (by decide) ?_
      refine j_icmp_geF (pc := 13) C (tgt := 84) d_Model_until_13 (by decide) (by decide) ?_
      refine j_iload_n (pc := 16) C d_Model_until_16 rfl 1 rfl ?_
      refine j_iconst (pc := 17) C (v := (-1)) d_Model_until_17 (by decide) ?_
      refine j_icmp_neT (pc := 18) C (tgt := 84) d_Model_until_18 (by decide) (by decide) ?_
      refine j_aload_n (pc := 84) C d_Model_until_84 rfl 2 rfl ?_
      refine j_callVv (pc := 85) C (c_M_takesBack l D y mo ad 0 0 1 (dayF 0) (dayF 0)) kw_Model_495 kv_Model_takesBack 0 10 rfl rfl ⟨by decide, by decide⟩ ⟨by decide, by decide⟩ (wr := [(ad 43, .inl (y 0, 8, .inl (fun _ => 0))), (ad 45, .inl (y 0, 14, .inl lakeF))]) [2, 3, 1] [0, 4] rfl rfl (by decide) (by decide) (by decide) (As := []) (rest := []) rfl (nb rfl) rfl d_Model_until_85 (fun _ _ => ?_)
      refine j_ws (ws' := [(ad 43, .inl (y 0, 8, .inl (fun _ => 0))), (ad 45, .inl (y 0, 14, .inl lakeF)), MB mo ad 0 0 0 0 0 0 0 (-1) 0 0 0 0 0 0 0 0 0 0 1 0, (ad 62, .inl (y 0, 63, .inl (dayF 0))), (ad 68, .inl (y 0, 63, .inl (dayF 0)))]) rfl ?_
      refine j_iload_n (pc := 88) C d_Model_until_88 rfl 1 rfl ?_
      exact j_iret (pc := 89) C hr rfl () (by simp only [Int32.lt_iff_toInt_lt, Int32.le_iff_toInt_le, ← Int32.toInt_inj, (by decide : Int32.toInt 0 = 0), (by decide : Int32.toInt 1 = 1)] at c1 c5; (first | rw [if_pos (by omega)] | rw [if_neg (by omega)])) [] rfl (by decide) (by decide) (by decide) d_Model_until_89
theorem d_Model_today_0 : decode prog_13_method_110_code 0 = .ok (.iload_n 2, 1) := by decide +kernel
theorem d_Model_today_1 : decode prog_13_method_110_code 1 = .ok (.i2l, 1) := by decide +kernel
theorem d_Model_today_2 : decode prog_13_method_110_code 2 = .ok (.lconst 0, 1) := by decide +kernel
theorem d_Model_today_3 : decode prog_13_method_110_code 3 = .ok (.lconst 1, 1) := by decide +kernel
theorem d_Model_today_4 : decode prog_13_method_110_code 4 = .ok (.invokestatic 240, 3) := by decide +kernel
theorem d_Model_today_7 : decode prog_13_method_110_code 7 = .ok (.ifCond .eq 27, 3) := by decide +kernel
theorem d_Model_today_10 : decode prog_13_method_110_code 10 = .ok (.aload_n 0, 1) := by decide +kernel
theorem d_Model_today_11 : decode prog_13_method_110_code 11 = .ok (.getfield 158, 3) := by decide +kernel
theorem d_Model_today_14 : decode prog_13_method_110_code 14 = .ok (.iconst 0, 1) := by decide +kernel
theorem d_Model_today_15 : decode prog_13_method_110_code 15 = .ok (.iaload, 1) := by decide +kernel
theorem d_Model_today_16 : decode prog_13_method_110_code 16 = .ok (.sipush 999, 3) := by decide +kernel
theorem d_Model_today_19 : decode prog_13_method_110_code 19 = .ok (.if_icmp .eq 15, 3) := by decide +kernel
theorem d_Model_today_22 : decode prog_13_method_110_code 22 = .ok (.iload_n 2, 1) := by decide +kernel
theorem d_Model_today_23 : decode prog_13_method_110_code 23 = .ok (.ifCond .ne 13, 3) := by decide +kernel
theorem d_Model_today_36 : decode prog_13_method_110_code 36 = .ok (.iconst (-1), 1) := by decide +kernel
theorem d_Model_today_37 : decode prog_13_method_110_code 37 = .ok (.istore_n 3, 1) := by decide +kernel
theorem d_Model_today_38 : decode prog_13_method_110_code 38 = .ok (.iconst 0, 1) := by decide +kernel
theorem d_Model_today_39 : decode prog_13_method_110_code 39 = .ok (.istore 4, 2) := by decide +kernel
theorem d_Model_today_41 : decode prog_13_method_110_code 41 = .ok (.aload_n 0, 1) := by decide +kernel
theorem d_Model_today_42 : decode prog_13_method_110_code 42 = .ok (.invokevirtual 510, 3) := by decide +kernel
theorem d_Model_today_45 : decode prog_13_method_110_code 45 = .ok (.iconst 0, 1) := by decide +kernel
theorem d_Model_today_46 : decode prog_13_method_110_code 46 = .ok (.istore 5, 2) := by decide +kernel
theorem d_Model_today_48 : decode prog_13_method_110_code 48 = .ok (.iload 5, 2) := by decide +kernel
theorem d_Model_today_50 : decode prog_13_method_110_code 50 = .ok (.iconst 2, 1) := by decide +kernel
theorem d_Model_today_51 : decode prog_13_method_110_code 51 = .ok (.if_icmp .gt 82, 3) := by decide +kernel
theorem d_Model_today_54 : decode prog_13_method_110_code 54 = .ok (.aload_n 0, 1) := by decide +kernel
theorem d_Model_today_55 : decode prog_13_method_110_code 55 = .ok (.invokevirtual 495, 3) := by decide +kernel
theorem d_Model_today_58 : decode prog_13_method_110_code 58 = .ok (.aload_n 0, 1) := by decide +kernel
theorem d_Model_today_59 : decode prog_13_method_110_code 59 = .ok (.iconst 0, 1) := by decide +kernel
theorem d_Model_today_60 : decode prog_13_method_110_code 60 = .ok (.iload 5, 2) := by decide +kernel
theorem d_Model_today_62 : decode prog_13_method_110_code 62 = .ok (.invokevirtual 478, 3) := by decide +kernel
theorem d_Model_today_65 : decode prog_13_method_110_code 65 = .ok (.ifCond .ne 6, 3) := by decide +kernel
theorem d_Model_today_71 : decode prog_13_method_110_code 71 = .ok (.aload_n 0, 1) := by decide +kernel
theorem d_Model_today_72 : decode prog_13_method_110_code 72 = .ok (.iload 5, 2) := by decide +kernel
theorem d_Model_today_74 : decode prog_13_method_110_code 74 = .ok (.invokevirtual 485, 3) := by decide +kernel
theorem d_Model_today_77 : decode prog_13_method_110_code 77 = .ok (.aload_n 0, 1) := by decide +kernel
theorem d_Model_today_78 : decode prog_13_method_110_code 78 = .ok (.iconst 0, 1) := by decide +kernel
theorem d_Model_today_79 : decode prog_13_method_110_code 79 = .ok (.invokevirtual 488, 3) := by decide +kernel
theorem d_Model_today_82 : decode prog_13_method_110_code 82 = .ok (.iload_n 2, 1) := by decide +kernel
theorem d_Model_today_83 : decode prog_13_method_110_code 83 = .ok (.iconst 1, 1) := by decide +kernel
theorem d_Model_today_84 : decode prog_13_method_110_code 84 = .ok (.if_icmp .ne 10, 3) := by decide +kernel
theorem d_Model_today_87 : decode prog_13_method_110_code 87 = .ok (.aload_n 0, 1) := by decide +kernel
theorem d_Model_today_88 : decode prog_13_method_110_code 88 = .ok (.invokevirtual 427, 3) := by decide +kernel
theorem d_Model_today_91 : decode prog_13_method_110_code 91 = .ok (.goto 12, 3) := by decide +kernel
theorem d_Model_today_103 : decode prog_13_method_110_code 103 = .ok (.istore 6, 2) := by decide +kernel
theorem d_Model_today_105 : decode prog_13_method_110_code 105 = .ok (.iload_n 3, 1) := by decide +kernel
theorem d_Model_today_106 : decode prog_13_method_110_code 106 = .ok (.iconst (-1), 1) := by decide +kernel
theorem d_Model_today_107 : decode prog_13_method_110_code 107 = .ok (.if_icmp .eq 13, 3) := by decide +kernel
theorem d_Model_today_120 : decode prog_13_method_110_code 120 = .ok (.iload 5, 2) := by decide +kernel
theorem d_Model_today_122 : decode prog_13_method_110_code 122 = .ok (.istore_n 3, 1) := by decide +kernel
theorem d_Model_today_123 : decode prog_13_method_110_code 123 = .ok (.iload 6, 2) := by decide +kernel
theorem d_Model_today_125 : decode prog_13_method_110_code 125 = .ok (.istore 4, 2) := by decide +kernel
theorem d_Model_today_127 : decode prog_13_method_110_code 127 = .ok (.iinc 5 1, 3) := by decide +kernel
theorem d_Model_today_130 : decode prog_13_method_110_code 130 = .ok (.goto (-82), 3) := by decide +kernel
theorem d_Model_today_68 : decode prog_13_method_110_code 68 = .ok (.goto 59, 3) := by decide +kernel
theorem d_Model_today_133 : decode prog_13_method_110_code 133 = .ok (.aload_n 0, 1) := by decide +kernel
theorem d_Model_today_134 : decode prog_13_method_110_code 134 = .ok (.invokevirtual 495, 3) := by decide +kernel
theorem d_Model_today_137 : decode prog_13_method_110_code 137 = .ok (.iload_n 3, 1) := by decide +kernel
theorem d_Model_today_138 : decode prog_13_method_110_code 138 = .ok (.ireturn, 1) := by decide +kernel
theorem d_Model_today_26 : decode prog_13_method_110_code 26 = .ok (.aload_n 0, 1) := by decide +kernel
theorem d_Model_today_27 : decode prog_13_method_110_code 27 = .ok (.iload_n 1, 1) := by decide +kernel
theorem d_Model_today_28 : decode prog_13_method_110_code 28 = .ok (.invokevirtual 472, 3) := by decide +kernel
theorem d_Model_today_31 : decode prog_13_method_110_code 31 = .ok (.ifCond .ne 5, 3) := by decide +kernel
theorem d_Model_today_34 : decode prog_13_method_110_code 34 = .ok (.iconst (-1), 1) := by decide +kernel
theorem d_Model_today_35 : decode prog_13_method_110_code 35 = .ok (.ireturn, 1) := by decide +kernel
set_option maxHeartbeats 4000000 in
set_option maxRecDepth 100000 in
theorem c_M_today (l : Launch) (D : va_G) (y : Nat → ClassId) (mo : Nat) (ad : Nat → Nat) (va : Int32) (vb : Int32) (f : Nat → Int32)  : CT l D y ⟨"NineBoardsModel", "today", "(II)I"⟩ prog_13_method_110_code 7 (some .int) ({ frames := 3, cells := 0, slots := 0, locals := 71 } : Room) [.ref mo, .int va, .int vb] [MB mo ad 0 0 0 0 0 0 0 (-1) 0 0 0 0 0 0 0 0 0 0 1 0, (ad 43, .inl (y 0, 8, .inl (fun _ => 0))), (ad 62, .inl (y 0, 63, .inl (dayF 0))), (ad 45, .inl (y 0, 14, .inl lakeF)), (ad 68, .inl (y 0, 63, .inl f))] (QI D [MB mo ad 0 0 0 0 0 0 0 (-1) 0 0 0 0 0 0 0 0 0 0 1 0, (ad 43, .inl (y 0, 8, .inl (fun _ => 0))), (ad 62, .inl (y 0, 63, .inl (dayF 0))), (ad 45, .inl (y 0, 14, .inl lakeF)), (ad 68, .inl (y 0, 63, .inl f))] (fun (r : Int32) (_ : Unit) => r = if vb.toInt = 1 then 0 else -1) (fun _ => [])) := by
  refine CT.of (by decide) (nb rfl) ?_
  intro p e s m args below meth c C hr
  refine j_lv (lv' := [(0, .ref mo), (1, .int va), (2, .int vb)]) rfl ?_
  refine j_iload_n (pc := 0) C d_Model_today_0 rfl 2 rfl ?_
  refine j_i2l (pc := 1) C (v := vb.toInt64) d_Model_today_1 rfl ?_
  refine j_lconst (pc := 2) C (v := 0) d_Model_today_2 (by decide) ?_
  refine j_lconst (pc := 3) C (v := 1) d_Model_today_3 (by decide) ?_
  refine j_callSi (pc := 4) C (c_isIn_x l D y vb 0 1 0 1 (by decide) (by decide)) kw_Model_240 ks_Model_isIn ⟨by decide, by decide⟩ ⟨by decide, by decide⟩ (wr := [MB mo ad 0 0 0 0 0 0 0 (-1) 0 0 0 0 0 0 0 0 0 0 1 0, (ad 43, .inl (y 0, 8, .inl (fun _ => 0))), (ad 62, .inl (y 0, 63, .inl (dayF 0))), (ad 45, .inl (y 0, 14, .inl lakeF)), (ad 68, .inl (y 0, 63, .inl f))]) [] [0, 1, 2, 3, 4] rfl rfl (by decide) (by decide) (by decide) (As := [.long vb.toInt64, .long 0, .long 1]) (rest := []) rfl (nb rfl) rfl d_Model_today_4 (fun r1 _ hr1 => ?_)
  refine j_ws (ws' := [MB mo ad 0 0 0 0 0 0 0 (-1) 0 0 0 0 0 0 0 0 0 0 1 0, (ad 43, .inl (y 0, 8, .inl (fun _ => 0))), (ad 62, .inl (y 0, 63, .inl (dayF 0))), (ad 45, .inl (y 0, 14, .inl lakeF)), (ad 68, .inl (y 0, 63, .inl f))]) rfl ?_
  by_cases g2 : 0 ≤ vb.toInt ∧ vb.toInt ≤ 1
  · rw [if_pos g2] at hr1
    subst hr1
    refine j_if_eqF (pc := 7) C (tgt := 34) d_Model_today_7 (by decide) (by decide) ?_
    refine j_aload_n (pc := 10) C d_Model_today_10 rfl 0 rfl ?_
    refine j_get (pc := 11) C gf_Model_158 0 rfl rfl d_Model_today_11 ?_
    refine j_iconst (pc := 14) C (v := 0) d_Model_today_14 (by decide) ?_
    refine j_iald (pc := 15) C 2 rfl (v := 0) (vin (by decide)) rfl d_Model_today_15 ?_
    refine j_sipush (pc := 16) C (v := 999) d_Model_today_16 (by decide) ?_
    refine j_icmp_eqF (pc := 19) C (tgt := 34) d_Model_today_19 (by decide) (by decide) ?_
    refine j_iload_n (pc := 22) C d_Model_today_22 rfl 2 rfl ?_
    refine j_if_ne (pc := 23) C (tgt := 36) d_Model_today_23 (by decide) (fun c3 => ?_) (fun c3 => ?_)
    · have e4 : vb = 1 := Int32.toInt_inj.mp (by simp only [Int32.lt_iff_toInt_lt, Int32.le_iff_toInt_le, ← Int32.toInt_inj, (by decide : Int32.toInt 0 = 0), (by decide : Int32.toInt 1 = 1)] at c3; (show vb.toInt = 1); omega)
      subst e4
      refine j_iconst (pc := 36) C (v := (-1)) d_Model_today_36 (by decide) ?_
      refine j_istore_n (pc := 37) C (lv' := [(3, .int (-1)), (0, .ref mo), (1, .int va), (2, .int 1)]) d_Model_today_37 rfl (by decide) rfl ?_
      refine j_iconst (pc := 38) C (v := 0) d_Model_today_38 (by decide) ?_
      refine j_istore (pc := 39) C (lv' := [(4, .int 0), (3, .int (-1)), (0, .ref mo), (1, .int va), (2, .int 1)]) d_Model_today_39 (by decide) rfl ?_
      refine j_aload_n (pc := 41) C d_Model_today_41 rfl 2 rfl ?_
      refine j_callVv (pc := 42) C (c_M_putsAside l D y mo ad 0 0 1 f (dayF 0)) kw_Model_510 kv_Model_putsAside 0 10 rfl rfl ⟨by decide, by decide⟩ ⟨by decide, by decide⟩ (wr := [(ad 43, .inl (y 0, 8, .inl (fun _ => 0))), (ad 45, .inl (y 0, 14, .inl lakeF))]) [0, 4, 2] [1, 3] rfl rfl (by decide) (by decide) (by decide) (As := []) (rest := []) rfl (nb rfl) rfl d_Model_today_42 (fun _ _ => ?_)
      refine j_ws (ws' := [(ad 43, .inl (y 0, 8, .inl (fun _ => 0))), (ad 45, .inl (y 0, 14, .inl lakeF)), MB mo ad 0 0 0 0 0 0 0 (-1) 0 0 0 0 0 0 0 0 0 0 1 0, (ad 68, .inl (y 0, 63, .inl (dayF 0))), (ad 62, .inl (y 0, 63, .inl (dayF 0)))]) rfl ?_
      refine j_iconst (pc := 45) C (v := 0) d_Model_today_45 (by decide) ?_
      refine j_istore (pc := 46) C (lv' := [(5, .int 0), (4, .int 0), (3, .int (-1)), (0, .ref mo), (1, .int va), (2, .int 1)]) d_Model_today_46 (by decide) rfl ?_
      refine j_iload (pc := 48) C d_Model_today_48 0 rfl ?_
      refine j_iconst (pc := 50) C (v := 2) d_Model_today_50 (by decide) ?_
      refine j_icmp_gtF (pc := 51) C (tgt := 133) d_Model_today_51 (by decide) (by decide) ?_
      refine j_aload_n (pc := 54) C d_Model_today_54 rfl 3 rfl ?_
      refine j_callVv (pc := 55) C (c_M_takesBack l D y mo ad 0 0 1 (dayF 0) (dayF 0)) kw_Model_495 kv_Model_takesBack 0 10 rfl rfl ⟨by decide, by decide⟩ ⟨by decide, by decide⟩ (wr := [(ad 43, .inl (y 0, 8, .inl (fun _ => 0))), (ad 45, .inl (y 0, 14, .inl lakeF))]) [2, 4, 3] [0, 1] rfl rfl (by decide) (by decide) (by decide) (As := []) (rest := []) rfl (nb rfl) rfl d_Model_today_55 (fun _ _ => ?_)
      refine j_ws (ws' := [(ad 43, .inl (y 0, 8, .inl (fun _ => 0))), (ad 45, .inl (y 0, 14, .inl lakeF)), MB mo ad 0 0 0 0 0 0 0 (-1) 0 0 0 0 0 0 0 0 0 0 1 0, (ad 62, .inl (y 0, 63, .inl (dayF 0))), (ad 68, .inl (y 0, 63, .inl (dayF 0)))]) rfl ?_
      refine j_aload_n (pc := 58) C d_Model_today_58 rfl 3 rfl ?_
      refine j_iconst (pc := 59) C (v := 0) d_Model_today_59 (by decide) ?_
      refine j_iload (pc := 60) C d_Model_today_60 0 rfl ?_
      refine j_callVi (pc := 62) C (c_M_mayDo_0 l D y mo ad 0 0 1 0) kw_Model_478 kv_Model_mayDo 0 10 rfl rfl ⟨by decide, by decide⟩ ⟨by decide, by decide⟩ (wr := [(ad 43, .inl (y 0, 8, .inl (fun _ => 0))), (ad 45, .inl (y 0, 14, .inl lakeF)), (ad 62, .inl (y 0, 63, .inl (dayF 0))), (ad 68, .inl (y 0, 63, .inl (dayF 0)))]) [2] [0, 1, 3, 4] rfl rfl (by decide) (by decide) (by decide) (As := [.int 0, .int 0]) (rest := []) rfl (nb rfl) rfl d_Model_today_62 (fun r5 _ hr5 => ?_)
      subst hr5
      refine j_ws (ws' := [(ad 43, .inl (y 0, 8, .inl (fun _ => 0))), (ad 45, .inl (y 0, 14, .inl lakeF)), (ad 62, .inl (y 0, 63, .inl (dayF 0))), (ad 68, .inl (y 0, 63, .inl (dayF 0))), MB mo ad 0 0 0 0 0 0 0 (-1) 0 0 0 0 0 0 0 0 0 0 1 0]) rfl ?_
      refine j_st (st' := [.int 1]) rfl ?_
      refine j_if_neT (pc := 65) C (tgt := 71) d_Model_today_65 (by decide) (by decide) ?_
      refine j_aload_n (pc := 71) C d_Model_today_71 rfl 3 rfl ?_
      refine j_iload (pc := 72) C d_Model_today_72 0 rfl ?_
      refine j_callVv (pc := 74) C (c_M_acts l D y mo ad 0 0 1) kw_Model_485 kv_Model_acts 0 10 rfl rfl ⟨by decide, by decide⟩ ⟨by decide, by decide⟩ (wr := [(ad 43, .inl (y 0, 8, .inl (fun _ => 0))), (ad 45, .inl (y 0, 14, .inl lakeF)), (ad 62, .inl (y 0, 63, .inl (dayF 0))), (ad 68, .inl (y 0, 63, .inl (dayF 0)))]) [4] [0, 1, 2, 3] rfl rfl (by decide) (by decide) (by decide) (As := [.int 0]) (rest := []) rfl (nb rfl) rfl d_Model_today_74 (fun _ _ => ?_)
      refine j_ws (ws' := [(ad 43, .inl (y 0, 8, .inl (fun _ => 0))), (ad 45, .inl (y 0, 14, .inl lakeF)), (ad 62, .inl (y 0, 63, .inl (dayF 0))), (ad 68, .inl (y 0, 63, .inl (dayF 0))), MB mo ad 0 0 0 0 0 0 0 (-1) 0 0 0 0 0 0 0 0 0 0 1 0]) rfl ?_
      refine j_aload_n (pc := 77) C d_Model_today_77 rfl 3 rfl ?_
      refine j_iconst (pc := 78) C (v := 0) d_Model_today_78 (by decide) ?_
      refine j_callVv (pc := 79) C (c_M_goesBy l D y mo ad 0 0 1 0) kw_Model_488 kv_Model_goesBy 0 10 rfl rfl ⟨by decide, by decide⟩ ⟨by decide, by decide⟩ (wr := [(ad 68, .inl (y 0, 63, .inl (dayF 0)))]) [4, 0, 2, 1] [3] rfl rfl (by decide) (by decide) (by decide) (As := [.int 0]) (rest := []) rfl (nb rfl) rfl d_Model_today_79 (fun _ _ => ?_)
      refine j_ws (ws' := [(ad 68, .inl (y 0, 63, .inl (dayF 0))), MB mo ad 0 0 0 0 0 0 0 (-1) 0 0 0 0 0 0 0 0 0 0 1 0, (ad 43, .inl (y 0, 8, .inl (fun _ => 0))), (ad 62, .inl (y 0, 63, .inl (dayF (0 + 1)))), (ad 45, .inl (y 0, 14, .inl lakeF))]) rfl ?_
      refine j_iload_n (pc := 82) C d_Model_today_82 rfl 5 rfl ?_
      refine j_iconst (pc := 83) C (v := 1) d_Model_today_83 (by decide) ?_
      refine j_icmp_neF (pc := 84) C (tgt := 94) d_Model_today_84 (by decide) (by decide) ?_
      refine j_aload_n (pc := 87) C d_Model_today_87 rfl 3 rfl ?_
      refine j_callVi (pc := 88) C (c_M_level l D y mo ad 0 0 1 (0 + 1)) kw_Model_427 kv_Model_level 0 10 rfl rfl ⟨by decide, by decide⟩ ⟨by decide, by decide⟩ (wr := [(ad 68, .inl (y 0, 63, .inl (dayF 0))), (ad 43, .inl (y 0, 8, .inl (fun _ => 0)))]) [1, 3, 4] [0, 2] rfl rfl (by decide) (by decide) (by decide) (As := []) (rest := []) rfl (nb rfl) rfl d_Model_today_88 (fun r6 _ hr6 => ?_)
      subst hr6
      refine j_ws (ws' := [(ad 68, .inl (y 0, 63, .inl (dayF 0))), (ad 43, .inl (y 0, 8, .inl (fun _ => 0))), MB mo ad 0 0 0 0 0 0 0 (-1) 0 0 0 0 0 0 0 0 0 0 1 0, (ad 62, .inl (y 0, 63, .inl (dayF (0 + 1)))), (ad 45, .inl (y 0, 14, .inl lakeF))]) rfl ?_
      refine j_st (st' := [.int 0]) rfl ?_
      refine j_goto (pc := 91) C (tgt := 103) d_Model_today_91 (by decide) ?_
      refine j_istore (pc := 103) C (lv' := [(6, .int 0), (5, .int 0), (4, .int 0), (3, .int (-1)), (0, .ref mo), (1, .int va), (2, .int 1)]) d_Model_today_103 (by decide) rfl ?_
      refine j_iload_n (pc := 105) C d_Model_today_105 rfl 3 rfl ?_
      refine j_iconst (pc := 106) C (v := (-1)) d_Model_today_106 (by decide) ?_
      refine j_icmp_eqT (pc := 107) C (tgt := 120) d_Model_today_107 (by decide) (by decide) ?_
      refine j_iload (pc := 120) C d_Model_today_120 1 rfl ?_
      refine j_istore_n (pc := 122) C (lv' := [(3, .int 0), (6, .int 0), (5, .int 0), (4, .int 0), (0, .ref mo), (1, .int va), (2, .int 1)]) d_Model_today_122 rfl (by decide) rfl ?_
      refine j_iload (pc := 123) C d_Model_today_123 1 rfl ?_
      refine j_istore (pc := 125) C (lv' := [(4, .int 0), (3, .int 0), (6, .int 0), (5, .int 0), (0, .ref mo), (1, .int va), (2, .int 1)]) d_Model_today_125 (by decide) rfl ?_
      refine j_iinc (pc := 127) C (v := 1) (lv' := [(5, .int 1), (4, .int 0), (3, .int 0), (6, .int 0), (0, .ref mo), (1, .int va), (2, .int 1)]) d_Model_today_127 3 rfl (by decide) (by decide) rfl ?_
      refine j_goto (pc := 130) C (tgt := 48) d_Model_today_130 (by decide) ?_
      refine j_iload (pc := 48) C d_Model_today_48 0 rfl ?_
      refine j_iconst (pc := 50) C (v := 2) d_Model_today_50 (by decide) ?_
      refine j_icmp_gtF (pc := 51) C (tgt := 133) d_Model_today_51 (by decide) (by decide) ?_
      refine j_aload_n (pc := 54) C d_Model_today_54 rfl 4 rfl ?_
      refine j_callVv (pc := 55) C (c_M_takesBack l D y mo ad 0 0 1 (dayF (0 + 1)) (dayF 0)) kw_Model_495 kv_Model_takesBack 0 10 rfl rfl ⟨by decide, by decide⟩ ⟨by decide, by decide⟩ (wr := [(ad 43, .inl (y 0, 8, .inl (fun _ => 0))), (ad 45, .inl (y 0, 14, .inl lakeF))]) [2, 3, 0] [1, 4] rfl rfl (by decide) (by decide) (by decide) (As := []) (rest := []) rfl (nb rfl) rfl d_Model_today_55 (fun _ _ => ?_)
      refine j_ws (ws' := [(ad 43, .inl (y 0, 8, .inl (fun _ => 0))), (ad 45, .inl (y 0, 14, .inl lakeF)), MB mo ad 0 0 0 0 0 0 0 (-1) 0 0 0 0 0 0 0 0 0 0 1 0, (ad 62, .inl (y 0, 63, .inl (dayF 0))), (ad 68, .inl (y 0, 63, .inl (dayF 0)))]) rfl ?_
      refine j_aload_n (pc := 58) C d_Model_today_58 rfl 4 rfl ?_
      refine j_iconst (pc := 59) C (v := 0) d_Model_today_59 (by decide) ?_
      refine j_iload (pc := 60) C d_Model_today_60 0 rfl ?_
      refine j_callVi (pc := 62) C (c_M_mayDo_n l D y mo ad 0 0 1 0 1 (by decide)) kw_Model_478 kv_Model_mayDo 0 10 rfl rfl ⟨by decide, by decide⟩ ⟨by decide, by decide⟩ (wr := [(ad 45, .inl (y 0, 14, .inl lakeF)), (ad 62, .inl (y 0, 63, .inl (dayF 0))), (ad 68, .inl (y 0, 63, .inl (dayF 0)))]) [2, 0] [1, 3, 4] rfl rfl (by decide) (by decide) (by decide) (As := [.int 0, .int 1]) (rest := []) rfl (nb rfl) rfl d_Model_today_62 (fun r7 _ hr7 => ?_)
      subst hr7
      refine j_ws (ws' := [(ad 45, .inl (y 0, 14, .inl lakeF)), (ad 62, .inl (y 0, 63, .inl (dayF 0))), (ad 68, .inl (y 0, 63, .inl (dayF 0))), MB mo ad 0 0 0 0 0 0 0 (-1) 0 0 0 0 0 0 0 0 0 0 1 0, (ad 43, .inl (y 0, 8, .inl (fun _ => 0)))]) rfl ?_
      refine j_st (st' := [.int 0]) rfl ?_
      refine j_if_neF (pc := 65) C (tgt := 71) d_Model_today_65 (by decide) (by decide) ?_
      refine j_goto (pc := 68) C (tgt := 127) d_Model_today_68 (by decide) ?_
      refine j_iinc (pc := 127) C (v := 2) (lv' := [(5, .int 2), (4, .int 0), (3, .int 0), (6, .int 0), (0, .ref mo), (1, .int va), (2, .int 1)]) d_Model_today_127 0 rfl (by decide) (by decide) rfl ?_
      refine j_goto (pc := 130) C (tgt := 48) d_Model_today_130 (by decide) ?_
      refine j_iload (pc := 48) C d_Model_today_48 0 rfl ?_
      refine j_iconst (pc := 50) C (v := 2) d_Model_today_50 (by decide) ?_
      refine j_icmp_gtF (pc := 51) C (tgt := 133) d_Model_today_51 (by decide) (by decide) ?_
      refine j_aload_n (pc := 54) C d_Model_today_54 rfl 4 rfl ?_
      refine j_callVv (pc := 55) C (c_M_takesBack l D y mo ad 0 0 1 (dayF 0) (dayF 0)) kw_Model_495 kv_Model_takesBack 0 10 rfl rfl ⟨by decide, by decide⟩ ⟨by decide, by decide⟩ (wr := [(ad 45, .inl (y 0, 14, .inl lakeF)), (ad 43, .inl (y 0, 8, .inl (fun _ => 0)))]) [3, 1, 2] [0, 4] rfl rfl (by decide) (by decide) (by decide) (As := []) (rest := []) rfl (nb rfl) rfl d_Model_today_55 (fun _ _ => ?_)
      refine j_ws (ws' := [(ad 45, .inl (y 0, 14, .inl lakeF)), (ad 43, .inl (y 0, 8, .inl (fun _ => 0))), MB mo ad 0 0 0 0 0 0 0 (-1) 0 0 0 0 0 0 0 0 0 0 1 0, (ad 62, .inl (y 0, 63, .inl (dayF 0))), (ad 68, .inl (y 0, 63, .inl (dayF 0)))]) rfl ?_
      refine j_aload_n (pc := 58) C d_Model_today_58 rfl 4 rfl ?_
      refine j_iconst (pc := 59) C (v := 0) d_Model_today_59 (by decide) ?_
      refine j_iload (pc := 60) C d_Model_today_60 0 rfl ?_
      refine j_callVi (pc := 62) C (c_M_mayDo_n l D y mo ad 0 0 1 0 2 (by decide)) kw_Model_478 kv_Model_mayDo 0 10 rfl rfl ⟨by decide, by decide⟩ ⟨by decide, by decide⟩ (wr := [(ad 45, .inl (y 0, 14, .inl lakeF)), (ad 62, .inl (y 0, 63, .inl (dayF 0))), (ad 68, .inl (y 0, 63, .inl (dayF 0)))]) [2, 1] [0, 3, 4] rfl rfl (by decide) (by decide) (by decide) (As := [.int 0, .int 2]) (rest := []) rfl (nb rfl) rfl d_Model_today_62 (fun r8 _ hr8 => ?_)
      subst hr8
      refine j_ws (ws' := [(ad 45, .inl (y 0, 14, .inl lakeF)), (ad 62, .inl (y 0, 63, .inl (dayF 0))), (ad 68, .inl (y 0, 63, .inl (dayF 0))), MB mo ad 0 0 0 0 0 0 0 (-1) 0 0 0 0 0 0 0 0 0 0 1 0, (ad 43, .inl (y 0, 8, .inl (fun _ => 0)))]) rfl ?_
      refine j_st (st' := [.int 0]) rfl ?_
      refine j_if_neF (pc := 65) C (tgt := 71) d_Model_today_65 (by decide) (by decide) ?_
      refine j_goto (pc := 68) C (tgt := 127) d_Model_today_68 (by decide) ?_
      refine j_iinc (pc := 127) C (v := 3) (lv' := [(5, .int 3), (4, .int 0), (3, .int 0), (6, .int 0), (0, .ref mo), (1, .int va), (2, .int 1)]) d_Model_today_127 0 rfl (by decide) (by decide) rfl ?_
      refine j_goto (pc := 130) C (tgt := 48) d_Model_today_130 (by decide) ?_
      refine j_iload (pc := 48) C d_Model_today_48 0 rfl ?_
      refine j_iconst (pc := 50) C (v := 2) d_Model_today_50 (by decide) ?_
      refine j_icmp_gtT (pc := 51) C (tgt := 133) d_Model_today_51 (by decide) (by decide) ?_
      refine j_aload_n (pc := 133) C d_Model_today_133 rfl 4 rfl ?_
      refine j_callVv (pc := 134) C (c_M_takesBack l D y mo ad 0 0 1 (dayF 0) (dayF 0)) kw_Model_495 kv_Model_takesBack 0 10 rfl rfl ⟨by decide, by decide⟩ ⟨by decide, by decide⟩ (wr := [(ad 45, .inl (y 0, 14, .inl lakeF)), (ad 43, .inl (y 0, 8, .inl (fun _ => 0)))]) [3, 1, 2] [0, 4] rfl rfl (by decide) (by decide) (by decide) (As := []) (rest := []) rfl (nb rfl) rfl d_Model_today_134 (fun _ _ => ?_)
      refine j_ws (ws' := [(ad 45, .inl (y 0, 14, .inl lakeF)), (ad 43, .inl (y 0, 8, .inl (fun _ => 0))), MB mo ad 0 0 0 0 0 0 0 (-1) 0 0 0 0 0 0 0 0 0 0 1 0, (ad 62, .inl (y 0, 63, .inl (dayF 0))), (ad 68, .inl (y 0, 63, .inl (dayF 0)))]) rfl ?_
      refine j_iload_n (pc := 137) C d_Model_today_137 rfl 2 rfl ?_
      exact j_iret (pc := 138) C hr rfl () (by decide) [] rfl (by decide) (by decide) (by decide) d_Model_today_138
    · refine j_aload_n (pc := 26) C d_Model_today_26 rfl 0 rfl ?_
      refine j_iload_n (pc := 27) C d_Model_today_27 rfl 1 rfl ?_
      refine j_callVi (pc := 28) C (c_M_isVillage l D y mo ad 0 0 1 va) kw_Model_472 kv_Model_isVillage 0 10 rfl rfl ⟨by decide, by decide⟩ ⟨by decide, by decide⟩ (wr := [(ad 62, .inl (y 0, 63, .inl (dayF 0))), (ad 45, .inl (y 0, 14, .inl lakeF)), (ad 68, .inl (y 0, 63, .inl f))]) [0, 1] [2, 3, 4] rfl rfl (by decide) (by decide) (by decide) (As := [.int va]) (rest := []) rfl (nb rfl) rfl d_Model_today_28 (fun r9 _ hr9 => ?_)
      subst hr9
      refine j_ws (ws' := [(ad 62, .inl (y 0, 63, .inl (dayF 0))), (ad 45, .inl (y 0, 14, .inl lakeF)), (ad 68, .inl (y 0, 63, .inl f)), MB mo ad 0 0 0 0 0 0 0 (-1) 0 0 0 0 0 0 0 0 0 0 1 0, (ad 43, .inl (y 0, 8, .inl (fun _ => 0)))]) rfl ?_
      refine j_st (st' := [.int 0]) rfl ?_
      refine j_if_neF (pc := 31) C (tgt := 36) d_Model_today_31 (by decide) (by decide) ?_
      refine j_iconst (pc := 34) C (v := (-1)) d_Model_today_34 (by decide) ?_
      exact j_iret (pc := 35) C hr rfl () (by simp only [Int32.lt_iff_toInt_lt, Int32.le_iff_toInt_le, ← Int32.toInt_inj, (by decide : Int32.toInt 0 = 0), (by decide : Int32.toInt 1 = 1)] at c3; (first | rw [if_pos (by omega)] | rw [if_neg (by omega)])) [] rfl (by decide) (by decide) (by decide) d_Model_today_35
  · rw [if_neg g2] at hr1
    subst hr1
    refine j_if_eqT (pc := 7) C (tgt := 34) d_Model_today_7 (by decide) (by decide) ?_
    refine j_iconst (pc := 34) C (v := (-1)) d_Model_today_34 (by decide) ?_
    exact j_iret (pc := 35) C hr rfl () (by (first | rw [if_pos (by omega)] | rw [if_neg (by omega)])) [] rfl (by decide) (by decide) (by decide) d_Model_today_35
theorem d_Model_canPlan_0 : decode prog_13_method_92_code 0 = .ok (.iload_n 1, 1) := by decide +kernel
theorem d_Model_canPlan_1 : decode prog_13_method_92_code 1 = .ok (.i2l, 1) := by decide +kernel
theorem d_Model_canPlan_2 : decode prog_13_method_92_code 2 = .ok (.lconst 1, 1) := by decide +kernel
theorem d_Model_canPlan_3 : decode prog_13_method_92_code 3 = .ok (.ldc2_w 517, 3) := by decide +kernel
theorem d_Model_canPlan_6 : decode prog_13_method_92_code 6 = .ok (.invokestatic 240, 3) := by decide +kernel
theorem d_Model_canPlan_9 : decode prog_13_method_92_code 9 = .ok (.ifCond .eq 21, 3) := by decide +kernel
theorem d_Model_canPlan_12 : decode prog_13_method_92_code 12 = .ok (.aload_n 0, 1) := by decide +kernel
theorem d_Model_canPlan_13 : decode prog_13_method_92_code 13 = .ok (.getfield 158, 3) := by decide +kernel
theorem d_Model_canPlan_16 : decode prog_13_method_92_code 16 = .ok (.iconst 0, 1) := by decide +kernel
theorem d_Model_canPlan_17 : decode prog_13_method_92_code 17 = .ok (.iaload, 1) := by decide +kernel
theorem d_Model_canPlan_18 : decode prog_13_method_92_code 18 = .ok (.iload_n 1, 1) := by decide +kernel
theorem d_Model_canPlan_19 : decode prog_13_method_92_code 19 = .ok (.iadd, 1) := by decide +kernel
theorem d_Model_canPlan_20 : decode prog_13_method_92_code 20 = .ok (.sipush 999, 3) := by decide +kernel
theorem d_Model_canPlan_23 : decode prog_13_method_92_code 23 = .ok (.if_icmp .gt 7, 3) := by decide +kernel
theorem d_Model_canPlan_30 : decode prog_13_method_92_code 30 = .ok (.iconst 0, 1) := by decide +kernel
theorem d_Model_canPlan_31 : decode prog_13_method_92_code 31 = .ok (.ireturn, 1) := by decide +kernel
theorem d_Model_canPlan_26 : decode prog_13_method_92_code 26 = .ok (.iconst 1, 1) := by decide +kernel
theorem d_Model_canPlan_27 : decode prog_13_method_92_code 27 = .ok (.goto 4, 3) := by decide +kernel
set_option maxHeartbeats 4000000 in
set_option maxRecDepth 100000 in
theorem c_M_canPlan_any (l : Launch) (D : va_G) (y : Nat → ClassId) (mo : Nat) (ad : Nat → Nat) (n : Int32)  : CT l D y ⟨"NineBoardsModel", "canPlan", "(I)Z"⟩ prog_13_method_92_code 2 (some .boolean) ({ frames := 1, cells := 0, slots := 0, locals := 25 } : Room) [.ref mo, .int n] [MB mo ad 0 0 0 0 0 0 0 (-1) 0 0 0 0 0 0 0 0 0 0 1 0, (ad 62, .inl (y 0, 63, .inl (dayF 0)))] (QI D [MB mo ad 0 0 0 0 0 0 0 (-1) 0 0 0 0 0 0 0 0 0 0 1 0, (ad 62, .inl (y 0, 63, .inl (dayF 0)))] (fun (r : Int32) (u : Unit) => r = 0 ∨ r = 1) (fun _ => [MB mo ad 0 0 0 0 0 0 0 (-1) 0 0 0 0 0 0 0 0 0 0 1 0, (ad 62, .inl (y 0, 63, .inl (dayF 0)))])) := by
  refine CT.of (by decide) (nb rfl) ?_
  intro p e s m args below meth c C hr
  refine j_lv (lv' := [(0, .ref mo), (1, .int n)]) rfl ?_
  refine j_iload_n (pc := 0) C d_Model_canPlan_0 rfl 1 rfl ?_
  refine j_i2l (pc := 1) C (v := n.toInt64) d_Model_canPlan_1 rfl ?_
  refine j_lconst (pc := 2) C (v := 1) d_Model_canPlan_2 (by decide) ?_
  refine j_ldc2 (pc := 3) C (v := 6) (mt_7 (List.mem_of_getElem? (i := 189) rfl) rfl) d_Model_canPlan_3 ?_
  refine j_callSi (pc := 6) C (c_isIn_x l D y n 1 6 1 6 (by decide) (by decide)) kw_Model_240 ks_Model_isIn ⟨by decide, by decide⟩ ⟨by decide, by decide⟩ (wr := [MB mo ad 0 0 0 0 0 0 0 (-1) 0 0 0 0 0 0 0 0 0 0 1 0, (ad 62, .inl (y 0, 63, .inl (dayF 0)))]) [] [0, 1] rfl rfl (by decide) (by decide) (by decide) (As := [.long n.toInt64, .long 1, .long 6]) (rest := []) rfl (nb rfl) rfl d_Model_canPlan_6 (fun r1 _ hr1 => ?_)
  refine j_ws (ws' := [MB mo ad 0 0 0 0 0 0 0 (-1) 0 0 0 0 0 0 0 0 0 0 1 0, (ad 62, .inl (y 0, 63, .inl (dayF 0)))]) rfl ?_
  by_cases g2 : 1 ≤ n.toInt ∧ n.toInt ≤ 6
  · rw [if_pos g2] at hr1
    subst hr1
    refine j_if_eqF (pc := 9) C (tgt := 30) d_Model_canPlan_9 (by decide) (by decide) ?_
    refine j_aload_n (pc := 12) C d_Model_canPlan_12 rfl 0 rfl ?_
    refine j_get (pc := 13) C gf_Model_158 0 rfl rfl d_Model_canPlan_13 ?_
    refine j_iconst (pc := 16) C (v := 0) d_Model_canPlan_16 (by decide) ?_
    refine j_iald (pc := 17) C 1 rfl (v := 0) (vin (by decide)) rfl d_Model_canPlan_17 ?_
    refine j_iload_n (pc := 18) C d_Model_canPlan_18 rfl 1 rfl ?_
    refine j_iadd (pc := 19) C (v := 0 + n) d_Model_canPlan_19 rfl ?_
    refine j_sipush (pc := 20) C (v := 999) d_Model_canPlan_20 (by decide) ?_
    refine j_icmp_gt (pc := 23) C (tgt := 30) d_Model_canPlan_23 (by decide) (fun c3 => ?_) (fun c3 => ?_)
    · refine j_iconst (pc := 30) C (v := 0) d_Model_canPlan_30 (by decide) ?_
      exact j_iret (pc := 31) C hr (by decide) () (by decide) [0, 1] rfl (by decide) (by decide) (by decide) d_Model_canPlan_31
    · refine j_iconst (pc := 26) C (v := 1) d_Model_canPlan_26 (by decide) ?_
      refine j_goto (pc := 27) C (tgt := 31) d_Model_canPlan_27 (by decide) ?_
      exact j_iret (pc := 31) C hr (by decide) () (by decide) [0, 1] rfl (by decide) (by decide) (by decide) d_Model_canPlan_31
  · rw [if_neg g2] at hr1
    subst hr1
    refine j_if_eqT (pc := 9) C (tgt := 30) d_Model_canPlan_9 (by decide) (by decide) ?_
    refine j_iconst (pc := 30) C (v := 0) d_Model_canPlan_30 (by decide) ?_
    exact j_iret (pc := 31) C hr (by decide) () (by decide) [0, 1] rfl (by decide) (by decide) (by decide) d_Model_canPlan_31
theorem d_Model_share_0 : decode prog_13_method_96_code 0 = .ok (.aload_n 0, 1) := by decide +kernel
theorem d_Model_share_1 : decode prog_13_method_96_code 1 = .ok (.iload_n 1, 1) := by decide +kernel
theorem d_Model_share_2 : decode prog_13_method_96_code 2 = .ok (.invokevirtual 519, 3) := by decide +kernel
theorem kw_Model_519 : KW "NineBoardsModel" 519 ⟨"NineBoardsModel", "canPlan", "(I)Z"⟩ prog_13_method_92_code 2 (some .boolean) 1 := ⟨(mt_7 (List.mem_of_getElem? (i := 185) rfl) rfl), (mt_1 (List.mem_of_getElem? (i := 16) rfl) rfl), (mt_7 (List.mem_of_getElem? (i := 188) rfl) rfl), by decide +kernel⟩
theorem kv_Model_canPlan : Cond.instanceMethod ⟨"NineBoardsModel", "canPlan", "(I)Z"⟩ ∈ TB ∧ Cond.selects "NineBoardsModel" ⟨"NineBoardsModel", "canPlan", "(I)Z"⟩ ⟨"NineBoardsModel", "canPlan", "(I)Z"⟩ ∈ TB := ⟨(mt_7 (List.mem_of_getElem? (i := 187) rfl) rfl), (ms_0 (List.mem_map.mpr ⟨(⟨"NineBoardsModel", "canPlan", "(I)Z"⟩, 79), List.mem_of_getElem? (i := 110) (by decide +kernel), rfl⟩) rfl)⟩
theorem d_Model_share_5 : decode prog_13_method_96_code 5 = .ok (.ifCond .eq 11, 3) := by decide +kernel
theorem d_Model_share_16 : decode prog_13_method_96_code 16 = .ok (.ldc_w 475, 3) := by decide +kernel
theorem d_Model_share_19 : decode prog_13_method_96_code 19 = .ok (.ireturn, 1) := by decide +kernel
theorem d_Model_share_8 : decode prog_13_method_96_code 8 = .ok (.aload_n 0, 1) := by decide +kernel
theorem d_Model_share_9 : decode prog_13_method_96_code 9 = .ok (.iload_n 2, 1) := by decide +kernel
theorem d_Model_share_10 : decode prog_13_method_96_code 10 = .ok (.invokevirtual 472, 3) := by decide +kernel
theorem d_Model_share_13 : decode prog_13_method_96_code 13 = .ok (.ifCond .ne 7, 3) := by decide +kernel
set_option maxHeartbeats 4000000 in
set_option maxRecDepth 100000 in
theorem c_M_share (l : Launch) (D : va_G) (y : Nat → ClassId) (mo : Nat) (ad : Nat → Nat) (n : Int32) (w : Int32)  : CT l D y ⟨"NineBoardsModel", "share", "(II)I"⟩ prog_13_method_96_code 4 (some .int) ({ frames := 2, cells := 0, slots := 0, locals := 46 } : Room) [.ref mo, .int n, .int w] [MB mo ad 0 0 0 0 0 0 0 (-1) 0 0 0 0 0 0 0 0 0 0 1 0, (ad 43, .inl (y 0, 8, .inl (fun _ => 0))), (ad 62, .inl (y 0, 63, .inl (dayF 0)))] (QI D [MB mo ad 0 0 0 0 0 0 0 (-1) 0 0 0 0 0 0 0 0 0 0 1 0, (ad 43, .inl (y 0, 8, .inl (fun _ => 0))), (ad 62, .inl (y 0, 63, .inl (dayF 0)))] (fun (r : Int32) (_ : Unit) => r = (-1000000000)) (fun _ => [])) := by
  refine CT.of (by decide) (nb rfl) ?_
  intro p e s m args below meth c C hr
  refine j_lv (lv' := [(0, .ref mo), (1, .int n), (2, .int w)]) rfl ?_
  refine j_aload_n (pc := 0) C d_Model_share_0 rfl 0 rfl ?_
  refine j_iload_n (pc := 1) C d_Model_share_1 rfl 1 rfl ?_
  refine j_callVi (pc := 2) C (c_M_canPlan_any l D y mo ad n) kw_Model_519 kv_Model_canPlan 0 10 rfl rfl ⟨by decide, by decide⟩ ⟨by decide, by decide⟩ (wr := [(ad 43, .inl (y 0, 8, .inl (fun _ => 0)))]) [0, 2] [1] rfl rfl (by decide) (by decide) (by decide) (As := [.int n]) (rest := []) rfl (nb rfl) rfl d_Model_share_2 (fun r1 _ hr1 => ?_)
  refine j_ws (ws' := [(ad 43, .inl (y 0, 8, .inl (fun _ => 0))), MB mo ad 0 0 0 0 0 0 0 (-1) 0 0 0 0 0 0 0 0 0 0 1 0, (ad 62, .inl (y 0, 63, .inl (dayF 0)))]) rfl ?_
  refine j_if_eq (pc := 5) C (tgt := 16) d_Model_share_5 (by decide) (fun c2 => ?_) (fun c2 => ?_)
  · refine j_ldcw (pc := 16) C (v := (-1000000000)) (mt_7 (List.mem_of_getElem? (i := 94) rfl) rfl) d_Model_share_16 ?_
    exact j_iret (pc := 19) C hr rfl () rfl [] rfl (by decide) (by decide) (by decide) d_Model_share_19
  · refine j_aload_n (pc := 8) C d_Model_share_8 rfl 0 rfl ?_
    refine j_iload_n (pc := 9) C d_Model_share_9 rfl 2 rfl ?_
    refine j_callVi (pc := 10) C (c_M_isVillage l D y mo ad 0 0 1 w) kw_Model_472 kv_Model_isVillage 0 10 rfl rfl ⟨by decide, by decide⟩ ⟨by decide, by decide⟩ (wr := [(ad 62, .inl (y 0, 63, .inl (dayF 0)))]) [1, 0] [2] rfl rfl (by decide) (by decide) (by decide) (As := [.int w]) (rest := []) rfl (nb rfl) rfl d_Model_share_10 (fun r3 _ hr3 => ?_)
    subst hr3
    refine j_ws (ws' := [(ad 62, .inl (y 0, 63, .inl (dayF 0))), MB mo ad 0 0 0 0 0 0 0 (-1) 0 0 0 0 0 0 0 0 0 0 1 0, (ad 43, .inl (y 0, 8, .inl (fun _ => 0)))]) rfl ?_
    refine j_st (st' := [.int 0]) rfl ?_
    refine j_if_neF (pc := 13) C (tgt := 20) d_Model_share_13 (by decide) (by decide) ?_
    refine j_ldcw (pc := 16) C (v := (-1000000000)) (mt_7 (List.mem_of_getElem? (i := 94) rfl) rfl) d_Model_share_16 ?_
    exact j_iret (pc := 19) C hr rfl () rfl [] rfl (by decide) (by decide) (by decide) d_Model_share_19
theorem d_Model_drawOf_0 : decode prog_13_method_118_code 0 = .ok (.aload_n 0, 1) := by decide +kernel
theorem d_Model_drawOf_1 : decode prog_13_method_118_code 1 = .ok (.ldc2_w 567, 3) := by decide +kernel
theorem d_Model_drawOf_4 : decode prog_13_method_118_code 4 = .ok (.aload_n 0, 1) := by decide +kernel
theorem d_Model_drawOf_5 : decode prog_13_method_118_code 5 = .ok (.getfield 191, 3) := by decide +kernel
theorem gf_Model_191 : GF "NineBoardsModel" 191 10 76 := ⟨_, _, _, rfl, ci_Model, by decide, (mt_5 (List.mem_of_getElem? (i := 164) rfl) rfl)⟩
theorem d_Model_drawOf_8 : decode prog_13_method_118_code 8 = .ok (.lmul, 1) := by decide +kernel
theorem d_Model_drawOf_9 : decode prog_13_method_118_code 9 = .ok (.ldc2_w 569, 3) := by decide +kernel
theorem d_Model_drawOf_12 : decode prog_13_method_118_code 12 = .ok (.ladd, 1) := by decide +kernel
theorem d_Model_drawOf_13 : decode prog_13_method_118_code 13 = .ok (.ldc2_w 571, 3) := by decide +kernel
theorem d_Model_drawOf_16 : decode prog_13_method_118_code 16 = .ok (.lrem, 1) := by decide +kernel
theorem d_Model_drawOf_17 : decode prog_13_method_118_code 17 = .ok (.putfield 191, 3) := by decide +kernel
theorem d_Model_drawOf_20 : decode prog_13_method_118_code 20 = .ok (.aload_n 0, 1) := by decide +kernel
theorem d_Model_drawOf_21 : decode prog_13_method_118_code 21 = .ok (.getfield 191, 3) := by decide +kernel
theorem d_Model_drawOf_24 : decode prog_13_method_118_code 24 = .ok (.ldc2_w 573, 3) := by decide +kernel
theorem d_Model_drawOf_27 : decode prog_13_method_118_code 27 = .ok (.ldiv, 1) := by decide +kernel
theorem d_Model_drawOf_28 : decode prog_13_method_118_code 28 = .ok (.iload_n 1, 1) := by decide +kernel
theorem d_Model_drawOf_29 : decode prog_13_method_118_code 29 = .ok (.i2l, 1) := by decide +kernel
theorem d_Model_drawOf_30 : decode prog_13_method_118_code 30 = .ok (.lrem, 1) := by decide +kernel
theorem d_Model_drawOf_31 : decode prog_13_method_118_code 31 = .ok (.l2i, 1) := by decide +kernel
theorem d_Model_drawOf_32 : decode prog_13_method_118_code 32 = .ok (.ireturn, 1) := by decide +kernel
set_option maxHeartbeats 4000000 in
set_option maxRecDepth 100000 in
theorem c_M_drawOf (l : Launch) (D : va_G) (y : Nat → ClassId) (mo : Nat) (ad : Nat → Nat) (un : Int32) (ne : Int32) (sd : Int64)  : CT l D y ⟨"NineBoardsModel", "drawOf", "(I)I"⟩ prog_13_method_118_code 2 (some .int) ({ frames := 0, cells := 0, slots := 0, locals := 0 } : Room) [.ref mo, .int 3] [MB mo ad 0 0 0 0 0 0 0 (-1) 0 0 0 0 0 0 0 0 un ne sd 0] (QI D [MB mo ad 0 0 0 0 0 0 0 (-1) 0 0 0 0 0 0 0 0 un ne sd 0] (fun (r : Int32) (u : Int64) => True) (fun u => [MB mo ad 0 0 0 0 0 0 0 (-1) 0 0 0 0 0 0 0 0 un ne u 0])) := by
  refine CT.of (by decide) (nb rfl) ?_
  intro p e s m args below meth c C hr
  refine j_lv (lv' := [(0, .ref mo), (1, .int 3)]) rfl ?_
  refine j_aload_n (pc := 0) C d_Model_drawOf_0 rfl 0 rfl ?_
  refine j_ldc2 (pc := 1) C (v := 1103515245) (mt_8 (List.mem_of_getElem? (i := 95) rfl) rfl) d_Model_drawOf_1 ?_
  refine j_aload_n (pc := 4) C d_Model_drawOf_4 rfl 0 rfl ?_
  refine j_get (pc := 5) C gf_Model_191 0 rfl rfl d_Model_drawOf_5 ?_
  refine j_lmul (pc := 8) C (v := 1103515245 * sd) d_Model_drawOf_8 rfl ?_
  refine j_ldc2 (pc := 9) C (v := 12345) (mt_8 (List.mem_of_getElem? (i := 96) rfl) rfl) d_Model_drawOf_9 ?_
  refine j_ladd (pc := 12) C (v := (1103515245 * sd) + 12345) d_Model_drawOf_12 rfl ?_
  refine j_ldc2 (pc := 13) C (v := 2147483648) (mt_8 (List.mem_of_getElem? (i := 97) rfl) rfl) d_Model_drawOf_13 ?_
  refine j_lrem (pc := 16) C (v := ((1103515245 * sd) + 12345) - ((1103515245 * sd) + 12345) / 2147483648 * 2147483648) d_Model_drawOf_16 (by decide) rfl ?_
  refine j_put (pc := 17) C pf_Model_191 0 (ws' := [MB mo ad 0 0 0 0 0 0 0 (-1) 0 0 0 0 0 0 0 0 un ne (((1103515245 * sd) + 12345) - ((1103515245 * sd) + 12345) / 2147483648 * 2147483648) 0]) rfl rfl rfl (nl rfl) rfl d_Model_drawOf_17 ?_
  refine j_aload_n (pc := 20) C d_Model_drawOf_20 rfl 0 rfl ?_
  refine j_get (pc := 21) C gf_Model_191 0 rfl rfl d_Model_drawOf_21 ?_
  refine j_ldc2 (pc := 24) C (v := 64) (mt_8 (List.mem_of_getElem? (i := 98) rfl) rfl) d_Model_drawOf_24 ?_
  refine j_ldiv (pc := 27) C (v := (((1103515245 * sd) + 12345) - ((1103515245 * sd) + 12345) / 2147483648 * 2147483648) / 64) d_Model_drawOf_27 (by decide) rfl ?_
  refine j_iload_n (pc := 28) C d_Model_drawOf_28 rfl 1 rfl ?_
  refine j_i2l (pc := 29) C (v := 3) d_Model_drawOf_29 (by decide) ?_
  refine j_lrem (pc := 30) C (v := ((((1103515245 * sd) + 12345) - ((1103515245 * sd) + 12345) / 2147483648 * 2147483648) / 64) - ((((1103515245 * sd) + 12345) - ((1103515245 * sd) + 12345) / 2147483648 * 2147483648) / 64) / 3 * 3) d_Model_drawOf_30 (by decide) rfl ?_
  refine j_l2i (pc := 31) C (v := (((((1103515245 * sd) + 12345) - ((1103515245 * sd) + 12345) / 2147483648 * 2147483648) / 64) - ((((1103515245 * sd) + 12345) - ((1103515245 * sd) + 12345) / 2147483648 * 2147483648) / 64) / 3 * 3).toInt32) d_Model_drawOf_31 rfl ?_
  exact j_iret (pc := 32) C hr rfl (((1103515245 * sd) + 12345) - ((1103515245 * sd) + 12345) / 2147483648 * 2147483648) trivial [0] rfl (by decide) (by decide) (by decide) d_Model_drawOf_32
theorem d_Model_years_89 : decode prog_13_method_119_code 89 = .ok (.iload 10, 2) := by decide +kernel
theorem d_Model_years_91 : decode prog_13_method_119_code 91 = .ok (.iload_n 3, 1) := by decide +kernel
theorem d_Model_years_92 : decode prog_13_method_119_code 92 = .ok (.if_icmp .ge 97, 3) := by decide +kernel
theorem d_Model_years_95 : decode prog_13_method_119_code 95 = .ok (.aload_n 0, 1) := by decide +kernel
theorem d_Model_years_96 : decode prog_13_method_119_code 96 = .ok (.getfield 158, 3) := by decide +kernel
theorem d_Model_years_99 : decode prog_13_method_119_code 99 = .ok (.iconst 0, 1) := by decide +kernel
theorem d_Model_years_100 : decode prog_13_method_119_code 100 = .ok (.iaload, 1) := by decide +kernel
theorem d_Model_years_101 : decode prog_13_method_119_code 101 = .ok (.sipush 999, 3) := by decide +kernel
theorem d_Model_years_104 : decode prog_13_method_119_code 104 = .ok (.if_icmp .ge 85, 3) := by decide +kernel
theorem d_Model_years_107 : decode prog_13_method_119_code 107 = .ok (.aload_n 0, 1) := by decide +kernel
theorem d_Model_years_108 : decode prog_13_method_119_code 108 = .ok (.iconst 3, 1) := by decide +kernel
theorem d_Model_years_109 : decode prog_13_method_119_code 109 = .ok (.invokevirtual 579, 3) := by decide +kernel
theorem kw_Model_579 : KW "NineBoardsModel" 579 ⟨"NineBoardsModel", "drawOf", "(I)I"⟩ prog_13_method_118_code 2 (some .int) 1 := ⟨(mt_8 (List.mem_of_getElem? (i := 91) rfl) rfl), (mt_1 (List.mem_of_getElem? (i := 16) rfl) rfl), (mt_8 (List.mem_of_getElem? (i := 94) rfl) rfl), by decide +kernel⟩
theorem kv_Model_drawOf : Cond.instanceMethod ⟨"NineBoardsModel", "drawOf", "(I)I"⟩ ∈ TB ∧ Cond.selects "NineBoardsModel" ⟨"NineBoardsModel", "drawOf", "(I)I"⟩ ⟨"NineBoardsModel", "drawOf", "(I)I"⟩ ∈ TB := ⟨(mt_8 (List.mem_of_getElem? (i := 93) rfl) rfl), (ms_0 (List.mem_map.mpr ⟨(⟨"NineBoardsModel", "drawOf", "(I)I"⟩, 79), List.mem_of_getElem? (i := 131) (by decide +kernel), rfl⟩) rfl)⟩
theorem d_Model_years_112 : decode prog_13_method_119_code 112 = .ok (.istore 11, 2) := by decide +kernel
theorem d_Model_years_114 : decode prog_13_method_119_code 114 = .ok (.aload_n 0, 1) := by decide +kernel
theorem d_Model_years_115 : decode prog_13_method_119_code 115 = .ok (.aload_n 0, 1) := by decide +kernel
theorem d_Model_years_116 : decode prog_13_method_119_code 116 = .ok (.iload_n 1, 1) := by decide +kernel
theorem d_Model_years_117 : decode prog_13_method_119_code 117 = .ok (.iload 11, 2) := by decide +kernel
theorem d_Model_years_119 : decode prog_13_method_119_code 119 = .ok (.invokevirtual 478, 3) := by decide +kernel
theorem d_Model_years_122 : decode prog_13_method_119_code 122 = .ok (.ifCond .eq 8, 3) := by decide +kernel
theorem d_Model_years_125 : decode prog_13_method_119_code 125 = .ok (.iload 11, 2) := by decide +kernel
theorem d_Model_years_127 : decode prog_13_method_119_code 127 = .ok (.goto 4, 3) := by decide +kernel
theorem d_Model_years_131 : decode prog_13_method_119_code 131 = .ok (.invokevirtual 485, 3) := by decide +kernel
theorem d_Model_years_134 : decode prog_13_method_119_code 134 = .ok (.aload_n 0, 1) := by decide +kernel
theorem d_Model_years_135 : decode prog_13_method_119_code 135 = .ok (.iconst 0, 1) := by decide +kernel
theorem d_Model_years_136 : decode prog_13_method_119_code 136 = .ok (.invokevirtual 488, 3) := by decide +kernel
theorem d_Model_years_139 : decode prog_13_method_119_code 139 = .ok (.lload 7, 2) := by decide +kernel
theorem d_Model_years_141 : decode prog_13_method_119_code 141 = .ok (.aload_n 0, 1) := by decide +kernel
theorem d_Model_years_142 : decode prog_13_method_119_code 142 = .ok (.getfield 441, 3) := by decide +kernel
theorem d_Model_years_145 : decode prog_13_method_119_code 145 = .ok (.i2l, 1) := by decide +kernel
theorem d_Model_years_146 : decode prog_13_method_119_code 146 = .ok (.ladd, 1) := by decide +kernel
theorem d_Model_years_147 : decode prog_13_method_119_code 147 = .ok (.lstore 7, 2) := by decide +kernel
theorem d_Model_years_149 : decode prog_13_method_119_code 149 = .ok (.iconst 0, 1) := by decide +kernel
theorem d_Model_years_150 : decode prog_13_method_119_code 150 = .ok (.istore 12, 2) := by decide +kernel
theorem d_Model_years_152 : decode prog_13_method_119_code 152 = .ok (.iload 12, 2) := by decide +kernel
theorem d_Model_years_154 : decode prog_13_method_119_code 154 = .ok (.aload_n 0, 1) := by decide +kernel
theorem d_Model_years_155 : decode prog_13_method_119_code 155 = .ok (.invokevirtual 448, 3) := by decide +kernel
theorem d_Model_years_158 : decode prog_13_method_119_code 158 = .ok (.if_icmp .ge 25, 3) := by decide +kernel
theorem d_Model_years_183 : decode prog_13_method_119_code 183 = .ok (.iinc 10 1, 3) := by decide +kernel
theorem d_Model_years_186 : decode prog_13_method_119_code 186 = .ok (.goto (-97), 3) := by decide +kernel
theorem d_Model_years_130 : decode prog_13_method_119_code 130 = .ok (.iconst 0, 1) := by decide +kernel
theorem d_Model_years_76 : decode prog_13_method_119_code 76 = .ok (.iload 9, 2) := by decide +kernel
theorem d_Model_years_78 : decode prog_13_method_119_code 78 = .ok (.iload_n 2, 1) := by decide +kernel
theorem d_Model_years_79 : decode prog_13_method_119_code 79 = .ok (.if_icmp .ge 116, 3) := by decide +kernel
theorem d_Model_years_82 : decode prog_13_method_119_code 82 = .ok (.aload_n 0, 1) := by decide +kernel
theorem d_Model_years_83 : decode prog_13_method_119_code 83 = .ok (.invokevirtual 495, 3) := by decide +kernel
theorem d_Model_years_86 : decode prog_13_method_119_code 86 = .ok (.iconst 0, 1) := by decide +kernel
theorem d_Model_years_87 : decode prog_13_method_119_code 87 = .ok (.istore 10, 2) := by decide +kernel
theorem d_Model_years_189 : decode prog_13_method_119_code 189 = .ok (.iinc 9 1, 3) := by decide +kernel
theorem d_Model_years_192 : decode prog_13_method_119_code 192 = .ok (.goto (-116), 3) := by decide +kernel
theorem d_Model_years_0 : decode prog_13_method_119_code 0 = .ok (.iload_n 1, 1) := by decide +kernel
theorem d_Model_years_1 : decode prog_13_method_119_code 1 = .ok (.i2l, 1) := by decide +kernel
theorem d_Model_years_2 : decode prog_13_method_119_code 2 = .ok (.lconst 0, 1) := by decide +kernel
theorem d_Model_years_3 : decode prog_13_method_119_code 3 = .ok (.ldc2_w 575, 3) := by decide +kernel
theorem d_Model_years_6 : decode prog_13_method_119_code 6 = .ok (.invokestatic 240, 3) := by decide +kernel
theorem d_Model_years_9 : decode prog_13_method_119_code 9 = .ok (.ifCond .eq 50, 3) := by decide +kernel
theorem d_Model_years_12 : decode prog_13_method_119_code 12 = .ok (.iload_n 2, 1) := by decide +kernel
theorem d_Model_years_13 : decode prog_13_method_119_code 13 = .ok (.i2l, 1) := by decide +kernel
theorem d_Model_years_14 : decode prog_13_method_119_code 14 = .ok (.lconst 1, 1) := by decide +kernel
theorem d_Model_years_15 : decode prog_13_method_119_code 15 = .ok (.ldc2_w 539, 3) := by decide +kernel
theorem d_Model_years_18 : decode prog_13_method_119_code 18 = .ok (.invokestatic 240, 3) := by decide +kernel
theorem d_Model_years_21 : decode prog_13_method_119_code 21 = .ok (.ifCond .eq 38, 3) := by decide +kernel
theorem d_Model_years_24 : decode prog_13_method_119_code 24 = .ok (.iload_n 3, 1) := by decide +kernel
theorem d_Model_years_25 : decode prog_13_method_119_code 25 = .ok (.i2l, 1) := by decide +kernel
theorem d_Model_years_26 : decode prog_13_method_119_code 26 = .ok (.lconst 1, 1) := by decide +kernel
theorem d_Model_years_27 : decode prog_13_method_119_code 27 = .ok (.ldc2_w 531, 3) := by decide +kernel
theorem d_Model_years_30 : decode prog_13_method_119_code 30 = .ok (.invokestatic 240, 3) := by decide +kernel
theorem d_Model_years_33 : decode prog_13_method_119_code 33 = .ok (.ifCond .eq 26, 3) := by decide +kernel
theorem d_Model_years_36 : decode prog_13_method_119_code 36 = .ok (.iload 4, 2) := by decide +kernel
theorem d_Model_years_38 : decode prog_13_method_119_code 38 = .ok (.i2l, 1) := by decide +kernel
theorem d_Model_years_39 : decode prog_13_method_119_code 39 = .ok (.lconst 0, 1) := by decide +kernel
theorem d_Model_years_40 : decode prog_13_method_119_code 40 = .ok (.lconst 1, 1) := by decide +kernel
theorem d_Model_years_41 : decode prog_13_method_119_code 41 = .ok (.invokestatic 240, 3) := by decide +kernel
theorem d_Model_years_44 : decode prog_13_method_119_code 44 = .ok (.ifCond .eq 15, 3) := by decide +kernel
theorem d_Model_years_47 : decode prog_13_method_119_code 47 = .ok (.aload_n 0, 1) := by decide +kernel
theorem d_Model_years_48 : decode prog_13_method_119_code 48 = .ok (.getfield 158, 3) := by decide +kernel
theorem d_Model_years_51 : decode prog_13_method_119_code 51 = .ok (.iconst 0, 1) := by decide +kernel
theorem d_Model_years_52 : decode prog_13_method_119_code 52 = .ok (.iaload, 1) := by decide +kernel
theorem d_Model_years_53 : decode prog_13_method_119_code 53 = .ok (.sipush 999, 3) := by decide +kernel
theorem d_Model_years_56 : decode prog_13_method_119_code 56 = .ok (.if_icmp .ne 7, 3) := by decide +kernel
theorem d_Model_years_63 : decode prog_13_method_119_code 63 = .ok (.lconst 0, 1) := by decide +kernel
theorem d_Model_years_64 : decode prog_13_method_119_code 64 = .ok (.lstore 5, 2) := by decide +kernel
theorem d_Model_years_66 : decode prog_13_method_119_code 66 = .ok (.lconst 0, 1) := by decide +kernel
theorem d_Model_years_67 : decode prog_13_method_119_code 67 = .ok (.lstore 7, 2) := by decide +kernel
theorem d_Model_years_69 : decode prog_13_method_119_code 69 = .ok (.aload_n 0, 1) := by decide +kernel
theorem d_Model_years_70 : decode prog_13_method_119_code 70 = .ok (.invokevirtual 510, 3) := by decide +kernel
theorem d_Model_years_73 : decode prog_13_method_119_code 73 = .ok (.iconst 0, 1) := by decide +kernel
theorem d_Model_years_74 : decode prog_13_method_119_code 74 = .ok (.istore 9, 2) := by decide +kernel
theorem d_Model_years_195 : decode prog_13_method_119_code 195 = .ok (.aload_n 0, 1) := by decide +kernel
theorem d_Model_years_196 : decode prog_13_method_119_code 196 = .ok (.invokevirtual 495, 3) := by decide +kernel
theorem d_Model_years_199 : decode prog_13_method_119_code 199 = .ok (.iload 4, 2) := by decide +kernel
theorem d_Model_years_201 : decode prog_13_method_119_code 201 = .ok (.ifCond .ne 8, 3) := by decide +kernel
theorem d_Model_years_209 : decode prog_13_method_119_code 209 = .ok (.lload 7, 2) := by decide +kernel
theorem d_Model_years_211 : decode prog_13_method_119_code 211 = .ok (.lreturn, 1) := by decide +kernel
theorem d_Model_years_204 : decode prog_13_method_119_code 204 = .ok (.lload 5, 2) := by decide +kernel
theorem d_Model_years_206 : decode prog_13_method_119_code 206 = .ok (.goto 5, 3) := by decide +kernel
theorem d_Model_years_59 : decode prog_13_method_119_code 59 = .ok (.ldc2_w 577, 3) := by decide +kernel
theorem d_Model_years_62 : decode prog_13_method_119_code 62 = .ok (.lreturn, 1) := by decide +kernel
set_option maxHeartbeats 4000000 in
set_option maxRecDepth 100000 in
theorem lp_M_year {p : Program} {l : Launch} {e : Env} {s : State} {m : MethodId} {args : Array Value} {below : List Frame} {meth : Method} {c : Code} {Q : State → Prop} {D : va_G} {y : Nat → ClassId} {A : Nat → Prop} (C : Cx p s m args meth c D y A prog_13_method_119_code 13 "NineBoardsModel" "years") (mo : Nat) (ad : Nat → Nat) (va : Int32) (vd : Int32) (N : Nat) (hN : N ≤ 100) (M : Nat) (yy : Nat) (kx : ∀ sd : Int64, J p l e ({ frames := 3, cells := 0, slots := 0, locals := 71 } : Room) s m args below meth c Q D A 13 [MB mo ad 0 0 0 0 0 0 0 (-1) 0 0 0 0 0 0 0 0 0 0 sd 0, (ad 43, .inl (y 0, 8, .inl (fun _ => 0))), (ad 62, .inl (y 0, 63, .inl (dayF (nI N)))), (ad 45, .inl (y 0, 14, .inl lakeF)), (ad 68, .inl (y 0, 63, .inl (dayF 0)))] [(0, .ref mo), (1, .int va), (2, .int (nI M)), (3, .int (nI N)), (4, .int vd), (5, .long 0), (7, .long 0), (9, .int (nI yy)), (10, .int (nI N))] 0 0 189 []) : ∀ (n : Nat) (i : Nat) (sd : Int64), (i + n = N) → J p l e ({ frames := 3, cells := 0, slots := 0, locals := 71 } : Room) s m args below meth c Q D A 13 [MB mo ad 0 0 0 0 0 0 0 (-1) 0 0 0 0 0 0 0 0 0 0 sd 0, (ad 43, .inl (y 0, 8, .inl (fun _ => 0))), (ad 62, .inl (y 0, 63, .inl (dayF (nI i)))), (ad 45, .inl (y 0, 14, .inl lakeF)), (ad 68, .inl (y 0, 63, .inl (dayF 0)))] [(0, .ref mo), (1, .int va), (2, .int (nI M)), (3, .int (nI N)), (4, .int vd), (5, .long 0), (7, .long 0), (9, .int (nI yy)), (10, .int (nI i))] 0 0 89 [] := by
  intro n
  induction n with
  | zero =>
    intro i sd hi
    obtain rfl : i = N := by omega
    refine j_iload (pc := 89) C d_Model_years_89 8 rfl ?_
    refine j_iload_n (pc := 91) C d_Model_years_91 rfl 3 rfl ?_
    refine j_icmp_geT (pc := 92) C (tgt := 189) d_Model_years_92 (by decide) (Int32.le_refl _) ?_
    exact kx sd
  | succ n ih =>
    intro i sd hi
    refine j_iload (pc := 89) C d_Model_years_89 8 rfl ?_
    refine j_iload_n (pc := 91) C d_Model_years_91 rfl 3 rfl ?_
    refine j_icmp_geF (pc := 92) C (tgt := 189) d_Model_years_92 (by decide) (nI_ge (by omega) (by omega)) ?_
    refine j_aload_n (pc := 95) C d_Model_years_95 rfl 0 rfl ?_
    refine j_get (pc := 96) C gf_Model_158 0 rfl rfl d_Model_years_96 ?_
    refine j_iconst (pc := 99) C (v := 0) d_Model_years_99 (by decide) ?_
    refine j_iald (pc := 100) C 2 rfl (v := nI i) (vin (by decide)) rfl d_Model_years_100 ?_
    refine j_sipush (pc := 101) C (v := 999) d_Model_years_101 (by decide) ?_
    refine j_icmp_geF (pc := 104) C (tgt := 189) d_Model_years_104 (by decide) (show ¬ nI 999 ≤ nI i from nI_ge (by omega) (by decide)) ?_
    refine j_aload_n (pc := 107) C d_Model_years_107 rfl 0 rfl ?_
    refine j_iconst (pc := 108) C (v := 3) d_Model_years_108 (by decide) ?_
    refine j_callVi (pc := 109) C (c_M_drawOf l D y mo ad 0 0 sd) kw_Model_579 kv_Model_drawOf 0 10 rfl rfl ⟨by decide, by decide⟩ ⟨by decide, by decide⟩ (wr := [(ad 43, .inl (y 0, 8, .inl (fun _ => 0))), (ad 62, .inl (y 0, 63, .inl (dayF (nI i)))), (ad 45, .inl (y 0, 14, .inl lakeF)), (ad 68, .inl (y 0, 63, .inl (dayF 0)))]) [0] [1, 2, 3, 4] rfl rfl (by decide) (by decide) (by decide) (As := [.int 3]) (rest := []) rfl (nb rfl) rfl d_Model_years_109 (fun r1 u2 hr1 => ?_)
    refine j_ws (ws' := [(ad 43, .inl (y 0, 8, .inl (fun _ => 0))), (ad 62, .inl (y 0, 63, .inl (dayF (nI i)))), (ad 45, .inl (y 0, 14, .inl lakeF)), (ad 68, .inl (y 0, 63, .inl (dayF 0))), MB mo ad 0 0 0 0 0 0 0 (-1) 0 0 0 0 0 0 0 0 0 0 u2 0]) rfl ?_
    refine j_istore (pc := 112) C (lv' := [(11, .int r1), (0, .ref mo), (1, .int va), (2, .int (nI M)), (3, .int (nI N)), (4, .int vd), (5, .long 0), (7, .long 0), (9, .int (nI yy)), (10, .int (nI i))]) d_Model_years_112 (by decide) rfl ?_
    by_cases hz : r1 = 0
    · subst hz
      refine j_aload_n (pc := 114) C d_Model_years_114 rfl 1 rfl ?_
      refine j_aload_n (pc := 115) C d_Model_years_115 rfl 1 rfl ?_
      refine j_iload_n (pc := 116) C d_Model_years_116 rfl 2 rfl ?_
      refine j_iload (pc := 117) C d_Model_years_117 0 rfl ?_
      refine j_callVi (pc := 119) C (c_M_mayDo_0 l D y mo ad 0 0 u2 va) kw_Model_478 kv_Model_mayDo 0 10 rfl rfl ⟨by decide, by decide⟩ ⟨by decide, by decide⟩ (wr := [(ad 43, .inl (y 0, 8, .inl (fun _ => 0))), (ad 62, .inl (y 0, 63, .inl (dayF (nI i)))), (ad 45, .inl (y 0, 14, .inl lakeF)), (ad 68, .inl (y 0, 63, .inl (dayF 0)))]) [4] [0, 1, 2, 3] rfl rfl (by decide) (by decide) (by decide) (As := [.int va, .int 0]) (rest := [.ref mo]) rfl (nb rfl) rfl d_Model_years_119 (fun r3 _ hr3 => ?_)
      subst hr3
      refine j_ws (ws' := [(ad 43, .inl (y 0, 8, .inl (fun _ => 0))), (ad 62, .inl (y 0, 63, .inl (dayF (nI i)))), (ad 45, .inl (y 0, 14, .inl lakeF)), (ad 68, .inl (y 0, 63, .inl (dayF 0))), MB mo ad 0 0 0 0 0 0 0 (-1) 0 0 0 0 0 0 0 0 0 0 u2 0]) rfl ?_
      refine j_st (st' := [.int 1, .ref mo]) rfl ?_
      refine j_if_eqF (pc := 122) C (tgt := 130) d_Model_years_122 (by decide) (by decide) ?_
      refine j_iload (pc := 125) C d_Model_years_125 0 rfl ?_
      refine j_goto (pc := 127) C (tgt := 131) d_Model_years_127 (by decide) ?_
      refine j_callVv (pc := 131) C (c_M_acts l D y mo ad 0 0 u2) kw_Model_485 kv_Model_acts 0 10 rfl rfl ⟨by decide, by decide⟩ ⟨by decide, by decide⟩ (wr := [(ad 43, .inl (y 0, 8, .inl (fun _ => 0))), (ad 62, .inl (y 0, 63, .inl (dayF (nI i)))), (ad 45, .inl (y 0, 14, .inl lakeF)), (ad 68, .inl (y 0, 63, .inl (dayF 0)))]) [4] [0, 1, 2, 3] rfl rfl (by decide) (by decide) (by decide) (As := [.int 0]) (rest := []) rfl (nb rfl) rfl d_Model_years_131 (fun _ _ => ?_)
      refine j_ws (ws' := [(ad 43, .inl (y 0, 8, .inl (fun _ => 0))), (ad 62, .inl (y 0, 63, .inl (dayF (nI i)))), (ad 45, .inl (y 0, 14, .inl lakeF)), (ad 68, .inl (y 0, 63, .inl (dayF 0))), MB mo ad 0 0 0 0 0 0 0 (-1) 0 0 0 0 0 0 0 0 0 0 u2 0]) rfl ?_
      refine j_aload_n (pc := 134) C d_Model_years_134 rfl 1 rfl ?_
      refine j_iconst (pc := 135) C (v := 0) d_Model_years_135 (by decide) ?_
      refine j_callVv (pc := 136) C (c_M_goesBy l D y mo ad 0 0 u2 (nI i)) kw_Model_488 kv_Model_goesBy 0 10 rfl rfl ⟨by decide, by decide⟩ ⟨by decide, by decide⟩ (wr := [(ad 68, .inl (y 0, 63, .inl (dayF 0)))]) [4, 0, 1, 2] [3] rfl rfl (by decide) (by decide) (by decide) (As := [.int 0]) (rest := []) rfl (nb rfl) rfl d_Model_years_136 (fun _ _ => ?_)
      refine j_ws (ws' := [(ad 68, .inl (y 0, 63, .inl (dayF 0))), MB mo ad 0 0 0 0 0 0 0 (-1) 0 0 0 0 0 0 0 0 0 0 u2 0, (ad 43, .inl (y 0, 8, .inl (fun _ => 0))), (ad 62, .inl (y 0, 63, .inl (dayF ((nI i) + 1)))), (ad 45, .inl (y 0, 14, .inl lakeF))]) rfl ?_
      refine j_ws (ws' := [(ad 68, .inl (y 0, 63, .inl (dayF 0))), MB mo ad 0 0 0 0 0 0 0 (-1) 0 0 0 0 0 0 0 0 0 0 u2 0, (ad 43, .inl (y 0, 8, .inl (fun _ => 0))), (ad 62, .inl (y 0, 63, .inl (dayF (nI (i + 1))))), (ad 45, .inl (y 0, 14, .inl lakeF))]) (by rw [nI_1]) ?_
      refine j_lload (pc := 139) C d_Model_years_139 7 rfl ?_
      refine j_aload_n (pc := 141) C d_Model_years_141 rfl 1 rfl ?_
      refine j_get (pc := 142) C gf_Model_441 1 rfl rfl d_Model_years_142 ?_
      refine j_i2l (pc := 145) C (v := 0) d_Model_years_145 (by decide) ?_
      refine j_ladd (pc := 146) C (v := 0) d_Model_years_146 (by decide) ?_
      refine j_lstore (pc := 147) C (lv' := [(7, .long 0), (11, .int 0), (0, .ref mo), (1, .int va), (2, .int (nI M)), (3, .int (nI N)), (4, .int vd), (5, .long 0), (9, .int (nI yy)), (10, .int (nI i))]) d_Model_years_147 (by decide) rfl ?_
      refine j_iconst (pc := 149) C (v := 0) d_Model_years_149 (by decide) ?_
      refine j_istore (pc := 150) C (lv' := [(12, .int 0), (7, .long 0), (11, .int 0), (0, .ref mo), (1, .int va), (2, .int (nI M)), (3, .int (nI N)), (4, .int vd), (5, .long 0), (9, .int (nI yy)), (10, .int (nI i))]) d_Model_years_150 (by decide) rfl ?_
      refine j_iload (pc := 152) C d_Model_years_152 0 rfl ?_
      refine j_aload_n (pc := 154) C d_Model_years_154 rfl 3 rfl ?_
      refine j_callVi (pc := 155) C (c_M_villages l D y mo ad 0 0 u2) kw_Model_448 kv_Model_villages 0 10 rfl rfl ⟨by decide, by decide⟩ ⟨by decide, by decide⟩ (wr := [(ad 68, .inl (y 0, 63, .inl (dayF 0))), (ad 62, .inl (y 0, 63, .inl (dayF (nI (i + 1))))), (ad 45, .inl (y 0, 14, .inl lakeF))]) [1, 2] [0, 3, 4] rfl rfl (by decide) (by decide) (by decide) (As := []) (rest := [.int 0]) rfl (nb rfl) rfl d_Model_years_155 (fun r4 _ hr4 => ?_)
      subst hr4
      refine j_ws (ws' := [(ad 68, .inl (y 0, 63, .inl (dayF 0))), (ad 62, .inl (y 0, 63, .inl (dayF (nI (i + 1))))), (ad 45, .inl (y 0, 14, .inl lakeF)), MB mo ad 0 0 0 0 0 0 0 (-1) 0 0 0 0 0 0 0 0 0 0 u2 0, (ad 43, .inl (y 0, 8, .inl (fun _ => 0)))]) rfl ?_
      refine j_st (st' := [.int 0, .int 0]) rfl ?_
      refine j_icmp_geT (pc := 158) C (tgt := 183) d_Model_years_158 (by decide) (by decide) ?_
      refine j_iinc (pc := 183) C (v := nI (i + 1)) (lv' := [(10, .int (nI (i + 1))), (12, .int 0), (7, .long 0), (11, .int 0), (0, .ref mo), (1, .int va), (2, .int (nI M)), (3, .int (nI N)), (4, .int vd), (5, .long 0), (9, .int (nI yy))]) d_Model_years_183 10 rfl (nI_1 _) (by decide) rfl ?_
      refine j_goto (pc := 186) C (tgt := 89) d_Model_years_186 (by decide) ?_
      refine j_sub (ws' := [MB mo ad 0 0 0 0 0 0 0 (-1) 0 0 0 0 0 0 0 0 0 0 u2 0, (ad 43, .inl (y 0, 8, .inl (fun _ => 0))), (ad 62, .inl (y 0, 63, .inl (dayF (nI (i + 1))))), (ad 45, .inl (y 0, 14, .inl lakeF)), (ad 68, .inl (y 0, 63, .inl (dayF 0)))]) [3, 4, 1, 2, 0] rfl (by decide) ?_
      refine j_locs (lv' := [(0, .ref mo), (1, .int va), (2, .int (nI M)), (3, .int (nI N)), (4, .int vd), (5, .long 0), (7, .long 0), (9, .int (nI yy)), (10, .int (nI (i + 1)))]) [4, 5, 6, 7, 8, 9, 2, 10, 0] rfl ?_
      exact ih (i + 1) _ (by omega)
    · refine j_aload_n (pc := 114) C d_Model_years_114 rfl 1 rfl ?_
      refine j_aload_n (pc := 115) C d_Model_years_115 rfl 1 rfl ?_
      refine j_iload_n (pc := 116) C d_Model_years_116 rfl 2 rfl ?_
      refine j_iload (pc := 117) C d_Model_years_117 0 rfl ?_
      refine j_callVi (pc := 119) C (c_M_mayDo_n l D y mo ad 0 0 u2 va r1 hz) kw_Model_478 kv_Model_mayDo 0 10 rfl rfl ⟨by decide, by decide⟩ ⟨by decide, by decide⟩ (wr := [(ad 62, .inl (y 0, 63, .inl (dayF (nI i)))), (ad 45, .inl (y 0, 14, .inl lakeF)), (ad 68, .inl (y 0, 63, .inl (dayF 0)))]) [4, 0] [1, 2, 3] rfl rfl (by decide) (by decide) (by decide) (As := [.int va, .int r1]) (rest := [.ref mo]) rfl (nb rfl) rfl d_Model_years_119 (fun r5 _ hr5 => ?_)
      subst hr5
      refine j_ws (ws' := [(ad 62, .inl (y 0, 63, .inl (dayF (nI i)))), (ad 45, .inl (y 0, 14, .inl lakeF)), (ad 68, .inl (y 0, 63, .inl (dayF 0))), MB mo ad 0 0 0 0 0 0 0 (-1) 0 0 0 0 0 0 0 0 0 0 u2 0, (ad 43, .inl (y 0, 8, .inl (fun _ => 0)))]) rfl ?_
      refine j_st (st' := [.int 0, .ref mo]) rfl ?_
      refine j_if_eqT (pc := 122) C (tgt := 130) d_Model_years_122 (by decide) (by decide) ?_
      refine j_iconst (pc := 130) C (v := 0) d_Model_years_130 (by decide) ?_
      refine j_callVv (pc := 131) C (c_M_acts l D y mo ad 0 0 u2) kw_Model_485 kv_Model_acts 0 10 rfl rfl ⟨by decide, by decide⟩ ⟨by decide, by decide⟩ (wr := [(ad 62, .inl (y 0, 63, .inl (dayF (nI i)))), (ad 45, .inl (y 0, 14, .inl lakeF)), (ad 68, .inl (y 0, 63, .inl (dayF 0))), (ad 43, .inl (y 0, 8, .inl (fun _ => 0)))]) [3] [0, 1, 2, 4] rfl rfl (by decide) (by decide) (by decide) (As := [.int 0]) (rest := []) rfl (nb rfl) rfl d_Model_years_131 (fun _ _ => ?_)
      refine j_ws (ws' := [(ad 62, .inl (y 0, 63, .inl (dayF (nI i)))), (ad 45, .inl (y 0, 14, .inl lakeF)), (ad 68, .inl (y 0, 63, .inl (dayF 0))), (ad 43, .inl (y 0, 8, .inl (fun _ => 0))), MB mo ad 0 0 0 0 0 0 0 (-1) 0 0 0 0 0 0 0 0 0 0 u2 0]) rfl ?_
      refine j_aload_n (pc := 134) C d_Model_years_134 rfl 1 rfl ?_
      refine j_iconst (pc := 135) C (v := 0) d_Model_years_135 (by decide) ?_
      refine j_callVv (pc := 136) C (c_M_goesBy l D y mo ad 0 0 u2 (nI i)) kw_Model_488 kv_Model_goesBy 0 10 rfl rfl ⟨by decide, by decide⟩ ⟨by decide, by decide⟩ (wr := [(ad 68, .inl (y 0, 63, .inl (dayF 0)))]) [4, 3, 0, 1] [2] rfl rfl (by decide) (by decide) (by decide) (As := [.int 0]) (rest := []) rfl (nb rfl) rfl d_Model_years_136 (fun _ _ => ?_)
      refine j_ws (ws' := [(ad 68, .inl (y 0, 63, .inl (dayF 0))), MB mo ad 0 0 0 0 0 0 0 (-1) 0 0 0 0 0 0 0 0 0 0 u2 0, (ad 43, .inl (y 0, 8, .inl (fun _ => 0))), (ad 62, .inl (y 0, 63, .inl (dayF ((nI i) + 1)))), (ad 45, .inl (y 0, 14, .inl lakeF))]) rfl ?_
      refine j_ws (ws' := [(ad 68, .inl (y 0, 63, .inl (dayF 0))), MB mo ad 0 0 0 0 0 0 0 (-1) 0 0 0 0 0 0 0 0 0 0 u2 0, (ad 43, .inl (y 0, 8, .inl (fun _ => 0))), (ad 62, .inl (y 0, 63, .inl (dayF (nI (i + 1))))), (ad 45, .inl (y 0, 14, .inl lakeF))]) (by rw [nI_1]) ?_
      refine j_lload (pc := 139) C d_Model_years_139 7 rfl ?_
      refine j_aload_n (pc := 141) C d_Model_years_141 rfl 1 rfl ?_
      refine j_get (pc := 142) C gf_Model_441 1 rfl rfl d_Model_years_142 ?_
      refine j_i2l (pc := 145) C (v := 0) d_Model_years_145 (by decide) ?_
      refine j_ladd (pc := 146) C (v := 0) d_Model_years_146 (by decide) ?_
      refine j_lstore (pc := 147) C (lv' := [(7, .long 0), (11, .int r1), (0, .ref mo), (1, .int va), (2, .int (nI M)), (3, .int (nI N)), (4, .int vd), (5, .long 0), (9, .int (nI yy)), (10, .int (nI i))]) d_Model_years_147 (by decide) rfl ?_
      refine j_iconst (pc := 149) C (v := 0) d_Model_years_149 (by decide) ?_
      refine j_istore (pc := 150) C (lv' := [(12, .int 0), (7, .long 0), (11, .int r1), (0, .ref mo), (1, .int va), (2, .int (nI M)), (3, .int (nI N)), (4, .int vd), (5, .long 0), (9, .int (nI yy)), (10, .int (nI i))]) d_Model_years_150 (by decide) rfl ?_
      refine j_iload (pc := 152) C d_Model_years_152 0 rfl ?_
      refine j_aload_n (pc := 154) C d_Model_years_154 rfl 3 rfl ?_
      refine j_callVi (pc := 155) C (c_M_villages l D y mo ad 0 0 u2) kw_Model_448 kv_Model_villages 0 10 rfl rfl ⟨by decide, by decide⟩ ⟨by decide, by decide⟩ (wr := [(ad 68, .inl (y 0, 63, .inl (dayF 0))), (ad 62, .inl (y 0, 63, .inl (dayF (nI (i + 1))))), (ad 45, .inl (y 0, 14, .inl lakeF))]) [1, 2] [0, 3, 4] rfl rfl (by decide) (by decide) (by decide) (As := []) (rest := [.int 0]) rfl (nb rfl) rfl d_Model_years_155 (fun r6 _ hr6 => ?_)
      subst hr6
      refine j_ws (ws' := [(ad 68, .inl (y 0, 63, .inl (dayF 0))), (ad 62, .inl (y 0, 63, .inl (dayF (nI (i + 1))))), (ad 45, .inl (y 0, 14, .inl lakeF)), MB mo ad 0 0 0 0 0 0 0 (-1) 0 0 0 0 0 0 0 0 0 0 u2 0, (ad 43, .inl (y 0, 8, .inl (fun _ => 0)))]) rfl ?_
      refine j_st (st' := [.int 0, .int 0]) rfl ?_
      refine j_icmp_geT (pc := 158) C (tgt := 183) d_Model_years_158 (by decide) (by decide) ?_
      refine j_iinc (pc := 183) C (v := nI (i + 1)) (lv' := [(10, .int (nI (i + 1))), (12, .int 0), (7, .long 0), (11, .int r1), (0, .ref mo), (1, .int va), (2, .int (nI M)), (3, .int (nI N)), (4, .int vd), (5, .long 0), (9, .int (nI yy))]) d_Model_years_183 10 rfl (nI_1 _) (by decide) rfl ?_
      refine j_goto (pc := 186) C (tgt := 89) d_Model_years_186 (by decide) ?_
      refine j_sub (ws' := [MB mo ad 0 0 0 0 0 0 0 (-1) 0 0 0 0 0 0 0 0 0 0 u2 0, (ad 43, .inl (y 0, 8, .inl (fun _ => 0))), (ad 62, .inl (y 0, 63, .inl (dayF (nI (i + 1))))), (ad 45, .inl (y 0, 14, .inl lakeF)), (ad 68, .inl (y 0, 63, .inl (dayF 0)))]) [3, 4, 1, 2, 0] rfl (by decide) ?_
      refine j_locs (lv' := [(0, .ref mo), (1, .int va), (2, .int (nI M)), (3, .int (nI N)), (4, .int vd), (5, .long 0), (7, .long 0), (9, .int (nI yy)), (10, .int (nI (i + 1)))]) [4, 5, 6, 7, 8, 9, 2, 10, 0] rfl ?_
      exact ih (i + 1) _ (by omega)
set_option maxHeartbeats 4000000 in
set_option maxRecDepth 100000 in
theorem lp_M_years {p : Program} {l : Launch} {e : Env} {s : State} {m : MethodId} {args : Array Value} {below : List Frame} {meth : Method} {c : Code} {Q : State → Prop} {D : va_G} {y : Nat → ClassId} {A : Nat → Prop} (C : Cx p s m args meth c D y A prog_13_method_119_code 13 "NineBoardsModel" "years") (mo : Nat) (ad : Nat → Nat) (va : Int32) (vd : Int32) (N : Nat) (hN : N ≤ 100) (M : Nat) (hM : M ≤ 20) (kx : ∀ (sd : Int64) (d : Int32), J p l e ({ frames := 3, cells := 0, slots := 0, locals := 71 } : Room) s m args below meth c Q D A 13 [MB mo ad 0 0 0 0 0 0 0 (-1) 0 0 0 0 0 0 0 0 0 0 sd 0, (ad 43, .inl (y 0, 8, .inl (fun _ => 0))), (ad 62, .inl (y 0, 63, .inl (dayF d))), (ad 45, .inl (y 0, 14, .inl lakeF)), (ad 68, .inl (y 0, 63, .inl (dayF 0)))] [(0, .ref mo), (1, .int va), (2, .int (nI M)), (3, .int (nI N)), (4, .int vd), (5, .long 0), (7, .long 0), (9, .int (nI M))] 0 0 195 []) : ∀ (n : Nat) (yy : Nat) (sd : Int64) (d : Int32), (yy + n = M) → J p l e ({ frames := 3, cells := 0, slots := 0, locals := 71 } : Room) s m args below meth c Q D A 13 [MB mo ad 0 0 0 0 0 0 0 (-1) 0 0 0 0 0 0 0 0 0 0 sd 0, (ad 43, .inl (y 0, 8, .inl (fun _ => 0))), (ad 62, .inl (y 0, 63, .inl (dayF d))), (ad 45, .inl (y 0, 14, .inl lakeF)), (ad 68, .inl (y 0, 63, .inl (dayF 0)))] [(0, .ref mo), (1, .int va), (2, .int (nI M)), (3, .int (nI N)), (4, .int vd), (5, .long 0), (7, .long 0), (9, .int (nI yy))] 0 0 76 [] := by
  intro n
  induction n with
  | zero =>
    intro yy sd d hi
    obtain rfl : yy = M := by omega
    refine j_iload (pc := 76) C d_Model_years_76 7 rfl ?_
    refine j_iload_n (pc := 78) C d_Model_years_78 rfl 2 rfl ?_
    refine j_icmp_geT (pc := 79) C (tgt := 195) d_Model_years_79 (by decide) (Int32.le_refl _) ?_
    exact kx sd d
  | succ n ih =>
    intro yy sd d hi
    refine j_iload (pc := 76) C d_Model_years_76 7 rfl ?_
    refine j_iload_n (pc := 78) C d_Model_years_78 rfl 2 rfl ?_
    refine j_icmp_geF (pc := 79) C (tgt := 195) d_Model_years_79 (by decide) (nI_ge (by omega) (by omega)) ?_
    refine j_aload_n (pc := 82) C d_Model_years_82 rfl 0 rfl ?_
    refine j_callVv (pc := 83) C (c_M_takesBack l D y mo ad 0 0 sd (dayF d) (dayF 0)) kw_Model_495 kv_Model_takesBack 0 10 rfl rfl ⟨by decide, by decide⟩ ⟨by decide, by decide⟩ (wr := [(ad 43, .inl (y 0, 8, .inl (fun _ => 0))), (ad 45, .inl (y 0, 14, .inl lakeF))]) [0, 2, 4] [1, 3] rfl rfl (by decide) (by decide) (by decide) (As := []) (rest := []) rfl (nb rfl) rfl d_Model_years_83 (fun _ _ => ?_)
    refine j_ws (ws' := [(ad 43, .inl (y 0, 8, .inl (fun _ => 0))), (ad 45, .inl (y 0, 14, .inl lakeF)), MB mo ad 0 0 0 0 0 0 0 (-1) 0 0 0 0 0 0 0 0 0 0 sd 0, (ad 62, .inl (y 0, 63, .inl (dayF 0))), (ad 68, .inl (y 0, 63, .inl (dayF 0)))]) rfl ?_
    refine j_iconst (pc := 86) C (v := 0) d_Model_years_86 (by decide) ?_
    refine j_istore (pc := 87) C (lv' := [(10, .int 0), (0, .ref mo), (1, .int va), (2, .int (nI M)), (3, .int (nI N)), (4, .int vd), (5, .long 0), (7, .long 0), (9, .int (nI yy))]) d_Model_years_87 (by decide) rfl ?_
    refine j_sub (ws' := [MB mo ad 0 0 0 0 0 0 0 (-1) 0 0 0 0 0 0 0 0 0 0 sd 0, (ad 43, .inl (y 0, 8, .inl (fun _ => 0))), (ad 62, .inl (y 0, 63, .inl (dayF 0))), (ad 45, .inl (y 0, 14, .inl lakeF)), (ad 68, .inl (y 0, 63, .inl (dayF 0)))]) [2, 0, 3, 1, 4] rfl (by decide) ?_
    refine j_locs (lv' := [(0, .ref mo), (1, .int va), (2, .int (nI M)), (3, .int (nI N)), (4, .int vd), (5, .long 0), (7, .long 0), (9, .int (nI yy)), (10, .int 0)]) [1, 2, 3, 4, 5, 6, 7, 8, 0] rfl ?_
    refine j_ws (ws' := [MB mo ad 0 0 0 0 0 0 0 (-1) 0 0 0 0 0 0 0 0 0 0 sd 0, (ad 43, .inl (y 0, 8, .inl (fun _ => 0))), (ad 62, .inl (y 0, 63, .inl (dayF (nI 0)))), (ad 45, .inl (y 0, 14, .inl lakeF)), (ad 68, .inl (y 0, 63, .inl (dayF 0)))]) rfl ?_
    refine j_lv (lv' := [(0, .ref mo), (1, .int va), (2, .int (nI M)), (3, .int (nI N)), (4, .int vd), (5, .long 0), (7, .long 0), (9, .int (nI yy)), (10, .int (nI 0))]) rfl ?_
    refine lp_M_year C mo ad va vd N hN M yy (fun sd => ?_) N 0 sd (by omega)
    refine j_iinc (pc := 189) C (v := nI (yy + 1)) (lv' := [(9, .int (nI (yy + 1))), (0, .ref mo), (1, .int va), (2, .int (nI M)), (3, .int (nI N)), (4, .int vd), (5, .long 0), (7, .long 0), (10, .int (nI N))]) d_Model_years_189 7 rfl (nI_1 _) (by decide) rfl ?_
    refine j_goto (pc := 192) C (tgt := 76) d_Model_years_192 (by decide) ?_
    refine j_locs (lv' := [(0, .ref mo), (1, .int va), (2, .int (nI M)), (3, .int (nI N)), (4, .int vd), (5, .long 0), (7, .long 0), (9, .int (nI (yy + 1)))]) [1, 2, 3, 4, 5, 6, 7, 0] rfl ?_
    exact ih (yy + 1) _ _ (by omega)
set_option maxHeartbeats 4000000 in
set_option maxRecDepth 100000 in
theorem c_M_years (l : Launch) (D : va_G) (y : Nat → ClassId) (mo : Nat) (ad : Nat → Nat) (va : Int32) (vb : Int32) (vc : Int32) (vd : Int32) (f : Nat → Int32)  : CT l D y ⟨"NineBoardsModel", "years", "(IIII)J"⟩ prog_13_method_119_code 13 (some .long) ({ frames := 3, cells := 0, slots := 0, locals := 71 } : Room) [.ref mo, .int va, .int vb, .int vc, .int vd] [MB mo ad 0 0 0 0 0 0 0 (-1) 0 0 0 0 0 0 0 0 0 0 1 0, (ad 43, .inl (y 0, 8, .inl (fun _ => 0))), (ad 62, .inl (y 0, 63, .inl (dayF 0))), (ad 45, .inl (y 0, 14, .inl lakeF)), (ad 68, .inl (y 0, 63, .inl f))] (QL D [MB mo ad 0 0 0 0 0 0 0 (-1) 0 0 0 0 0 0 0 0 0 0 1 0, (ad 43, .inl (y 0, 8, .inl (fun _ => 0))), (ad 62, .inl (y 0, 63, .inl (dayF 0))), (ad 45, .inl (y 0, 14, .inl lakeF)), (ad 68, .inl (y 0, 63, .inl f))] (fun (r : Int64) (_ : Unit) => r = if 0 ≤ va.toInt ∧ va.toInt ≤ 3 ∧ 0 ≤ vd.toInt ∧ vd.toInt ≤ 1 ∧ 1 ≤ vb.toInt ∧ vb.toInt ≤ 20 ∧ 1 ≤ vc.toInt ∧ vc.toInt ≤ 100 then 0 else -1000000000) (fun _ => [])) := by
  refine CT.of (by decide) (nb rfl) ?_
  intro p e s m args below meth c C hr
  refine j_lv (lv' := [(0, .ref mo), (1, .int va), (2, .int vb), (3, .int vc), (4, .int vd)]) rfl ?_
  refine j_iload_n (pc := 0) C d_Model_years_0 rfl 1 rfl ?_
  refine j_i2l (pc := 1) C (v := va.toInt64) d_Model_years_1 rfl ?_
  refine j_lconst (pc := 2) C (v := 0) d_Model_years_2 (by decide) ?_
  refine j_ldc2 (pc := 3) C (v := 3) (mt_8 (List.mem_of_getElem? (i := 89) rfl) rfl) d_Model_years_3 ?_
  refine j_callSi (pc := 6) C (c_isIn_x l D y va 0 3 0 3 (by decide) (by decide)) kw_Model_240 ks_Model_isIn ⟨by decide, by decide⟩ ⟨by decide, by decide⟩ (wr := [MB mo ad 0 0 0 0 0 0 0 (-1) 0 0 0 0 0 0 0 0 0 0 1 0, (ad 43, .inl (y 0, 8, .inl (fun _ => 0))), (ad 62, .inl (y 0, 63, .inl (dayF 0))), (ad 45, .inl (y 0, 14, .inl lakeF)), (ad 68, .inl (y 0, 63, .inl f))]) [] [0, 1, 2, 3, 4] rfl rfl (by decide) (by decide) (by decide) (As := [.long va.toInt64, .long 0, .long 3]) (rest := []) rfl (nb rfl) rfl d_Model_years_6 (fun r1 _ hr1 => ?_)
  refine j_ws (ws' := [MB mo ad 0 0 0 0 0 0 0 (-1) 0 0 0 0 0 0 0 0 0 0 1 0, (ad 43, .inl (y 0, 8, .inl (fun _ => 0))), (ad 62, .inl (y 0, 63, .inl (dayF 0))), (ad 45, .inl (y 0, 14, .inl lakeF)), (ad 68, .inl (y 0, 63, .inl f))]) rfl ?_
  by_cases g2 : 0 ≤ va.toInt ∧ va.toInt ≤ 3
  · rw [if_pos g2] at hr1
    subst hr1
    refine j_if_eqF (pc := 9) C (tgt := 59) d_Model_years_9 (by decide) (by decide) ?_
    refine j_iload_n (pc := 12) C d_Model_years_12 rfl 2 rfl ?_
    refine j_i2l (pc := 13) C (v := vb.toInt64) d_Model_years_13 rfl ?_
    refine j_lconst (pc := 14) C (v := 1) d_Model_years_14 (by decide) ?_
    refine j_ldc2 (pc := 15) C (v := 20) (mt_8 (List.mem_of_getElem? (i := 11) rfl) rfl) d_Model_years_15 ?_
    refine j_callSi (pc := 18) C (c_isIn_x l D y vb 1 20 1 20 (by decide) (by decide)) kw_Model_240 ks_Model_isIn ⟨by decide, by decide⟩ ⟨by decide, by decide⟩ (wr := [MB mo ad 0 0 0 0 0 0 0 (-1) 0 0 0 0 0 0 0 0 0 0 1 0, (ad 43, .inl (y 0, 8, .inl (fun _ => 0))), (ad 62, .inl (y 0, 63, .inl (dayF 0))), (ad 45, .inl (y 0, 14, .inl lakeF)), (ad 68, .inl (y 0, 63, .inl f))]) [] [0, 1, 2, 3, 4] rfl rfl (by decide) (by decide) (by decide) (As := [.long vb.toInt64, .long 1, .long 20]) (rest := []) rfl (nb rfl) rfl d_Model_years_18 (fun r3 _ hr3 => ?_)
    refine j_ws (ws' := [MB mo ad 0 0 0 0 0 0 0 (-1) 0 0 0 0 0 0 0 0 0 0 1 0, (ad 43, .inl (y 0, 8, .inl (fun _ => 0))), (ad 62, .inl (y 0, 63, .inl (dayF 0))), (ad 45, .inl (y 0, 14, .inl lakeF)), (ad 68, .inl (y 0, 63, .inl f))]) rfl ?_
    by_cases g4 : 1 ≤ vb.toInt ∧ vb.toInt ≤ 20
    · rw [if_pos g4] at hr3
      subst hr3
      refine j_if_eqF (pc := 21) C (tgt := 59) d_Model_years_21 (by decide) (by decide) ?_
      refine j_iload_n (pc := 24) C d_Model_years_24 rfl 3 rfl ?_
      refine j_i2l (pc := 25) C (v := vc.toInt64) d_Model_years_25 rfl ?_
      refine j_lconst (pc := 26) C (v := 1) d_Model_years_26 (by decide) ?_
      refine j_ldc2 (pc := 27) C (v := 100) (mt_8 (List.mem_of_getElem? (i := 2) rfl) rfl) d_Model_years_27 ?_
      refine j_callSi (pc := 30) C (c_isIn_x l D y vc 1 100 1 100 (by decide) (by decide)) kw_Model_240 ks_Model_isIn ⟨by decide, by decide⟩ ⟨by decide, by decide⟩ (wr := [MB mo ad 0 0 0 0 0 0 0 (-1) 0 0 0 0 0 0 0 0 0 0 1 0, (ad 43, .inl (y 0, 8, .inl (fun _ => 0))), (ad 62, .inl (y 0, 63, .inl (dayF 0))), (ad 45, .inl (y 0, 14, .inl lakeF)), (ad 68, .inl (y 0, 63, .inl f))]) [] [0, 1, 2, 3, 4] rfl rfl (by decide) (by decide) (by decide) (As := [.long vc.toInt64, .long 1, .long 100]) (rest := []) rfl (nb rfl) rfl d_Model_years_30 (fun r5 _ hr5 => ?_)
      refine j_ws (ws' := [MB mo ad 0 0 0 0 0 0 0 (-1) 0 0 0 0 0 0 0 0 0 0 1 0, (ad 43, .inl (y 0, 8, .inl (fun _ => 0))), (ad 62, .inl (y 0, 63, .inl (dayF 0))), (ad 45, .inl (y 0, 14, .inl lakeF)), (ad 68, .inl (y 0, 63, .inl f))]) rfl ?_
      by_cases g6 : 1 ≤ vc.toInt ∧ vc.toInt ≤ 100
      · rw [if_pos g6] at hr5
        subst hr5
        refine j_if_eqF (pc := 33) C (tgt := 59) d_Model_years_33 (by decide) (by decide) ?_
        refine j_iload (pc := 36) C d_Model_years_36 4 rfl ?_
        refine j_i2l (pc := 38) C (v := vd.toInt64) d_Model_years_38 rfl ?_
        refine j_lconst (pc := 39) C (v := 0) d_Model_years_39 (by decide) ?_
        refine j_lconst (pc := 40) C (v := 1) d_Model_years_40 (by decide) ?_
        refine j_callSi (pc := 41) C (c_isIn_x l D y vd 0 1 0 1 (by decide) (by decide)) kw_Model_240 ks_Model_isIn ⟨by decide, by decide⟩ ⟨by decide, by decide⟩ (wr := [MB mo ad 0 0 0 0 0 0 0 (-1) 0 0 0 0 0 0 0 0 0 0 1 0, (ad 43, .inl (y 0, 8, .inl (fun _ => 0))), (ad 62, .inl (y 0, 63, .inl (dayF 0))), (ad 45, .inl (y 0, 14, .inl lakeF)), (ad 68, .inl (y 0, 63, .inl f))]) [] [0, 1, 2, 3, 4] rfl rfl (by decide) (by decide) (by decide) (As := [.long vd.toInt64, .long 0, .long 1]) (rest := []) rfl (nb rfl) rfl d_Model_years_41 (fun r7 _ hr7 => ?_)
        refine j_ws (ws' := [MB mo ad 0 0 0 0 0 0 0 (-1) 0 0 0 0 0 0 0 0 0 0 1 0, (ad 43, .inl (y 0, 8, .inl (fun _ => 0))), (ad 62, .inl (y 0, 63, .inl (dayF 0))), (ad 45, .inl (y 0, 14, .inl lakeF)), (ad 68, .inl (y 0, 63, .inl f))]) rfl ?_
        by_cases g8 : 0 ≤ vd.toInt ∧ vd.toInt ≤ 1
        · rw [if_pos g8] at hr7
          subst hr7
          refine j_if_eqF (pc := 44) C (tgt := 59) d_Model_years_44 (by decide) (by decide) ?_
          refine j_aload_n (pc := 47) C d_Model_years_47 rfl 0 rfl ?_
          refine j_get (pc := 48) C gf_Model_158 0 rfl rfl d_Model_years_48 ?_
          refine j_iconst (pc := 51) C (v := 0) d_Model_years_51 (by decide) ?_
          refine j_iald (pc := 52) C 2 rfl (v := 0) (vin (by decide)) rfl d_Model_years_52 ?_
          refine j_sipush (pc := 53) C (v := 999) d_Model_years_53 (by decide) ?_
          refine j_icmp_neT (pc := 56) C (tgt := 63) d_Model_years_56 (by decide) (by decide) ?_
          refine j_lconst (pc := 63) C (v := 0) d_Model_years_63 (by decide) ?_
          refine j_lstore (pc := 64) C (lv' := [(5, .long 0), (0, .ref mo), (1, .int va), (2, .int vb), (3, .int vc), (4, .int vd)]) d_Model_years_64 (by decide) rfl ?_
          refine j_lconst (pc := 66) C (v := 0) d_Model_years_66 (by decide) ?_
          refine j_lstore (pc := 67) C (lv' := [(7, .long 0), (5, .long 0), (0, .ref mo), (1, .int va), (2, .int vb), (3, .int vc), (4, .int vd)]) d_Model_years_67 (by decide) rfl ?_
          refine j_aload_n (pc := 69) C d_Model_years_69 rfl 2 rfl ?_
          refine j_callVv (pc := 70) C (c_M_putsAside l D y mo ad 0 0 1 f (dayF 0)) kw_Model_510 kv_Model_putsAside 0 10 rfl rfl ⟨by decide, by decide⟩ ⟨by decide, by decide⟩ (wr := [(ad 43, .inl (y 0, 8, .inl (fun _ => 0))), (ad 45, .inl (y 0, 14, .inl lakeF))]) [0, 4, 2] [1, 3] rfl rfl (by decide) (by decide) (by decide) (As := []) (rest := []) rfl (nb rfl) rfl d_Model_years_70 (fun _ _ => ?_)
          refine j_ws (ws' := [(ad 43, .inl (y 0, 8, .inl (fun _ => 0))), (ad 45, .inl (y 0, 14, .inl lakeF)), MB mo ad 0 0 0 0 0 0 0 (-1) 0 0 0 0 0 0 0 0 0 0 1 0, (ad 68, .inl (y 0, 63, .inl (dayF 0))), (ad 62, .inl (y 0, 63, .inl (dayF 0)))]) rfl ?_
          refine j_iconst (pc := 73) C (v := 0) d_Model_years_73 (by decide) ?_
          refine j_istore (pc := 74) C (lv' := [(9, .int 0), (7, .long 0), (5, .long 0), (0, .ref mo), (1, .int va), (2, .int vb), (3, .int vc), (4, .int vd)]) d_Model_years_74 (by decide) rfl ?_
          obtain ⟨M, hM, rfl⟩ := nI_ofT (x := vb) (n := 20) (by omega) (by omega) (by decide)
          obtain ⟨N, hN, rfl⟩ := nI_ofT (x := vc) (n := 100) (by omega) (by omega) (by decide)
          refine j_sub (ws' := [MB mo ad 0 0 0 0 0 0 0 (-1) 0 0 0 0 0 0 0 0 0 0 1 0, (ad 43, .inl (y 0, 8, .inl (fun _ => 0))), (ad 62, .inl (y 0, 63, .inl (dayF 0))), (ad 45, .inl (y 0, 14, .inl lakeF)), (ad 68, .inl (y 0, 63, .inl (dayF 0)))]) [2, 0, 4, 1, 3] rfl (by decide) ?_
          refine j_locs (lv' := [(0, .ref mo), (1, .int va), (2, .int (nI M)), (3, .int (nI N)), (4, .int vd), (5, .long 0), (7, .long 0), (9, .int 0)]) [3, 4, 5, 6, 7, 2, 1, 0] rfl ?_
          refine j_lv (lv' := [(0, .ref mo), (1, .int va), (2, .int (nI M)), (3, .int (nI N)), (4, .int vd), (5, .long 0), (7, .long 0), (9, .int (nI 0))]) rfl ?_
          refine lp_M_years C mo ad va vd N hN M hM (fun sd d => ?_) M 0 1 0 (by omega)
          refine j_aload_n (pc := 195) C d_Model_years_195 rfl 0 rfl ?_
          refine j_callVv (pc := 196) C (c_M_takesBack l D y mo ad 0 0 sd (dayF d) (dayF 0)) kw_Model_495 kv_Model_takesBack 0 10 rfl rfl ⟨by decide, by decide⟩ ⟨by decide, by decide⟩ (wr := [(ad 43, .inl (y 0, 8, .inl (fun _ => 0))), (ad 45, .inl (y 0, 14, .inl lakeF))]) [0, 2, 4] [1, 3] rfl rfl (by decide) (by decide) (by decide) (As := []) (rest := []) rfl (nb rfl) rfl d_Model_years_196 (fun _ _ => ?_)
          refine j_ws (ws' := [(ad 43, .inl (y 0, 8, .inl (fun _ => 0))), (ad 45, .inl (y 0, 14, .inl lakeF)), MB mo ad 0 0 0 0 0 0 0 (-1) 0 0 0 0 0 0 0 0 0 0 sd 0, (ad 62, .inl (y 0, 63, .inl (dayF 0))), (ad 68, .inl (y 0, 63, .inl (dayF 0)))]) rfl ?_
          refine j_iload (pc := 199) C d_Model_years_199 4 rfl ?_
          refine j_if_ne (pc := 201) C (tgt := 209) d_Model_years_201 (by decide) (fun c9 => ?_) (fun c9 => ?_)
          · refine j_lload (pc := 209) C d_Model_years_209 6 rfl ?_
            exact j_lret (pc := 211) C hr () (by simp only [Int32.lt_iff_toInt_lt, Int32.le_iff_toInt_le, ← Int32.toInt_inj, (by decide : Int32.toInt 0 = 0), (by decide : Int32.toInt 1 = 1)] at c9; (first | rw [if_pos (by omega)] | rw [if_neg (by omega)])) [] rfl (by decide) (by decide) (by decide) d_Model_years_211
          · refine j_lload (pc := 204) C d_Model_years_204 5 rfl ?_
            refine j_goto (pc := 206) C (tgt := 211) d_Model_years_206 (by decide) ?_
            exact j_lret (pc := 211) C hr () (by simp only [Int32.lt_iff_toInt_lt, Int32.le_iff_toInt_le, ← Int32.toInt_inj, (by decide : Int32.toInt 0 = 0), (by decide : Int32.toInt 1 = 1)] at c9; (first | rw [if_pos (by omega)] | rw [if_neg (by omega)])) [] rfl (by decide) (by decide) (by decide) d_Model_years_211
        · rw [if_neg g8] at hr7
          subst hr7
          refine j_if_eqT (pc := 44) C (tgt := 59) d_Model_years_44 (by decide) (by decide) ?_
          refine j_ldc2 (pc := 59) C (v := (-1000000000)) (mt_8 (List.mem_of_getElem? (i := 90) rfl) rfl) d_Model_years_59 ?_
          exact j_lret (pc := 62) C hr () (by (first | rw [if_pos (by omega)] | rw [if_neg (by omega)])) [] rfl (by decide) (by decide) (by decide) d_Model_years_62
      · rw [if_neg g6] at hr5
        subst hr5
        refine j_if_eqT (pc := 33) C (tgt := 59) d_Model_years_33 (by decide) (by decide) ?_
        refine j_ldc2 (pc := 59) C (v := (-1000000000)) (mt_8 (List.mem_of_getElem? (i := 90) rfl) rfl) d_Model_years_59 ?_
        exact j_lret (pc := 62) C hr () (by (first | rw [if_pos (by omega)] | rw [if_neg (by omega)])) [] rfl (by decide) (by decide) (by decide) d_Model_years_62
    · rw [if_neg g4] at hr3
      subst hr3
      refine j_if_eqT (pc := 21) C (tgt := 59) d_Model_years_21 (by decide) (by decide) ?_
      refine j_ldc2 (pc := 59) C (v := (-1000000000)) (mt_8 (List.mem_of_getElem? (i := 90) rfl) rfl) d_Model_years_59 ?_
      exact j_lret (pc := 62) C hr () (by (first | rw [if_pos (by omega)] | rw [if_neg (by omega)])) [] rfl (by decide) (by decide) (by decide) d_Model_years_62
  · rw [if_neg g2] at hr1
    subst hr1
    refine j_if_eqT (pc := 9) C (tgt := 59) d_Model_years_9 (by decide) (by decide) ?_
    refine j_ldc2 (pc := 59) C (v := (-1000000000)) (mt_8 (List.mem_of_getElem? (i := 90) rfl) rfl) d_Model_years_59 ?_
    exact j_lret (pc := 62) C hr () (by (first | rw [if_pos (by omega)] | rw [if_neg (by omega)])) [] rfl (by decide) (by decide) (by decide) d_Model_years_62
