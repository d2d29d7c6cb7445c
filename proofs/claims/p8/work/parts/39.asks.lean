theorem d_Model_rest_0 : decode prog_13_method_82_code 0 = .ok (.iload_n 1, 1) := by decide +kernel
theorem d_Model_rest_1 : decode prog_13_method_82_code 1 = .ok (.i2l, 1) := by decide +kernel
theorem d_Model_rest_2 : decode prog_13_method_82_code 2 = .ok (.lconst 1, 1) := by decide +kernel
theorem d_Model_rest_3 : decode prog_13_method_82_code 3 = .ok (.ldc2_w 491, 3) := by decide +kernel
theorem d_Model_rest_6 : decode prog_13_method_82_code 6 = .ok (.invokestatic 240, 3) := by decide +kernel
theorem d_Model_rest_9 : decode prog_13_method_82_code 9 = .ok (.ifCond .ne 5, 3) := by decide +kernel
theorem d_Model_rest_12 : decode prog_13_method_82_code 12 = .ok (.iconst (-1), 1) := by decide +kernel
theorem d_Model_rest_13 : decode prog_13_method_82_code 13 = .ok (.ireturn, 1) := by decide +kernel
theorem d_Model_rest_14 : decode prog_13_method_82_code 14 = .ok (.iconst 0, 1) := by decide +kernel
theorem d_Model_rest_15 : decode prog_13_method_82_code 15 = .ok (.istore_n 2, 1) := by decide +kernel
theorem d_Model_rest_16 : decode prog_13_method_82_code 16 = .ok (.iload_n 2, 1) := by decide +kernel
theorem d_Model_rest_17 : decode prog_13_method_82_code 17 = .ok (.iload_n 1, 1) := by decide +kernel
theorem d_Model_rest_18 : decode prog_13_method_82_code 18 = .ok (.if_icmp .ge 30, 3) := by decide +kernel
theorem d_Model_rest_48 : decode prog_13_method_82_code 48 = .ok (.iload_n 2, 1) := by decide +kernel
theorem d_Model_rest_49 : decode prog_13_method_82_code 49 = .ok (.ireturn, 1) := by decide +kernel
theorem d_Model_rest_21 : decode prog_13_method_82_code 21 = .ok (.aload_n 0, 1) := by decide +kernel
theorem d_Model_rest_22 : decode prog_13_method_82_code 22 = .ok (.getfield 158, 3) := by decide +kernel
theorem d_Model_rest_25 : decode prog_13_method_82_code 25 = .ok (.iconst 0, 1) := by decide +kernel
theorem d_Model_rest_26 : decode prog_13_method_82_code 26 = .ok (.iaload, 1) := by decide +kernel
theorem d_Model_rest_27 : decode prog_13_method_82_code 27 = .ok (.sipush 999, 3) := by decide +kernel
theorem d_Model_rest_30 : decode prog_13_method_82_code 30 = .ok (.if_icmp .ge 18, 3) := by decide +kernel
theorem d_Model_rest_33 : decode prog_13_method_82_code 33 = .ok (.aload_n 0, 1) := by decide +kernel
theorem d_Model_rest_34 : decode prog_13_method_82_code 34 = .ok (.invokevirtual 482, 3) := by decide +kernel
theorem d_Model_rest_37 : decode prog_13_method_82_code 37 = .ok (.aload_n 0, 1) := by decide +kernel
theorem d_Model_rest_38 : decode prog_13_method_82_code 38 = .ok (.iconst 0, 1) := by decide +kernel
theorem d_Model_rest_39 : decode prog_13_method_82_code 39 = .ok (.invokevirtual 488, 3) := by decide +kernel
theorem d_Model_rest_42 : decode prog_13_method_82_code 42 = .ok (.iinc 2 1, 3) := by decide +kernel
theorem d_Model_rest_45 : decode prog_13_method_82_code 45 = .ok (.goto (-29), 3) := by decide +kernel
theorem d_Model_isGate_0 : decode prog_13_method_74_code 0 = .ok (.iload_n 1, 1) := by decide +kernel
theorem d_Model_isGate_1 : decode prog_13_method_74_code 1 = .ok (.i2l, 1) := by decide +kernel
theorem d_Model_isGate_2 : decode prog_13_method_74_code 2 = .ok (.lconst 0, 1) := by decide +kernel
theorem d_Model_isGate_3 : decode prog_13_method_74_code 3 = .ok (.aload_n 0, 1) := by decide +kernel
theorem d_Model_isGate_4 : decode prog_13_method_74_code 4 = .ok (.invokevirtual 341, 3) := by decide +kernel
theorem d_Model_isGate_7 : decode prog_13_method_74_code 7 = .ok (.iconst 1, 1) := by decide +kernel
theorem d_Model_isGate_8 : decode prog_13_method_74_code 8 = .ok (.isub, 1) := by decide +kernel
theorem d_Model_isGate_9 : decode prog_13_method_74_code 9 = .ok (.i2l, 1) := by decide +kernel
theorem d_Model_isGate_10 : decode prog_13_method_74_code 10 = .ok (.invokestatic 240, 3) := by decide +kernel
theorem d_Model_isGate_13 : decode prog_13_method_74_code 13 = .ok (.ireturn, 1) := by decide +kernel
set_option maxHeartbeats 4000000 in
set_option maxRecDepth 100000 in
theorem c_M_isGate (l : Launch) (D : va_G) (y : Nat → ClassId) (mo : Nat) (ma : Nat → Nat) (t1 : Nat) (i2 : Int32) (i3 : Int32) (i4 : Int32) (i5 : Int32) (i6 : Int32) (i7 : Int32) (i8 : Int32) (i42 : Int32) (i49 : Int32) (i51 : Int32) (i53 : Int32) (i54 : Int32) (i59 : Int32) (i61 : Int32) (i64 : Int32) (i66 : Int32) (t67 : Nat) (i76 : Int64) (i78 : Int32) (g43 : Nat → Int32) (v : Int32) (c0 : Nat) (hc0 : g43 4 = nI c0) (bc0 : c0 ≤ 9) : CT l D y ⟨"NineBoardsModel", "isGate", "(I)Z"⟩ prog_13_method_74_code 2 (some .boolean) ({ frames := 1, cells := 0, slots := 0, locals := 25 } : Room) [.ref mo, .int v] [MB mo ma (nI t1) i2 i3 i4 i5 i6 i7 i8 i42 i49 i51 i53 i54 i59 i61 i64 i66 (nI t67) i76 i78, (ma 43, .inl (y 0, 8, .inl g43))] (QI D [MB mo ma (nI t1) i2 i3 i4 i5 i6 i7 i8 i42 i49 i51 i53 i54 i59 i61 i64 i66 (nI t67) i76 i78, (ma 43, .inl (y 0, 8, .inl g43))] (fun (r : Int32) (u : Unit) => (r = 0 ∨ (r = 1 ∧ ∃ j : Nat, j < c0 ∧ v = nI j))) (fun _ => [MB mo ma (nI t1) i2 i3 i4 i5 i6 i7 i8 i42 i49 i51 i53 i54 i59 i61 i64 i66 (nI t67) i76 i78, (ma 43, .inl (y 0, 8, .inl g43))])) := by
  refine CT.of (by decide) (nb rfl) ?_
  intro p e s m args below meth c C hr
  refine j_lv (lv' := [(0, .ref mo), (1, .int v)]) rfl ?_
  refine j_iload_n (pc := 0) C d_Model_isGate_0 rfl 1 rfl ?_
  refine j_i2l (pc := 1) C (v := v.toInt64) d_Model_isGate_1 rfl ?_
  refine j_lconst (pc := 2) C (v := 0) d_Model_isGate_2 (by decide) ?_
  refine j_aload_n (pc := 3) C d_Model_isGate_3 rfl 0 rfl ?_
  refine j_callVi (pc := 4) C (c_M_gateMany l D y mo ma t1 i2 i3 i4 i5 i6 i7 i8 i42 i49 i51 i53 i54 i59 i61 i64 i66 t67 i76 i78 g43 c0 hc0 bc0) kw_Model_341 kv_Model_gateMany 0 10 rfl rfl ⟨by decide, by decide⟩ ⟨by decide, by decide⟩ (wr := []) [0, 1] [] rfl rfl (by decide) (by decide) (by decide) (As := []) (rest := [.long 0, .long v.toInt64]) rfl (nb rfl) rfl d_Model_isGate_4 (fun r1 _ hr1 => ?_)
  obtain rfl := hr1
  refine j_ws (ws' := [MB mo ma (nI t1) i2 i3 i4 i5 i6 i7 i8 i42 i49 i51 i53 i54 i59 i61 i64 i66 (nI t67) i76 i78, (ma 43, .inl (y 0, 8, .inl g43))]) rfl ?_
  refine j_iconst (pc := 7) C (v := 1) d_Model_isGate_7 (by decide) ?_
  refine j_isub (pc := 8) C (v := nI c0 - 1) d_Model_isGate_8 rfl ?_
  refine j_i2l (pc := 9) C (v := (nI c0 - 1).toInt64) d_Model_isGate_9 rfl ?_
  refine j_callSi (pc := 10) C (c_isIn_ix l D y v c0 (by omega)) kw_Model_240 ks_Model_isIn ⟨by decide, by decide⟩ ⟨by decide, by decide⟩ (wr := [MB mo ma (nI t1) i2 i3 i4 i5 i6 i7 i8 i42 i49 i51 i53 i54 i59 i61 i64 i66 (nI t67) i76 i78, (ma 43, .inl (y 0, 8, .inl g43))]) [] [0, 1] rfl rfl (by decide) (by decide) (by decide) (As := [.long v.toInt64, .long 0, .long ((nI c0 - 1).toInt64)]) (rest := []) rfl (nb rfl) rfl d_Model_isGate_10 (fun r2 _ hr2 => ?_)
  refine j_ws (ws' := [MB mo ma (nI t1) i2 i3 i4 i5 i6 i7 i8 i42 i49 i51 i53 i54 i59 i61 i64 i66 (nI t67) i76 i78, (ma 43, .inl (y 0, 8, .inl g43))]) rfl ?_
  rcases hr2 with rfl | ⟨rfl, j3, xh4, rfl⟩
  · exact j_iret (pc := 13) C hr (by decide) () (Or.inl rfl) [0, 1] rfl (by decide) (by decide) (by decide) d_Model_isGate_13
  · exact j_iret (pc := 13) C hr (by decide) () (Or.inr ⟨rfl, j3, xh4, rfl⟩) [0, 1] rfl (by decide) (by decide) (by decide) d_Model_isGate_13
theorem d_Model_isVillage_0 : decode prog_13_method_75_code 0 = .ok (.iload_n 1, 1) := by decide +kernel
theorem d_Model_isVillage_1 : decode prog_13_method_75_code 1 = .ok (.i2l, 1) := by decide +kernel
theorem d_Model_isVillage_2 : decode prog_13_method_75_code 2 = .ok (.lconst 0, 1) := by decide +kernel
theorem d_Model_isVillage_3 : decode prog_13_method_75_code 3 = .ok (.aload_n 0, 1) := by decide +kernel
theorem d_Model_isVillage_4 : decode prog_13_method_75_code 4 = .ok (.invokevirtual 448, 3) := by decide +kernel
theorem d_Model_isVillage_7 : decode prog_13_method_75_code 7 = .ok (.iconst 1, 1) := by decide +kernel
theorem d_Model_isVillage_8 : decode prog_13_method_75_code 8 = .ok (.isub, 1) := by decide +kernel
theorem d_Model_isVillage_9 : decode prog_13_method_75_code 9 = .ok (.i2l, 1) := by decide +kernel
theorem d_Model_isVillage_10 : decode prog_13_method_75_code 10 = .ok (.invokestatic 240, 3) := by decide +kernel
theorem d_Model_isVillage_13 : decode prog_13_method_75_code 13 = .ok (.ireturn, 1) := by decide +kernel
set_option maxHeartbeats 4000000 in
set_option maxRecDepth 100000 in
theorem c_M_isVillage (l : Launch) (D : va_G) (y : Nat → ClassId) (mo : Nat) (ma : Nat → Nat) (t1 : Nat) (i2 : Int32) (i3 : Int32) (i4 : Int32) (i5 : Int32) (i6 : Int32) (i7 : Int32) (i8 : Int32) (i42 : Int32) (i49 : Int32) (i51 : Int32) (i53 : Int32) (i54 : Int32) (i59 : Int32) (i61 : Int32) (i64 : Int32) (i66 : Int32) (t67 : Nat) (i76 : Int64) (i78 : Int32) (g43 : Nat → Int32) (v : Int32) (c1 : Nat) (hc1 : g43 5 = nI c1) (bc1 : c1 ≤ 6) : CT l D y ⟨"NineBoardsModel", "isVillage", "(I)Z"⟩ prog_13_method_75_code 2 (some .boolean) ({ frames := 1, cells := 0, slots := 0, locals := 25 } : Room) [.ref mo, .int v] [MB mo ma (nI t1) i2 i3 i4 i5 i6 i7 i8 i42 i49 i51 i53 i54 i59 i61 i64 i66 (nI t67) i76 i78, (ma 43, .inl (y 0, 8, .inl g43))] (QI D [MB mo ma (nI t1) i2 i3 i4 i5 i6 i7 i8 i42 i49 i51 i53 i54 i59 i61 i64 i66 (nI t67) i76 i78, (ma 43, .inl (y 0, 8, .inl g43))] (fun (r : Int32) (u : Unit) => (r = 0 ∨ (r = 1 ∧ ∃ j : Nat, j < c1 ∧ v = nI j))) (fun _ => [MB mo ma (nI t1) i2 i3 i4 i5 i6 i7 i8 i42 i49 i51 i53 i54 i59 i61 i64 i66 (nI t67) i76 i78, (ma 43, .inl (y 0, 8, .inl g43))])) := by
  refine CT.of (by decide) (nb rfl) ?_
  intro p e s m args below meth c C hr
  refine j_lv (lv' := [(0, .ref mo), (1, .int v)]) rfl ?_
  refine j_iload_n (pc := 0) C d_Model_isVillage_0 rfl 1 rfl ?_
  refine j_i2l (pc := 1) C (v := v.toInt64) d_Model_isVillage_1 rfl ?_
  refine j_lconst (pc := 2) C (v := 0) d_Model_isVillage_2 (by decide) ?_
  refine j_aload_n (pc := 3) C d_Model_isVillage_3 rfl 0 rfl ?_
  refine j_callVi (pc := 4) C (c_M_villages l D y mo ma t1 i2 i3 i4 i5 i6 i7 i8 i42 i49 i51 i53 i54 i59 i61 i64 i66 t67 i76 i78 g43 c1 hc1 bc1) kw_Model_448 kv_Model_villages 0 10 rfl rfl ⟨by decide, by decide⟩ ⟨by decide, by decide⟩ (wr := []) [0, 1] [] rfl rfl (by decide) (by decide) (by decide) (As := []) (rest := [.long 0, .long v.toInt64]) rfl (nb rfl) rfl d_Model_isVillage_4 (fun r1 _ hr1 => ?_)
  obtain rfl := hr1
  refine j_ws (ws' := [MB mo ma (nI t1) i2 i3 i4 i5 i6 i7 i8 i42 i49 i51 i53 i54 i59 i61 i64 i66 (nI t67) i76 i78, (ma 43, .inl (y 0, 8, .inl g43))]) rfl ?_
  refine j_iconst (pc := 7) C (v := 1) d_Model_isVillage_7 (by decide) ?_
  refine j_isub (pc := 8) C (v := nI c1 - 1) d_Model_isVillage_8 rfl ?_
  refine j_i2l (pc := 9) C (v := (nI c1 - 1).toInt64) d_Model_isVillage_9 rfl ?_
  refine j_callSi (pc := 10) C (c_isIn_ix l D y v c1 (by omega)) kw_Model_240 ks_Model_isIn ⟨by decide, by decide⟩ ⟨by decide, by decide⟩ (wr := [MB mo ma (nI t1) i2 i3 i4 i5 i6 i7 i8 i42 i49 i51 i53 i54 i59 i61 i64 i66 (nI t67) i76 i78, (ma 43, .inl (y 0, 8, .inl g43))]) [] [0, 1] rfl rfl (by decide) (by decide) (by decide) (As := [.long v.toInt64, .long 0, .long ((nI c1 - 1).toInt64)]) (rest := []) rfl (nb rfl) rfl d_Model_isVillage_10 (fun r2 _ hr2 => ?_)
  refine j_ws (ws' := [MB mo ma (nI t1) i2 i3 i4 i5 i6 i7 i8 i42 i49 i51 i53 i54 i59 i61 i64 i66 (nI t67) i76 i78, (ma 43, .inl (y 0, 8, .inl g43))]) rfl ?_
  rcases hr2 with rfl | ⟨rfl, j3, xh4, rfl⟩
  · exact j_iret (pc := 13) C hr (by decide) () (Or.inl rfl) [0, 1] rfl (by decide) (by decide) (by decide) d_Model_isVillage_13
  · exact j_iret (pc := 13) C hr (by decide) () (Or.inr ⟨rfl, j3, xh4, rfl⟩) [0, 1] rfl (by decide) (by decide) (by decide) d_Model_isVillage_13
theorem d_Model_isThing_0 : decode prog_13_method_102_code 0 = .ok (.iload_n 1, 1) := by decide +kernel
theorem d_Model_isThing_1 : decode prog_13_method_102_code 1 = .ok (.i2l, 1) := by decide +kernel
theorem d_Model_isThing_2 : decode prog_13_method_102_code 2 = .ok (.lconst 0, 1) := by decide +kernel
theorem d_Model_isThing_3 : decode prog_13_method_102_code 3 = .ok (.aload_n 0, 1) := by decide +kernel
theorem d_Model_isThing_4 : decode prog_13_method_102_code 4 = .ok (.getfield 117, 3) := by decide +kernel
theorem d_Model_isThing_7 : decode prog_13_method_102_code 7 = .ok (.bipush 6, 2) := by decide +kernel
theorem d_Model_isThing_9 : decode prog_13_method_102_code 9 = .ok (.iaload, 1) := by decide +kernel
theorem d_Model_isThing_10 : decode prog_13_method_102_code 10 = .ok (.iconst 1, 1) := by decide +kernel
theorem d_Model_isThing_11 : decode prog_13_method_102_code 11 = .ok (.isub, 1) := by decide +kernel
theorem d_Model_isThing_12 : decode prog_13_method_102_code 12 = .ok (.i2l, 1) := by decide +kernel
theorem d_Model_isThing_13 : decode prog_13_method_102_code 13 = .ok (.invokestatic 240, 3) := by decide +kernel
theorem d_Model_isThing_16 : decode prog_13_method_102_code 16 = .ok (.ireturn, 1) := by decide +kernel
set_option maxHeartbeats 4000000 in
set_option maxRecDepth 100000 in
theorem c_M_isThing (l : Launch) (D : va_G) (y : Nat → ClassId) (mo : Nat) (ma : Nat → Nat) (t1 : Nat) (i2 : Int32) (i3 : Int32) (i4 : Int32) (i5 : Int32) (i6 : Int32) (i7 : Int32) (i8 : Int32) (i42 : Int32) (i49 : Int32) (i51 : Int32) (i53 : Int32) (i54 : Int32) (i59 : Int32) (i61 : Int32) (i64 : Int32) (i66 : Int32) (t67 : Nat) (i76 : Int64) (i78 : Int32) (g43 : Nat → Int32) (v : Int32) (c2 : Nat) (hc2 : g43 6 = nI c2) (bc2 : c2 ≤ 16) : CT l D y ⟨"NineBoardsModel", "isThing", "(I)Z"⟩ prog_13_method_102_code 2 (some .boolean) ({ frames := 1, cells := 0, slots := 0, locals := 25 } : Room) [.ref mo, .int v] [MB mo ma (nI t1) i2 i3 i4 i5 i6 i7 i8 i42 i49 i51 i53 i54 i59 i61 i64 i66 (nI t67) i76 i78, (ma 43, .inl (y 0, 8, .inl g43))] (QI D [MB mo ma (nI t1) i2 i3 i4 i5 i6 i7 i8 i42 i49 i51 i53 i54 i59 i61 i64 i66 (nI t67) i76 i78, (ma 43, .inl (y 0, 8, .inl g43))] (fun (r : Int32) (u : Unit) => (r = 0 ∨ (r = 1 ∧ ∃ j : Nat, j < c2 ∧ v = nI j))) (fun _ => [MB mo ma (nI t1) i2 i3 i4 i5 i6 i7 i8 i42 i49 i51 i53 i54 i59 i61 i64 i66 (nI t67) i76 i78, (ma 43, .inl (y 0, 8, .inl g43))])) := by
  refine CT.of (by decide) (nb rfl) ?_
  intro p e s m args below meth c C hr
  refine j_lv (lv' := [(0, .ref mo), (1, .int v)]) rfl ?_
  refine j_iload_n (pc := 0) C d_Model_isThing_0 rfl 1 rfl ?_
  refine j_i2l (pc := 1) C (v := v.toInt64) d_Model_isThing_1 rfl ?_
  refine j_lconst (pc := 2) C (v := 0) d_Model_isThing_2 (by decide) ?_
  refine j_aload_n (pc := 3) C d_Model_isThing_3 rfl 0 rfl ?_
  refine j_get (pc := 4) C gf_Model_117 0 rfl rfl d_Model_isThing_4 ?_
  refine j_bipush (pc := 7) C (v := 6) d_Model_isThing_7 (by decide) ?_
  refine j_iald (pc := 9) C 1 rfl (v := nI c2) (vin (by decide)) (by exact hc2) d_Model_isThing_9 ?_
  refine j_iconst (pc := 10) C (v := 1) d_Model_isThing_10 (by decide) ?_
  refine j_isub (pc := 11) C (v := nI c2 - 1) d_Model_isThing_11 rfl ?_
  refine j_i2l (pc := 12) C (v := (nI c2 - 1).toInt64) d_Model_isThing_12 rfl ?_
  refine j_callSi (pc := 13) C (c_isIn_ix l D y v c2 (by omega)) kw_Model_240 ks_Model_isIn ⟨by decide, by decide⟩ ⟨by decide, by decide⟩ (wr := [MB mo ma (nI t1) i2 i3 i4 i5 i6 i7 i8 i42 i49 i51 i53 i54 i59 i61 i64 i66 (nI t67) i76 i78, (ma 43, .inl (y 0, 8, .inl g43))]) [] [0, 1] rfl rfl (by decide) (by decide) (by decide) (As := [.long v.toInt64, .long 0, .long ((nI c2 - 1).toInt64)]) (rest := []) rfl (nb rfl) rfl d_Model_isThing_13 (fun r1 _ hr1 => ?_)
  refine j_ws (ws' := [MB mo ma (nI t1) i2 i3 i4 i5 i6 i7 i8 i42 i49 i51 i53 i54 i59 i61 i64 i66 (nI t67) i76 i78, (ma 43, .inl (y 0, 8, .inl g43))]) rfl ?_
  rcases hr1 with rfl | ⟨rfl, j2, xh3, rfl⟩
  · exact j_iret (pc := 16) C hr (by decide) () (Or.inl rfl) [0, 1] rfl (by decide) (by decide) (by decide) d_Model_isThing_16
  · exact j_iret (pc := 16) C hr (by decide) () (Or.inr ⟨rfl, j2, xh3, rfl⟩) [0, 1] rfl (by decide) (by decide) (by decide) d_Model_isThing_16
