theorem pk_in2 {k : Int32} {n : Nat} (h0 : ¬ k < 0) (h1 : ¬ Int32.ofNat n ≤ k) (hn : n < 2 ^ 31 := by decide) : vp_in k n := by
  obtain ⟨j, hj, e⟩ := nI_of h0
  subst e
  refine vp_in_nI ?_ hn
  rcases Nat.lt_or_ge j n with q | q
  · exact q
  · exact absurd (nI_le q hj) h1
theorem d_Bytes_put_0 : decode prog_2_method_2_code 0 = .ok (.aload_n 0, 1) := by decide +kernel
theorem d_Bytes_put_1 : decode prog_2_method_2_code 1 = .ok (.getfield 21, 3) := by decide +kernel
theorem gf_Bytes_21 : GF "NineBoards$Bytes" 21 0 1 := ⟨_, _, _, rfl, ci_Bytes, by decide, (mt_1 (List.mem_of_getElem? (i := 38) rfl) rfl)⟩
theorem d_Bytes_put_4 : decode prog_2_method_2_code 4 = .ok (.ifCond .lt 39, 3) := by decide +kernel
theorem d_Bytes_put_7 : decode prog_2_method_2_code 7 = .ok (.aload_n 0, 1) := by decide +kernel
theorem d_Bytes_put_8 : decode prog_2_method_2_code 8 = .ok (.getfield 21, 3) := by decide +kernel
theorem d_Bytes_put_11 : decode prog_2_method_2_code 11 = .ok (.aload_n 0, 1) := by decide +kernel
theorem d_Bytes_put_12 : decode prog_2_method_2_code 12 = .ok (.getfield 15, 3) := by decide +kernel
theorem gf_Bytes_15 : GF "NineBoards$Bytes" 15 0 0 := ⟨_, _, _, rfl, ci_Bytes, by decide, (mt_1 (List.mem_of_getElem? (i := 36) rfl) rfl)⟩
theorem d_Bytes_put_15 : decode prog_2_method_2_code 15 = .ok (.arraylength, 1) := by decide +kernel
theorem d_Bytes_put_16 : decode prog_2_method_2_code 16 = .ok (.if_icmp .ge 27, 3) := by decide +kernel
theorem d_Bytes_put_19 : decode prog_2_method_2_code 19 = .ok (.aload_n 0, 1) := by decide +kernel
theorem d_Bytes_put_20 : decode prog_2_method_2_code 20 = .ok (.getfield 15, 3) := by decide +kernel
theorem d_Bytes_put_23 : decode prog_2_method_2_code 23 = .ok (.aload_n 0, 1) := by decide +kernel
theorem d_Bytes_put_24 : decode prog_2_method_2_code 24 = .ok (.getfield 21, 3) := by decide +kernel
theorem d_Bytes_put_27 : decode prog_2_method_2_code 27 = .ok (.iload_n 1, 1) := by decide +kernel
theorem d_Bytes_put_28 : decode prog_2_method_2_code 28 = .ok (.sipush 255, 3) := by decide +kernel
theorem d_Bytes_put_31 : decode prog_2_method_2_code 31 = .ok (.iand, 1) := by decide +kernel
theorem d_Bytes_put_32 : decode prog_2_method_2_code 32 = .ok (.iastore, 1) := by decide +kernel
theorem d_Bytes_put_33 : decode prog_2_method_2_code 33 = .ok (.aload_n 0, 1) := by decide +kernel
theorem d_Bytes_put_34 : decode prog_2_method_2_code 34 = .ok (.dup, 1) := by decide +kernel
theorem d_Bytes_put_35 : decode prog_2_method_2_code 35 = .ok (.getfield 21, 3) := by decide +kernel
theorem d_Bytes_put_38 : decode prog_2_method_2_code 38 = .ok (.iconst 1, 1) := by decide +kernel
theorem d_Bytes_put_39 : decode prog_2_method_2_code 39 = .ok (.iadd, 1) := by decide +kernel
theorem d_Bytes_put_40 : decode prog_2_method_2_code 40 = .ok (.putfield 21, 3) := by decide +kernel
theorem pf_Bytes_21 : PF "NineBoards$Bytes" 21 0 1 (.int) false := ⟨_, _, _, ct_Bytes, rfl, ci_Bytes, by decide, (mt_1 (List.mem_of_getElem? (i := 38) rfl) rfl), cp_Bytes, cn_Bytes, rfl, by decide +kernel, (fun h => by cases h)⟩
theorem d_Bytes_put_43 : decode prog_2_method_2_code 43 = .ok (.return_, 1) := by decide +kernel
set_option maxHeartbeats 4000000 in
set_option maxRecDepth 100000 in
theorem c_put_A (l : Launch) (D : va_G) (y : Nat → ClassId) (h : Nat) (a : Nat) (f : Nat → Int32) (k : Int32) (k' : Int32) (v : Int32) (hk0 : ¬ k < 0) (hk1 : ¬ 1600 ≤ k) (he : k + 1 = k') : CT l D y ⟨"NineBoards$Bytes", "put", "(I)V"⟩ prog_2_method_2_code 2 none ({ frames := 0, cells := 0, slots := 0, locals := 0 } : Room) [.ref h, .int v] [(h, .inr (0, [.ref a, .int k])), (a, .inl (y 0, 1600, .inl f))] (QV D [(h, .inr (0, [.ref a, .int k])), (a, .inl (y 0, 1600, .inl f))] (fun (_ : Nat → Int32) => True) (fun u => [(h, .inr (0, [.ref a, .int (k')])), (a, .inl (y 0, 1600, .inl u))])) := by
  refine CT.of (by decide) (nb rfl) ?_
  intro p e s m args below meth c C hr
  refine j_lv (lv' := [(0, .ref h), (1, .int v)]) rfl ?_
  refine j_aload_n (pc := 0) C d_Bytes_put_0 rfl 0 rfl ?_
  refine j_get (pc := 1) C gf_Bytes_21 0 rfl rfl d_Bytes_put_1 ?_
  refine j_if_ltF (pc := 4) C (tgt := 43) d_Bytes_put_4 (by decide) hk0 ?_
  refine j_aload_n (pc := 7) C d_Bytes_put_7 rfl 0 rfl ?_
  refine j_get (pc := 8) C gf_Bytes_21 0 rfl rfl d_Bytes_put_8 ?_
  refine j_aload_n (pc := 11) C d_Bytes_put_11 rfl 0 rfl ?_
  refine j_get (pc := 12) C gf_Bytes_15 0 rfl rfl d_Bytes_put_12 ?_
  refine j_alen (pc := 15) C 1 0 rfl rfl (v := 1600) rfl d_Bytes_put_15 ?_
  refine j_icmp_geF (pc := 16) C (tgt := 43) d_Bytes_put_16 (by decide) hk1 ?_
  refine j_aload_n (pc := 19) C d_Bytes_put_19 rfl 0 rfl ?_
  refine j_get (pc := 20) C gf_Bytes_15 0 rfl rfl d_Bytes_put_20 ?_
  refine j_aload_n (pc := 23) C d_Bytes_put_23 rfl 0 rfl ?_
  refine j_get (pc := 24) C gf_Bytes_21 0 rfl rfl d_Bytes_put_24 ?_
  refine j_iload_n (pc := 27) C d_Bytes_put_27 rfl 1 rfl ?_
  refine j_sipush (pc := 28) C (v := 255) d_Bytes_put_28 (by decide) ?_
  refine j_iand (pc := 31) C (v := v &&& 255) d_Bytes_put_31 rfl ?_
  refine j_iast (pc := 32) C 1 rfl (ws' := [(h, .inr (0, [.ref a, .int k])), (a, .inl (y 0, 1600, .inl (upd f k.toNatClampNeg (v &&& 255))))]) (pk_in2 hk0 hk1) rfl d_Bytes_put_32 ?_
  refine j_aload_n (pc := 33) C d_Bytes_put_33 rfl 0 rfl ?_
  refine j_dup (pc := 34) C d_Bytes_put_34 rfl ?_
  refine j_get (pc := 35) C gf_Bytes_21 0 rfl rfl d_Bytes_put_35 ?_
  refine j_iconst (pc := 38) C (v := 1) d_Bytes_put_38 (by decide) ?_
  refine j_iadd (pc := 39) C (v := k') d_Bytes_put_39 he ?_
  refine j_put (pc := 40) C pf_Bytes_21 0 (ws' := [(h, .inr (0, [.ref a, .int (k')])), (a, .inl (y 0, 1600, .inl (upd f k.toNatClampNeg (v &&& 255))))]) rfl rfl rfl (nl rfl) rfl d_Bytes_put_40 ?_
  exact j_vret (pc := 43) C hr (upd f k.toNatClampNeg (v &&& 255)) trivial [0, 1] rfl (by decide) (by decide) (by decide) d_Bytes_put_43
set_option maxHeartbeats 4000000 in
set_option maxRecDepth 100000 in
theorem c_put_Z (l : Launch) (D : va_G) (y : Nat → ClassId) (h : Nat) (a : Nat) (k : Int32) (k' : Int32) (hk0 : ¬ k < 0) (hk1 : ¬ 15 ≤ k) (he : k + 1 = k') : CT l D y ⟨"NineBoards$Bytes", "put", "(I)V"⟩ prog_2_method_2_code 2 none ({ frames := 0, cells := 0, slots := 0, locals := 0 } : Room) [.ref h, .int 0] [(h, .inr (0, [.ref a, .int k])), (a, .inl (y 0, 15, .inl (fun _ => 0)))] (QV D [(h, .inr (0, [.ref a, .int k])), (a, .inl (y 0, 15, .inl (fun _ => 0)))] (fun (_ : Unit) => True) (fun _ => [(h, .inr (0, [.ref a, .int (k')])), (a, .inl (y 0, 15, .inl (fun _ => 0)))])) := by
  refine CT.of (by decide) (nb rfl) ?_
  intro p e s m args below meth c C hr
  refine j_lv (lv' := [(0, .ref h), (1, .int 0)]) rfl ?_
  refine j_aload_n (pc := 0) C d_Bytes_put_0 rfl 0 rfl ?_
  refine j_get (pc := 1) C gf_Bytes_21 0 rfl rfl d_Bytes_put_1 ?_
  refine j_if_ltF (pc := 4) C (tgt := 43) d_Bytes_put_4 (by decide) hk0 ?_
  refine j_aload_n (pc := 7) C d_Bytes_put_7 rfl 0 rfl ?_
  refine j_get (pc := 8) C gf_Bytes_21 0 rfl rfl d_Bytes_put_8 ?_
  refine j_aload_n (pc := 11) C d_Bytes_put_11 rfl 0 rfl ?_
  refine j_get (pc := 12) C gf_Bytes_15 0 rfl rfl d_Bytes_put_12 ?_
  refine j_alen (pc := 15) C 1 0 rfl rfl (v := 15) rfl d_Bytes_put_15 ?_
  refine j_icmp_geF (pc := 16) C (tgt := 43) d_Bytes_put_16 (by decide) hk1 ?_
  refine j_aload_n (pc := 19) C d_Bytes_put_19 rfl 0 rfl ?_
  refine j_get (pc := 20) C gf_Bytes_15 0 rfl rfl d_Bytes_put_20 ?_
  refine j_aload_n (pc := 23) C d_Bytes_put_23 rfl 0 rfl ?_
  refine j_get (pc := 24) C gf_Bytes_21 0 rfl rfl d_Bytes_put_24 ?_
  refine j_iload_n (pc := 27) C d_Bytes_put_27 rfl 1 rfl ?_
  refine j_sipush (pc := 28) C (v := 255) d_Bytes_put_28 (by decide) ?_
  refine j_iand (pc := 31) C (v := 0) d_Bytes_put_31 (by decide) ?_
  refine j_iast (pc := 32) C 1 rfl (ws' := [(h, .inr (0, [.ref a, .int k])), (a, .inl (y 0, 15, .inl (fun _ => 0)))]) (pk_in2 hk0 hk1) (by rw [up_z0]; rfl) d_Bytes_put_32 ?_
  refine j_aload_n (pc := 33) C d_Bytes_put_33 rfl 0 rfl ?_
  refine j_dup (pc := 34) C d_Bytes_put_34 rfl ?_
  refine j_get (pc := 35) C gf_Bytes_21 0 rfl rfl d_Bytes_put_35 ?_
  refine j_iconst (pc := 38) C (v := 1) d_Bytes_put_38 (by decide) ?_
  refine j_iadd (pc := 39) C (v := k') d_Bytes_put_39 he ?_
  refine j_put (pc := 40) C pf_Bytes_21 0 (ws' := [(h, .inr (0, [.ref a, .int (k')])), (a, .inl (y 0, 15, .inl (fun _ => 0)))]) rfl rfl rfl (nl rfl) rfl d_Bytes_put_40 ?_
  exact j_vret (pc := 43) C hr () trivial [0, 1] rfl (by decide) (by decide) (by decide) d_Bytes_put_43
set_option maxHeartbeats 4000000 in
set_option maxRecDepth 100000 in
theorem c_put_B (l : Launch) (D : va_G) (y : Nat → ClassId) (h : Nat) (a : Nat) (f : Nat → Int32) (k : Int32) (k' : Int32) (v : Int32) (hk0 : ¬ k < 0) (hk1 : ¬ 15 ≤ k) (he : k + 1 = k') : CT l D y ⟨"NineBoards$Bytes", "put", "(I)V"⟩ prog_2_method_2_code 2 none ({ frames := 0, cells := 0, slots := 0, locals := 0 } : Room) [.ref h, .int v] [(h, .inr (0, [.ref a, .int k])), (a, .inl (y 0, 15, .inl f))] (QV D [(h, .inr (0, [.ref a, .int k])), (a, .inl (y 0, 15, .inl f))] (fun (_ : Nat → Int32) => True) (fun u => [(h, .inr (0, [.ref a, .int (k')])), (a, .inl (y 0, 15, .inl u))])) := by
  refine CT.of (by decide) (nb rfl) ?_
  intro p e s m args below meth c C hr
  refine j_lv (lv' := [(0, .ref h), (1, .int v)]) rfl ?_
  refine j_aload_n (pc := 0) C d_Bytes_put_0 rfl 0 rfl ?_
  refine j_get (pc := 1) C gf_Bytes_21 0 rfl rfl d_Bytes_put_1 ?_
  refine j_if_ltF (pc := 4) C (tgt := 43) d_Bytes_put_4 (by decide) hk0 ?_
  refine j_aload_n (pc := 7) C d_Bytes_put_7 rfl 0 rfl ?_
  refine j_get (pc := 8) C gf_Bytes_21 0 rfl rfl d_Bytes_put_8 ?_
  refine j_aload_n (pc := 11) C d_Bytes_put_11 rfl 0 rfl ?_
  refine j_get (pc := 12) C gf_Bytes_15 0 rfl rfl d_Bytes_put_12 ?_
  refine j_alen (pc := 15) C 1 0 rfl rfl (v := 15) rfl d_Bytes_put_15 ?_
  refine j_icmp_geF (pc := 16) C (tgt := 43) d_Bytes_put_16 (by decide) hk1 ?_
  refine j_aload_n (pc := 19) C d_Bytes_put_19 rfl 0 rfl ?_
  refine j_get (pc := 20) C gf_Bytes_15 0 rfl rfl d_Bytes_put_20 ?_
  refine j_aload_n (pc := 23) C d_Bytes_put_23 rfl 0 rfl ?_
  refine j_get (pc := 24) C gf_Bytes_21 0 rfl rfl d_Bytes_put_24 ?_
  refine j_iload_n (pc := 27) C d_Bytes_put_27 rfl 1 rfl ?_
  refine j_sipush (pc := 28) C (v := 255) d_Bytes_put_28 (by decide) ?_
  refine j_iand (pc := 31) C (v := v &&& 255) d_Bytes_put_31 rfl ?_
  refine j_iast (pc := 32) C 1 rfl (ws' := [(h, .inr (0, [.ref a, .int k])), (a, .inl (y 0, 15, .inl (upd f k.toNatClampNeg (v &&& 255))))]) (pk_in2 hk0 hk1) rfl d_Bytes_put_32 ?_
  refine j_aload_n (pc := 33) C d_Bytes_put_33 rfl 0 rfl ?_
  refine j_dup (pc := 34) C d_Bytes_put_34 rfl ?_
  refine j_get (pc := 35) C gf_Bytes_21 0 rfl rfl d_Bytes_put_35 ?_
  refine j_iconst (pc := 38) C (v := 1) d_Bytes_put_38 (by decide) ?_
  refine j_iadd (pc := 39) C (v := k') d_Bytes_put_39 he ?_
  refine j_put (pc := 40) C pf_Bytes_21 0 (ws' := [(h, .inr (0, [.ref a, .int (k')])), (a, .inl (y 0, 15, .inl (upd f k.toNatClampNeg (v &&& 255))))]) rfl rfl rfl (nl rfl) rfl d_Bytes_put_40 ?_
  exact j_vret (pc := 43) C hr (upd f k.toNatClampNeg (v &&& 255)) trivial [0, 1] rfl (by decide) (by decide) (by decide) d_Bytes_put_43
theorem d_Bytes_putTwo_0 : decode prog_2_method_3_code 0 = .ok (.aload_n 0, 1) := by decide +kernel
theorem d_Bytes_putTwo_1 : decode prog_2_method_3_code 1 = .ok (.iload_n 1, 1) := by decide +kernel
theorem d_Bytes_putTwo_2 : decode prog_2_method_3_code 2 = .ok (.bipush 8, 2) := by decide +kernel
theorem d_Bytes_putTwo_4 : decode prog_2_method_3_code 4 = .ok (.ishr, 1) := by decide +kernel
theorem d_Bytes_putTwo_5 : decode prog_2_method_3_code 5 = .ok (.invokevirtual 25, 3) := by decide +kernel
theorem kw_Bytes_25 : KW "NineBoards$Bytes" 25 ⟨"NineBoards$Bytes", "put", "(I)V"⟩ prog_2_method_2_code 2 none 1 := ⟨(mt_3 (List.mem_of_getElem? (i := 34) rfl) rfl), (mt_1 (List.mem_of_getElem? (i := 2) rfl) rfl), (mt_3 (List.mem_of_getElem? (i := 37) rfl) rfl), by decide +kernel⟩
theorem kv_Bytes_put : Cond.instanceMethod ⟨"NineBoards$Bytes", "put", "(I)V"⟩ ∈ TB ∧ Cond.selects "NineBoards$Bytes" ⟨"NineBoards$Bytes", "put", "(I)V"⟩ ⟨"NineBoards$Bytes", "put", "(I)V"⟩ ∈ TB := ⟨(mt_3 (List.mem_of_getElem? (i := 35) rfl) rfl), (mt_3 (List.mem_of_getElem? (i := 36) rfl) rfl)⟩
theorem d_Bytes_putTwo_8 : decode prog_2_method_3_code 8 = .ok (.aload_n 0, 1) := by decide +kernel
theorem d_Bytes_putTwo_9 : decode prog_2_method_3_code 9 = .ok (.iload_n 1, 1) := by decide +kernel
theorem d_Bytes_putTwo_10 : decode prog_2_method_3_code 10 = .ok (.invokevirtual 25, 3) := by decide +kernel
theorem d_Bytes_putTwo_13 : decode prog_2_method_3_code 13 = .ok (.return_, 1) := by decide +kernel
set_option maxHeartbeats 4000000 in
set_option maxRecDepth 100000 in
theorem c_putTwo_A (l : Launch) (D : va_G) (y : Nat → ClassId) (h : Nat) (a : Nat) (f : Nat → Int32) (k : Int32) (k1 : Int32) (k2 : Int32) (v : Int32) (p0 : ¬ k < 0) (q0 : ¬ 1600 ≤ k) (e0 : k + 1 = k1) (p1 : ¬ k1 < 0) (q1 : ¬ 1600 ≤ k1) (e1 : k1 + 1 = k2) : CT l D y ⟨"NineBoards$Bytes", "putTwo", "(I)V"⟩ prog_2_method_3_code 2 none ({ frames := 1, cells := 0, slots := 0, locals := 21 } : Room) [.ref h, .int v] [(h, .inr (0, [.ref a, .int k])), (a, .inl (y 0, 1600, .inl f))] (QV D [(h, .inr (0, [.ref a, .int k])), (a, .inl (y 0, 1600, .inl f))] (fun (_ : Nat → Int32) => True) (fun u => [(h, .inr (0, [.ref a, .int k2])), (a, .inl (y 0, 1600, .inl u))])) := by
  refine CT.of (by decide) (nb rfl) ?_
  intro p e s m args below meth c C hr
  refine j_lv (lv' := [(0, .ref h), (1, .int v)]) rfl ?_
  refine j_aload_n (pc := 0) C d_Bytes_putTwo_0 rfl 0 rfl ?_
  refine j_iload_n (pc := 1) C d_Bytes_putTwo_1 rfl 1 rfl ?_
  refine j_bipush (pc := 2) C (v := 8) d_Bytes_putTwo_2 (by decide) ?_
  refine j_ishr (pc := 4) C (v := v >>> (8 &&& 31)) d_Bytes_putTwo_4 rfl ?_
  refine j_callVv (pc := 5) C (c_put_A l D y h a f k k1 (v >>> (8 &&& 31)) p0 q0 e0) kw_Bytes_25 kv_Bytes_put 0 0 rfl rfl ⟨by decide, by decide⟩ ⟨by decide, by decide⟩ (wr := []) [0, 1] [] rfl rfl (by decide) (by decide) (by decide) (As := [.int (v >>> (8 &&& 31))]) (rest := []) rfl (nb rfl) rfl d_Bytes_putTwo_5 (fun u1 _ => ?_)
  refine j_ws (ws' := [(h, .inr (0, [.ref a, .int k1])), (a, .inl (y 0, 1600, .inl u1))]) rfl ?_
  refine j_aload_n (pc := 8) C d_Bytes_putTwo_8 rfl 0 rfl ?_
  refine j_iload_n (pc := 9) C d_Bytes_putTwo_9 rfl 1 rfl ?_
  refine j_callVv (pc := 10) C (c_put_A l D y h a u1 k1 k2 v p1 q1 e1) kw_Bytes_25 kv_Bytes_put 0 0 rfl rfl ⟨by decide, by decide⟩ ⟨by decide, by decide⟩ (wr := []) [0, 1] [] rfl rfl (by decide) (by decide) (by decide) (As := [.int v]) (rest := []) rfl (nb rfl) rfl d_Bytes_putTwo_10 (fun u2 _ => ?_)
  refine j_ws (ws' := [(h, .inr (0, [.ref a, .int k2])), (a, .inl (y 0, 1600, .inl u2))]) rfl ?_
  exact j_vret (pc := 13) C hr u2 trivial [0, 1] rfl (by decide) (by decide) (by decide) d_Bytes_putTwo_13
set_option maxHeartbeats 4000000 in
set_option maxRecDepth 100000 in
theorem c_putTwo_Z (l : Launch) (D : va_G) (y : Nat → ClassId) (h : Nat) (a : Nat) (k : Int32) (k1 : Int32) (k2 : Int32) (p0 : ¬ k < 0) (q0 : ¬ 15 ≤ k) (e0 : k + 1 = k1) (p1 : ¬ k1 < 0) (q1 : ¬ 15 ≤ k1) (e1 : k1 + 1 = k2) : CT l D y ⟨"NineBoards$Bytes", "putTwo", "(I)V"⟩ prog_2_method_3_code 2 none ({ frames := 1, cells := 0, slots := 0, locals := 21 } : Room) [.ref h, .int 0] [(h, .inr (0, [.ref a, .int k])), (a, .inl (y 0, 15, .inl (fun _ => 0)))] (QV D [(h, .inr (0, [.ref a, .int k])), (a, .inl (y 0, 15, .inl (fun _ => 0)))] (fun (_ : Unit) => True) (fun _ => [(h, .inr (0, [.ref a, .int k2])), (a, .inl (y 0, 15, .inl (fun _ => 0)))])) := by
  refine CT.of (by decide) (nb rfl) ?_
  intro p e s m args below meth c C hr
  refine j_lv (lv' := [(0, .ref h), (1, .int 0)]) rfl ?_
  refine j_aload_n (pc := 0) C d_Bytes_putTwo_0 rfl 0 rfl ?_
  refine j_iload_n (pc := 1) C d_Bytes_putTwo_1 rfl 1 rfl ?_
  refine j_bipush (pc := 2) C (v := 8) d_Bytes_putTwo_2 (by decide) ?_
  refine j_ishr (pc := 4) C (v := 0) d_Bytes_putTwo_4 (by decide) ?_
  refine j_callVv (pc := 5) C (c_put_Z l D y h a k k1 p0 q0 e0) kw_Bytes_25 kv_Bytes_put 0 0 rfl rfl ⟨by decide, by decide⟩ ⟨by decide, by decide⟩ (wr := []) [0, 1] [] rfl rfl (by decide) (by decide) (by decide) (As := [.int 0]) (rest := []) rfl (nb rfl) rfl d_Bytes_putTwo_5 (fun _ _ => ?_)
  refine j_ws (ws' := [(h, .inr (0, [.ref a, .int k1])), (a, .inl (y 0, 15, .inl (fun _ => 0)))]) rfl ?_
  refine j_aload_n (pc := 8) C d_Bytes_putTwo_8 rfl 0 rfl ?_
  refine j_iload_n (pc := 9) C d_Bytes_putTwo_9 rfl 1 rfl ?_
  refine j_callVv (pc := 10) C (c_put_Z l D y h a k1 k2 p1 q1 e1) kw_Bytes_25 kv_Bytes_put 0 0 rfl rfl ⟨by decide, by decide⟩ ⟨by decide, by decide⟩ (wr := []) [0, 1] [] rfl rfl (by decide) (by decide) (by decide) (As := [.int 0]) (rest := []) rfl (nb rfl) rfl d_Bytes_putTwo_10 (fun _ _ => ?_)
  refine j_ws (ws' := [(h, .inr (0, [.ref a, .int k2])), (a, .inl (y 0, 15, .inl (fun _ => 0)))]) rfl ?_
  exact j_vret (pc := 13) C hr () trivial [0, 1] rfl (by decide) (by decide) (by decide) d_Bytes_putTwo_13
theorem d_Bytes_putFour_0 : decode prog_2_method_4_code 0 = .ok (.aload_n 0, 1) := by decide +kernel
theorem d_Bytes_putFour_1 : decode prog_2_method_4_code 1 = .ok (.iload_n 1, 1) := by decide +kernel
theorem d_Bytes_putFour_2 : decode prog_2_method_4_code 2 = .ok (.bipush 16, 2) := by decide +kernel
theorem d_Bytes_putFour_4 : decode prog_2_method_4_code 4 = .ok (.ishr, 1) := by decide +kernel
theorem d_Bytes_putFour_5 : decode prog_2_method_4_code 5 = .ok (.invokevirtual 29, 3) := by decide +kernel
theorem kw_Bytes_29 : KW "NineBoards$Bytes" 29 ⟨"NineBoards$Bytes", "putTwo", "(I)V"⟩ prog_2_method_3_code 2 none 1 := ⟨(mt_3 (List.mem_of_getElem? (i := 30) rfl) rfl), (mt_1 (List.mem_of_getElem? (i := 2) rfl) rfl), (mt_3 (List.mem_of_getElem? (i := 33) rfl) rfl), by decide +kernel⟩
theorem kv_Bytes_putTwo : Cond.instanceMethod ⟨"NineBoards$Bytes", "putTwo", "(I)V"⟩ ∈ TB ∧ Cond.selects "NineBoards$Bytes" ⟨"NineBoards$Bytes", "putTwo", "(I)V"⟩ ⟨"NineBoards$Bytes", "putTwo", "(I)V"⟩ ∈ TB := ⟨(mt_3 (List.mem_of_getElem? (i := 31) rfl) rfl), (mt_3 (List.mem_of_getElem? (i := 32) rfl) rfl)⟩
theorem d_Bytes_putFour_8 : decode prog_2_method_4_code 8 = .ok (.aload_n 0, 1) := by decide +kernel
theorem d_Bytes_putFour_9 : decode prog_2_method_4_code 9 = .ok (.iload_n 1, 1) := by decide +kernel
theorem d_Bytes_putFour_10 : decode prog_2_method_4_code 10 = .ok (.invokevirtual 29, 3) := by decide +kernel
theorem d_Bytes_putFour_13 : decode prog_2_method_4_code 13 = .ok (.return_, 1) := by decide +kernel
set_option maxHeartbeats 4000000 in
set_option maxRecDepth 100000 in
theorem c_putFour_A (l : Launch) (D : va_G) (y : Nat → ClassId) (h : Nat) (a : Nat) (f : Nat → Int32) (k : Int32) (k1 : Int32) (k2 : Int32) (k3 : Int32) (k4 : Int32) (v : Int32) (p0 : ¬ k < 0) (q0 : ¬ 1600 ≤ k) (e0 : k + 1 = k1) (p1 : ¬ k1 < 0) (q1 : ¬ 1600 ≤ k1) (e1 : k1 + 1 = k2) (p2 : ¬ k2 < 0) (q2 : ¬ 1600 ≤ k2) (e2 : k2 + 1 = k3) (p3 : ¬ k3 < 0) (q3 : ¬ 1600 ≤ k3) (e3 : k3 + 1 = k4) : CT l D y ⟨"NineBoards$Bytes", "putFour", "(I)V"⟩ prog_2_method_4_code 2 none ({ frames := 2, cells := 0, slots := 0, locals := 42 } : Room) [.ref h, .int v] [(h, .inr (0, [.ref a, .int k])), (a, .inl (y 0, 1600, .inl f))] (QV D [(h, .inr (0, [.ref a, .int k])), (a, .inl (y 0, 1600, .inl f))] (fun (_ : Nat → Int32) => True) (fun u => [(h, .inr (0, [.ref a, .int k4])), (a, .inl (y 0, 1600, .inl u))])) := by
  refine CT.of (by decide) (nb rfl) ?_
  intro p e s m args below meth c C hr
  refine j_lv (lv' := [(0, .ref h), (1, .int v)]) rfl ?_
  refine j_aload_n (pc := 0) C d_Bytes_putFour_0 rfl 0 rfl ?_
  refine j_iload_n (pc := 1) C d_Bytes_putFour_1 rfl 1 rfl ?_
  refine j_bipush (pc := 2) C (v := 16) d_Bytes_putFour_2 (by decide) ?_
  refine j_ishr (pc := 4) C (v := v >>> (16 &&& 31)) d_Bytes_putFour_4 rfl ?_
  refine j_callVv (pc := 5) C (c_putTwo_A l D y h a f k k1 k2 (v >>> (16 &&& 31)) p0 q0 e0 p1 q1 e1) kw_Bytes_29 kv_Bytes_putTwo 0 0 rfl rfl ⟨by decide, by decide⟩ ⟨by decide, by decide⟩ (wr := []) [0, 1] [] rfl rfl (by decide) (by decide) (by decide) (As := [.int (v >>> (16 &&& 31))]) (rest := []) rfl (nb rfl) rfl d_Bytes_putFour_5 (fun u1 _ => ?_)
  refine j_ws (ws' := [(h, .inr (0, [.ref a, .int k2])), (a, .inl (y 0, 1600, .inl u1))]) rfl ?_
  refine j_aload_n (pc := 8) C d_Bytes_putFour_8 rfl 0 rfl ?_
  refine j_iload_n (pc := 9) C d_Bytes_putFour_9 rfl 1 rfl ?_
  refine j_callVv (pc := 10) C (c_putTwo_A l D y h a u1 k2 k3 k4 v p2 q2 e2 p3 q3 e3) kw_Bytes_29 kv_Bytes_putTwo 0 0 rfl rfl ⟨by decide, by decide⟩ ⟨by decide, by decide⟩ (wr := []) [0, 1] [] rfl rfl (by decide) (by decide) (by decide) (As := [.int v]) (rest := []) rfl (nb rfl) rfl d_Bytes_putFour_10 (fun u2 _ => ?_)
  refine j_ws (ws' := [(h, .inr (0, [.ref a, .int k4])), (a, .inl (y 0, 1600, .inl u2))]) rfl ?_
  exact j_vret (pc := 13) C hr u2 trivial [0, 1] rfl (by decide) (by decide) (by decide) d_Bytes_putFour_13
theorem ge_of_nlt {v : Int32} (h : ¬ v < 0) : 0 ≤ v := Int32.not_lt.mp h
theorem d_Bytes_at_0 : decode prog_2_method_5_code 0 = .ok (.iload_n 1, 1) := by decide +kernel
theorem d_Bytes_at_1 : decode prog_2_method_5_code 1 = .ok (.ifCond .lt 29, 3) := by decide +kernel
theorem d_Bytes_at_30 : decode prog_2_method_5_code 30 = .ok (.iconst (-1), 1) := by decide +kernel
theorem d_Bytes_at_31 : decode prog_2_method_5_code 31 = .ok (.ireturn, 1) := by decide +kernel
theorem d_Bytes_at_4 : decode prog_2_method_5_code 4 = .ok (.iload_n 1, 1) := by decide +kernel
theorem d_Bytes_at_5 : decode prog_2_method_5_code 5 = .ok (.aload_n 0, 1) := by decide +kernel
theorem d_Bytes_at_6 : decode prog_2_method_5_code 6 = .ok (.getfield 21, 3) := by decide +kernel
theorem d_Bytes_at_9 : decode prog_2_method_5_code 9 = .ok (.if_icmp .ge 21, 3) := by decide +kernel
set_option maxHeartbeats 4000000 in
set_option maxRecDepth 100000 in
theorem c_at_0 (l : Launch) (D : va_G) (y : Nat → ClassId) (h : Nat) (a : Nat) (v : Int32)  : CT l D y ⟨"NineBoards$Bytes", "at", "(I)I"⟩ prog_2_method_5_code 2 (some .int) ({ frames := 0, cells := 0, slots := 0, locals := 0 } : Room) [.ref h, .int v] [(h, .inr (0, [.ref a, .int 0]))] (QI D [(h, .inr (0, [.ref a, .int 0]))] (fun (r : Int32) (_ : Unit) => r = (-1)) (fun _ => [])) := by
  refine CT.of (by decide) (nb rfl) ?_
  intro p e s m args below meth c C hr
  refine j_lv (lv' := [(0, .ref h), (1, .int v)]) rfl ?_
  refine j_iload_n (pc := 0) C d_Bytes_at_0 rfl 1 rfl ?_
  refine j_if_lt (pc := 1) C (tgt := 30) d_Bytes_at_1 (by decide) (fun c1 => ?_) (fun c1 => ?_)
  · refine j_iconst (pc := 30) C (v := (-1)) d_Bytes_at_30 (by decide) ?_
    exact j_iret (pc := 31) C hr rfl () rfl [] rfl (by decide) (by decide) (by decide) d_Bytes_at_31
  · refine j_iload_n (pc := 4) C d_Bytes_at_4 rfl 1 rfl ?_
    refine j_aload_n (pc := 5) C d_Bytes_at_5 rfl 0 rfl ?_
    refine j_get (pc := 6) C gf_Bytes_21 0 rfl rfl d_Bytes_at_6 ?_
    refine j_icmp_geT (pc := 9) C (tgt := 30) d_Bytes_at_9 (by decide) (ge_of_nlt c1) ?_
    refine j_iconst (pc := 30) C (v := (-1)) d_Bytes_at_30 (by decide) ?_
    exact j_iret (pc := 31) C hr rfl () rfl [] rfl (by decide) (by decide) (by decide) d_Bytes_at_31
theorem d_Bytes_check_0 : decode prog_2_method_7_code 0 = .ok (.bipush 67, 2) := by decide +kernel
theorem d_Bytes_check_2 : decode prog_2_method_7_code 2 = .ok (.istore_n 2, 1) := by decide +kernel
theorem d_Bytes_check_3 : decode prog_2_method_7_code 3 = .ok (.iconst 0, 1) := by decide +kernel
theorem d_Bytes_check_4 : decode prog_2_method_7_code 4 = .ok (.istore_n 3, 1) := by decide +kernel
theorem d_Bytes_check_5 : decode prog_2_method_7_code 5 = .ok (.iload_n 3, 1) := by decide +kernel
theorem d_Bytes_check_6 : decode prog_2_method_7_code 6 = .ok (.iload_n 1, 1) := by decide +kernel
theorem d_Bytes_check_7 : decode prog_2_method_7_code 7 = .ok (.if_icmp .ge 33, 3) := by decide +kernel
theorem d_Bytes_check_10 : decode prog_2_method_7_code 10 = .ok (.iload_n 3, 1) := by decide +kernel
theorem d_Bytes_check_11 : decode prog_2_method_7_code 11 = .ok (.aload_n 0, 1) := by decide +kernel
theorem d_Bytes_check_12 : decode prog_2_method_7_code 12 = .ok (.getfield 15, 3) := by decide +kernel
theorem d_Bytes_check_15 : decode prog_2_method_7_code 15 = .ok (.arraylength, 1) := by decide +kernel
theorem d_Bytes_check_16 : decode prog_2_method_7_code 16 = .ok (.if_icmp .ge 24, 3) := by decide +kernel
theorem d_Bytes_check_19 : decode prog_2_method_7_code 19 = .ok (.iconst 3, 1) := by decide +kernel
theorem d_Bytes_check_20 : decode prog_2_method_7_code 20 = .ok (.iload_n 2, 1) := by decide +kernel
theorem d_Bytes_check_21 : decode prog_2_method_7_code 21 = .ok (.imul, 1) := by decide +kernel
theorem d_Bytes_check_22 : decode prog_2_method_7_code 22 = .ok (.aload_n 0, 1) := by decide +kernel
theorem d_Bytes_check_23 : decode prog_2_method_7_code 23 = .ok (.getfield 15, 3) := by decide +kernel
theorem d_Bytes_check_26 : decode prog_2_method_7_code 26 = .ok (.iload_n 3, 1) := by decide +kernel
theorem d_Bytes_check_27 : decode prog_2_method_7_code 27 = .ok (.iaload, 1) := by decide +kernel
theorem d_Bytes_check_28 : decode prog_2_method_7_code 28 = .ok (.iadd, 1) := by decide +kernel
theorem d_Bytes_check_29 : decode prog_2_method_7_code 29 = .ok (.sipush 251, 3) := by decide +kernel
theorem d_Bytes_check_32 : decode prog_2_method_7_code 32 = .ok (.irem, 1) := by decide +kernel
theorem d_Bytes_check_33 : decode prog_2_method_7_code 33 = .ok (.istore_n 2, 1) := by decide +kernel
theorem d_Bytes_check_34 : decode prog_2_method_7_code 34 = .ok (.iinc 3 1, 3) := by decide +kernel
theorem d_Bytes_check_37 : decode prog_2_method_7_code 37 = .ok (.goto (-32), 3) := by decide +kernel
theorem d_Bytes_check_40 : decode prog_2_method_7_code 40 = .ok (.iload_n 2, 1) := by decide +kernel
theorem d_Bytes_check_41 : decode prog_2_method_7_code 41 = .ok (.ireturn, 1) := by decide +kernel
set_option maxHeartbeats 4000000 in
set_option maxRecDepth 100000 in
theorem c_check_5 (l : Launch) (D : va_G) (y : Nat → ClassId) (h : Nat) (a : Nat)  : CT l D y ⟨"NineBoards$Bytes", "check", "(I)I"⟩ prog_2_method_7_code 4 (some .int) ({ frames := 0, cells := 0, slots := 0, locals := 0 } : Room) [.ref h, .int 5] [(h, .inr (0, [.ref a, .int 5])), (a, .inl (y 0, 15, .inl (fun _ => 0)))] (QI D [(h, .inr (0, [.ref a, .int 5])), (a, .inl (y 0, 15, .inl (fun _ => 0)))] (fun (r : Int32) (_ : Unit) => r = 217) (fun _ => [(h, .inr (0, [.ref a, .int 5])), (a, .inl (y 0, 15, .inl (fun _ => 0)))])) := by
  refine CT.of (by decide) (nb rfl) ?_
  intro p e s m args below meth c C hr
  refine j_lv (lv' := [(0, .ref h), (1, .int 5)]) rfl ?_
  refine j_bipush (pc := 0) C (v := 67) d_Bytes_check_0 (by decide) ?_
  refine j_istore_n (pc := 2) C (lv' := [(2, .int 67), (0, .ref h), (1, .int 5)]) d_Bytes_check_2 rfl (by decide) rfl ?_
  refine j_iconst (pc := 3) C (v := 0) d_Bytes_check_3 (by decide) ?_
  refine j_istore_n (pc := 4) C (lv' := [(3, .int 0), (2, .int 67), (0, .ref h), (1, .int 5)]) d_Bytes_check_4 rfl (by decide) rfl ?_
  refine j_iload_n (pc := 5) C d_Bytes_check_5 rfl 0 rfl ?_
  refine j_iload_n (pc := 6) C d_Bytes_check_6 rfl 3 rfl ?_
  refine j_icmp_geF (pc := 7) C (tgt := 40) d_Bytes_check_7 (by decide) (by decide) ?_
  refine j_iload_n (pc := 10) C d_Bytes_check_10 rfl 0 rfl ?_
  refine j_aload_n (pc := 11) C d_Bytes_check_11 rfl 2 rfl ?_
  refine j_get (pc := 12) C gf_Bytes_15 0 rfl rfl d_Bytes_check_12 ?_
  refine j_alen (pc := 15) C 1 0 rfl rfl (v := 15) rfl d_Bytes_check_15 ?_
  refine j_icmp_geF (pc := 16) C (tgt := 40) d_Bytes_check_16 (by decide) (by decide) ?_
  refine j_iconst (pc := 19) C (v := 3) d_Bytes_check_19 (by decide) ?_
  refine j_iload_n (pc := 20) C d_Bytes_check_20 rfl 1 rfl ?_
  refine j_imul (pc := 21) C (v := 201) d_Bytes_check_21 (by decide) ?_
  refine j_aload_n (pc := 22) C d_Bytes_check_22 rfl 2 rfl ?_
  refine j_get (pc := 23) C gf_Bytes_15 0 rfl rfl d_Bytes_check_23 ?_
  refine j_iload_n (pc := 26) C d_Bytes_check_26 rfl 0 rfl ?_
  refine j_iald (pc := 27) C 1 rfl (v := 0) (vin (by decide)) rfl d_Bytes_check_27 ?_
  refine j_iadd (pc := 28) C (v := 201) d_Bytes_check_28 (by decide) ?_
  refine j_sipush (pc := 29) C (v := 251) d_Bytes_check_29 (by decide) ?_
  refine j_irem (pc := 32) C (v := 201) d_Bytes_check_32 (by decide) (by decide) ?_
  refine j_istore_n (pc := 33) C (lv' := [(2, .int 201), (3, .int 0), (0, .ref h), (1, .int 5)]) d_Bytes_check_33 rfl (by decide) rfl ?_
  refine j_iinc (pc := 34) C (v := 1) (lv' := [(3, .int 1), (2, .int 201), (0, .ref h), (1, .int 5)]) d_Bytes_check_34 1 rfl (by decide) (by decide) rfl ?_
  refine j_goto (pc := 37) C (tgt := 5) d_Bytes_check_37 (by decide) ?_
  refine j_iload_n (pc := 5) C d_Bytes_check_5 rfl 0 rfl ?_
  refine j_iload_n (pc := 6) C d_Bytes_check_6 rfl 3 rfl ?_
  refine j_icmp_geF (pc := 7) C (tgt := 40) d_Bytes_check_7 (by decide) (by decide) ?_
  refine j_iload_n (pc := 10) C d_Bytes_check_10 rfl 0 rfl ?_
  refine j_aload_n (pc := 11) C d_Bytes_check_11 rfl 2 rfl ?_
  refine j_get (pc := 12) C gf_Bytes_15 0 rfl rfl d_Bytes_check_12 ?_
  refine j_alen (pc := 15) C 1 0 rfl rfl (v := 15) rfl d_Bytes_check_15 ?_
  refine j_icmp_geF (pc := 16) C (tgt := 40) d_Bytes_check_16 (by decide) (by decide) ?_
  refine j_iconst (pc := 19) C (v := 3) d_Bytes_check_19 (by decide) ?_
  refine j_iload_n (pc := 20) C d_Bytes_check_20 rfl 1 rfl ?_
  refine j_imul (pc := 21) C (v := 603) d_Bytes_check_21 (by decide) ?_
  refine j_aload_n (pc := 22) C d_Bytes_check_22 rfl 2 rfl ?_
  refine j_get (pc := 23) C gf_Bytes_15 0 rfl rfl d_Bytes_check_23 ?_
  refine j_iload_n (pc := 26) C d_Bytes_check_26 rfl 0 rfl ?_
  refine j_iald (pc := 27) C 1 rfl (v := 0) (vin (by decide)) rfl d_Bytes_check_27 ?_
  refine j_iadd (pc := 28) C (v := 603) d_Bytes_check_28 (by decide) ?_
  refine j_sipush (pc := 29) C (v := 251) d_Bytes_check_29 (by decide) ?_
  refine j_irem (pc := 32) C (v := 101) d_Bytes_check_32 (by decide) (by decide) ?_
  refine j_istore_n (pc := 33) C (lv' := [(2, .int 101), (3, .int 1), (0, .ref h), (1, .int 5)]) d_Bytes_check_33 rfl (by decide) rfl ?_
  refine j_iinc (pc := 34) C (v := 2) (lv' := [(3, .int 2), (2, .int 101), (0, .ref h), (1, .int 5)]) d_Bytes_check_34 1 rfl (by decide) (by decide) rfl ?_
  refine j_goto (pc := 37) C (tgt := 5) d_Bytes_check_37 (by decide) ?_
  refine j_iload_n (pc := 5) C d_Bytes_check_5 rfl 0 rfl ?_
  refine j_iload_n (pc := 6) C d_Bytes_check_6 rfl 3 rfl ?_
  refine j_icmp_geF (pc := 7) C (tgt := 40) d_Bytes_check_7 (by decide) (by decide) ?_
  refine j_iload_n (pc := 10) C d_Bytes_check_10 rfl 0 rfl ?_
  refine j_aload_n (pc := 11) C d_Bytes_check_11 rfl 2 rfl ?_
  refine j_get (pc := 12) C gf_Bytes_15 0 rfl rfl d_Bytes_check_12 ?_
  refine j_alen (pc := 15) C 1 0 rfl rfl (v := 15) rfl d_Bytes_check_15 ?_
  refine j_icmp_geF (pc := 16) C (tgt := 40) d_Bytes_check_16 (by decide) (by decide) ?_
  refine j_iconst (pc := 19) C (v := 3) d_Bytes_check_19 (by decide) ?_
  refine j_iload_n (pc := 20) C d_Bytes_check_20 rfl 1 rfl ?_
  refine j_imul (pc := 21) C (v := 303) d_Bytes_check_21 (by decide) ?_
  refine j_aload_n (pc := 22) C d_Bytes_check_22 rfl 2 rfl ?_
  refine j_get (pc := 23) C gf_Bytes_15 0 rfl rfl d_Bytes_check_23 ?_
  refine j_iload_n (pc := 26) C d_Bytes_check_26 rfl 0 rfl ?_
  refine j_iald (pc := 27) C 1 rfl (v := 0) (vin (by decide)) rfl d_Bytes_check_27 ?_
  refine j_iadd (pc := 28) C (v := 303) d_Bytes_check_28 (by decide) ?_
  refine j_sipush (pc := 29) C (v := 251) d_Bytes_check_29 (by decide) ?_
  refine j_irem (pc := 32) C (v := 52) d_Bytes_check_32 (by decide) (by decide) ?_
  refine j_istore_n (pc := 33) C (lv' := [(2, .int 52), (3, .int 2), (0, .ref h), (1, .int 5)]) d_Bytes_check_33 rfl (by decide) rfl ?_
  refine j_iinc (pc := 34) C (v := 3) (lv' := [(3, .int 3), (2, .int 52), (0, .ref h), (1, .int 5)]) d_Bytes_check_34 1 rfl (by decide) (by decide) rfl ?_
  refine j_goto (pc := 37) C (tgt := 5) d_Bytes_check_37 (by decide) ?_
  refine j_iload_n (pc := 5) C d_Bytes_check_5 rfl 0 rfl ?_
  refine j_iload_n (pc := 6) C d_Bytes_check_6 rfl 3 rfl ?_
  refine j_icmp_geF (pc := 7) C (tgt := 40) d_Bytes_check_7 (by decide) (by decide) ?_
  refine j_iload_n (pc := 10) C d_Bytes_check_10 rfl 0 rfl ?_
  refine j_aload_n (pc := 11) C d_Bytes_check_11 rfl 2 rfl ?_
  refine j_get (pc := 12) C gf_Bytes_15 0 rfl rfl d_Bytes_check_12 ?_
  refine j_alen (pc := 15) C 1 0 rfl rfl (v := 15) rfl d_Bytes_check_15 ?_
  refine j_icmp_geF (pc := 16) C (tgt := 40) d_Bytes_check_16 (by decide) (by decide) ?_
  refine j_iconst (pc := 19) C (v := 3) d_Bytes_check_19 (by decide) ?_
  refine j_iload_n (pc := 20) C d_Bytes_check_20 rfl 1 rfl ?_
  refine j_imul (pc := 21) C (v := 156) d_Bytes_check_21 (by decide) ?_
  refine j_aload_n (pc := 22) C d_Bytes_check_22 rfl 2 rfl ?_
  refine j_get (pc := 23) C gf_Bytes_15 0 rfl rfl d_Bytes_check_23 ?_
  refine j_iload_n (pc := 26) C d_Bytes_check_26 rfl 0 rfl ?_
  refine j_iald (pc := 27) C 1 rfl (v := 0) (vin (by decide)) rfl d_Bytes_check_27 ?_
  refine j_iadd (pc := 28) C (v := 156) d_Bytes_check_28 (by decide) ?_
  refine j_sipush (pc := 29) C (v := 251) d_Bytes_check_29 (by decide) ?_
  refine j_irem (pc := 32) C (v := 156) d_Bytes_check_32 (by decide) (by decide) ?_
  refine j_istore_n (pc := 33) C (lv' := [(2, .int 156), (3, .int 3), (0, .ref h), (1, .int 5)]) d_Bytes_check_33 rfl (by decide) rfl ?_
  refine j_iinc (pc := 34) C (v := 4) (lv' := [(3, .int 4), (2, .int 156), (0, .ref h), (1, .int 5)]) d_Bytes_check_34 1 rfl (by decide) (by decide) rfl ?_
  refine j_goto (pc := 37) C (tgt := 5) d_Bytes_check_37 (by decide) ?_
  refine j_iload_n (pc := 5) C d_Bytes_check_5 rfl 0 rfl ?_
  refine j_iload_n (pc := 6) C d_Bytes_check_6 rfl 3 rfl ?_
  refine j_icmp_geF (pc := 7) C (tgt := 40) d_Bytes_check_7 (by decide) (by decide) ?_
  refine j_iload_n (pc := 10) C d_Bytes_check_10 rfl 0 rfl ?_
  refine j_aload_n (pc := 11) C d_Bytes_check_11 rfl 2 rfl ?_
  refine j_get (pc := 12) C gf_Bytes_15 0 rfl rfl d_Bytes_check_12 ?_
  refine j_alen (pc := 15) C 1 0 rfl rfl (v := 15) rfl d_Bytes_check_15 ?_
  refine j_icmp_geF (pc := 16) C (tgt := 40) d_Bytes_check_16 (by decide) (by decide) ?_
  refine j_iconst (pc := 19) C (v := 3) d_Bytes_check_19 (by decide) ?_
  refine j_iload_n (pc := 20) C d_Bytes_check_20 rfl 1 rfl ?_
  refine j_imul (pc := 21) C (v := 468) d_Bytes_check_21 (by decide) ?_
  refine j_aload_n (pc := 22) C d_Bytes_check_22 rfl 2 rfl ?_
  refine j_get (pc := 23) C gf_Bytes_15 0 rfl rfl d_Bytes_check_23 ?_
  refine j_iload_n (pc := 26) C d_Bytes_check_26 rfl 0 rfl ?_
  refine j_iald (pc := 27) C 1 rfl (v := 0) (vin (by decide)) rfl d_Bytes_check_27 ?_
  refine j_iadd (pc := 28) C (v := 468) d_Bytes_check_28 (by decide) ?_
  refine j_sipush (pc := 29) C (v := 251) d_Bytes_check_29 (by decide) ?_
  refine j_irem (pc := 32) C (v := 217) d_Bytes_check_32 (by decide) (by decide) ?_
  refine j_istore_n (pc := 33) C (lv' := [(2, .int 217), (3, .int 4), (0, .ref h), (1, .int 5)]) d_Bytes_check_33 rfl (by decide) rfl ?_
  refine j_iinc (pc := 34) C (v := 5) (lv' := [(3, .int 5), (2, .int 217), (0, .ref h), (1, .int 5)]) d_Bytes_check_34 1 rfl (by decide) (by decide) rfl ?_
  refine j_goto (pc := 37) C (tgt := 5) d_Bytes_check_37 (by decide) ?_
  refine j_iload_n (pc := 5) C d_Bytes_check_5 rfl 0 rfl ?_
  refine j_iload_n (pc := 6) C d_Bytes_check_6 rfl 3 rfl ?_
  refine j_icmp_geT (pc := 7) C (tgt := 40) d_Bytes_check_7 (by decide) (by decide) ?_
  refine j_iload_n (pc := 40) C d_Bytes_check_40 rfl 1 rfl ?_
  exact j_iret (pc := 41) C hr rfl () rfl [0, 1] rfl (by decide) (by decide) (by decide) d_Bytes_check_41
