theorem d_Bytes_at_12 : decode prog_2_method_5_code 12 = .ok (.iload_n 1, 1) := by decide +kernel
theorem d_Bytes_at_13 : decode prog_2_method_5_code 13 = .ok (.aload_n 0, 1) := by decide +kernel
theorem d_Bytes_at_14 : decode prog_2_method_5_code 14 = .ok (.getfield 15, 3) := by decide +kernel
theorem d_Bytes_at_17 : decode prog_2_method_5_code 17 = .ok (.arraylength, 1) := by decide +kernel
theorem d_Bytes_at_18 : decode prog_2_method_5_code 18 = .ok (.if_icmp .ge 12, 3) := by decide +kernel
theorem d_Bytes_at_21 : decode prog_2_method_5_code 21 = .ok (.aload_n 0, 1) := by decide +kernel
theorem d_Bytes_at_22 : decode prog_2_method_5_code 22 = .ok (.getfield 15, 3) := by decide +kernel
theorem d_Bytes_at_25 : decode prog_2_method_5_code 25 = .ok (.iload_n 1, 1) := by decide +kernel
theorem d_Bytes_at_26 : decode prog_2_method_5_code 26 = .ok (.iaload, 1) := by decide +kernel
theorem d_Bytes_at_27 : decode prog_2_method_5_code 27 = .ok (.goto 4, 3) := by decide +kernel
set_option maxHeartbeats 4000000 in
set_option maxRecDepth 100000 in
theorem c_at_1600 (l : Launch) (D : va_G) (y : Nat → ClassId) (h : Nat) (a : Nat) (k : Int32) (f : Nat → Int32) (v : Int32)  : CT l D y ⟨"NineBoards$Bytes", "at", "(I)I"⟩ prog_2_method_5_code 2 (some .int) ({ frames := 0, cells := 0, slots := 0, locals := 0 } : Room) [.ref h, .int v] [(h, .inr (0, [.ref a, .int k])), (a, .inl (y 0, 1600, .inl f))] (QI D [(h, .inr (0, [.ref a, .int k])), (a, .inl (y 0, 1600, .inl f))] (fun (r : Int32) (u : Unit) => True) (fun _ => [(h, .inr (0, [.ref a, .int k])), (a, .inl (y 0, 1600, .inl f))])) := by
  refine CT.of (by decide) (nb rfl) ?_
  intro p e s m args below meth c C hr
  refine j_lv (lv' := [(0, .ref h), (1, .int v)]) rfl ?_
  refine j_iload_n (pc := 0) C d_Bytes_at_0 rfl 1 rfl ?_
  refine j_if_lt (pc := 1) C (tgt := 30) d_Bytes_at_1 (by decide) (fun c1 => ?_) (fun c1 => ?_)
  · refine j_iconst (pc := 30) C (v := (-1)) d_Bytes_at_30 (by decide) ?_
    exact j_iret (pc := 31) C hr rfl () trivial [0, 1] rfl (by decide) (by decide) (by decide) d_Bytes_at_31
  · refine j_iload_n (pc := 4) C d_Bytes_at_4 rfl 1 rfl ?_
    refine j_aload_n (pc := 5) C d_Bytes_at_5 rfl 0 rfl ?_
    refine j_get (pc := 6) C gf_Bytes_21 0 rfl rfl d_Bytes_at_6 ?_
    refine j_icmp_ge (pc := 9) C (tgt := 30) d_Bytes_at_9 (by decide) (fun c2 => ?_) (fun c2 => ?_)
    · refine j_iconst (pc := 30) C (v := (-1)) d_Bytes_at_30 (by decide) ?_
      exact j_iret (pc := 31) C hr rfl () trivial [0, 1] rfl (by decide) (by decide) (by decide) d_Bytes_at_31
    · refine j_iload_n (pc := 12) C d_Bytes_at_12 rfl 1 rfl ?_
      refine j_aload_n (pc := 13) C d_Bytes_at_13 rfl 0 rfl ?_
      refine j_get (pc := 14) C gf_Bytes_15 0 rfl rfl d_Bytes_at_14 ?_
      refine j_alen (pc := 17) C 1 0 rfl rfl (v := 1600) rfl d_Bytes_at_17 ?_
      refine j_icmp_ge (pc := 18) C (tgt := 30) d_Bytes_at_18 (by decide) (fun c3 => ?_) (fun c3 => ?_)
      · refine j_iconst (pc := 30) C (v := (-1)) d_Bytes_at_30 (by decide) ?_
        exact j_iret (pc := 31) C hr rfl () trivial [0, 1] rfl (by decide) (by decide) (by decide) d_Bytes_at_31
      · refine j_aload_n (pc := 21) C d_Bytes_at_21 rfl 0 rfl ?_
        refine j_get (pc := 22) C gf_Bytes_15 0 rfl rfl d_Bytes_at_22 ?_
        refine j_iload_n (pc := 25) C d_Bytes_at_25 rfl 1 rfl ?_
        refine j_iald (pc := 26) C 1 rfl (v := f v.toNatClampNeg) (pk_in2 c1 c3) rfl d_Bytes_at_26 ?_
        refine j_goto (pc := 27) C (tgt := 31) d_Bytes_at_27 (by decide) ?_
        exact j_iret (pc := 31) C hr rfl () trivial [0, 1] rfl (by decide) (by decide) (by decide) d_Bytes_at_31
set_option maxHeartbeats 4000000 in
set_option maxRecDepth 100000 in
theorem c_at_15 (l : Launch) (D : va_G) (y : Nat → ClassId) (h : Nat) (a : Nat) (k : Int32) (f : Nat → Int32) (v : Int32)  : CT l D y ⟨"NineBoards$Bytes", "at", "(I)I"⟩ prog_2_method_5_code 2 (some .int) ({ frames := 0, cells := 0, slots := 0, locals := 0 } : Room) [.ref h, .int v] [(h, .inr (0, [.ref a, .int k])), (a, .inl (y 0, 15, .inl f))] (QI D [(h, .inr (0, [.ref a, .int k])), (a, .inl (y 0, 15, .inl f))] (fun (r : Int32) (u : Unit) => True) (fun _ => [(h, .inr (0, [.ref a, .int k])), (a, .inl (y 0, 15, .inl f))])) := by
  refine CT.of (by decide) (nb rfl) ?_
  intro p e s m args below meth c C hr
  refine j_lv (lv' := [(0, .ref h), (1, .int v)]) rfl ?_
  refine j_iload_n (pc := 0) C d_Bytes_at_0 rfl 1 rfl ?_
  refine j_if_lt (pc := 1) C (tgt := 30) d_Bytes_at_1 (by decide) (fun c1 => ?_) (fun c1 => ?_)
  · refine j_iconst (pc := 30) C (v := (-1)) d_Bytes_at_30 (by decide) ?_
    exact j_iret (pc := 31) C hr rfl () trivial [0, 1] rfl (by decide) (by decide) (by decide) d_Bytes_at_31
  · refine j_iload_n (pc := 4) C d_Bytes_at_4 rfl 1 rfl ?_
    refine j_aload_n (pc := 5) C d_Bytes_at_5 rfl 0 rfl ?_
    refine j_get (pc := 6) C gf_Bytes_21 0 rfl rfl d_Bytes_at_6 ?_
    refine j_icmp_ge (pc := 9) C (tgt := 30) d_Bytes_at_9 (by decide) (fun c2 => ?_) (fun c2 => ?_)
    · refine j_iconst (pc := 30) C (v := (-1)) d_Bytes_at_30 (by decide) ?_
      exact j_iret (pc := 31) C hr rfl () trivial [0, 1] rfl (by decide) (by decide) (by decide) d_Bytes_at_31
    · refine j_iload_n (pc := 12) C d_Bytes_at_12 rfl 1 rfl ?_
      refine j_aload_n (pc := 13) C d_Bytes_at_13 rfl 0 rfl ?_
      refine j_get (pc := 14) C gf_Bytes_15 0 rfl rfl d_Bytes_at_14 ?_
      refine j_alen (pc := 17) C 1 0 rfl rfl (v := 15) rfl d_Bytes_at_17 ?_
      refine j_icmp_ge (pc := 18) C (tgt := 30) d_Bytes_at_18 (by decide) (fun c3 => ?_) (fun c3 => ?_)
      · refine j_iconst (pc := 30) C (v := (-1)) d_Bytes_at_30 (by decide) ?_
        exact j_iret (pc := 31) C hr rfl () trivial [0, 1] rfl (by decide) (by decide) (by decide) d_Bytes_at_31
      · refine j_aload_n (pc := 21) C d_Bytes_at_21 rfl 0 rfl ?_
        refine j_get (pc := 22) C gf_Bytes_15 0 rfl rfl d_Bytes_at_22 ?_
        refine j_iload_n (pc := 25) C d_Bytes_at_25 rfl 1 rfl ?_
        refine j_iald (pc := 26) C 1 rfl (v := f v.toNatClampNeg) (pk_in2 c1 c3) rfl d_Bytes_at_26 ?_
        refine j_goto (pc := 27) C (tgt := 31) d_Bytes_at_27 (by decide) ?_
        exact j_iret (pc := 31) C hr rfl () trivial [0, 1] rfl (by decide) (by decide) (by decide) d_Bytes_at_31
theorem d_Bytes_twoAt_0 : decode prog_2_method_6_code 0 = .ok (.aload_n 0, 1) := by decide +kernel
theorem d_Bytes_twoAt_1 : decode prog_2_method_6_code 1 = .ok (.iload_n 1, 1) := by decide +kernel
theorem d_Bytes_twoAt_2 : decode prog_2_method_6_code 2 = .ok (.invokevirtual 32, 3) := by decide +kernel
theorem kw_Bytes_32 : KW "NineBoards$Bytes" 32 ⟨"NineBoards$Bytes", "at", "(I)I"⟩ prog_2_method_5_code 2 (some .int) 1 := ⟨(mt_5 (List.mem_of_getElem? (i := 27) rfl) rfl), (mt_1 (List.mem_of_getElem? (i := 2) rfl) rfl), (mt_5 (List.mem_of_getElem? (i := 30) rfl) rfl), by decide +kernel⟩
theorem kv_Bytes_at : Cond.instanceMethod ⟨"NineBoards$Bytes", "at", "(I)I"⟩ ∈ TB ∧ Cond.selects "NineBoards$Bytes" ⟨"NineBoards$Bytes", "at", "(I)I"⟩ ⟨"NineBoards$Bytes", "at", "(I)I"⟩ ∈ TB := ⟨(mt_5 (List.mem_of_getElem? (i := 28) rfl) rfl), (mt_5 (List.mem_of_getElem? (i := 29) rfl) rfl)⟩
theorem d_Bytes_twoAt_5 : decode prog_2_method_6_code 5 = .ok (.sipush 256, 3) := by decide +kernel
theorem d_Bytes_twoAt_8 : decode prog_2_method_6_code 8 = .ok (.imul, 1) := by decide +kernel
theorem d_Bytes_twoAt_9 : decode prog_2_method_6_code 9 = .ok (.aload_n 0, 1) := by decide +kernel
theorem d_Bytes_twoAt_10 : decode prog_2_method_6_code 10 = .ok (.iload_n 1, 1) := by decide +kernel
theorem d_Bytes_twoAt_11 : decode prog_2_method_6_code 11 = .ok (.iconst 1, 1) := by decide +kernel
theorem d_Bytes_twoAt_12 : decode prog_2_method_6_code 12 = .ok (.iadd, 1) := by decide +kernel
theorem d_Bytes_twoAt_13 : decode prog_2_method_6_code 13 = .ok (.invokevirtual 32, 3) := by decide +kernel
theorem d_Bytes_twoAt_16 : decode prog_2_method_6_code 16 = .ok (.iadd, 1) := by decide +kernel
theorem d_Bytes_twoAt_17 : decode prog_2_method_6_code 17 = .ok (.ireturn, 1) := by decide +kernel
set_option maxHeartbeats 4000000 in
set_option maxRecDepth 100000 in
theorem c_twoAt (l : Launch) (D : va_G) (y : Nat → ClassId) (h : Nat) (a : Nat) (k : Int32) (f : Nat → Int32) (v : Int32)  : CT l D y ⟨"NineBoards$Bytes", "twoAt", "(I)I"⟩ prog_2_method_6_code 2 (some .int) ({ frames := 1, cells := 0, slots := 0, locals := 21 } : Room) [.ref h, .int v] [(h, .inr (0, [.ref a, .int k])), (a, .inl (y 0, 1600, .inl f))] (QI D [(h, .inr (0, [.ref a, .int k])), (a, .inl (y 0, 1600, .inl f))] (fun (r : Int32) (u : Unit) => True) (fun _ => [(h, .inr (0, [.ref a, .int k])), (a, .inl (y 0, 1600, .inl f))])) := by
  refine CT.of (by decide) (nb rfl) ?_
  intro p e s m args below meth c C hr
  refine j_lv (lv' := [(0, .ref h), (1, .int v)]) rfl ?_
  refine j_aload_n (pc := 0) C d_Bytes_twoAt_0 rfl 0 rfl ?_
  refine j_iload_n (pc := 1) C d_Bytes_twoAt_1 rfl 1 rfl ?_
  refine j_callVi (pc := 2) C (c_at_1600 l D y h a k f v) kw_Bytes_32 kv_Bytes_at 0 0 rfl rfl ⟨by decide, by decide⟩ ⟨by decide, by decide⟩ (wr := []) [0, 1] [] rfl rfl (by decide) (by decide) (by decide) (As := [.int v]) (rest := []) rfl (nb rfl) rfl d_Bytes_twoAt_2 (fun r1 _ hr1 => ?_)
  refine j_ws (ws' := [(h, .inr (0, [.ref a, .int k])), (a, .inl (y 0, 1600, .inl f))]) rfl ?_
  refine j_sipush (pc := 5) C (v := 256) d_Bytes_twoAt_5 (by decide) ?_
  refine j_imul (pc := 8) C (v := r1 * 256) d_Bytes_twoAt_8 rfl ?_
  refine j_aload_n (pc := 9) C d_Bytes_twoAt_9 rfl 0 rfl ?_
  refine j_iload_n (pc := 10) C d_Bytes_twoAt_10 rfl 1 rfl ?_
  refine j_iconst (pc := 11) C (v := 1) d_Bytes_twoAt_11 (by decide) ?_
  refine j_iadd (pc := 12) C (v := v + 1) d_Bytes_twoAt_12 rfl ?_
  refine j_callVi (pc := 13) C (c_at_1600 l D y h a k f (v + 1)) kw_Bytes_32 kv_Bytes_at 0 0 rfl rfl ⟨by decide, by decide⟩ ⟨by decide, by decide⟩ (wr := []) [0, 1] [] rfl rfl (by decide) (by decide) (by decide) (As := [.int (v + 1)]) (rest := [.int (r1 * 256)]) rfl (nb rfl) rfl d_Bytes_twoAt_13 (fun r2 _ hr2 => ?_)
  refine j_ws (ws' := [(h, .inr (0, [.ref a, .int k])), (a, .inl (y 0, 1600, .inl f))]) rfl ?_
  refine j_iadd (pc := 16) C (v := (r1 * 256) + r2) d_Bytes_twoAt_16 rfl ?_
  exact j_iret (pc := 17) C hr rfl () trivial [0, 1] rfl (by decide) (by decide) (by decide) d_Bytes_twoAt_17

set_option maxHeartbeats 4000000 in
set_option maxRecDepth 100000 in
theorem lp_check_15 {p : Program} {l : Launch} {e : Env} {s : State} {m : MethodId} {args : Array Value} {below : List Frame} {meth : Method} {c : Code} {Q : State → Prop} {D : va_G} {y : Nat → ClassId} {A : Nat → Prop} (C : Cx p s m args meth c D y A prog_2_method_7_code 4 "NineBoards$Bytes" "check") (h : Nat) (a : Nat) (k : Int32) (f : Nat → Int32) (v : Int32) (kx : ∀ (cv : Int32) (i : Nat), J p l e ({ frames := 0, cells := 0, slots := 0, locals := 0 } : Room) s m args below meth c Q D A 4 [(h, .inr (0, [.ref a, .int k])), (a, .inl (y 0, 15, .inl f))] [(0, .ref h), (1, .int v), (2, .int cv), (3, .int (nI i))] 0 0 40 []) : ∀ (n : Nat) (i : Nat) (cv : Int32), (i + n = 15) → J p l e ({ frames := 0, cells := 0, slots := 0, locals := 0 } : Room) s m args below meth c Q D A 4 [(h, .inr (0, [.ref a, .int k])), (a, .inl (y 0, 15, .inl f))] [(0, .ref h), (1, .int v), (2, .int cv), (3, .int (nI i))] 0 0 5 [] := by
  intro n
  induction n with
  | zero =>
    intro i cv hi
    obtain rfl : i = 15 := by omega
    refine j_iload_n (pc := 5) C d_Bytes_check_5 rfl 3 rfl ?_
    refine j_iload_n (pc := 6) C d_Bytes_check_6 rfl 1 rfl ?_
    refine j_icmp_ge (pc := 7) C (tgt := 40) d_Bytes_check_7 (by decide) (fun c1 => ?_) (fun c1 => ?_)
    · exact kx _ _
    · refine j_iload_n (pc := 10) C d_Bytes_check_10 rfl 3 rfl ?_
      refine j_aload_n (pc := 11) C d_Bytes_check_11 rfl 0 rfl ?_
      refine j_get (pc := 12) C gf_Bytes_15 0 rfl rfl d_Bytes_check_12 ?_
      refine j_alen (pc := 15) C 1 0 rfl rfl (v := 15) rfl d_Bytes_check_15 ?_
      refine j_icmp_geT (pc := 16) C (tgt := 40) d_Bytes_check_16 (by decide) (by decide) ?_
      exact kx _ _
  | succ n ih =>
    intro i cv hi
    refine j_iload_n (pc := 5) C d_Bytes_check_5 rfl 3 rfl ?_
    refine j_iload_n (pc := 6) C d_Bytes_check_6 rfl 1 rfl ?_
    refine j_icmp_ge (pc := 7) C (tgt := 40) d_Bytes_check_7 (by decide) (fun c1 => ?_) (fun c1 => ?_)
    · exact kx _ _
    · refine j_iload_n (pc := 10) C d_Bytes_check_10 rfl 3 rfl ?_
      refine j_aload_n (pc := 11) C d_Bytes_check_11 rfl 0 rfl ?_
      refine j_get (pc := 12) C gf_Bytes_15 0 rfl rfl d_Bytes_check_12 ?_
      refine j_alen (pc := 15) C 1 0 rfl rfl (v := 15) rfl d_Bytes_check_15 ?_
      refine j_icmp_geF (pc := 16) C (tgt := 40) d_Bytes_check_16 (by decide) (show ¬ nI 15 ≤ nI i from nI_ge (by omega) (by decide)) ?_
      refine j_iconst (pc := 19) C (v := 3) d_Bytes_check_19 (by decide) ?_
      refine j_iload_n (pc := 20) C d_Bytes_check_20 rfl 2 rfl ?_
      refine j_imul (pc := 21) C (v := 3 * cv) d_Bytes_check_21 rfl ?_
      refine j_aload_n (pc := 22) C d_Bytes_check_22 rfl 0 rfl ?_
      refine j_get (pc := 23) C gf_Bytes_15 0 rfl rfl d_Bytes_check_23 ?_
      refine j_iload_n (pc := 26) C d_Bytes_check_26 rfl 3 rfl ?_
      refine j_iald (pc := 27) C 1 rfl (v := f (nI i).toNatClampNeg) (vp_in_nI (by omega) (by decide)) rfl d_Bytes_check_27 ?_
      refine j_iadd (pc := 28) C (v := (3 * cv) + (f (nI i).toNatClampNeg)) d_Bytes_check_28 rfl ?_
      refine j_sipush (pc := 29) C (v := 251) d_Bytes_check_29 (by decide) ?_
      refine j_irem (pc := 32) C (v := ((3 * cv) + (f (nI i).toNatClampNeg)) - ((3 * cv) + (f (nI i).toNatClampNeg)) / 251 * 251) d_Bytes_check_32 (by decide) rfl ?_
      refine j_istore_n (pc := 33) C (lv' := [(2, .int (((3 * cv) + (f (nI i).toNatClampNeg)) - ((3 * cv) + (f (nI i).toNatClampNeg)) / 251 * 251)), (0, .ref h), (1, .int v), (3, .int (nI i))]) d_Bytes_check_33 rfl (by decide) rfl ?_
      refine j_iinc (pc := 34) C (v := nI (i + 1)) (lv' := [(3, .int (nI (i + 1))), (2, .int (((3 * cv) + (f (nI i).toNatClampNeg)) - ((3 * cv) + (f (nI i).toNatClampNeg)) / 251 * 251)), (0, .ref h), (1, .int v)]) d_Bytes_check_34 3 rfl (nI_1 _) (by decide) rfl ?_
      refine j_goto (pc := 37) C (tgt := 5) d_Bytes_check_37 (by decide) ?_
      refine j_locs (lv' := [(0, .ref h), (1, .int v), (2, .int (((3 * cv) + (f (nI i).toNatClampNeg)) - ((3 * cv) + (f (nI i).toNatClampNeg)) / 251 * 251)), (3, .int (nI (i + 1)))]) [2, 3, 1, 0] rfl ?_
      exact ih (i + 1) _ (by omega)
set_option maxHeartbeats 4000000 in
set_option maxRecDepth 100000 in
theorem c_check_15 (l : Launch) (D : va_G) (y : Nat → ClassId) (h : Nat) (a : Nat) (k : Int32) (f : Nat → Int32) (v : Int32)  : CT l D y ⟨"NineBoards$Bytes", "check", "(I)I"⟩ prog_2_method_7_code 4 (some .int) ({ frames := 0, cells := 0, slots := 0, locals := 0 } : Room) [.ref h, .int v] [(h, .inr (0, [.ref a, .int k])), (a, .inl (y 0, 15, .inl f))] (QI D [(h, .inr (0, [.ref a, .int k])), (a, .inl (y 0, 15, .inl f))] (fun (r : Int32) (u : Unit) => True) (fun _ => [(h, .inr (0, [.ref a, .int k])), (a, .inl (y 0, 15, .inl f))])) := by
  refine CT.of (by decide) (nb rfl) ?_
  intro p e s m args below meth c C hr
  refine j_lv (lv' := [(0, .ref h), (1, .int v)]) rfl ?_
  refine j_bipush (pc := 0) C (v := 67) d_Bytes_check_0 (by decide) ?_
  refine j_istore_n (pc := 2) C (lv' := [(2, .int 67), (0, .ref h), (1, .int v)]) d_Bytes_check_2 rfl (by decide) rfl ?_
  refine j_iconst (pc := 3) C (v := 0) d_Bytes_check_3 (by decide) ?_
  refine j_istore_n (pc := 4) C (lv' := [(3, .int 0), (2, .int 67), (0, .ref h), (1, .int v)]) d_Bytes_check_4 rfl (by decide) rfl ?_
  refine j_locs (lv' := [(0, .ref h), (1, .int v), (2, .int 67), (3, .int 0)]) [2, 3, 1, 0] rfl ?_
  refine j_lv (lv' := [(0, .ref h), (1, .int v), (2, .int 67), (3, .int (nI 0))]) rfl ?_
  refine lp_check_15 C h a k f v (fun cv i => ?_) 15 0 _ (by omega)
  refine j_iload_n (pc := 40) C d_Bytes_check_40 rfl 2 rfl ?_
  exact j_iret (pc := 41) C hr rfl () trivial [0, 1] rfl (by decide) (by decide) (by decide) d_Bytes_check_41
