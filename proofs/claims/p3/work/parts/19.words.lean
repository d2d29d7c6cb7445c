theorem d_Reader_readWord_0 : decode prog_8_method_25_code 0 = .ok (.aload_n 0, 1) := by decide +kernel
theorem d_Reader_readWord_1 : decode prog_8_method_25_code 1 = .ok (.iload_n 1, 1) := by decide +kernel
theorem d_Reader_readWord_2 : decode prog_8_method_25_code 2 = .ok (.invokevirtual 69, 3) := by decide +kernel
theorem kw_Reader_69 : KW "NineBoards$Reader" 69 ⟨"NineBoards$Reader", "isWord", "(I)Z"⟩ prog_8_method_23_code 2 (some .boolean) 1 := ⟨(mt_3 (List.mem_of_getElem? (i := 77) rfl) rfl), (mt_1 (List.mem_of_getElem? (i := 10) rfl) rfl), (mt_3 (List.mem_of_getElem? (i := 80) rfl) rfl), by decide +kernel⟩
theorem kv_Reader_isWord : Cond.instanceMethod ⟨"NineBoards$Reader", "isWord", "(I)Z"⟩ ∈ TB ∧ Cond.selects "NineBoards$Reader" ⟨"NineBoards$Reader", "isWord", "(I)Z"⟩ ⟨"NineBoards$Reader", "isWord", "(I)Z"⟩ ∈ TB := ⟨(mt_3 (List.mem_of_getElem? (i := 79) rfl) rfl), (ms_0 (List.mem_map.mpr ⟨(⟨"NineBoards$Reader", "isWord", "(I)Z"⟩, 12), List.mem_of_getElem? (i := 5) (by decide +kernel), rfl⟩) rfl)⟩
theorem d_Reader_readWord_5 : decode prog_8_method_25_code 5 = .ok (.ifCond .eq 10, 3) := by decide +kernel
theorem d_Reader_readWord_15 : decode prog_8_method_25_code 15 = .ok (.aload_n 0, 1) := by decide +kernel
theorem d_Reader_readWord_16 : decode prog_8_method_25_code 16 = .ok (.iconst 1, 1) := by decide +kernel
theorem d_Reader_readWord_17 : decode prog_8_method_25_code 17 = .ok (.aload_n 0, 1) := by decide +kernel
theorem d_Reader_readWord_18 : decode prog_8_method_25_code 18 = .ok (.getfield 62, 3) := by decide +kernel
theorem d_Reader_readWord_21 : decode prog_8_method_25_code 21 = .ok (.invokevirtual 65, 3) := by decide +kernel
theorem kw_Reader_65 : KW "NineBoards$Reader" 65 ⟨"NineBoards$Reader", "fail", "(II)V"⟩ prog_8_method_31_code 3 none 2 := ⟨(mt_3 (List.mem_of_getElem? (i := 81) rfl) rfl), (mt_1 (List.mem_of_getElem? (i := 10) rfl) rfl), (mt_3 (List.mem_of_getElem? (i := 84) rfl) rfl), by decide +kernel⟩
theorem kv_Reader_fail : Cond.instanceMethod ⟨"NineBoards$Reader", "fail", "(II)V"⟩ ∈ TB ∧ Cond.selects "NineBoards$Reader" ⟨"NineBoards$Reader", "fail", "(II)V"⟩ ⟨"NineBoards$Reader", "fail", "(II)V"⟩ ∈ TB := ⟨(mt_3 (List.mem_of_getElem? (i := 83) rfl) rfl), (ms_0 (List.mem_map.mpr ⟨(⟨"NineBoards$Reader", "fail", "(II)V"⟩, 12), List.mem_of_getElem? (i := 6) (by decide +kernel), rfl⟩) rfl)⟩
theorem d_Reader_readWord_24 : decode prog_8_method_25_code 24 = .ok (.return_, 1) := by decide +kernel
theorem d_Reader_readWord_8 : decode prog_8_method_25_code 8 = .ok (.aload_n 0, 1) := by decide +kernel
theorem d_Reader_readWord_9 : decode prog_8_method_25_code 9 = .ok (.invokevirtual 53, 3) := by decide +kernel
theorem kw_Reader_53 : KW "NineBoards$Reader" 53 ⟨"NineBoards$Reader", "advance", "()V"⟩ prog_8_method_32_code 4 none 0 := ⟨(mt_3 (List.mem_of_getElem? (i := 51) rfl) rfl), (mt_1 (List.mem_of_getElem? (i := 10) rfl) rfl), (mt_3 (List.mem_of_getElem? (i := 54) rfl) rfl), by decide +kernel⟩
theorem kv_Reader_advance : Cond.instanceMethod ⟨"NineBoards$Reader", "advance", "()V"⟩ ∈ TB ∧ Cond.selects "NineBoards$Reader" ⟨"NineBoards$Reader", "advance", "()V"⟩ ⟨"NineBoards$Reader", "advance", "()V"⟩ ∈ TB := ⟨(mt_3 (List.mem_of_getElem? (i := 53) rfl) rfl), (ms_0 (List.mem_map.mpr ⟨(⟨"NineBoards$Reader", "advance", "()V"⟩, 12), List.mem_of_getElem? (i := 0) (by decide +kernel), rfl⟩) rfl)⟩
theorem d_Reader_readWord_12 : decode prog_8_method_25_code 12 = .ok (.goto 12, 3) := by decide +kernel
set_option maxHeartbeats 4000000 in
set_option maxRecDepth 100000 in
theorem c_r_readWord (l : Launch) (D : va_G) (y : Nat → ClassId) (rd : Nat) (ow : Nat) (tp : Nat) (lk : Nat) (td : Nat) (fa : Int32) (pl : Int32) (so : Int32) (le : Int64) (wo : Int32) (nu : Int32) (si : Int32) (ra : Nat) (rs : Nat) (k : Nat) (tf : Nat → Int32) (ww : Nat → Int64) (v : Int32) (ha : ra ≤ k) (hs : rs ≤ ra) (hk : k ≤ 1600) : CT l D y ⟨"NineBoards$Reader", "readWord", "(I)V"⟩ prog_8_method_25_code 2 none ({ frames := 2, cells := 0, slots := 0, locals := 44 } : Room) [.ref rd, .int v] [(rd, .inr (5, [.int fa, .int pl, .ref ow, .ref tp, .ref lk, .int (nI ra), .int so, .int (nI rs), .long le, .int wo, .int nu, .int si])), (tp, .inr (0, [.ref td, .int (nI k)])), (td, .inl (y 0, 1600, .inl tf)), (ow, .inl (y 1, 33, .inr (.inl ww)))] (QV D [(rd, .inr (5, [.int fa, .int pl, .ref ow, .ref tp, .ref lk, .int (nI ra), .int so, .int (nI rs), .long le, .int wo, .int nu, .int si])), (tp, .inr (0, [.ref td, .int (nI k)])), (td, .inl (y 0, 1600, .inl tf)), (ow, .inl (y 1, 33, .inr (.inl ww)))] (fun (u : Int32 × Int32 × Nat × Nat × Int32 × Int64 × Int32 × Int32 × Int32) => u.2.2.1 ≤ k ∧ u.2.2.2.1 ≤ u.2.2.1 ∧ (u.1 = 0 → fa = 0)) (fun u => [(rd, .inr (5, [.int u.1, .int u.2.1, .ref ow, .ref tp, .ref lk, .int (nI u.2.2.1), .int u.2.2.2.2.1, .int (nI u.2.2.2.1), .long u.2.2.2.2.2.1, .int u.2.2.2.2.2.2.1, .int u.2.2.2.2.2.2.2.1, .int u.2.2.2.2.2.2.2.2])), (tp, .inr (0, [.ref td, .int (nI k)])), (td, .inl (y 0, 1600, .inl tf)), (ow, .inl (y 1, 33, .inr (.inl ww)))])) := by
  refine CT.of (by decide) (nb rfl) ?_
  intro p e s m args below meth c C hr
  refine j_lv (lv' := [(0, .ref rd), (1, .int v)]) rfl ?_
  refine j_aload_n (pc := 0) C d_Reader_readWord_0 rfl 0 rfl ?_
  refine j_iload_n (pc := 1) C d_Reader_readWord_1 rfl 1 rfl ?_
  refine j_callVi (pc := 2) C (c_r_isWord l D y rd ow tp lk fa pl so le wo nu si ra rs v) kw_Reader_69 kv_Reader_isWord 0 5 rfl rfl ⟨by decide, by decide⟩ ⟨by decide, by decide⟩ (wr := [(tp, .inr (0, [.ref td, .int (nI k)])), (td, .inl (y 0, 1600, .inl tf)), (ow, .inl (y 1, 33, .inr (.inl ww)))]) [0] [1, 2, 3] rfl rfl (by decide) (by decide) (by decide) (As := [.int v]) (rest := []) rfl (nb rfl) rfl d_Reader_readWord_2 (fun r1 _ hr1 => ?_)
  refine j_ws (ws' := [(tp, .inr (0, [.ref td, .int (nI k)])), (td, .inl (y 0, 1600, .inl tf)), (ow, .inl (y 1, 33, .inr (.inl ww))), (rd, .inr (5, [.int fa, .int pl, .ref ow, .ref tp, .ref lk, .int (nI ra), .int so, .int (nI rs), .long le, .int wo, .int nu, .int si]))]) rfl ?_
  refine j_if_eq (pc := 5) C (tgt := 15) d_Reader_readWord_5 (by decide) (fun c2 => ?_) (fun c2 => ?_)
  · refine j_aload_n (pc := 15) C d_Reader_readWord_15 rfl 0 rfl ?_
    refine j_iconst (pc := 16) C (v := 1) d_Reader_readWord_16 (by decide) ?_
    refine j_aload_n (pc := 17) C d_Reader_readWord_17 rfl 0 rfl ?_
    refine j_get (pc := 18) C gf_Reader_62 3 rfl rfl d_Reader_readWord_18 ?_
    refine j_callVv (pc := 21) C (c_r_fail_1 l D y rd ow tp lk td fa pl so le wo nu si ra rs k (nI rs)) kw_Reader_65 kv_Reader_fail 0 5 rfl rfl ⟨by decide, by decide⟩ ⟨by decide, by decide⟩ (wr := [(td, .inl (y 0, 1600, .inl tf)), (ow, .inl (y 1, 33, .inr (.inl ww)))]) [3, 0] [1, 2] rfl rfl (by decide) (by decide) (by decide) (As := [.int 1, .int (nI rs)]) (rest := []) rfl (nb rfl) rfl d_Reader_readWord_21 (fun u3 hu4 => ?_)
    refine j_ws (ws' := [(td, .inl (y 0, 1600, .inl tf)), (ow, .inl (y 1, 33, .inr (.inl ww))), (rd, .inr (5, [.int u3.1, .int u3.2, .ref ow, .ref tp, .ref lk, .int (nI k), .int 0, .int (nI k), .long le, .int wo, .int nu, .int si])), (tp, .inr (0, [.ref td, .int (nI k)]))]) rfl ?_
    exact j_vret (pc := 24) C hr (u3.1, u3.2, k, k, 0, le, wo, nu, si) ⟨show k ≤ k by omega, show k ≤ k by omega, (fun e => absurd e hu4)⟩ [2, 3, 0, 1] rfl (by decide) (by decide) (by decide) d_Reader_readWord_24
  · refine j_aload_n (pc := 8) C d_Reader_readWord_8 rfl 0 rfl ?_
    refine j_callVv (pc := 9) C (c_r_advance l D y rd ow tp lk td fa pl so le wo nu si ra rs k tf ww (by omega) (by omega) (by omega)) kw_Reader_53 kv_Reader_advance 0 5 rfl rfl ⟨by decide, by decide⟩ ⟨by decide, by decide⟩ (wr := []) [3, 0, 1, 2] [] rfl rfl (by decide) (by decide) (by decide) (As := []) (rest := []) rfl (nb rfl) rfl d_Reader_readWord_9 (fun u5 hu6 => ?_)
    obtain ⟨hu6a, hu6b⟩ := hu6
    refine j_ws (ws' := [(rd, .inr (5, [.int fa, .int pl, .ref ow, .ref tp, .ref lk, .int (nI u5.1), .int u5.2.2.1, .int (nI u5.2.1), .long u5.2.2.2.1, .int u5.2.2.2.2.1, .int u5.2.2.2.2.2.1, .int u5.2.2.2.2.2.2])), (tp, .inr (0, [.ref td, .int (nI k)])), (td, .inl (y 0, 1600, .inl tf)), (ow, .inl (y 1, 33, .inr (.inl ww)))]) rfl ?_
    refine j_goto (pc := 12) C (tgt := 24) d_Reader_readWord_12 (by decide) ?_
    exact j_vret (pc := 24) C hr (fa, pl, u5.1, u5.2.1, u5.2.2.1, u5.2.2.2.1, u5.2.2.2.2.1, u5.2.2.2.2.2.1, u5.2.2.2.2.2.2) ⟨show u5.1 ≤ k by omega, show u5.2.1 ≤ u5.1 by omega, id⟩ [0, 1, 2, 3] rfl (by decide) (by decide) (by decide) d_Reader_readWord_24
theorem d_Reader_readSign_0 : decode prog_8_method_26_code 0 = .ok (.aload_n 0, 1) := by decide +kernel
theorem d_Reader_readSign_1 : decode prog_8_method_26_code 1 = .ok (.iload_n 1, 1) := by decide +kernel
theorem d_Reader_readSign_2 : decode prog_8_method_26_code 2 = .ok (.invokevirtual 259, 3) := by decide +kernel
theorem kw_Reader_259 : KW "NineBoards$Reader" 259 ⟨"NineBoards$Reader", "isSign", "(C)Z"⟩ prog_8_method_24_code 2 (some .boolean) 1 := ⟨(mt_3 (List.mem_of_getElem? (i := 97) rfl) rfl), (mt_1 (List.mem_of_getElem? (i := 10) rfl) rfl), (mt_3 (List.mem_of_getElem? (i := 100) rfl) rfl), by decide +kernel⟩
theorem kv_Reader_isSign : Cond.instanceMethod ⟨"NineBoards$Reader", "isSign", "(C)Z"⟩ ∈ TB ∧ Cond.selects "NineBoards$Reader" ⟨"NineBoards$Reader", "isSign", "(C)Z"⟩ ⟨"NineBoards$Reader", "isSign", "(C)Z"⟩ ∈ TB := ⟨(mt_3 (List.mem_of_getElem? (i := 99) rfl) rfl), (ms_0 (List.mem_map.mpr ⟨(⟨"NineBoards$Reader", "isSign", "(C)Z"⟩, 12), List.mem_of_getElem? (i := 10) (by decide +kernel), rfl⟩) rfl)⟩
theorem d_Reader_readSign_5 : decode prog_8_method_26_code 5 = .ok (.ifCond .eq 10, 3) := by decide +kernel
theorem d_Reader_readSign_15 : decode prog_8_method_26_code 15 = .ok (.aload_n 0, 1) := by decide +kernel
theorem d_Reader_readSign_16 : decode prog_8_method_26_code 16 = .ok (.iconst 1, 1) := by decide +kernel
theorem d_Reader_readSign_17 : decode prog_8_method_26_code 17 = .ok (.aload_n 0, 1) := by decide +kernel
theorem d_Reader_readSign_18 : decode prog_8_method_26_code 18 = .ok (.getfield 62, 3) := by decide +kernel
theorem d_Reader_readSign_21 : decode prog_8_method_26_code 21 = .ok (.invokevirtual 65, 3) := by decide +kernel
theorem d_Reader_readSign_24 : decode prog_8_method_26_code 24 = .ok (.return_, 1) := by decide +kernel
theorem d_Reader_readSign_8 : decode prog_8_method_26_code 8 = .ok (.aload_n 0, 1) := by decide +kernel
theorem d_Reader_readSign_9 : decode prog_8_method_26_code 9 = .ok (.invokevirtual 53, 3) := by decide +kernel
theorem d_Reader_readSign_12 : decode prog_8_method_26_code 12 = .ok (.goto 12, 3) := by decide +kernel
set_option maxHeartbeats 4000000 in
set_option maxRecDepth 100000 in
theorem c_r_readSign (l : Launch) (D : va_G) (y : Nat → ClassId) (rd : Nat) (ow : Nat) (tp : Nat) (lk : Nat) (td : Nat) (fa : Int32) (pl : Int32) (so : Int32) (le : Int64) (wo : Int32) (nu : Int32) (si : Int32) (ra : Nat) (rs : Nat) (k : Nat) (tf : Nat → Int32) (ww : Nat → Int64) (v : Int32) (ha : ra ≤ k) (hs : rs ≤ ra) (hk : k ≤ 1600) : CT l D y ⟨"NineBoards$Reader", "readSign", "(C)V"⟩ prog_8_method_26_code 2 none ({ frames := 2, cells := 0, slots := 0, locals := 44 } : Room) [.ref rd, .int v] [(rd, .inr (5, [.int fa, .int pl, .ref ow, .ref tp, .ref lk, .int (nI ra), .int so, .int (nI rs), .long le, .int wo, .int nu, .int si])), (tp, .inr (0, [.ref td, .int (nI k)])), (td, .inl (y 0, 1600, .inl tf)), (ow, .inl (y 1, 33, .inr (.inl ww)))] (QV D [(rd, .inr (5, [.int fa, .int pl, .ref ow, .ref tp, .ref lk, .int (nI ra), .int so, .int (nI rs), .long le, .int wo, .int nu, .int si])), (tp, .inr (0, [.ref td, .int (nI k)])), (td, .inl (y 0, 1600, .inl tf)), (ow, .inl (y 1, 33, .inr (.inl ww)))] (fun (u : Int32 × Int32 × Nat × Nat × Int32 × Int64 × Int32 × Int32 × Int32) => u.2.2.1 ≤ k ∧ u.2.2.2.1 ≤ u.2.2.1 ∧ (u.1 = 0 → fa = 0)) (fun u => [(rd, .inr (5, [.int u.1, .int u.2.1, .ref ow, .ref tp, .ref lk, .int (nI u.2.2.1), .int u.2.2.2.2.1, .int (nI u.2.2.2.1), .long u.2.2.2.2.2.1, .int u.2.2.2.2.2.2.1, .int u.2.2.2.2.2.2.2.1, .int u.2.2.2.2.2.2.2.2])), (tp, .inr (0, [.ref td, .int (nI k)])), (td, .inl (y 0, 1600, .inl tf)), (ow, .inl (y 1, 33, .inr (.inl ww)))])) := by
  refine CT.of (by decide) (nb rfl) ?_
  intro p e s m args below meth c C hr
  refine j_lv (lv' := [(0, .ref rd), (1, .int v)]) rfl ?_
  refine j_aload_n (pc := 0) C d_Reader_readSign_0 rfl 0 rfl ?_
  refine j_iload_n (pc := 1) C d_Reader_readSign_1 rfl 1 rfl ?_
  refine j_callVi (pc := 2) C (c_r_isSign l D y rd ow tp lk fa pl so le wo nu si ra rs v) kw_Reader_259 kv_Reader_isSign 0 5 rfl rfl ⟨by decide, by decide⟩ ⟨by decide, by decide⟩ (wr := [(tp, .inr (0, [.ref td, .int (nI k)])), (td, .inl (y 0, 1600, .inl tf)), (ow, .inl (y 1, 33, .inr (.inl ww)))]) [0] [1, 2, 3] rfl rfl (by decide) (by decide) (by decide) (As := [.int v]) (rest := []) rfl (nb rfl) rfl d_Reader_readSign_2 (fun r1 _ hr1 => ?_)
  refine j_ws (ws' := [(tp, .inr (0, [.ref td, .int (nI k)])), (td, .inl (y 0, 1600, .inl tf)), (ow, .inl (y 1, 33, .inr (.inl ww))), (rd, .inr (5, [.int fa, .int pl, .ref ow, .ref tp, .ref lk, .int (nI ra), .int so, .int (nI rs), .long le, .int wo, .int nu, .int si]))]) rfl ?_
  refine j_if_eq (pc := 5) C (tgt := 15) d_Reader_readSign_5 (by decide) (fun c2 => ?_) (fun c2 => ?_)
  · refine j_aload_n (pc := 15) C d_Reader_readSign_15 rfl 0 rfl ?_
    refine j_iconst (pc := 16) C (v := 1) d_Reader_readSign_16 (by decide) ?_
    refine j_aload_n (pc := 17) C d_Reader_readSign_17 rfl 0 rfl ?_
    refine j_get (pc := 18) C gf_Reader_62 3 rfl rfl d_Reader_readSign_18 ?_
    refine j_callVv (pc := 21) C (c_r_fail_1 l D y rd ow tp lk td fa pl so le wo nu si ra rs k (nI rs)) kw_Reader_65 kv_Reader_fail 0 5 rfl rfl ⟨by decide, by decide⟩ ⟨by decide, by decide⟩ (wr := [(td, .inl (y 0, 1600, .inl tf)), (ow, .inl (y 1, 33, .inr (.inl ww)))]) [3, 0] [1, 2] rfl rfl (by decide) (by decide) (by decide) (As := [.int 1, .int (nI rs)]) (rest := []) rfl (nb rfl) rfl d_Reader_readSign_21 (fun u3 hu4 => ?_)
    refine j_ws (ws' := [(td, .inl (y 0, 1600, .inl tf)), (ow, .inl (y 1, 33, .inr (.inl ww))), (rd, .inr (5, [.int u3.1, .int u3.2, .ref ow, .ref tp, .ref lk, .int (nI k), .int 0, .int (nI k), .long le, .int wo, .int nu, .int si])), (tp, .inr (0, [.ref td, .int (nI k)]))]) rfl ?_
    exact j_vret (pc := 24) C hr (u3.1, u3.2, k, k, 0, le, wo, nu, si) ⟨show k ≤ k by omega, show k ≤ k by omega, (fun e => absurd e hu4)⟩ [2, 3, 0, 1] rfl (by decide) (by decide) (by decide) d_Reader_readSign_24
  · refine j_aload_n (pc := 8) C d_Reader_readSign_8 rfl 0 rfl ?_
    refine j_callVv (pc := 9) C (c_r_advance l D y rd ow tp lk td fa pl so le wo nu si ra rs k tf ww (by omega) (by omega) (by omega)) kw_Reader_53 kv_Reader_advance 0 5 rfl rfl ⟨by decide, by decide⟩ ⟨by decide, by decide⟩ (wr := []) [3, 0, 1, 2] [] rfl rfl (by decide) (by decide) (by decide) (As := []) (rest := []) rfl (nb rfl) rfl d_Reader_readSign_9 (fun u5 hu6 => ?_)
    obtain ⟨hu6a, hu6b⟩ := hu6
    refine j_ws (ws' := [(rd, .inr (5, [.int fa, .int pl, .ref ow, .ref tp, .ref lk, .int (nI u5.1), .int u5.2.2.1, .int (nI u5.2.1), .long u5.2.2.2.1, .int u5.2.2.2.2.1, .int u5.2.2.2.2.2.1, .int u5.2.2.2.2.2.2])), (tp, .inr (0, [.ref td, .int (nI k)])), (td, .inl (y 0, 1600, .inl tf)), (ow, .inl (y 1, 33, .inr (.inl ww)))]) rfl ?_
    refine j_goto (pc := 12) C (tgt := 24) d_Reader_readSign_12 (by decide) ?_
    exact j_vret (pc := 24) C hr (fa, pl, u5.1, u5.2.1, u5.2.2.1, u5.2.2.2.1, u5.2.2.2.2.1, u5.2.2.2.2.2.1, u5.2.2.2.2.2.2) ⟨show u5.1 ≤ k by omega, show u5.2.1 ≤ u5.1 by omega, id⟩ [0, 1, 2, 3] rfl (by decide) (by decide) (by decide) d_Reader_readSign_24
