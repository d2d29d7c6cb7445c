section JCU
variable {p : Program} {l : Launch} {e : Env} {R : Room} {s : State} {m : MethodId} {args : Array Value} {below : List Frame} {meth : Method} {c : Code} {Q : State → Prop} {D : va_G} {A : Nat → Prop} {nL : Nat} {ws : va_W} {lv : List (Nat × Value)} {kc ks pc : Nat} {st : List Value}
/-- what follows a place is shown once, for all that come there -/
theorem j_cut {α : Type} (ws' : α → va_W) (lv' : α → List (Nat × Value)) (st' : α → List Value) (pc' : Nat) (k1 : ∀ a, J p l e R s m args below meth c Q D A nL (ws' a) (lv' a) kc ks pc' (st' a)) (k2 : (∀ a, J p l e R s m args below meth c Q D A nL (ws' a) (lv' a) kc ks pc' (st' a)) → J p l e R s m args below meth c Q D A nL ws lv kc ks pc st) : J p l e R s m args below meth c Q D A nL ws lv kc ks pc st := k2 k1
end JCU
theorem min_k {k : Nat} (h : k ≤ 1600) : (if (1600 : Int32) < nI k then 1600 else nI k) = nI k := if_neg (show ¬ nI 1600 < nI k from nI_nlt h (by decide))
theorem d_Reader_sortOf_0 : decode prog_8_method_33_code 0 = .ok (.iload_n 0, 1) := by decide +kernel
theorem d_Reader_sortOf_1 : decode prog_8_method_33_code 1 = .ok (.bipush 97, 2) := by decide +kernel
theorem d_Reader_sortOf_3 : decode prog_8_method_33_code 3 = .ok (.if_icmp .lt 13, 3) := by decide +kernel
theorem d_Reader_sortOf_16 : decode prog_8_method_33_code 16 = .ok (.iload_n 0, 1) := by decide +kernel
theorem d_Reader_sortOf_17 : decode prog_8_method_33_code 17 = .ok (.bipush 48, 2) := by decide +kernel
theorem d_Reader_sortOf_19 : decode prog_8_method_33_code 19 = .ok (.if_icmp .lt 13, 3) := by decide +kernel
theorem d_Reader_sortOf_32 : decode prog_8_method_33_code 32 = .ok (.iconst 3, 1) := by decide +kernel
theorem d_Reader_sortOf_33 : decode prog_8_method_33_code 33 = .ok (.ireturn, 1) := by decide +kernel
theorem d_Reader_sortOf_22 : decode prog_8_method_33_code 22 = .ok (.iload_n 0, 1) := by decide +kernel
theorem d_Reader_sortOf_23 : decode prog_8_method_33_code 23 = .ok (.bipush 57, 2) := by decide +kernel
theorem d_Reader_sortOf_25 : decode prog_8_method_33_code 25 = .ok (.if_icmp .gt 7, 3) := by decide +kernel
theorem d_Reader_sortOf_28 : decode prog_8_method_33_code 28 = .ok (.iconst 2, 1) := by decide +kernel
theorem d_Reader_sortOf_29 : decode prog_8_method_33_code 29 = .ok (.goto 4, 3) := by decide +kernel
theorem d_Reader_sortOf_6 : decode prog_8_method_33_code 6 = .ok (.iload_n 0, 1) := by decide +kernel
theorem d_Reader_sortOf_7 : decode prog_8_method_33_code 7 = .ok (.bipush 122, 2) := by decide +kernel
theorem d_Reader_sortOf_9 : decode prog_8_method_33_code 9 = .ok (.if_icmp .gt 7, 3) := by decide +kernel
theorem d_Reader_sortOf_12 : decode prog_8_method_33_code 12 = .ok (.iconst 1, 1) := by decide +kernel
theorem d_Reader_sortOf_13 : decode prog_8_method_33_code 13 = .ok (.goto 20, 3) := by decide +kernel
set_option maxHeartbeats 4000000 in
set_option maxRecDepth 100000 in
theorem c_sortOf (l : Launch) (D : va_G) (y : Nat → ClassId) (v : Int32)  : CT l D y ⟨"NineBoards$Reader", "sortOf", "(I)I"⟩ prog_8_method_33_code 1 (some .int) ({ frames := 0, cells := 0, slots := 0, locals := 0 } : Room) [.int v] [] (QI D [] (fun (r : Int32) (u : Unit) => r = 1 ∨ r = 2 ∨ r = 3) (fun _ => [])) := by
  refine CT.of (by decide) (nb rfl) ?_
  intro p e s m args below meth c C hr
  refine j_lv (lv' := [(0, .int v)]) rfl ?_
  refine j_iload_n (pc := 0) C d_Reader_sortOf_0 rfl 0 rfl ?_
  refine j_bipush (pc := 1) C (v := 97) d_Reader_sortOf_1 (by decide) ?_
  refine j_icmp_lt (pc := 3) C (tgt := 16) d_Reader_sortOf_3 (by decide) (fun c1 => ?_) (fun c1 => ?_)
  · refine j_iload_n (pc := 16) C d_Reader_sortOf_16 rfl 0 rfl ?_
    refine j_bipush (pc := 17) C (v := 48) d_Reader_sortOf_17 (by decide) ?_
    refine j_icmp_lt (pc := 19) C (tgt := 32) d_Reader_sortOf_19 (by decide) (fun c2 => ?_) (fun c2 => ?_)
    · refine j_iconst (pc := 32) C (v := 3) d_Reader_sortOf_32 (by decide) ?_
      exact j_iret (pc := 33) C hr rfl () (by decide) [] rfl (by decide) (by decide) (by decide) d_Reader_sortOf_33
    · refine j_iload_n (pc := 22) C d_Reader_sortOf_22 rfl 0 rfl ?_
      refine j_bipush (pc := 23) C (v := 57) d_Reader_sortOf_23 (by decide) ?_
      refine j_icmp_gt (pc := 25) C (tgt := 32) d_Reader_sortOf_25 (by decide) (fun c3 => ?_) (fun c3 => ?_)
      · refine j_iconst (pc := 32) C (v := 3) d_Reader_sortOf_32 (by decide) ?_
        exact j_iret (pc := 33) C hr rfl () (by decide) [] rfl (by decide) (by decide) (by decide) d_Reader_sortOf_33
      · refine j_iconst (pc := 28) C (v := 2) d_Reader_sortOf_28 (by decide) ?_
        refine j_goto (pc := 29) C (tgt := 33) d_Reader_sortOf_29 (by decide) ?_
        exact j_iret (pc := 33) C hr rfl () (by decide) [] rfl (by decide) (by decide) (by decide) d_Reader_sortOf_33
  · refine j_iload_n (pc := 6) C d_Reader_sortOf_6 rfl 0 rfl ?_
    refine j_bipush (pc := 7) C (v := 122) d_Reader_sortOf_7 (by decide) ?_
    refine j_icmp_gt (pc := 9) C (tgt := 16) d_Reader_sortOf_9 (by decide) (fun c4 => ?_) (fun c4 => ?_)
    · refine j_iload_n (pc := 16) C d_Reader_sortOf_16 rfl 0 rfl ?_
      refine j_bipush (pc := 17) C (v := 48) d_Reader_sortOf_17 (by decide) ?_
      refine j_icmp_lt (pc := 19) C (tgt := 32) d_Reader_sortOf_19 (by decide) (fun c5 => ?_) (fun c5 => ?_)
      · refine j_iconst (pc := 32) C (v := 3) d_Reader_sortOf_32 (by decide) ?_
        exact j_iret (pc := 33) C hr rfl () (by decide) [] rfl (by decide) (by decide) (by decide) d_Reader_sortOf_33
      · refine j_iload_n (pc := 22) C d_Reader_sortOf_22 rfl 0 rfl ?_
        refine j_bipush (pc := 23) C (v := 57) d_Reader_sortOf_23 (by decide) ?_
        refine j_icmp_gt (pc := 25) C (tgt := 32) d_Reader_sortOf_25 (by decide) (fun c6 => ?_) (fun c6 => ?_)
        · refine j_iconst (pc := 32) C (v := 3) d_Reader_sortOf_32 (by decide) ?_
          exact j_iret (pc := 33) C hr rfl () (by decide) [] rfl (by decide) (by decide) (by decide) d_Reader_sortOf_33
        · refine j_iconst (pc := 28) C (v := 2) d_Reader_sortOf_28 (by decide) ?_
          refine j_goto (pc := 29) C (tgt := 33) d_Reader_sortOf_29 (by decide) ?_
          exact j_iret (pc := 33) C hr rfl () (by decide) [] rfl (by decide) (by decide) (by decide) d_Reader_sortOf_33
    · refine j_iconst (pc := 12) C (v := 1) d_Reader_sortOf_12 (by decide) ?_
      refine j_goto (pc := 13) C (tgt := 33) d_Reader_sortOf_13 (by decide) ?_
      exact j_iret (pc := 33) C hr rfl () (by decide) [] rfl (by decide) (by decide) (by decide) d_Reader_sortOf_33
theorem d_Reader_isWord_0 : decode prog_8_method_23_code 0 = .ok (.aload_n 0, 1) := by decide +kernel
theorem d_Reader_isWord_1 : decode prog_8_method_23_code 1 = .ok (.getfield 50, 3) := by decide +kernel
theorem gf_Reader_50 : GF "NineBoards$Reader" 50 5 6 := ⟨_, _, _, rfl, ci_Reader, by decide, (mt_2 (List.mem_of_getElem? (i := 170) rfl) rfl)⟩
theorem d_Reader_isWord_4 : decode prog_8_method_23_code 4 = .ok (.iconst 1, 1) := by decide +kernel
theorem d_Reader_isWord_5 : decode prog_8_method_23_code 5 = .ok (.if_icmp .ne 15, 3) := by decide +kernel
theorem d_Reader_isWord_20 : decode prog_8_method_23_code 20 = .ok (.iconst 0, 1) := by decide +kernel
theorem d_Reader_isWord_21 : decode prog_8_method_23_code 21 = .ok (.ireturn, 1) := by decide +kernel
theorem d_Reader_isWord_8 : decode prog_8_method_23_code 8 = .ok (.aload_n 0, 1) := by decide +kernel
theorem d_Reader_isWord_9 : decode prog_8_method_23_code 9 = .ok (.getfield 80, 3) := by decide +kernel
theorem gf_Reader_80 : GF "NineBoards$Reader" 80 5 9 := ⟨_, _, _, rfl, ci_Reader, by decide, (mt_2 (List.mem_of_getElem? (i := 173) rfl) rfl)⟩
theorem d_Reader_isWord_12 : decode prog_8_method_23_code 12 = .ok (.iload_n 1, 1) := by decide +kernel
theorem d_Reader_isWord_13 : decode prog_8_method_23_code 13 = .ok (.if_icmp .ne 7, 3) := by decide +kernel
theorem d_Reader_isWord_16 : decode prog_8_method_23_code 16 = .ok (.iconst 1, 1) := by decide +kernel
theorem d_Reader_isWord_17 : decode prog_8_method_23_code 17 = .ok (.goto 4, 3) := by decide +kernel
set_option maxHeartbeats 4000000 in
set_option maxRecDepth 100000 in
theorem c_r_isWord (l : Launch) (D : va_G) (y : Nat → ClassId) (rd : Nat) (ow : Nat) (tp : Nat) (lk : Nat) (fa : Int32) (pl : Int32) (so : Int32) (le : Int64) (wo : Int32) (nu : Int32) (si : Int32) (ra : Nat) (rs : Nat) (v : Int32)  : CT l D y ⟨"NineBoards$Reader", "isWord", "(I)Z"⟩ prog_8_method_23_code 2 (some .boolean) ({ frames := 0, cells := 0, slots := 0, locals := 0 } : Room) [.ref rd, .int v] [(rd, .inr (5, [.int fa, .int pl, .ref ow, .ref tp, .ref lk, .int (nI ra), .int so, .int (nI rs), .long le, .int wo, .int nu, .int si]))] (QI D [(rd, .inr (5, [.int fa, .int pl, .ref ow, .ref tp, .ref lk, .int (nI ra), .int so, .int (nI rs), .long le, .int wo, .int nu, .int si]))] (fun (r : Int32) (u : Unit) => r = 0 ∨ r = 1) (fun _ => [(rd, .inr (5, [.int fa, .int pl, .ref ow, .ref tp, .ref lk, .int (nI ra), .int so, .int (nI rs), .long le, .int wo, .int nu, .int si]))])) := by
  refine CT.of (by decide) (nb rfl) ?_
  intro p e s m args below meth c C hr
  refine j_lv (lv' := [(0, .ref rd), (1, .int v)]) rfl ?_
  refine j_aload_n (pc := 0) C d_Reader_isWord_0 rfl 0 rfl ?_
  refine j_get (pc := 1) C gf_Reader_50 0 rfl rfl d_Reader_isWord_1 ?_
  refine j_iconst (pc := 4) C (v := 1) d_Reader_isWord_4 (by decide) ?_
  refine j_icmp_ne (pc := 5) C (tgt := 20) d_Reader_isWord_5 (by decide) (fun c1 => ?_) (fun c1 => ?_)
  · refine j_iconst (pc := 20) C (v := 0) d_Reader_isWord_20 (by decide) ?_
    exact j_iret (pc := 21) C hr (by decide) () (by decide) [0] rfl (by decide) (by decide) (by decide) d_Reader_isWord_21
  · refine j_aload_n (pc := 8) C d_Reader_isWord_8 rfl 0 rfl ?_
    refine j_get (pc := 9) C gf_Reader_80 0 rfl rfl d_Reader_isWord_9 ?_
    refine j_iload_n (pc := 12) C d_Reader_isWord_12 rfl 1 rfl ?_
    refine j_icmp_ne (pc := 13) C (tgt := 20) d_Reader_isWord_13 (by decide) (fun c2 => ?_) (fun c2 => ?_)
    · refine j_iconst (pc := 20) C (v := 0) d_Reader_isWord_20 (by decide) ?_
      exact j_iret (pc := 21) C hr (by decide) () (by decide) [0] rfl (by decide) (by decide) (by decide) d_Reader_isWord_21
    · refine j_iconst (pc := 16) C (v := 1) d_Reader_isWord_16 (by decide) ?_
      refine j_goto (pc := 17) C (tgt := 21) d_Reader_isWord_17 (by decide) ?_
      exact j_iret (pc := 21) C hr (by decide) () (by decide) [0] rfl (by decide) (by decide) (by decide) d_Reader_isWord_21
theorem d_Reader_isSign_0 : decode prog_8_method_24_code 0 = .ok (.aload_n 0, 1) := by decide +kernel
theorem d_Reader_isSign_1 : decode prog_8_method_24_code 1 = .ok (.getfield 50, 3) := by decide +kernel
theorem d_Reader_isSign_4 : decode prog_8_method_24_code 4 = .ok (.iconst 3, 1) := by decide +kernel
theorem d_Reader_isSign_5 : decode prog_8_method_24_code 5 = .ok (.if_icmp .ne 15, 3) := by decide +kernel
theorem d_Reader_isSign_20 : decode prog_8_method_24_code 20 = .ok (.iconst 0, 1) := by decide +kernel
theorem d_Reader_isSign_21 : decode prog_8_method_24_code 21 = .ok (.ireturn, 1) := by decide +kernel
theorem d_Reader_isSign_8 : decode prog_8_method_24_code 8 = .ok (.aload_n 0, 1) := by decide +kernel
theorem d_Reader_isSign_9 : decode prog_8_method_24_code 9 = .ok (.getfield 272, 3) := by decide +kernel
theorem gf_Reader_272 : GF "NineBoards$Reader" 272 5 11 := ⟨_, _, _, rfl, ci_Reader, by decide, (mt_2 (List.mem_of_getElem? (i := 175) rfl) rfl)⟩
theorem d_Reader_isSign_12 : decode prog_8_method_24_code 12 = .ok (.iload_n 1, 1) := by decide +kernel
theorem d_Reader_isSign_13 : decode prog_8_method_24_code 13 = .ok (.if_icmp .ne 7, 3) := by decide +kernel
theorem d_Reader_isSign_16 : decode prog_8_method_24_code 16 = .ok (.iconst 1, 1) := by decide +kernel
theorem d_Reader_isSign_17 : decode prog_8_method_24_code 17 = .ok (.goto 4, 3) := by decide +kernel
set_option maxHeartbeats 4000000 in
set_option maxRecDepth 100000 in
theorem c_r_isSign (l : Launch) (D : va_G) (y : Nat → ClassId) (rd : Nat) (ow : Nat) (tp : Nat) (lk : Nat) (fa : Int32) (pl : Int32) (so : Int32) (le : Int64) (wo : Int32) (nu : Int32) (si : Int32) (ra : Nat) (rs : Nat) (v : Int32)  : CT l D y ⟨"NineBoards$Reader", "isSign", "(C)Z"⟩ prog_8_method_24_code 2 (some .boolean) ({ frames := 0, cells := 0, slots := 0, locals := 0 } : Room) [.ref rd, .int v] [(rd, .inr (5, [.int fa, .int pl, .ref ow, .ref tp, .ref lk, .int (nI ra), .int so, .int (nI rs), .long le, .int wo, .int nu, .int si]))] (QI D [(rd, .inr (5, [.int fa, .int pl, .ref ow, .ref tp, .ref lk, .int (nI ra), .int so, .int (nI rs), .long le, .int wo, .int nu, .int si]))] (fun (r : Int32) (u : Unit) => r = 0 ∨ r = 1) (fun _ => [(rd, .inr (5, [.int fa, .int pl, .ref ow, .ref tp, .ref lk, .int (nI ra), .int so, .int (nI rs), .long le, .int wo, .int nu, .int si]))])) := by
  refine CT.of (by decide) (nb rfl) ?_
  intro p e s m args below meth c C hr
  refine j_lv (lv' := [(0, .ref rd), (1, .int v)]) rfl ?_
  refine j_aload_n (pc := 0) C d_Reader_isSign_0 rfl 0 rfl ?_
  refine j_get (pc := 1) C gf_Reader_50 0 rfl rfl d_Reader_isSign_1 ?_
  refine j_iconst (pc := 4) C (v := 3) d_Reader_isSign_4 (by decide) ?_
  refine j_icmp_ne (pc := 5) C (tgt := 20) d_Reader_isSign_5 (by decide) (fun c1 => ?_) (fun c1 => ?_)
  · refine j_iconst (pc := 20) C (v := 0) d_Reader_isSign_20 (by decide) ?_
    exact j_iret (pc := 21) C hr (by decide) () (by decide) [0] rfl (by decide) (by decide) (by decide) d_Reader_isSign_21
  · refine j_aload_n (pc := 8) C d_Reader_isSign_8 rfl 0 rfl ?_
    refine j_get (pc := 9) C gf_Reader_272 0 rfl rfl d_Reader_isSign_9 ?_
    refine j_iload_n (pc := 12) C d_Reader_isSign_12 rfl 1 rfl ?_
    refine j_icmp_ne (pc := 13) C (tgt := 20) d_Reader_isSign_13 (by decide) (fun c2 => ?_) (fun c2 => ?_)
    · refine j_iconst (pc := 20) C (v := 0) d_Reader_isSign_20 (by decide) ?_
      exact j_iret (pc := 21) C hr (by decide) () (by decide) [0] rfl (by decide) (by decide) (by decide) d_Reader_isSign_21
    · refine j_iconst (pc := 16) C (v := 1) d_Reader_isSign_16 (by decide) ?_
      refine j_goto (pc := 17) C (tgt := 21) d_Reader_isSign_17 (by decide) ?_
      exact j_iret (pc := 21) C hr (by decide) () (by decide) [0] rfl (by decide) (by decide) (by decide) d_Reader_isSign_21
theorem d_Reader_fail_0 : decode prog_8_method_31_code 0 = .ok (.aload_n 0, 1) := by decide +kernel
theorem d_Reader_fail_1 : decode prog_8_method_31_code 1 = .ok (.getfield 44, 3) := by decide +kernel
theorem gf_Reader_44 : GF "NineBoards$Reader" 44 5 0 := ⟨_, _, _, rfl, ci_Reader, by decide, (mt_2 (List.mem_of_getElem? (i := 162) rfl) rfl)⟩
theorem d_Reader_fail_4 : decode prog_8_method_31_code 4 = .ok (.ifCond .ne 13, 3) := by decide +kernel
theorem d_Reader_fail_17 : decode prog_8_method_31_code 17 = .ok (.aload_n 0, 1) := by decide +kernel
theorem d_Reader_fail_18 : decode prog_8_method_31_code 18 = .ok (.aload_n 0, 1) := by decide +kernel
theorem d_Reader_fail_19 : decode prog_8_method_31_code 19 = .ok (.getfield 19, 3) := by decide +kernel
theorem gf_Reader_19 : GF "NineBoards$Reader" 19 5 3 := ⟨_, _, _, rfl, ci_Reader, by decide, (mt_2 (List.mem_of_getElem? (i := 167) rfl) rfl)⟩
theorem d_Reader_fail_22 : decode prog_8_method_31_code 22 = .ok (.getfield 285, 3) := by decide +kernel
theorem gf_Reader_285 : GF "NineBoards$Reader" 285 0 1 := ⟨_, _, _, rfl, ci_Bytes, by decide, (mt_1 (List.mem_of_getElem? (i := 40) rfl) rfl)⟩
theorem d_Reader_fail_25 : decode prog_8_method_31_code 25 = .ok (.putfield 47, 3) := by decide +kernel
theorem pf_Reader_47 : PF "NineBoards$Reader" 47 5 5 (.int) false := ⟨_, _, _, ct_Reader, rfl, ci_Reader, by decide, (mt_2 (List.mem_of_getElem? (i := 169) rfl) rfl), cp_Reader, cn_Reader, rfl, by decide +kernel, (fun h => by cases h)⟩
theorem d_Reader_fail_28 : decode prog_8_method_31_code 28 = .ok (.aload_n 0, 1) := by decide +kernel
theorem d_Reader_fail_29 : decode prog_8_method_31_code 29 = .ok (.aload_n 0, 1) := by decide +kernel
theorem d_Reader_fail_30 : decode prog_8_method_31_code 30 = .ok (.getfield 47, 3) := by decide +kernel
theorem gf_Reader_47 : GF "NineBoards$Reader" 47 5 5 := ⟨_, _, _, rfl, ci_Reader, by decide, (mt_2 (List.mem_of_getElem? (i := 169) rfl) rfl)⟩
theorem d_Reader_fail_33 : decode prog_8_method_31_code 33 = .ok (.putfield 62, 3) := by decide +kernel
theorem pf_Reader_62 : PF "NineBoards$Reader" 62 5 7 (.int) false := ⟨_, _, _, ct_Reader, rfl, ci_Reader, by decide, (mt_2 (List.mem_of_getElem? (i := 171) rfl) rfl), cp_Reader, cn_Reader, rfl, by decide +kernel, (fun h => by cases h)⟩
theorem d_Reader_fail_36 : decode prog_8_method_31_code 36 = .ok (.aload_n 0, 1) := by decide +kernel
theorem d_Reader_fail_37 : decode prog_8_method_31_code 37 = .ok (.iconst 0, 1) := by decide +kernel
theorem d_Reader_fail_38 : decode prog_8_method_31_code 38 = .ok (.putfield 50, 3) := by decide +kernel
theorem pf_Reader_50 : PF "NineBoards$Reader" 50 5 6 (.int) false := ⟨_, _, _, ct_Reader, rfl, ci_Reader, by decide, (mt_2 (List.mem_of_getElem? (i := 170) rfl) rfl), cp_Reader, cn_Reader, rfl, by decide +kernel, (fun h => by cases h)⟩
theorem d_Reader_fail_41 : decode prog_8_method_31_code 41 = .ok (.return_, 1) := by decide +kernel
theorem d_Reader_fail_7 : decode prog_8_method_31_code 7 = .ok (.aload_n 0, 1) := by decide +kernel
theorem d_Reader_fail_8 : decode prog_8_method_31_code 8 = .ok (.iload_n 1, 1) := by decide +kernel
theorem d_Reader_fail_9 : decode prog_8_method_31_code 9 = .ok (.putfield 44, 3) := by decide +kernel
theorem pf_Reader_44 : PF "NineBoards$Reader" 44 5 0 (.int) false := ⟨_, _, _, ct_Reader, rfl, ci_Reader, by decide, (mt_2 (List.mem_of_getElem? (i := 162) rfl) rfl), cp_Reader, cn_Reader, rfl, by decide +kernel, (fun h => by cases h)⟩
theorem d_Reader_fail_12 : decode prog_8_method_31_code 12 = .ok (.aload_n 0, 1) := by decide +kernel
theorem d_Reader_fail_13 : decode prog_8_method_31_code 13 = .ok (.iload_n 2, 1) := by decide +kernel
theorem d_Reader_fail_14 : decode prog_8_method_31_code 14 = .ok (.putfield 9, 3) := by decide +kernel
theorem pf_Reader_9 : PF "NineBoards$Reader" 9 5 1 (.int) false := ⟨_, _, _, ct_Reader, rfl, ci_Reader, by decide, (mt_2 (List.mem_of_getElem? (i := 164) rfl) rfl), cp_Reader, cn_Reader, rfl, by decide +kernel, (fun h => by cases h)⟩
set_option maxHeartbeats 4000000 in
set_option maxRecDepth 100000 in
theorem c_r_fail_1 (l : Launch) (D : va_G) (y : Nat → ClassId) (rd : Nat) (ow : Nat) (tp : Nat) (lk : Nat) (td : Nat) (fa : Int32) (pl : Int32) (so : Int32) (le : Int64) (wo : Int32) (nu : Int32) (si : Int32) (ra : Nat) (rs : Nat) (k : Nat) (v : Int32)  : CT l D y ⟨"NineBoards$Reader", "fail", "(II)V"⟩ prog_8_method_31_code 3 none ({ frames := 0, cells := 0, slots := 0, locals := 0 } : Room) [.ref rd, .int 1, .int v] [(rd, .inr (5, [.int fa, .int pl, .ref ow, .ref tp, .ref lk, .int (nI ra), .int so, .int (nI rs), .long le, .int wo, .int nu, .int si])), (tp, .inr (0, [.ref td, .int (nI k)]))] (QV D [(rd, .inr (5, [.int fa, .int pl, .ref ow, .ref tp, .ref lk, .int (nI ra), .int so, .int (nI rs), .long le, .int wo, .int nu, .int si])), (tp, .inr (0, [.ref td, .int (nI k)]))] (fun (u : Int32 × Int32) => ¬ u.1 = 0) (fun u => [(rd, .inr (5, [.int u.1, .int u.2, .ref ow, .ref tp, .ref lk, .int (nI k), .int 0, .int (nI k), .long le, .int wo, .int nu, .int si])), (tp, .inr (0, [.ref td, .int (nI k)]))])) := by
  refine CT.of (by decide) (nb rfl) ?_
  intro p e s m args below meth c C hr
  refine j_lv (lv' := [(0, .ref rd), (1, .int 1), (2, .int v)]) rfl ?_
  refine j_aload_n (pc := 0) C d_Reader_fail_0 rfl 0 rfl ?_
  refine j_get (pc := 1) C gf_Reader_44 0 rfl rfl d_Reader_fail_1 ?_
  refine j_if_ne (pc := 4) C (tgt := 17) d_Reader_fail_4 (by decide) (fun c1 => ?_) (fun c1 => ?_)
  · refine j_aload_n (pc := 17) C d_Reader_fail_17 rfl 0 rfl ?_
    refine j_aload_n (pc := 18) C d_Reader_fail_18 rfl 0 rfl ?_
    refine j_get (pc := 19) C gf_Reader_19 0 rfl rfl d_Reader_fail_19 ?_
    refine j_get (pc := 22) C gf_Reader_285 1 rfl rfl d_Reader_fail_22 ?_
    refine j_put (pc := 25) C pf_Reader_47 0 (ws' := [(rd, .inr (5, [.int fa, .int pl, .ref ow, .ref tp, .ref lk, .int (nI k), .int so, .int (nI rs), .long le, .int wo, .int nu, .int si])), (tp, .inr (0, [.ref td, .int (nI k)]))]) rfl rfl rfl (nl rfl) rfl d_Reader_fail_25 ?_
    refine j_aload_n (pc := 28) C d_Reader_fail_28 rfl 0 rfl ?_
    refine j_aload_n (pc := 29) C d_Reader_fail_29 rfl 0 rfl ?_
    refine j_get (pc := 30) C gf_Reader_47 0 rfl rfl d_Reader_fail_30 ?_
    refine j_put (pc := 33) C pf_Reader_62 0 (ws' := [(rd, .inr (5, [.int fa, .int pl, .ref ow, .ref tp, .ref lk, .int (nI k), .int so, .int (nI k), .long le, .int wo, .int nu, .int si])), (tp, .inr (0, [.ref td, .int (nI k)]))]) rfl rfl rfl (nl rfl) rfl d_Reader_fail_33 ?_
    refine j_aload_n (pc := 36) C d_Reader_fail_36 rfl 0 rfl ?_
    refine j_iconst (pc := 37) C (v := 0) d_Reader_fail_37 (by decide) ?_
    refine j_put (pc := 38) C pf_Reader_50 0 (ws' := [(rd, .inr (5, [.int fa, .int pl, .ref ow, .ref tp, .ref lk, .int (nI k), .int 0, .int (nI k), .long le, .int wo, .int nu, .int si])), (tp, .inr (0, [.ref td, .int (nI k)]))]) rfl rfl rfl (nl rfl) rfl d_Reader_fail_38 ?_
    exact j_vret (pc := 41) C hr (fa, pl) c1 [0, 1] rfl (by decide) (by decide) (by decide) d_Reader_fail_41
  · refine j_aload_n (pc := 7) C d_Reader_fail_7 rfl 0 rfl ?_
    refine j_iload_n (pc := 8) C d_Reader_fail_8 rfl 1 rfl ?_
    refine j_put (pc := 9) C pf_Reader_44 0 (ws' := [(rd, .inr (5, [.int 1, .int pl, .ref ow, .ref tp, .ref lk, .int (nI ra), .int so, .int (nI rs), .long le, .int wo, .int nu, .int si])), (tp, .inr (0, [.ref td, .int (nI k)]))]) rfl rfl rfl (nl rfl) rfl d_Reader_fail_9 ?_
    refine j_aload_n (pc := 12) C d_Reader_fail_12 rfl 0 rfl ?_
    refine j_iload_n (pc := 13) C d_Reader_fail_13 rfl 2 rfl ?_
    refine j_put (pc := 14) C pf_Reader_9 0 (ws' := [(rd, .inr (5, [.int 1, .int v, .ref ow, .ref tp, .ref lk, .int (nI ra), .int so, .int (nI rs), .long le, .int wo, .int nu, .int si])), (tp, .inr (0, [.ref td, .int (nI k)]))]) rfl rfl rfl (nl rfl) rfl d_Reader_fail_14 ?_
    refine j_aload_n (pc := 17) C d_Reader_fail_17 rfl 0 rfl ?_
    refine j_aload_n (pc := 18) C d_Reader_fail_18 rfl 0 rfl ?_
    refine j_get (pc := 19) C gf_Reader_19 0 rfl rfl d_Reader_fail_19 ?_
    refine j_get (pc := 22) C gf_Reader_285 1 rfl rfl d_Reader_fail_22 ?_
    refine j_put (pc := 25) C pf_Reader_47 0 (ws' := [(rd, .inr (5, [.int 1, .int v, .ref ow, .ref tp, .ref lk, .int (nI k), .int so, .int (nI rs), .long le, .int wo, .int nu, .int si])), (tp, .inr (0, [.ref td, .int (nI k)]))]) rfl rfl rfl (nl rfl) rfl d_Reader_fail_25 ?_
    refine j_aload_n (pc := 28) C d_Reader_fail_28 rfl 0 rfl ?_
    refine j_aload_n (pc := 29) C d_Reader_fail_29 rfl 0 rfl ?_
    refine j_get (pc := 30) C gf_Reader_47 0 rfl rfl d_Reader_fail_30 ?_
    refine j_put (pc := 33) C pf_Reader_62 0 (ws' := [(rd, .inr (5, [.int 1, .int v, .ref ow, .ref tp, .ref lk, .int (nI k), .int so, .int (nI k), .long le, .int wo, .int nu, .int si])), (tp, .inr (0, [.ref td, .int (nI k)]))]) rfl rfl rfl (nl rfl) rfl d_Reader_fail_33 ?_
    refine j_aload_n (pc := 36) C d_Reader_fail_36 rfl 0 rfl ?_
    refine j_iconst (pc := 37) C (v := 0) d_Reader_fail_37 (by decide) ?_
    refine j_put (pc := 38) C pf_Reader_50 0 (ws' := [(rd, .inr (5, [.int 1, .int v, .ref ow, .ref tp, .ref lk, .int (nI k), .int 0, .int (nI k), .long le, .int wo, .int nu, .int si])), (tp, .inr (0, [.ref td, .int (nI k)]))]) rfl rfl rfl (nl rfl) rfl d_Reader_fail_38 ?_
    exact j_vret (pc := 41) C hr (1, v) (show ¬ (1 : Int32) = 0 by decide) [0, 1] rfl (by decide) (by decide) (by decide) d_Reader_fail_41
set_option maxHeartbeats 4000000 in
set_option maxRecDepth 100000 in
theorem c_r_fail_2 (l : Launch) (D : va_G) (y : Nat → ClassId) (rd : Nat) (ow : Nat) (tp : Nat) (lk : Nat) (td : Nat) (fa : Int32) (pl : Int32) (so : Int32) (le : Int64) (wo : Int32) (nu : Int32) (si : Int32) (ra : Nat) (rs : Nat) (k : Nat) (v : Int32)  : CT l D y ⟨"NineBoards$Reader", "fail", "(II)V"⟩ prog_8_method_31_code 3 none ({ frames := 0, cells := 0, slots := 0, locals := 0 } : Room) [.ref rd, .int 2, .int v] [(rd, .inr (5, [.int fa, .int pl, .ref ow, .ref tp, .ref lk, .int (nI ra), .int so, .int (nI rs), .long le, .int wo, .int nu, .int si])), (tp, .inr (0, [.ref td, .int (nI k)]))] (QV D [(rd, .inr (5, [.int fa, .int pl, .ref ow, .ref tp, .ref lk, .int (nI ra), .int so, .int (nI rs), .long le, .int wo, .int nu, .int si])), (tp, .inr (0, [.ref td, .int (nI k)]))] (fun (u : Int32 × Int32) => ¬ u.1 = 0) (fun u => [(rd, .inr (5, [.int u.1, .int u.2, .ref ow, .ref tp, .ref lk, .int (nI k), .int 0, .int (nI k), .long le, .int wo, .int nu, .int si])), (tp, .inr (0, [.ref td, .int (nI k)]))])) := by
  refine CT.of (by decide) (nb rfl) ?_
  intro p e s m args below meth c C hr
  refine j_lv (lv' := [(0, .ref rd), (1, .int 2), (2, .int v)]) rfl ?_
  refine j_aload_n (pc := 0) C d_Reader_fail_0 rfl 0 rfl ?_
  refine j_get (pc := 1) C gf_Reader_44 0 rfl rfl d_Reader_fail_1 ?_
  refine j_if_ne (pc := 4) C (tgt := 17) d_Reader_fail_4 (by decide) (fun c1 => ?_) (fun c1 => ?_)
  · refine j_aload_n (pc := 17) C d_Reader_fail_17 rfl 0 rfl ?_
    refine j_aload_n (pc := 18) C d_Reader_fail_18 rfl 0 rfl ?_
    refine j_get (pc := 19) C gf_Reader_19 0 rfl rfl d_Reader_fail_19 ?_
    refine j_get (pc := 22) C gf_Reader_285 1 rfl rfl d_Reader_fail_22 ?_
    refine j_put (pc := 25) C pf_Reader_47 0 (ws' := [(rd, .inr (5, [.int fa, .int pl, .ref ow, .ref tp, .ref lk, .int (nI k), .int so, .int (nI rs), .long le, .int wo, .int nu, .int si])), (tp, .inr (0, [.ref td, .int (nI k)]))]) rfl rfl rfl (nl rfl) rfl d_Reader_fail_25 ?_
    refine j_aload_n (pc := 28) C d_Reader_fail_28 rfl 0 rfl ?_
    refine j_aload_n (pc := 29) C d_Reader_fail_29 rfl 0 rfl ?_
    refine j_get (pc := 30) C gf_Reader_47 0 rfl rfl d_Reader_fail_30 ?_
    refine j_put (pc := 33) C pf_Reader_62 0 (ws' := [(rd, .inr (5, [.int fa, .int pl, .ref ow, .ref tp, .ref lk, .int (nI k), .int so, .int (nI k), .long le, .int wo, .int nu, .int si])), (tp, .inr (0, [.ref td, .int (nI k)]))]) rfl rfl rfl (nl rfl) rfl d_Reader_fail_33 ?_
    refine j_aload_n (pc := 36) C d_Reader_fail_36 rfl 0 rfl ?_
    refine j_iconst (pc := 37) C (v := 0) d_Reader_fail_37 (by decide) ?_
    refine j_put (pc := 38) C pf_Reader_50 0 (ws' := [(rd, .inr (5, [.int fa, .int pl, .ref ow, .ref tp, .ref lk, .int (nI k), .int 0, .int (nI k), .long le, .int wo, .int nu, .int si])), (tp, .inr (0, [.ref td, .int (nI k)]))]) rfl rfl rfl (nl rfl) rfl d_Reader_fail_38 ?_
    exact j_vret (pc := 41) C hr (fa, pl) c1 [0, 1] rfl (by decide) (by decide) (by decide) d_Reader_fail_41
  · refine j_aload_n (pc := 7) C d_Reader_fail_7 rfl 0 rfl ?_
    refine j_iload_n (pc := 8) C d_Reader_fail_8 rfl 1 rfl ?_
    refine j_put (pc := 9) C pf_Reader_44 0 (ws' := [(rd, .inr (5, [.int 2, .int pl, .ref ow, .ref tp, .ref lk, .int (nI ra), .int so, .int (nI rs), .long le, .int wo, .int nu, .int si])), (tp, .inr (0, [.ref td, .int (nI k)]))]) rfl rfl rfl (nl rfl) rfl d_Reader_fail_9 ?_
    refine j_aload_n (pc := 12) C d_Reader_fail_12 rfl 0 rfl ?_
    refine j_iload_n (pc := 13) C d_Reader_fail_13 rfl 2 rfl ?_
    refine j_put (pc := 14) C pf_Reader_9 0 (ws' := [(rd, .inr (5, [.int 2, .int v, .ref ow, .ref tp, .ref lk, .int (nI ra), .int so, .int (nI rs), .long le, .int wo, .int nu, .int si])), (tp, .inr (0, [.ref td, .int (nI k)]))]) rfl rfl rfl (nl rfl) rfl d_Reader_fail_14 ?_
    refine j_aload_n (pc := 17) C d_Reader_fail_17 rfl 0 rfl ?_
    refine j_aload_n (pc := 18) C d_Reader_fail_18 rfl 0 rfl ?_
    refine j_get (pc := 19) C gf_Reader_19 0 rfl rfl d_Reader_fail_19 ?_
    refine j_get (pc := 22) C gf_Reader_285 1 rfl rfl d_Reader_fail_22 ?_
    refine j_put (pc := 25) C pf_Reader_47 0 (ws' := [(rd, .inr (5, [.int 2, .int v, .ref ow, .ref tp, .ref lk, .int (nI k), .int so, .int (nI rs), .long le, .int wo, .int nu, .int si])), (tp, .inr (0, [.ref td, .int (nI k)]))]) rfl rfl rfl (nl rfl) rfl d_Reader_fail_25 ?_
    refine j_aload_n (pc := 28) C d_Reader_fail_28 rfl 0 rfl ?_
    refine j_aload_n (pc := 29) C d_Reader_fail_29 rfl 0 rfl ?_
    refine j_get (pc := 30) C gf_Reader_47 0 rfl rfl d_Reader_fail_30 ?_
    refine j_put (pc := 33) C pf_Reader_62 0 (ws' := [(rd, .inr (5, [.int 2, .int v, .ref ow, .ref tp, .ref lk, .int (nI k), .int so, .int (nI k), .long le, .int wo, .int nu, .int si])), (tp, .inr (0, [.ref td, .int (nI k)]))]) rfl rfl rfl (nl rfl) rfl d_Reader_fail_33 ?_
    refine j_aload_n (pc := 36) C d_Reader_fail_36 rfl 0 rfl ?_
    refine j_iconst (pc := 37) C (v := 0) d_Reader_fail_37 (by decide) ?_
    refine j_put (pc := 38) C pf_Reader_50 0 (ws' := [(rd, .inr (5, [.int 2, .int v, .ref ow, .ref tp, .ref lk, .int (nI k), .int 0, .int (nI k), .long le, .int wo, .int nu, .int si])), (tp, .inr (0, [.ref td, .int (nI k)]))]) rfl rfl rfl (nl rfl) rfl d_Reader_fail_38 ?_
    exact j_vret (pc := 41) C hr (2, v) (show ¬ (2 : Int32) = 0 by decide) [0, 1] rfl (by decide) (by decide) (by decide) d_Reader_fail_41
set_option maxHeartbeats 4000000 in
set_option maxRecDepth 100000 in
theorem c_r_fail_3 (l : Launch) (D : va_G) (y : Nat → ClassId) (rd : Nat) (ow : Nat) (tp : Nat) (lk : Nat) (td : Nat) (fa : Int32) (pl : Int32) (so : Int32) (le : Int64) (wo : Int32) (nu : Int32) (si : Int32) (ra : Nat) (rs : Nat) (k : Nat) (v : Int32)  : CT l D y ⟨"NineBoards$Reader", "fail", "(II)V"⟩ prog_8_method_31_code 3 none ({ frames := 0, cells := 0, slots := 0, locals := 0 } : Room) [.ref rd, .int 3, .int v] [(rd, .inr (5, [.int fa, .int pl, .ref ow, .ref tp, .ref lk, .int (nI ra), .int so, .int (nI rs), .long le, .int wo, .int nu, .int si])), (tp, .inr (0, [.ref td, .int (nI k)]))] (QV D [(rd, .inr (5, [.int fa, .int pl, .ref ow, .ref tp, .ref lk, .int (nI ra), .int so, .int (nI rs), .long le, .int wo, .int nu, .int si])), (tp, .inr (0, [.ref td, .int (nI k)]))] (fun (u : Int32 × Int32) => ¬ u.1 = 0) (fun u => [(rd, .inr (5, [.int u.1, .int u.2, .ref ow, .ref tp, .ref lk, .int (nI k), .int 0, .int (nI k), .long le, .int wo, .int nu, .int si])), (tp, .inr (0, [.ref td, .int (nI k)]))])) := by
  refine CT.of (by decide) (nb rfl) ?_
  intro p e s m args below meth c C hr
  refine j_lv (lv' := [(0, .ref rd), (1, .int 3), (2, .int v)]) rfl ?_
  refine j_aload_n (pc := 0) C d_Reader_fail_0 rfl 0 rfl ?_
  refine j_get (pc := 1) C gf_Reader_44 0 rfl rfl d_Reader_fail_1 ?_
  refine j_if_ne (pc := 4) C (tgt := 17) d_Reader_fail_4 (by decide) (fun c1 => ?_) (fun c1 => ?_)
  · refine j_aload_n (pc := 17) C d_Reader_fail_17 rfl 0 rfl ?_
    refine j_aload_n (pc := 18) C d_Reader_fail_18 rfl 0 rfl ?_
    refine j_get (pc := 19) C gf_Reader_19 0 rfl rfl d_Reader_fail_19 ?_
    refine j_get (pc := 22) C gf_Reader_285 1 rfl rfl d_Reader_fail_22 ?_
    refine j_put (pc := 25) C pf_Reader_47 0 (ws' := [(rd, .inr (5, [.int fa, .int pl, .ref ow, .ref tp, .ref lk, .int (nI k), .int so, .int (nI rs), .long le, .int wo, .int nu, .int si])), (tp, .inr (0, [.ref td, .int (nI k)]))]) rfl rfl rfl (nl rfl) rfl d_Reader_fail_25 ?_
    refine j_aload_n (pc := 28) C d_Reader_fail_28 rfl 0 rfl ?_
    refine j_aload_n (pc := 29) C d_Reader_fail_29 rfl 0 rfl ?_
    refine j_get (pc := 30) C gf_Reader_47 0 rfl rfl d_Reader_fail_30 ?_
    refine j_put (pc := 33) C pf_Reader_62 0 (ws' := [(rd, .inr (5, [.int fa, .int pl, .ref ow, .ref tp, .ref lk, .int (nI k), .int so, .int (nI k), .long le, .int wo, .int nu, .int si])), (tp, .inr (0, [.ref td, .int (nI k)]))]) rfl rfl rfl (nl rfl) rfl d_Reader_fail_33 ?_
    refine j_aload_n (pc := 36) C d_Reader_fail_36 rfl 0 rfl ?_
    refine j_iconst (pc := 37) C (v := 0) d_Reader_fail_37 (by decide) ?_
    refine j_put (pc := 38) C pf_Reader_50 0 (ws' := [(rd, .inr (5, [.int fa, .int pl, .ref ow, .ref tp, .ref lk, .int (nI k), .int 0, .int (nI k), .long le, .int wo, .int nu, .int si])), (tp, .inr (0, [.ref td, .int (nI k)]))]) rfl rfl rfl (nl rfl) rfl d_Reader_fail_38 ?_
    exact j_vret (pc := 41) C hr (fa, pl) c1 [0, 1] rfl (by decide) (by decide) (by decide) d_Reader_fail_41
  · refine j_aload_n (pc := 7) C d_Reader_fail_7 rfl 0 rfl ?_
    refine j_iload_n (pc := 8) C d_Reader_fail_8 rfl 1 rfl ?_
    refine j_put (pc := 9) C pf_Reader_44 0 (ws' := [(rd, .inr (5, [.int 3, .int pl, .ref ow, .ref tp, .ref lk, .int (nI ra), .int so, .int (nI rs), .long le, .int wo, .int nu, .int si])), (tp, .inr (0, [.ref td, .int (nI k)]))]) rfl rfl rfl (nl rfl) rfl d_Reader_fail_9 ?_
    refine j_aload_n (pc := 12) C d_Reader_fail_12 rfl 0 rfl ?_
    refine j_iload_n (pc := 13) C d_Reader_fail_13 rfl 2 rfl ?_
    refine j_put (pc := 14) C pf_Reader_9 0 (ws' := [(rd, .inr (5, [.int 3, .int v, .ref ow, .ref tp, .ref lk, .int (nI ra), .int so, .int (nI rs), .long le, .int wo, .int nu, .int si])), (tp, .inr (0, [.ref td, .int (nI k)]))]) rfl rfl rfl (nl rfl) rfl d_Reader_fail_14 ?_
    refine j_aload_n (pc := 17) C d_Reader_fail_17 rfl 0 rfl ?_
    refine j_aload_n (pc := 18) C d_Reader_fail_18 rfl 0 rfl ?_
    refine j_get (pc := 19) C gf_Reader_19 0 rfl rfl d_Reader_fail_19 ?_
    refine j_get (pc := 22) C gf_Reader_285 1 rfl rfl d_Reader_fail_22 ?_
    refine j_put (pc := 25) C pf_Reader_47 0 (ws' := [(rd, .inr (5, [.int 3, .int v, .ref ow, .ref tp, .ref lk, .int (nI k), .int so, .int (nI rs), .long le, .int wo, .int nu, .int si])), (tp, .inr (0, [.ref td, .int (nI k)]))]) rfl rfl rfl (nl rfl) rfl d_Reader_fail_25 ?_
    refine j_aload_n (pc := 28) C d_Reader_fail_28 rfl 0 rfl ?_
    refine j_aload_n (pc := 29) C d_Reader_fail_29 rfl 0 rfl ?_
    refine j_get (pc := 30) C gf_Reader_47 0 rfl rfl d_Reader_fail_30 ?_
    refine j_put (pc := 33) C pf_Reader_62 0 (ws' := [(rd, .inr (5, [.int 3, .int v, .ref ow, .ref tp, .ref lk, .int (nI k), .int so, .int (nI k), .long le, .int wo, .int nu, .int si])), (tp, .inr (0, [.ref td, .int (nI k)]))]) rfl rfl rfl (nl rfl) rfl d_Reader_fail_33 ?_
    refine j_aload_n (pc := 36) C d_Reader_fail_36 rfl 0 rfl ?_
    refine j_iconst (pc := 37) C (v := 0) d_Reader_fail_37 (by decide) ?_
    refine j_put (pc := 38) C pf_Reader_50 0 (ws' := [(rd, .inr (5, [.int 3, .int v, .ref ow, .ref tp, .ref lk, .int (nI k), .int 0, .int (nI k), .long le, .int wo, .int nu, .int si])), (tp, .inr (0, [.ref td, .int (nI k)]))]) rfl rfl rfl (nl rfl) rfl d_Reader_fail_38 ?_
    exact j_vret (pc := 41) C hr (3, v) (show ¬ (3 : Int32) = 0 by decide) [0, 1] rfl (by decide) (by decide) (by decide) d_Reader_fail_41
set_option maxHeartbeats 4000000 in
set_option maxRecDepth 100000 in
theorem c_r_fail_4 (l : Launch) (D : va_G) (y : Nat → ClassId) (rd : Nat) (ow : Nat) (tp : Nat) (lk : Nat) (td : Nat) (fa : Int32) (pl : Int32) (so : Int32) (le : Int64) (wo : Int32) (nu : Int32) (si : Int32) (ra : Nat) (rs : Nat) (k : Nat) (v : Int32)  : CT l D y ⟨"NineBoards$Reader", "fail", "(II)V"⟩ prog_8_method_31_code 3 none ({ frames := 0, cells := 0, slots := 0, locals := 0 } : Room) [.ref rd, .int 4, .int v] [(rd, .inr (5, [.int fa, .int pl, .ref ow, .ref tp, .ref lk, .int (nI ra), .int so, .int (nI rs), .long le, .int wo, .int nu, .int si])), (tp, .inr (0, [.ref td, .int (nI k)]))] (QV D [(rd, .inr (5, [.int fa, .int pl, .ref ow, .ref tp, .ref lk, .int (nI ra), .int so, .int (nI rs), .long le, .int wo, .int nu, .int si])), (tp, .inr (0, [.ref td, .int (nI k)]))] (fun (u : Int32 × Int32) => ¬ u.1 = 0) (fun u => [(rd, .inr (5, [.int u.1, .int u.2, .ref ow, .ref tp, .ref lk, .int (nI k), .int 0, .int (nI k), .long le, .int wo, .int nu, .int si])), (tp, .inr (0, [.ref td, .int (nI k)]))])) := by
  refine CT.of (by decide) (nb rfl) ?_
  intro p e s m args below meth c C hr
  refine j_lv (lv' := [(0, .ref rd), (1, .int 4), (2, .int v)]) rfl ?_
  refine j_aload_n (pc := 0) C d_Reader_fail_0 rfl 0 rfl ?_
  refine j_get (pc := 1) C gf_Reader_44 0 rfl rfl d_Reader_fail_1 ?_
  refine j_if_ne (pc := 4) C (tgt := 17) d_Reader_fail_4 (by decide) (fun c1 => ?_) (fun c1 => ?_)
  · refine j_aload_n (pc := 17) C d_Reader_fail_17 rfl 0 rfl ?_
    refine j_aload_n (pc := 18) C d_Reader_fail_18 rfl 0 rfl ?_
    refine j_get (pc := 19) C gf_Reader_19 0 rfl rfl d_Reader_fail_19 ?_
    refine j_get (pc := 22) C gf_Reader_285 1 rfl rfl d_Reader_fail_22 ?_
    refine j_put (pc := 25) C pf_Reader_47 0 (ws' := [(rd, .inr (5, [.int fa, .int pl, .ref ow, .ref tp, .ref lk, .int (nI k), .int so, .int (nI rs), .long le, .int wo, .int nu, .int si])), (tp, .inr (0, [.ref td, .int (nI k)]))]) rfl rfl rfl (nl rfl) rfl d_Reader_fail_25 ?_
    refine j_aload_n (pc := 28) C d_Reader_fail_28 rfl 0 rfl ?_
    refine j_aload_n (pc := 29) C d_Reader_fail_29 rfl 0 rfl ?_
    refine j_get (pc := 30) C gf_Reader_47 0 rfl rfl d_Reader_fail_30 ?_
    refine j_put (pc := 33) C pf_Reader_62 0 (ws' := [(rd, .inr (5, [.int fa, .int pl, .ref ow, .ref tp, .ref lk, .int (nI k), .int so, .int (nI k), .long le, .int wo, .int nu, .int si])), (tp, .inr (0, [.ref td, .int (nI k)]))]) rfl rfl rfl (nl rfl) rfl d_Reader_fail_33 ?_
    refine j_aload_n (pc := 36) C d_Reader_fail_36 rfl 0 rfl ?_
    refine j_iconst (pc := 37) C (v := 0) d_Reader_fail_37 (by decide) ?_
    refine j_put (pc := 38) C pf_Reader_50 0 (ws' := [(rd, .inr (5, [.int fa, .int pl, .ref ow, .ref tp, .ref lk, .int (nI k), .int 0, .int (nI k), .long le, .int wo, .int nu, .int si])), (tp, .inr (0, [.ref td, .int (nI k)]))]) rfl rfl rfl (nl rfl) rfl d_Reader_fail_38 ?_
    exact j_vret (pc := 41) C hr (fa, pl) c1 [0, 1] rfl (by decide) (by decide) (by decide) d_Reader_fail_41
  · refine j_aload_n (pc := 7) C d_Reader_fail_7 rfl 0 rfl ?_
    refine j_iload_n (pc := 8) C d_Reader_fail_8 rfl 1 rfl ?_
    refine j_put (pc := 9) C pf_Reader_44 0 (ws' := [(rd, .inr (5, [.int 4, .int pl, .ref ow, .ref tp, .ref lk, .int (nI ra), .int so, .int (nI rs), .long le, .int wo, .int nu, .int si])), (tp, .inr (0, [.ref td, .int (nI k)]))]) rfl rfl rfl (nl rfl) rfl d_Reader_fail_9 ?_
    refine j_aload_n (pc := 12) C d_Reader_fail_12 rfl 0 rfl ?_
    refine j_iload_n (pc := 13) C d_Reader_fail_13 rfl 2 rfl ?_
    refine j_put (pc := 14) C pf_Reader_9 0 (ws' := [(rd, .inr (5, [.int 4, .int v, .ref ow, .ref tp, .ref lk, .int (nI ra), .int so, .int (nI rs), .long le, .int wo, .int nu, .int si])), (tp, .inr (0, [.ref td, .int (nI k)]))]) rfl rfl rfl (nl rfl) rfl d_Reader_fail_14 ?_
    refine j_aload_n (pc := 17) C d_Reader_fail_17 rfl 0 rfl ?_
    refine j_aload_n (pc := 18) C d_Reader_fail_18 rfl 0 rfl ?_
    refine j_get (pc := 19) C gf_Reader_19 0 rfl rfl d_Reader_fail_19 ?_
    refine j_get (pc := 22) C gf_Reader_285 1 rfl rfl d_Reader_fail_22 ?_
    refine j_put (pc := 25) C pf_Reader_47 0 (ws' := [(rd, .inr (5, [.int 4, .int v, .ref ow, .ref tp, .ref lk, .int (nI k), .int so, .int (nI rs), .long le, .int wo, .int nu, .int si])), (tp, .inr (0, [.ref td, .int (nI k)]))]) rfl rfl rfl (nl rfl) rfl d_Reader_fail_25 ?_
    refine j_aload_n (pc := 28) C d_Reader_fail_28 rfl 0 rfl ?_
    refine j_aload_n (pc := 29) C d_Reader_fail_29 rfl 0 rfl ?_
    refine j_get (pc := 30) C gf_Reader_47 0 rfl rfl d_Reader_fail_30 ?_
    refine j_put (pc := 33) C pf_Reader_62 0 (ws' := [(rd, .inr (5, [.int 4, .int v, .ref ow, .ref tp, .ref lk, .int (nI k), .int so, .int (nI k), .long le, .int wo, .int nu, .int si])), (tp, .inr (0, [.ref td, .int (nI k)]))]) rfl rfl rfl (nl rfl) rfl d_Reader_fail_33 ?_
    refine j_aload_n (pc := 36) C d_Reader_fail_36 rfl 0 rfl ?_
    refine j_iconst (pc := 37) C (v := 0) d_Reader_fail_37 (by decide) ?_
    refine j_put (pc := 38) C pf_Reader_50 0 (ws' := [(rd, .inr (5, [.int 4, .int v, .ref ow, .ref tp, .ref lk, .int (nI k), .int 0, .int (nI k), .long le, .int wo, .int nu, .int si])), (tp, .inr (0, [.ref td, .int (nI k)]))]) rfl rfl rfl (nl rfl) rfl d_Reader_fail_38 ?_
    exact j_vret (pc := 41) C hr (4, v) (show ¬ (4 : Int32) = 0 by decide) [0, 1] rfl (by decide) (by decide) (by decide) d_Reader_fail_41
set_option maxHeartbeats 4000000 in
set_option maxRecDepth 100000 in
theorem c_r_fail_5 (l : Launch) (D : va_G) (y : Nat → ClassId) (rd : Nat) (ow : Nat) (tp : Nat) (lk : Nat) (td : Nat) (fa : Int32) (pl : Int32) (so : Int32) (le : Int64) (wo : Int32) (nu : Int32) (si : Int32) (ra : Nat) (rs : Nat) (k : Nat) (v : Int32)  : CT l D y ⟨"NineBoards$Reader", "fail", "(II)V"⟩ prog_8_method_31_code 3 none ({ frames := 0, cells := 0, slots := 0, locals := 0 } : Room) [.ref rd, .int 5, .int v] [(rd, .inr (5, [.int fa, .int pl, .ref ow, .ref tp, .ref lk, .int (nI ra), .int so, .int (nI rs), .long le, .int wo, .int nu, .int si])), (tp, .inr (0, [.ref td, .int (nI k)]))] (QV D [(rd, .inr (5, [.int fa, .int pl, .ref ow, .ref tp, .ref lk, .int (nI ra), .int so, .int (nI rs), .long le, .int wo, .int nu, .int si])), (tp, .inr (0, [.ref td, .int (nI k)]))] (fun (u : Int32 × Int32) => ¬ u.1 = 0) (fun u => [(rd, .inr (5, [.int u.1, .int u.2, .ref ow, .ref tp, .ref lk, .int (nI k), .int 0, .int (nI k), .long le, .int wo, .int nu, .int si])), (tp, .inr (0, [.ref td, .int (nI k)]))])) := by
  refine CT.of (by decide) (nb rfl) ?_
  intro p e s m args below meth c C hr
  refine j_lv (lv' := [(0, .ref rd), (1, .int 5), (2, .int v)]) rfl ?_
  refine j_aload_n (pc := 0) C d_Reader_fail_0 rfl 0 rfl ?_
  refine j_get (pc := 1) C gf_Reader_44 0 rfl rfl d_Reader_fail_1 ?_
  refine j_if_ne (pc := 4) C (tgt := 17) d_Reader_fail_4 (by decide) (fun c1 => ?_) (fun c1 => ?_)
  · refine j_aload_n (pc := 17) C d_Reader_fail_17 rfl 0 rfl ?_
    refine j_aload_n (pc := 18) C d_Reader_fail_18 rfl 0 rfl ?_
    refine j_get (pc := 19) C gf_Reader_19 0 rfl rfl d_Reader_fail_19 ?_
    refine j_get (pc := 22) C gf_Reader_285 1 rfl rfl d_Reader_fail_22 ?_
    refine j_put (pc := 25) C pf_Reader_47 0 (ws' := [(rd, .inr (5, [.int fa, .int pl, .ref ow, .ref tp, .ref lk, .int (nI k), .int so, .int (nI rs), .long le, .int wo, .int nu, .int si])), (tp, .inr (0, [.ref td, .int (nI k)]))]) rfl rfl rfl (nl rfl) rfl d_Reader_fail_25 ?_
    refine j_aload_n (pc := 28) C d_Reader_fail_28 rfl 0 rfl ?_
    refine j_aload_n (pc := 29) C d_Reader_fail_29 rfl 0 rfl ?_
    refine j_get (pc := 30) C gf_Reader_47 0 rfl rfl d_Reader_fail_30 ?_
    refine j_put (pc := 33) C pf_Reader_62 0 (ws' := [(rd, .inr (5, [.int fa, .int pl, .ref ow, .ref tp, .ref lk, .int (nI k), .int so, .int (nI k), .long le, .int wo, .int nu, .int si])), (tp, .inr (0, [.ref td, .int (nI k)]))]) rfl rfl rfl (nl rfl) rfl d_Reader_fail_33 ?_
    refine j_aload_n (pc := 36) C d_Reader_fail_36 rfl 0 rfl ?_
    refine j_iconst (pc := 37) C (v := 0) d_Reader_fail_37 (by decide) ?_
    refine j_put (pc := 38) C pf_Reader_50 0 (ws' := [(rd, .inr (5, [.int fa, .int pl, .ref ow, .ref tp, .ref lk, .int (nI k), .int 0, .int (nI k), .long le, .int wo, .int nu, .int si])), (tp, .inr (0, [.ref td, .int (nI k)]))]) rfl rfl rfl (nl rfl) rfl d_Reader_fail_38 ?_
    exact j_vret (pc := 41) C hr (fa, pl) c1 [0, 1] rfl (by decide) (by decide) (by decide) d_Reader_fail_41
  · refine j_aload_n (pc := 7) C d_Reader_fail_7 rfl 0 rfl ?_
    refine j_iload_n (pc := 8) C d_Reader_fail_8 rfl 1 rfl ?_
    refine j_put (pc := 9) C pf_Reader_44 0 (ws' := [(rd, .inr (5, [.int 5, .int pl, .ref ow, .ref tp, .ref lk, .int (nI ra), .int so, .int (nI rs), .long le, .int wo, .int nu, .int si])), (tp, .inr (0, [.ref td, .int (nI k)]))]) rfl rfl rfl (nl rfl) rfl d_Reader_fail_9 ?_
    refine j_aload_n (pc := 12) C d_Reader_fail_12 rfl 0 rfl ?_
    refine j_iload_n (pc := 13) C d_Reader_fail_13 rfl 2 rfl ?_
    refine j_put (pc := 14) C pf_Reader_9 0 (ws' := [(rd, .inr (5, [.int 5, .int v, .ref ow, .ref tp, .ref lk, .int (nI ra), .int so, .int (nI rs), .long le, .int wo, .int nu, .int si])), (tp, .inr (0, [.ref td, .int (nI k)]))]) rfl rfl rfl (nl rfl) rfl d_Reader_fail_14 ?_
    refine j_aload_n (pc := 17) C d_Reader_fail_17 rfl 0 rfl ?_
    refine j_aload_n (pc := 18) C d_Reader_fail_18 rfl 0 rfl ?_
    refine j_get (pc := 19) C gf_Reader_19 0 rfl rfl d_Reader_fail_19 ?_
    refine j_get (pc := 22) C gf_Reader_285 1 rfl rfl d_Reader_fail_22 ?_
    refine j_put (pc := 25) C pf_Reader_47 0 (ws' := [(rd, .inr (5, [.int 5, .int v, .ref ow, .ref tp, .ref lk, .int (nI k), .int so, .int (nI rs), .long le, .int wo, .int nu, .int si])), (tp, .inr (0, [.ref td, .int (nI k)]))]) rfl rfl rfl (nl rfl) rfl d_Reader_fail_25 ?_
    refine j_aload_n (pc := 28) C d_Reader_fail_28 rfl 0 rfl ?_
    refine j_aload_n (pc := 29) C d_Reader_fail_29 rfl 0 rfl ?_
    refine j_get (pc := 30) C gf_Reader_47 0 rfl rfl d_Reader_fail_30 ?_
    refine j_put (pc := 33) C pf_Reader_62 0 (ws' := [(rd, .inr (5, [.int 5, .int v, .ref ow, .ref tp, .ref lk, .int (nI k), .int so, .int (nI k), .long le, .int wo, .int nu, .int si])), (tp, .inr (0, [.ref td, .int (nI k)]))]) rfl rfl rfl (nl rfl) rfl d_Reader_fail_33 ?_
    refine j_aload_n (pc := 36) C d_Reader_fail_36 rfl 0 rfl ?_
    refine j_iconst (pc := 37) C (v := 0) d_Reader_fail_37 (by decide) ?_
    refine j_put (pc := 38) C pf_Reader_50 0 (ws' := [(rd, .inr (5, [.int 5, .int v, .ref ow, .ref tp, .ref lk, .int (nI k), .int 0, .int (nI k), .long le, .int wo, .int nu, .int si])), (tp, .inr (0, [.ref td, .int (nI k)]))]) rfl rfl rfl (nl rfl) rfl d_Reader_fail_38 ?_
    exact j_vret (pc := 41) C hr (5, v) (show ¬ (5 : Int32) = 0 by decide) [0, 1] rfl (by decide) (by decide) (by decide) d_Reader_fail_41
theorem d_Reader_knowWord_10 : decode prog_8_method_34_code 10 = .ok (.iload_n 1, 1) := by decide +kernel
theorem d_Reader_knowWord_11 : decode prog_8_method_34_code 11 = .ok (.aload_n 0, 1) := by decide +kernel
theorem d_Reader_knowWord_12 : decode prog_8_method_34_code 12 = .ok (.getfield 47, 3) := by decide +kernel
theorem d_Reader_knowWord_15 : decode prog_8_method_34_code 15 = .ok (.if_icmp .ge 53, 3) := by decide +kernel
theorem d_Reader_knowWord_18 : decode prog_8_method_34_code 18 = .ok (.iload_n 1, 1) := by decide +kernel
theorem d_Reader_knowWord_19 : decode prog_8_method_34_code 19 = .ok (.aload_n 0, 1) := by decide +kernel
theorem d_Reader_knowWord_20 : decode prog_8_method_34_code 20 = .ok (.getfield 62, 3) := by decide +kernel
theorem gf_Reader_62 : GF "NineBoards$Reader" 62 5 7 := ⟨_, _, _, rfl, ci_Reader, by decide, (mt_2 (List.mem_of_getElem? (i := 171) rfl) rfl)⟩
theorem d_Reader_knowWord_23 : decode prog_8_method_34_code 23 = .ok (.bipush 12, 2) := by decide +kernel
theorem d_Reader_knowWord_25 : decode prog_8_method_34_code 25 = .ok (.iadd, 1) := by decide +kernel
theorem d_Reader_knowWord_26 : decode prog_8_method_34_code 26 = .ok (.if_icmp .ge 42, 3) := by decide +kernel
theorem d_Reader_knowWord_29 : decode prog_8_method_34_code 29 = .ok (.aload_n 0, 1) := by decide +kernel
theorem d_Reader_knowWord_30 : decode prog_8_method_34_code 30 = .ok (.dup, 1) := by decide +kernel
theorem d_Reader_knowWord_31 : decode prog_8_method_34_code 31 = .ok (.getfield 278, 3) := by decide +kernel
theorem gf_Reader_278 : GF "NineBoards$Reader" 278 5 8 := ⟨_, _, _, rfl, ci_Reader, by decide, (mt_2 (List.mem_of_getElem? (i := 172) rfl) rfl)⟩
theorem d_Reader_knowWord_34 : decode prog_8_method_34_code 34 = .ok (.aload_n 0, 1) := by decide +kernel
theorem d_Reader_knowWord_35 : decode prog_8_method_34_code 35 = .ok (.getfield 19, 3) := by decide +kernel
theorem d_Reader_knowWord_38 : decode prog_8_method_34_code 38 = .ok (.getfield 288, 3) := by decide +kernel
theorem gf_Reader_288 : GF "NineBoards$Reader" 288 0 0 := ⟨_, _, _, rfl, ci_Bytes, by decide, (mt_1 (List.mem_of_getElem? (i := 37) rfl) rfl)⟩
theorem d_Reader_knowWord_41 : decode prog_8_method_34_code 41 = .ok (.iload_n 1, 1) := by decide +kernel
theorem d_Reader_knowWord_42 : decode prog_8_method_34_code 42 = .ok (.iaload, 1) := by decide +kernel
theorem d_Reader_knowWord_43 : decode prog_8_method_34_code 43 = .ok (.bipush 97, 2) := by decide +kernel
theorem d_Reader_knowWord_45 : decode prog_8_method_34_code 45 = .ok (.isub, 1) := by decide +kernel
theorem d_Reader_knowWord_46 : decode prog_8_method_34_code 46 = .ok (.iconst 1, 1) := by decide +kernel
theorem d_Reader_knowWord_47 : decode prog_8_method_34_code 47 = .ok (.iadd, 1) := by decide +kernel
theorem d_Reader_knowWord_48 : decode prog_8_method_34_code 48 = .ok (.i2l, 1) := by decide +kernel
theorem d_Reader_knowWord_49 : decode prog_8_method_34_code 49 = .ok (.iconst 5, 1) := by decide +kernel
theorem d_Reader_knowWord_50 : decode prog_8_method_34_code 50 = .ok (.iload_n 1, 1) := by decide +kernel
theorem d_Reader_knowWord_51 : decode prog_8_method_34_code 51 = .ok (.aload_n 0, 1) := by decide +kernel
theorem d_Reader_knowWord_52 : decode prog_8_method_34_code 52 = .ok (.getfield 62, 3) := by decide +kernel
theorem d_Reader_knowWord_55 : decode prog_8_method_34_code 55 = .ok (.isub, 1) := by decide +kernel
theorem d_Reader_knowWord_56 : decode prog_8_method_34_code 56 = .ok (.imul, 1) := by decide +kernel
theorem d_Reader_knowWord_57 : decode prog_8_method_34_code 57 = .ok (.lshl, 1) := by decide +kernel
theorem d_Reader_knowWord_58 : decode prog_8_method_34_code 58 = .ok (.lor, 1) := by decide +kernel
theorem d_Reader_knowWord_59 : decode prog_8_method_34_code 59 = .ok (.putfield 278, 3) := by decide +kernel
theorem pf_Reader_278 : PF "NineBoards$Reader" 278 5 8 (.long) false := ⟨_, _, _, ct_Reader, rfl, ci_Reader, by decide, (mt_2 (List.mem_of_getElem? (i := 172) rfl) rfl), cp_Reader, cn_Reader, rfl, by decide +kernel, (fun h => by cases h)⟩
theorem d_Reader_knowWord_62 : decode prog_8_method_34_code 62 = .ok (.iinc 1 1, 3) := by decide +kernel
theorem d_Reader_knowWord_65 : decode prog_8_method_34_code 65 = .ok (.goto (-55), 3) := by decide +kernel
theorem d_Reader_knowWord_75 : decode prog_8_method_34_code 75 = .ok (.iload_n 1, 1) := by decide +kernel
theorem d_Reader_knowWord_76 : decode prog_8_method_34_code 76 = .ok (.bipush 33, 2) := by decide +kernel
theorem d_Reader_knowWord_78 : decode prog_8_method_34_code 78 = .ok (.if_icmp .ge 28, 3) := by decide +kernel
theorem d_Reader_knowWord_81 : decode prog_8_method_34_code 81 = .ok (.aload_n 0, 1) := by decide +kernel
theorem d_Reader_knowWord_82 : decode prog_8_method_34_code 82 = .ok (.getfield 15, 3) := by decide +kernel
theorem gf_Reader_15 : GF "NineBoards$Reader" 15 5 2 := ⟨_, _, _, rfl, ci_Reader, by decide, (mt_2 (List.mem_of_getElem? (i := 166) rfl) rfl)⟩
theorem d_Reader_knowWord_85 : decode prog_8_method_34_code 85 = .ok (.iload_n 1, 1) := by decide +kernel
theorem d_Reader_knowWord_86 : decode prog_8_method_34_code 86 = .ok (.laload, 1) := by decide +kernel
theorem d_Reader_knowWord_87 : decode prog_8_method_34_code 87 = .ok (.aload_n 0, 1) := by decide +kernel
theorem d_Reader_knowWord_88 : decode prog_8_method_34_code 88 = .ok (.getfield 278, 3) := by decide +kernel
theorem d_Reader_knowWord_91 : decode prog_8_method_34_code 91 = .ok (.lcmp, 1) := by decide +kernel
theorem d_Reader_knowWord_92 : decode prog_8_method_34_code 92 = .ok (.ifCond .ne 8, 3) := by decide +kernel
theorem d_Reader_knowWord_100 : decode prog_8_method_34_code 100 = .ok (.iinc 1 1, 3) := by decide +kernel
theorem d_Reader_knowWord_103 : decode prog_8_method_34_code 103 = .ok (.goto (-28), 3) := by decide +kernel
theorem d_Reader_knowWord_95 : decode prog_8_method_34_code 95 = .ok (.aload_n 0, 1) := by decide +kernel
theorem d_Reader_knowWord_96 : decode prog_8_method_34_code 96 = .ok (.iload_n 1, 1) := by decide +kernel
theorem d_Reader_knowWord_97 : decode prog_8_method_34_code 97 = .ok (.putfield 80, 3) := by decide +kernel
theorem pf_Reader_80 : PF "NineBoards$Reader" 80 5 9 (.int) false := ⟨_, _, _, ct_Reader, rfl, ci_Reader, by decide, (mt_2 (List.mem_of_getElem? (i := 173) rfl) rfl), cp_Reader, cn_Reader, rfl, by decide +kernel, (fun h => by cases h)⟩
theorem d_Reader_knowWord_0 : decode prog_8_method_34_code 0 = .ok (.aload_n 0, 1) := by decide +kernel
theorem d_Reader_knowWord_1 : decode prog_8_method_34_code 1 = .ok (.lconst 0, 1) := by decide +kernel
theorem d_Reader_knowWord_2 : decode prog_8_method_34_code 2 = .ok (.putfield 278, 3) := by decide +kernel
theorem d_Reader_knowWord_5 : decode prog_8_method_34_code 5 = .ok (.aload_n 0, 1) := by decide +kernel
theorem d_Reader_knowWord_6 : decode prog_8_method_34_code 6 = .ok (.getfield 62, 3) := by decide +kernel
theorem d_Reader_knowWord_9 : decode prog_8_method_34_code 9 = .ok (.istore_n 1, 1) := by decide +kernel
theorem d_Reader_knowWord_68 : decode prog_8_method_34_code 68 = .ok (.aload_n 0, 1) := by decide +kernel
theorem d_Reader_knowWord_69 : decode prog_8_method_34_code 69 = .ok (.iconst (-1), 1) := by decide +kernel
theorem d_Reader_knowWord_70 : decode prog_8_method_34_code 70 = .ok (.putfield 80, 3) := by decide +kernel
theorem d_Reader_knowWord_73 : decode prog_8_method_34_code 73 = .ok (.iconst 0, 1) := by decide +kernel
theorem d_Reader_knowWord_74 : decode prog_8_method_34_code 74 = .ok (.istore_n 1, 1) := by decide +kernel
theorem d_Reader_knowWord_106 : decode prog_8_method_34_code 106 = .ok (.return_, 1) := by decide +kernel
set_option maxHeartbeats 4000000 in
set_option maxRecDepth 100000 in
theorem lp_knowWord {p : Program} {l : Launch} {e : Env} {s : State} {m : MethodId} {args : Array Value} {below : List Frame} {meth : Method} {c : Code} {Q : State → Prop} {D : va_G} {y : Nat → ClassId} {A : Nat → Prop} (C : Cx p s m args meth c D y A prog_8_method_34_code 2 "NineBoards$Reader" "knowWord") (rd : Nat) (ow : Nat) (tp : Nat) (lk : Nat) (td : Nat) (fa : Int32) (pl : Int32) (so : Int32) (wo : Int32) (nu : Int32) (si : Int32) (ra : Nat) (rs : Nat) (k : Nat) (tf : Nat → Int32) (ww : Nat → Int64) (ha : ra ≤ k) (hs : rs ≤ ra) (hk : k ≤ 1600) (kx : ∀ (q : Nat) (x : Int64), J p l e ({ frames := 0, cells := 0, slots := 0, locals := 0 } : Room) s m args below meth c Q D A 2 [(rd, .inr (5, [.int fa, .int pl, .ref ow, .ref tp, .ref lk, .int (nI ra), .int so, .int (nI rs), .long x, .int wo, .int nu, .int si])), (tp, .inr (0, [.ref td, .int (nI k)])), (td, .inl (y 0, 1600, .inl tf)), (ow, .inl (y 1, 33, .inr (.inl ww)))] [(0, .ref rd), (1, .int (nI q))] 0 0 68 []) : ∀ (n : Nat) (q : Nat) (x : Int64), (q + n = ra) → J p l e ({ frames := 0, cells := 0, slots := 0, locals := 0 } : Room) s m args below meth c Q D A 2 [(rd, .inr (5, [.int fa, .int pl, .ref ow, .ref tp, .ref lk, .int (nI ra), .int so, .int (nI rs), .long x, .int wo, .int nu, .int si])), (tp, .inr (0, [.ref td, .int (nI k)])), (td, .inl (y 0, 1600, .inl tf)), (ow, .inl (y 1, 33, .inr (.inl ww)))] [(0, .ref rd), (1, .int (nI q))] 0 0 10 [] := by
  intro n
  induction n with
  | zero =>
    intro q x hq
    obtain rfl : q = ra := by omega
    refine j_iload_n (pc := 10) C d_Reader_knowWord_10 rfl 1 rfl ?_
    refine j_aload_n (pc := 11) C d_Reader_knowWord_11 rfl 0 rfl ?_
    refine j_get (pc := 12) C gf_Reader_47 0 rfl rfl d_Reader_knowWord_12 ?_
    refine j_icmp_geT (pc := 15) C (tgt := 68) d_Reader_knowWord_15 (by decide) (Int32.le_refl _) ?_
    exact kx _ _
  | succ n ih =>
    intro q x hq
    refine j_iload_n (pc := 10) C d_Reader_knowWord_10 rfl 1 rfl ?_
    refine j_aload_n (pc := 11) C d_Reader_knowWord_11 rfl 0 rfl ?_
    refine j_get (pc := 12) C gf_Reader_47 0 rfl rfl d_Reader_knowWord_12 ?_
    refine j_icmp_geF (pc := 15) C (tgt := 68) d_Reader_knowWord_15 (by decide) (nI_ge (by omega) (by omega)) ?_
    refine j_iload_n (pc := 18) C d_Reader_knowWord_18 rfl 1 rfl ?_
    refine j_aload_n (pc := 19) C d_Reader_knowWord_19 rfl 0 rfl ?_
    refine j_get (pc := 20) C gf_Reader_62 0 rfl rfl d_Reader_knowWord_20 ?_
    refine j_bipush (pc := 23) C (v := 12) d_Reader_knowWord_23 (by decide) ?_
    refine j_iadd (pc := 25) C (v := (nI rs) + 12) d_Reader_knowWord_25 rfl ?_
    refine j_icmp_ge (pc := 26) C (tgt := 68) d_Reader_knowWord_26 (by decide) (fun c1 => ?_) (fun c1 => ?_)
    · exact kx _ _
    · refine j_aload_n (pc := 29) C d_Reader_knowWord_29 rfl 0 rfl ?_
      refine j_dup (pc := 30) C d_Reader_knowWord_30 rfl ?_
      refine j_get (pc := 31) C gf_Reader_278 0 rfl rfl d_Reader_knowWord_31 ?_
      refine j_aload_n (pc := 34) C d_Reader_knowWord_34 rfl 0 rfl ?_
      refine j_get (pc := 35) C gf_Reader_19 0 rfl rfl d_Reader_knowWord_35 ?_
      refine j_get (pc := 38) C gf_Reader_288 1 rfl rfl d_Reader_knowWord_38 ?_
      refine j_iload_n (pc := 41) C d_Reader_knowWord_41 rfl 1 rfl ?_
      refine j_iald (pc := 42) C 2 rfl (v := tf (nI q).toNatClampNeg) (vp_in_nI (by omega) (by decide)) rfl d_Reader_knowWord_42 ?_
      refine j_bipush (pc := 43) C (v := 97) d_Reader_knowWord_43 (by decide) ?_
      refine j_isub (pc := 45) C (v := (tf (nI q).toNatClampNeg) - 97) d_Reader_knowWord_45 rfl ?_
      refine j_iconst (pc := 46) C (v := 1) d_Reader_knowWord_46 (by decide) ?_
      refine j_iadd (pc := 47) C (v := ((tf (nI q).toNatClampNeg) - 97) + 1) d_Reader_knowWord_47 rfl ?_
      refine j_i2l (pc := 48) C (v := (((tf (nI q).toNatClampNeg) - 97) + 1).toInt64) d_Reader_knowWord_48 rfl ?_
      refine j_iconst (pc := 49) C (v := 5) d_Reader_knowWord_49 (by decide) ?_
      refine j_iload_n (pc := 50) C d_Reader_knowWord_50 rfl 1 rfl ?_
      refine j_aload_n (pc := 51) C d_Reader_knowWord_51 rfl 0 rfl ?_
      refine j_get (pc := 52) C gf_Reader_62 0 rfl rfl d_Reader_knowWord_52 ?_
      refine j_isub (pc := 55) C (v := (nI q) - (nI rs)) d_Reader_knowWord_55 rfl ?_
      refine j_imul (pc := 56) C (v := 5 * ((nI q) - (nI rs))) d_Reader_knowWord_56 rfl ?_
      refine j_lshl (pc := 57) C (v := ((((tf (nI q).toNatClampNeg) - 97) + 1).toInt64) <<< ((5 * ((nI q) - (nI rs))).toInt64 &&& 63)) d_Reader_knowWord_57 rfl ?_
      refine j_lor (pc := 58) C (v := x ||| (((((tf (nI q).toNatClampNeg) - 97) + 1).toInt64) <<< ((5 * ((nI q) - (nI rs))).toInt64 &&& 63))) d_Reader_knowWord_58 rfl ?_
      refine j_put (pc := 59) C pf_Reader_278 0 (ws' := [(rd, .inr (5, [.int fa, .int pl, .ref ow, .ref tp, .ref lk, .int (nI ra), .int so, .int (nI rs), .long (x ||| (((((tf (nI q).toNatClampNeg) - 97) + 1).toInt64) <<< ((5 * ((nI q) - (nI rs))).toInt64 &&& 63))), .int wo, .int nu, .int si])), (tp, .inr (0, [.ref td, .int (nI k)])), (td, .inl (y 0, 1600, .inl tf)), (ow, .inl (y 1, 33, .inr (.inl ww)))]) rfl rfl rfl (nl rfl) rfl d_Reader_knowWord_59 ?_
      refine j_iinc (pc := 62) C (v := nI (q + 1)) (lv' := [(1, .int (nI (q + 1))), (0, .ref rd)]) d_Reader_knowWord_62 1 rfl (nI_1 _) (by decide) rfl ?_
      refine j_goto (pc := 65) C (tgt := 10) d_Reader_knowWord_65 (by decide) ?_
      refine j_locs (lv' := [(0, .ref rd), (1, .int (nI (q + 1)))]) [1, 0] rfl ?_
      exact ih (q + 1) _ (by omega)
set_option maxHeartbeats 4000000 in
set_option maxRecDepth 100000 in
theorem lp_knowWord2 {p : Program} {l : Launch} {e : Env} {s : State} {m : MethodId} {args : Array Value} {below : List Frame} {meth : Method} {c : Code} {Q : State → Prop} {D : va_G} {y : Nat → ClassId} {A : Nat → Prop} (C : Cx p s m args meth c D y A prog_8_method_34_code 2 "NineBoards$Reader" "knowWord") (rd : Nat) (ow : Nat) (tp : Nat) (lk : Nat) (td : Nat) (fa : Int32) (pl : Int32) (so : Int32) (nu : Int32) (si : Int32) (ra : Nat) (rs : Nat) (k : Nat) (tf : Nat → Int32) (ww : Nat → Int64) (x : Int64) (kx : ∀ wo : Int32, J p l e ({ frames := 0, cells := 0, slots := 0, locals := 0 } : Room) s m args below meth c Q D A 2 [(rd, .inr (5, [.int fa, .int pl, .ref ow, .ref tp, .ref lk, .int (nI ra), .int so, .int (nI rs), .long x, .int wo, .int nu, .int si])), (tp, .inr (0, [.ref td, .int (nI k)])), (td, .inl (y 0, 1600, .inl tf)), (ow, .inl (y 1, 33, .inr (.inl ww)))] [(0, .ref rd), (1, .int (nI 33))] 0 0 106 []) : ∀ (n : Nat) (q : Nat) (wo : Int32), (q + n = 33) → J p l e ({ frames := 0, cells := 0, slots := 0, locals := 0 } : Room) s m args below meth c Q D A 2 [(rd, .inr (5, [.int fa, .int pl, .ref ow, .ref tp, .ref lk, .int (nI ra), .int so, .int (nI rs), .long x, .int wo, .int nu, .int si])), (tp, .inr (0, [.ref td, .int (nI k)])), (td, .inl (y 0, 1600, .inl tf)), (ow, .inl (y 1, 33, .inr (.inl ww)))] [(0, .ref rd), (1, .int (nI q))] 0 0 75 [] := by
  intro n
  induction n with
  | zero =>
    intro q wo hq
    obtain rfl : q = 33 := by omega
    refine j_iload_n (pc := 75) C d_Reader_knowWord_75 rfl 1 rfl ?_
    refine j_bipush (pc := 76) C (v := 33) d_Reader_knowWord_76 (by decide) ?_
    refine j_icmp_geT (pc := 78) C (tgt := 106) d_Reader_knowWord_78 (by decide) (by decide) ?_
    exact kx _
  | succ n ih =>
    intro q wo hq
    refine j_iload_n (pc := 75) C d_Reader_knowWord_75 rfl 1 rfl ?_
    refine j_bipush (pc := 76) C (v := 33) d_Reader_knowWord_76 (by decide) ?_
    refine j_icmp_geF (pc := 78) C (tgt := 106) d_Reader_knowWord_78 (by decide) (show ¬ nI 33 ≤ nI q from nI_ge (by omega) (by decide)) ?_
    refine j_aload_n (pc := 81) C d_Reader_knowWord_81 rfl 0 rfl ?_
    refine j_get (pc := 82) C gf_Reader_15 0 rfl rfl d_Reader_knowWord_82 ?_
    refine j_iload_n (pc := 85) C d_Reader_knowWord_85 rfl 1 rfl ?_
    refine j_lald (pc := 86) C 3 rfl (v := ww (nI q).toNatClampNeg) (vp_in_nI (by omega) (by decide)) rfl d_Reader_knowWord_86 ?_
    refine j_aload_n (pc := 87) C d_Reader_knowWord_87 rfl 0 rfl ?_
    refine j_get (pc := 88) C gf_Reader_278 0 rfl rfl d_Reader_knowWord_88 ?_
    refine j_lcmp (pc := 91) C (v := lg_cmp (ww (nI q).toNatClampNeg) x) d_Reader_knowWord_91 rfl ?_
    refine j_if_ne (pc := 92) C (tgt := 100) d_Reader_knowWord_92 (by decide) (fun c1 => ?_) (fun c1 => ?_)
    · refine j_iinc (pc := 100) C (v := nI (q + 1)) (lv' := [(1, .int (nI (q + 1))), (0, .ref rd)]) d_Reader_knowWord_100 1 rfl (nI_1 _) (by decide) rfl ?_
      refine j_goto (pc := 103) C (tgt := 75) d_Reader_knowWord_103 (by decide) ?_
      refine j_locs (lv' := [(0, .ref rd), (1, .int (nI (q + 1)))]) [1, 0] rfl ?_
      exact ih (q + 1) _ (by omega)
    · refine j_aload_n (pc := 95) C d_Reader_knowWord_95 rfl 0 rfl ?_
      refine j_iload_n (pc := 96) C d_Reader_knowWord_96 rfl 1 rfl ?_
      refine j_put (pc := 97) C pf_Reader_80 0 (ws' := [(rd, .inr (5, [.int fa, .int pl, .ref ow, .ref tp, .ref lk, .int (nI ra), .int so, .int (nI rs), .long x, .int (nI q), .int nu, .int si])), (tp, .inr (0, [.ref td, .int (nI k)])), (td, .inl (y 0, 1600, .inl tf)), (ow, .inl (y 1, 33, .inr (.inl ww)))]) rfl rfl rfl (nl rfl) rfl d_Reader_knowWord_97 ?_
      refine j_iinc (pc := 100) C (v := nI (q + 1)) (lv' := [(1, .int (nI (q + 1))), (0, .ref rd)]) d_Reader_knowWord_100 1 rfl (nI_1 _) (by decide) rfl ?_
      refine j_goto (pc := 103) C (tgt := 75) d_Reader_knowWord_103 (by decide) ?_
      refine j_locs (lv' := [(0, .ref rd), (1, .int (nI (q + 1)))]) [1, 0] rfl ?_
      exact ih (q + 1) _ (by omega)
set_option maxHeartbeats 4000000 in
set_option maxRecDepth 100000 in
theorem c_r_knowWord (l : Launch) (D : va_G) (y : Nat → ClassId) (rd : Nat) (ow : Nat) (tp : Nat) (lk : Nat) (td : Nat) (fa : Int32) (pl : Int32) (so : Int32) (le : Int64) (wo : Int32) (nu : Int32) (si : Int32) (ra : Nat) (rs : Nat) (k : Nat) (tf : Nat → Int32) (ww : Nat → Int64) (ha : ra ≤ k) (hs : rs ≤ ra) (hk : k ≤ 1600) : CT l D y ⟨"NineBoards$Reader", "knowWord", "()V"⟩ prog_8_method_34_code 2 none ({ frames := 0, cells := 0, slots := 0, locals := 0 } : Room) [.ref rd] [(rd, .inr (5, [.int fa, .int pl, .ref ow, .ref tp, .ref lk, .int (nI ra), .int so, .int (nI rs), .long le, .int wo, .int nu, .int si])), (tp, .inr (0, [.ref td, .int (nI k)])), (td, .inl (y 0, 1600, .inl tf)), (ow, .inl (y 1, 33, .inr (.inl ww)))] (QV D [(rd, .inr (5, [.int fa, .int pl, .ref ow, .ref tp, .ref lk, .int (nI ra), .int so, .int (nI rs), .long le, .int wo, .int nu, .int si])), (tp, .inr (0, [.ref td, .int (nI k)])), (td, .inl (y 0, 1600, .inl tf)), (ow, .inl (y 1, 33, .inr (.inl ww)))] (fun (_ : Int64 × Int32) => True) (fun u => [(rd, .inr (5, [.int fa, .int pl, .ref ow, .ref tp, .ref lk, .int (nI ra), .int so, .int (nI rs), .long u.1, .int u.2, .int nu, .int si])), (tp, .inr (0, [.ref td, .int (nI k)])), (td, .inl (y 0, 1600, .inl tf)), (ow, .inl (y 1, 33, .inr (.inl ww)))])) := by
  refine CT.of (by decide) (nb rfl) ?_
  intro p e s m args below meth c C hr
  refine j_lv (lv' := [(0, .ref rd)]) rfl ?_
  refine j_aload_n (pc := 0) C d_Reader_knowWord_0 rfl 0 rfl ?_
  refine j_lconst (pc := 1) C (v := 0) d_Reader_knowWord_1 (by decide) ?_
  refine j_put (pc := 2) C pf_Reader_278 0 (ws' := [(rd, .inr (5, [.int fa, .int pl, .ref ow, .ref tp, .ref lk, .int (nI ra), .int so, .int (nI rs), .long 0, .int wo, .int nu, .int si])), (tp, .inr (0, [.ref td, .int (nI k)])), (td, .inl (y 0, 1600, .inl tf)), (ow, .inl (y 1, 33, .inr (.inl ww)))]) rfl rfl rfl (nl rfl) rfl d_Reader_knowWord_2 ?_
  refine j_aload_n (pc := 5) C d_Reader_knowWord_5 rfl 0 rfl ?_
  refine j_get (pc := 6) C gf_Reader_62 0 rfl rfl d_Reader_knowWord_6 ?_
  refine j_istore_n (pc := 9) C (lv' := [(1, .int (nI rs)), (0, .ref rd)]) d_Reader_knowWord_9 rfl (by decide) rfl ?_
  refine j_locs (lv' := [(0, .ref rd), (1, .int (nI rs))]) [1, 0] rfl ?_
  refine lp_knowWord C rd ow tp lk td fa pl so wo nu si ra rs k tf ww ha hs hk (fun q x => ?_) (ra - rs) rs _ (by omega)
  refine j_aload_n (pc := 68) C d_Reader_knowWord_68 rfl 0 rfl ?_
  refine j_iconst (pc := 69) C (v := (-1)) d_Reader_knowWord_69 (by decide) ?_
  refine j_put (pc := 70) C pf_Reader_80 0 (ws' := [(rd, .inr (5, [.int fa, .int pl, .ref ow, .ref tp, .ref lk, .int (nI ra), .int so, .int (nI rs), .long x, .int (-1), .int nu, .int si])), (tp, .inr (0, [.ref td, .int (nI k)])), (td, .inl (y 0, 1600, .inl tf)), (ow, .inl (y 1, 33, .inr (.inl ww)))]) rfl rfl rfl (nl rfl) rfl d_Reader_knowWord_70 ?_
  refine j_iconst (pc := 73) C (v := 0) d_Reader_knowWord_73 (by decide) ?_
  refine j_istore_n (pc := 74) C (lv' := [(1, .int 0), (0, .ref rd)]) d_Reader_knowWord_74 rfl (by decide) rfl ?_
  refine j_locs (lv' := [(0, .ref rd), (1, .int 0)]) [1, 0] rfl ?_
  refine j_lv (lv' := [(0, .ref rd), (1, .int (nI 0))]) rfl ?_
  refine lp_knowWord2 C rd ow tp lk td fa pl so nu si ra rs k tf ww x (fun wo => ?_) 33 0 _ (by omega)
  exact j_vret (pc := 106) C hr (x, wo) trivial [0, 1, 2, 3] rfl (by decide) (by decide) (by decide) d_Reader_knowWord_106
theorem d_Reader_knowNumber_10 : decode prog_8_method_35_code 10 = .ok (.iload_n 1, 1) := by decide +kernel
theorem d_Reader_knowNumber_11 : decode prog_8_method_35_code 11 = .ok (.aload_n 0, 1) := by decide +kernel
theorem d_Reader_knowNumber_12 : decode prog_8_method_35_code 12 = .ok (.getfield 47, 3) := by decide +kernel
theorem d_Reader_knowNumber_15 : decode prog_8_method_35_code 15 = .ok (.if_icmp .ge 43, 3) := by decide +kernel
theorem d_Reader_knowNumber_18 : decode prog_8_method_35_code 18 = .ok (.iload_n 1, 1) := by decide +kernel
theorem d_Reader_knowNumber_19 : decode prog_8_method_35_code 19 = .ok (.aload_n 0, 1) := by decide +kernel
theorem d_Reader_knowNumber_20 : decode prog_8_method_35_code 20 = .ok (.getfield 62, 3) := by decide +kernel
theorem d_Reader_knowNumber_23 : decode prog_8_method_35_code 23 = .ok (.iconst 4, 1) := by decide +kernel
theorem d_Reader_knowNumber_24 : decode prog_8_method_35_code 24 = .ok (.iadd, 1) := by decide +kernel
theorem d_Reader_knowNumber_25 : decode prog_8_method_35_code 25 = .ok (.if_icmp .ge 33, 3) := by decide +kernel
theorem d_Reader_knowNumber_28 : decode prog_8_method_35_code 28 = .ok (.aload_n 0, 1) := by decide +kernel
theorem d_Reader_knowNumber_29 : decode prog_8_method_35_code 29 = .ok (.bipush 10, 2) := by decide +kernel
theorem d_Reader_knowNumber_31 : decode prog_8_method_35_code 31 = .ok (.aload_n 0, 1) := by decide +kernel
theorem d_Reader_knowNumber_32 : decode prog_8_method_35_code 32 = .ok (.getfield 275, 3) := by decide +kernel
theorem gf_Reader_275 : GF "NineBoards$Reader" 275 5 10 := ⟨_, _, _, rfl, ci_Reader, by decide, (mt_2 (List.mem_of_getElem? (i := 174) rfl) rfl)⟩
theorem d_Reader_knowNumber_35 : decode prog_8_method_35_code 35 = .ok (.imul, 1) := by decide +kernel
theorem d_Reader_knowNumber_36 : decode prog_8_method_35_code 36 = .ok (.aload_n 0, 1) := by decide +kernel
theorem d_Reader_knowNumber_37 : decode prog_8_method_35_code 37 = .ok (.getfield 19, 3) := by decide +kernel
theorem d_Reader_knowNumber_40 : decode prog_8_method_35_code 40 = .ok (.getfield 288, 3) := by decide +kernel
theorem d_Reader_knowNumber_43 : decode prog_8_method_35_code 43 = .ok (.iload_n 1, 1) := by decide +kernel
theorem d_Reader_knowNumber_44 : decode prog_8_method_35_code 44 = .ok (.iaload, 1) := by decide +kernel
theorem d_Reader_knowNumber_45 : decode prog_8_method_35_code 45 = .ok (.iadd, 1) := by decide +kernel
theorem d_Reader_knowNumber_46 : decode prog_8_method_35_code 46 = .ok (.bipush 48, 2) := by decide +kernel
theorem d_Reader_knowNumber_48 : decode prog_8_method_35_code 48 = .ok (.isub, 1) := by decide +kernel
theorem d_Reader_knowNumber_49 : decode prog_8_method_35_code 49 = .ok (.putfield 275, 3) := by decide +kernel
theorem pf_Reader_275 : PF "NineBoards$Reader" 275 5 10 (.int) false := ⟨_, _, _, ct_Reader, rfl, ci_Reader, by decide, (mt_2 (List.mem_of_getElem? (i := 174) rfl) rfl), cp_Reader, cn_Reader, rfl, by decide +kernel, (fun h => by cases h)⟩
theorem d_Reader_knowNumber_52 : decode prog_8_method_35_code 52 = .ok (.iinc 1 1, 3) := by decide +kernel
theorem d_Reader_knowNumber_55 : decode prog_8_method_35_code 55 = .ok (.goto (-45), 3) := by decide +kernel
theorem d_Reader_knowNumber_0 : decode prog_8_method_35_code 0 = .ok (.aload_n 0, 1) := by decide +kernel
theorem d_Reader_knowNumber_1 : decode prog_8_method_35_code 1 = .ok (.iconst 0, 1) := by decide +kernel
theorem d_Reader_knowNumber_2 : decode prog_8_method_35_code 2 = .ok (.putfield 275, 3) := by decide +kernel
theorem d_Reader_knowNumber_5 : decode prog_8_method_35_code 5 = .ok (.aload_n 0, 1) := by decide +kernel
theorem d_Reader_knowNumber_6 : decode prog_8_method_35_code 6 = .ok (.getfield 62, 3) := by decide +kernel
theorem d_Reader_knowNumber_9 : decode prog_8_method_35_code 9 = .ok (.istore_n 1, 1) := by decide +kernel
theorem d_Reader_knowNumber_58 : decode prog_8_method_35_code 58 = .ok (.return_, 1) := by decide +kernel
set_option maxHeartbeats 4000000 in
set_option maxRecDepth 100000 in
theorem lp_knowNumber {p : Program} {l : Launch} {e : Env} {s : State} {m : MethodId} {args : Array Value} {below : List Frame} {meth : Method} {c : Code} {Q : State → Prop} {D : va_G} {y : Nat → ClassId} {A : Nat → Prop} (C : Cx p s m args meth c D y A prog_8_method_35_code 2 "NineBoards$Reader" "knowNumber") (rd : Nat) (ow : Nat) (tp : Nat) (lk : Nat) (td : Nat) (fa : Int32) (pl : Int32) (so : Int32) (le : Int64) (wo : Int32) (si : Int32) (ra : Nat) (rs : Nat) (k : Nat) (tf : Nat → Int32) (ha : ra ≤ k) (hs : rs ≤ ra) (hk : k ≤ 1600) (kx : ∀ (q : Nat) (x : Int32), J p l e ({ frames := 0, cells := 0, slots := 0, locals := 0 } : Room) s m args below meth c Q D A 2 [(rd, .inr (5, [.int fa, .int pl, .ref ow, .ref tp, .ref lk, .int (nI ra), .int so, .int (nI rs), .long le, .int wo, .int x, .int si])), (tp, .inr (0, [.ref td, .int (nI k)])), (td, .inl (y 0, 1600, .inl tf))] [(0, .ref rd), (1, .int (nI q))] 0 0 58 []) : ∀ (n : Nat) (q : Nat) (x : Int32), (q + n = ra) → J p l e ({ frames := 0, cells := 0, slots := 0, locals := 0 } : Room) s m args below meth c Q D A 2 [(rd, .inr (5, [.int fa, .int pl, .ref ow, .ref tp, .ref lk, .int (nI ra), .int so, .int (nI rs), .long le, .int wo, .int x, .int si])), (tp, .inr (0, [.ref td, .int (nI k)])), (td, .inl (y 0, 1600, .inl tf))] [(0, .ref rd), (1, .int (nI q))] 0 0 10 [] := by
  intro n
  induction n with
  | zero =>
    intro q x hq
    obtain rfl : q = ra := by omega
    refine j_iload_n (pc := 10) C d_Reader_knowNumber_10 rfl 1 rfl ?_
    refine j_aload_n (pc := 11) C d_Reader_knowNumber_11 rfl 0 rfl ?_
    refine j_get (pc := 12) C gf_Reader_47 0 rfl rfl d_Reader_knowNumber_12 ?_
    refine j_icmp_geT (pc := 15) C (tgt := 58) d_Reader_knowNumber_15 (by decide) (Int32.le_refl _) ?_
    exact kx _ _
  | succ n ih =>
    intro q x hq
    refine j_iload_n (pc := 10) C d_Reader_knowNumber_10 rfl 1 rfl ?_
    refine j_aload_n (pc := 11) C d_Reader_knowNumber_11 rfl 0 rfl ?_
    refine j_get (pc := 12) C gf_Reader_47 0 rfl rfl d_Reader_knowNumber_12 ?_
    refine j_icmp_geF (pc := 15) C (tgt := 58) d_Reader_knowNumber_15 (by decide) (nI_ge (by omega) (by omega)) ?_
    refine j_iload_n (pc := 18) C d_Reader_knowNumber_18 rfl 1 rfl ?_
    refine j_aload_n (pc := 19) C d_Reader_knowNumber_19 rfl 0 rfl ?_
    refine j_get (pc := 20) C gf_Reader_62 0 rfl rfl d_Reader_knowNumber_20 ?_
    refine j_iconst (pc := 23) C (v := 4) d_Reader_knowNumber_23 (by decide) ?_
    refine j_iadd (pc := 24) C (v := (nI rs) + 4) d_Reader_knowNumber_24 rfl ?_
    refine j_icmp_ge (pc := 25) C (tgt := 58) d_Reader_knowNumber_25 (by decide) (fun c1 => ?_) (fun c1 => ?_)
    · exact kx _ _
    · refine j_aload_n (pc := 28) C d_Reader_knowNumber_28 rfl 0 rfl ?_
      refine j_bipush (pc := 29) C (v := 10) d_Reader_knowNumber_29 (by decide) ?_
      refine j_aload_n (pc := 31) C d_Reader_knowNumber_31 rfl 0 rfl ?_
      refine j_get (pc := 32) C gf_Reader_275 0 rfl rfl d_Reader_knowNumber_32 ?_
      refine j_imul (pc := 35) C (v := 10 * x) d_Reader_knowNumber_35 rfl ?_
      refine j_aload_n (pc := 36) C d_Reader_knowNumber_36 rfl 0 rfl ?_
      refine j_get (pc := 37) C gf_Reader_19 0 rfl rfl d_Reader_knowNumber_37 ?_
      refine j_get (pc := 40) C gf_Reader_288 1 rfl rfl d_Reader_knowNumber_40 ?_
      refine j_iload_n (pc := 43) C d_Reader_knowNumber_43 rfl 1 rfl ?_
      refine j_iald (pc := 44) C 2 rfl (v := tf (nI q).toNatClampNeg) (vp_in_nI (by omega) (by decide)) rfl d_Reader_knowNumber_44 ?_
      refine j_iadd (pc := 45) C (v := (10 * x) + (tf (nI q).toNatClampNeg)) d_Reader_knowNumber_45 rfl ?_
      refine j_bipush (pc := 46) C (v := 48) d_Reader_knowNumber_46 (by decide) ?_
      refine j_isub (pc := 48) C (v := ((10 * x) + (tf (nI q).toNatClampNeg)) - 48) d_Reader_knowNumber_48 rfl ?_
      refine j_put (pc := 49) C pf_Reader_275 0 (ws' := [(rd, .inr (5, [.int fa, .int pl, .ref ow, .ref tp, .ref lk, .int (nI ra), .int so, .int (nI rs), .long le, .int wo, .int (((10 * x) + (tf (nI q).toNatClampNeg)) - 48), .int si])), (tp, .inr (0, [.ref td, .int (nI k)])), (td, .inl (y 0, 1600, .inl tf))]) rfl rfl rfl (nl rfl) rfl d_Reader_knowNumber_49 ?_
      refine j_iinc (pc := 52) C (v := nI (q + 1)) (lv' := [(1, .int (nI (q + 1))), (0, .ref rd)]) d_Reader_knowNumber_52 1 rfl (nI_1 _) (by decide) rfl ?_
      refine j_goto (pc := 55) C (tgt := 10) d_Reader_knowNumber_55 (by decide) ?_
      refine j_locs (lv' := [(0, .ref rd), (1, .int (nI (q + 1)))]) [1, 0] rfl ?_
      exact ih (q + 1) _ (by omega)
set_option maxHeartbeats 4000000 in
set_option maxRecDepth 100000 in
theorem c_r_knowNumber (l : Launch) (D : va_G) (y : Nat → ClassId) (rd : Nat) (ow : Nat) (tp : Nat) (lk : Nat) (td : Nat) (fa : Int32) (pl : Int32) (so : Int32) (le : Int64) (wo : Int32) (nu : Int32) (si : Int32) (ra : Nat) (rs : Nat) (k : Nat) (tf : Nat → Int32) (ha : ra ≤ k) (hs : rs ≤ ra) (hk : k ≤ 1600) : CT l D y ⟨"NineBoards$Reader", "knowNumber", "()V"⟩ prog_8_method_35_code 2 none ({ frames := 0, cells := 0, slots := 0, locals := 0 } : Room) [.ref rd] [(rd, .inr (5, [.int fa, .int pl, .ref ow, .ref tp, .ref lk, .int (nI ra), .int so, .int (nI rs), .long le, .int wo, .int nu, .int si])), (tp, .inr (0, [.ref td, .int (nI k)])), (td, .inl (y 0, 1600, .inl tf))] (QV D [(rd, .inr (5, [.int fa, .int pl, .ref ow, .ref tp, .ref lk, .int (nI ra), .int so, .int (nI rs), .long le, .int wo, .int nu, .int si])), (tp, .inr (0, [.ref td, .int (nI k)])), (td, .inl (y 0, 1600, .inl tf))] (fun (_ : Int32) => True) (fun u => [(rd, .inr (5, [.int fa, .int pl, .ref ow, .ref tp, .ref lk, .int (nI ra), .int so, .int (nI rs), .long le, .int wo, .int u, .int si])), (tp, .inr (0, [.ref td, .int (nI k)])), (td, .inl (y 0, 1600, .inl tf))])) := by
  refine CT.of (by decide) (nb rfl) ?_
  intro p e s m args below meth c C hr
  refine j_lv (lv' := [(0, .ref rd)]) rfl ?_
  refine j_aload_n (pc := 0) C d_Reader_knowNumber_0 rfl 0 rfl ?_
  refine j_iconst (pc := 1) C (v := 0) d_Reader_knowNumber_1 (by decide) ?_
  refine j_put (pc := 2) C pf_Reader_275 0 (ws' := [(rd, .inr (5, [.int fa, .int pl, .ref ow, .ref tp, .ref lk, .int (nI ra), .int so, .int (nI rs), .long le, .int wo, .int 0, .int si])), (tp, .inr (0, [.ref td, .int (nI k)])), (td, .inl (y 0, 1600, .inl tf))]) rfl rfl rfl (nl rfl) rfl d_Reader_knowNumber_2 ?_
  refine j_aload_n (pc := 5) C d_Reader_knowNumber_5 rfl 0 rfl ?_
  refine j_get (pc := 6) C gf_Reader_62 0 rfl rfl d_Reader_knowNumber_6 ?_
  refine j_istore_n (pc := 9) C (lv' := [(1, .int (nI rs)), (0, .ref rd)]) d_Reader_knowNumber_9 rfl (by decide) rfl ?_
  refine j_locs (lv' := [(0, .ref rd), (1, .int (nI rs))]) [1, 0] rfl ?_
  refine lp_knowNumber C rd ow tp lk td fa pl so le wo si ra rs k tf ha hs hk (fun q x => ?_) (ra - rs) rs _ (by omega)
  exact j_vret (pc := 58) C hr x trivial [0, 1, 2] rfl (by decide) (by decide) (by decide) d_Reader_knowNumber_58
