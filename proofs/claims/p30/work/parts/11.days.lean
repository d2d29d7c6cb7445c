theorem nI_nm1 {n : Nat} (h : n < 2 ^ 31) : ¬ nI n = -1 := fun e => absurd (e ▸ nI_pos h : ¬ (-1 : Int32) < 0) (by decide)
theorem d_Days_fits_0 : decode prog_3_method_3_code 0 = .ok (.iload_n 2, 1) := by decide +kernel
theorem d_Days_fits_1 : decode prog_3_method_3_code 1 = .ok (.iconst 2, 1) := by decide +kernel
theorem d_Days_fits_2 : decode prog_3_method_3_code 2 = .ok (.if_icmp .ne 7, 3) := by decide +kernel
theorem d_Days_fits_9 : decode prog_3_method_3_code 9 = .ok (.iconst 0, 1) := by decide +kernel
theorem d_Days_fits_10 : decode prog_3_method_3_code 10 = .ok (.istore_n 3, 1) := by decide +kernel
theorem d_Days_fits_11 : decode prog_3_method_3_code 11 = .ok (.iload_n 2, 1) := by decide +kernel
theorem d_Days_fits_12 : decode prog_3_method_3_code 12 = .ok (.iconst 2, 1) := by decide +kernel
theorem d_Days_fits_13 : decode prog_3_method_3_code 13 = .ok (.if_icmp .ne 8, 3) := by decide +kernel
theorem d_Days_fits_21 : decode prog_3_method_3_code 21 = .ok (.bipush 20, 2) := by decide +kernel
theorem d_Days_fits_23 : decode prog_3_method_3_code 23 = .ok (.istore 4, 2) := by decide +kernel
theorem d_Days_fits_25 : decode prog_3_method_3_code 25 = .ok (.iload_n 1, 1) := by decide +kernel
theorem d_Days_fits_26 : decode prog_3_method_3_code 26 = .ok (.iconst 1, 1) := by decide +kernel
theorem d_Days_fits_27 : decode prog_3_method_3_code 27 = .ok (.if_icmp .ne 18, 3) := by decide +kernel
theorem d_Days_fits_45 : decode prog_3_method_3_code 45 = .ok (.iload_n 0, 1) := by decide +kernel
theorem d_Days_fits_46 : decode prog_3_method_3_code 46 = .ok (.iconst 1, 1) := by decide +kernel
theorem d_Days_fits_47 : decode prog_3_method_3_code 47 = .ok (.iadd, 1) := by decide +kernel
theorem d_Days_fits_48 : decode prog_3_method_3_code 48 = .ok (.iload 4, 2) := by decide +kernel
theorem d_Days_fits_50 : decode prog_3_method_3_code 50 = .ok (.if_icmp .gt 7, 3) := by decide +kernel
theorem d_Days_fits_57 : decode prog_3_method_3_code 57 = .ok (.iconst 0, 1) := by decide +kernel
theorem d_Days_fits_58 : decode prog_3_method_3_code 58 = .ok (.ireturn, 1) := by decide +kernel
theorem d_Days_fits_53 : decode prog_3_method_3_code 53 = .ok (.iconst 1, 1) := by decide +kernel
theorem d_Days_fits_54 : decode prog_3_method_3_code 54 = .ok (.goto 4, 3) := by decide +kernel
theorem d_Days_fits_30 : decode prog_3_method_3_code 30 = .ok (.iload_n 0, 1) := by decide +kernel
theorem d_Days_fits_31 : decode prog_3_method_3_code 31 = .ok (.iconst 1, 1) := by decide +kernel
theorem d_Days_fits_32 : decode prog_3_method_3_code 32 = .ok (.isub, 1) := by decide +kernel
theorem d_Days_fits_33 : decode prog_3_method_3_code 33 = .ok (.iload_n 3, 1) := by decide +kernel
theorem d_Days_fits_34 : decode prog_3_method_3_code 34 = .ok (.if_icmp .lt 7, 3) := by decide +kernel
theorem d_Days_fits_41 : decode prog_3_method_3_code 41 = .ok (.iconst 0, 1) := by decide +kernel
theorem d_Days_fits_42 : decode prog_3_method_3_code 42 = .ok (.goto 16, 3) := by decide +kernel
theorem d_Days_fits_37 : decode prog_3_method_3_code 37 = .ok (.iconst 1, 1) := by decide +kernel
theorem d_Days_fits_38 : decode prog_3_method_3_code 38 = .ok (.goto 20, 3) := by decide +kernel
theorem d_Days_fits_16 : decode prog_3_method_3_code 16 = .ok (.bipush 9, 2) := by decide +kernel
theorem d_Days_fits_18 : decode prog_3_method_3_code 18 = .ok (.goto 5, 3) := by decide +kernel
theorem d_Days_fits_5 : decode prog_3_method_3_code 5 = .ok (.iconst 1, 1) := by decide +kernel
theorem d_Days_fits_6 : decode prog_3_method_3_code 6 = .ok (.goto 4, 3) := by decide +kernel
set_option maxHeartbeats 4000000 in
set_option maxRecDepth 100000 in
theorem c_fits (l : Launch) (D : va_G) (y : Nat → ClassId) (va : Int32) (vb : Int32) (vc : Int32)  : CT l D y ⟨"NineBoards$Days", "fits", "(III)Z"⟩ prog_3_method_3_code 5 (some .boolean) ({ frames := 0, cells := 0, slots := 0, locals := 0 } : Room) [.int va, .int vb, .int vc] [] (QI D [] (fun (r : Int32) (u : Unit) => r = 0 ∨ r = 1) (fun _ => [])) := by
  refine CT.of (by decide) (nb rfl) ?_
  intro p e s m args below meth c C hr
  refine j_lv (lv' := [(0, .int va), (1, .int vb), (2, .int vc)]) rfl ?_
  refine j_iload_n (pc := 0) C d_Days_fits_0 rfl 2 rfl ?_
  refine j_iconst (pc := 1) C (v := 2) d_Days_fits_1 (by decide) ?_
  refine j_icmp_ne (pc := 2) C (tgt := 9) d_Days_fits_2 (by decide) (fun c1 => ?_) (fun c1 => ?_)
  · refine j_iconst (pc := 9) C (v := 0) d_Days_fits_9 (by decide) ?_
    refine j_istore_n (pc := 10) C (lv' := [(3, .int 0), (0, .int va), (1, .int vb), (2, .int vc)]) d_Days_fits_10 rfl (by decide) rfl ?_
    refine j_iload_n (pc := 11) C d_Days_fits_11 rfl 3 rfl ?_
    refine j_iconst (pc := 12) C (v := 2) d_Days_fits_12 (by decide) ?_
    refine j_icmp_ne (pc := 13) C (tgt := 21) d_Days_fits_13 (by decide) (fun c2 => ?_) (fun c2 => ?_)
    · refine j_bipush (pc := 21) C (v := 20) d_Days_fits_21 (by decide) ?_
      refine j_istore (pc := 23) C (lv' := [(4, .int 20), (3, .int 0), (0, .int va), (1, .int vb), (2, .int vc)]) d_Days_fits_23 (by decide) rfl ?_
      refine j_iload_n (pc := 25) C d_Days_fits_25 rfl 3 rfl ?_
      refine j_iconst (pc := 26) C (v := 1) d_Days_fits_26 (by decide) ?_
      refine j_icmp_ne (pc := 27) C (tgt := 45) d_Days_fits_27 (by decide) (fun c3 => ?_) (fun c3 => ?_)
      · refine j_iload_n (pc := 45) C d_Days_fits_45 rfl 2 rfl ?_
        refine j_iconst (pc := 46) C (v := 1) d_Days_fits_46 (by decide) ?_
        refine j_iadd (pc := 47) C (v := va + 1) d_Days_fits_47 rfl ?_
        refine j_iload (pc := 48) C d_Days_fits_48 0 rfl ?_
        refine j_icmp_gt (pc := 50) C (tgt := 57) d_Days_fits_50 (by decide) (fun c4 => ?_) (fun c4 => ?_)
        · refine j_iconst (pc := 57) C (v := 0) d_Days_fits_57 (by decide) ?_
          exact j_iret (pc := 58) C hr (by decide) () (by decide) [] rfl (by decide) (by decide) (by decide) d_Days_fits_58
        · refine j_iconst (pc := 53) C (v := 1) d_Days_fits_53 (by decide) ?_
          refine j_goto (pc := 54) C (tgt := 58) d_Days_fits_54 (by decide) ?_
          exact j_iret (pc := 58) C hr (by decide) () (by decide) [] rfl (by decide) (by decide) (by decide) d_Days_fits_58
      · refine j_iload_n (pc := 30) C d_Days_fits_30 rfl 2 rfl ?_
        refine j_iconst (pc := 31) C (v := 1) d_Days_fits_31 (by decide) ?_
        refine j_isub (pc := 32) C (v := va - 1) d_Days_fits_32 rfl ?_
        refine j_iload_n (pc := 33) C d_Days_fits_33 rfl 1 rfl ?_
        refine j_icmp_lt (pc := 34) C (tgt := 41) d_Days_fits_34 (by decide) (fun c5 => ?_) (fun c5 => ?_)
        · refine j_iconst (pc := 41) C (v := 0) d_Days_fits_41 (by decide) ?_
          refine j_goto (pc := 42) C (tgt := 58) d_Days_fits_42 (by decide) ?_
          exact j_iret (pc := 58) C hr (by decide) () (by decide) [] rfl (by decide) (by decide) (by decide) d_Days_fits_58
        · refine j_iconst (pc := 37) C (v := 1) d_Days_fits_37 (by decide) ?_
          refine j_goto (pc := 38) C (tgt := 58) d_Days_fits_38 (by decide) ?_
          exact j_iret (pc := 58) C hr (by decide) () (by decide) [] rfl (by decide) (by decide) (by decide) d_Days_fits_58
    · refine j_bipush (pc := 16) C (v := 9) d_Days_fits_16 (by decide) ?_
      refine j_goto (pc := 18) C (tgt := 23) d_Days_fits_18 (by decide) ?_
      refine j_istore (pc := 23) C (lv' := [(4, .int 9), (3, .int 0), (0, .int va), (1, .int vb), (2, .int vc)]) d_Days_fits_23 (by decide) rfl ?_
      refine j_iload_n (pc := 25) C d_Days_fits_25 rfl 3 rfl ?_
      refine j_iconst (pc := 26) C (v := 1) d_Days_fits_26 (by decide) ?_
      refine j_icmp_ne (pc := 27) C (tgt := 45) d_Days_fits_27 (by decide) (fun c6 => ?_) (fun c6 => ?_)
      · refine j_iload_n (pc := 45) C d_Days_fits_45 rfl 2 rfl ?_
        refine j_iconst (pc := 46) C (v := 1) d_Days_fits_46 (by decide) ?_
        refine j_iadd (pc := 47) C (v := va + 1) d_Days_fits_47 rfl ?_
        refine j_iload (pc := 48) C d_Days_fits_48 0 rfl ?_
        refine j_icmp_gt (pc := 50) C (tgt := 57) d_Days_fits_50 (by decide) (fun c7 => ?_) (fun c7 => ?_)
        · refine j_iconst (pc := 57) C (v := 0) d_Days_fits_57 (by decide) ?_
          exact j_iret (pc := 58) C hr (by decide) () (by decide) [] rfl (by decide) (by decide) (by decide) d_Days_fits_58
        · refine j_iconst (pc := 53) C (v := 1) d_Days_fits_53 (by decide) ?_
          refine j_goto (pc := 54) C (tgt := 58) d_Days_fits_54 (by decide) ?_
          exact j_iret (pc := 58) C hr (by decide) () (by decide) [] rfl (by decide) (by decide) (by decide) d_Days_fits_58
      · refine j_iload_n (pc := 30) C d_Days_fits_30 rfl 2 rfl ?_
        refine j_iconst (pc := 31) C (v := 1) d_Days_fits_31 (by decide) ?_
        refine j_isub (pc := 32) C (v := va - 1) d_Days_fits_32 rfl ?_
        refine j_iload_n (pc := 33) C d_Days_fits_33 rfl 1 rfl ?_
        refine j_icmp_lt (pc := 34) C (tgt := 41) d_Days_fits_34 (by decide) (fun c8 => ?_) (fun c8 => ?_)
        · refine j_iconst (pc := 41) C (v := 0) d_Days_fits_41 (by decide) ?_
          refine j_goto (pc := 42) C (tgt := 58) d_Days_fits_42 (by decide) ?_
          exact j_iret (pc := 58) C hr (by decide) () (by decide) [] rfl (by decide) (by decide) (by decide) d_Days_fits_58
        · refine j_iconst (pc := 37) C (v := 1) d_Days_fits_37 (by decide) ?_
          refine j_goto (pc := 38) C (tgt := 58) d_Days_fits_38 (by decide) ?_
          exact j_iret (pc := 58) C hr (by decide) () (by decide) [] rfl (by decide) (by decide) (by decide) d_Days_fits_58
  · refine j_iconst (pc := 5) C (v := 1) d_Days_fits_5 (by decide) ?_
    refine j_goto (pc := 6) C (tgt := 10) d_Days_fits_6 (by decide) ?_
    refine j_istore_n (pc := 10) C (lv' := [(3, .int 1), (0, .int va), (1, .int vb), (2, .int vc)]) d_Days_fits_10 rfl (by decide) rfl ?_
    refine j_iload_n (pc := 11) C d_Days_fits_11 rfl 3 rfl ?_
    refine j_iconst (pc := 12) C (v := 2) d_Days_fits_12 (by decide) ?_
    refine j_icmp_ne (pc := 13) C (tgt := 21) d_Days_fits_13 (by decide) (fun c9 => ?_) (fun c9 => ?_)
    · refine j_bipush (pc := 21) C (v := 20) d_Days_fits_21 (by decide) ?_
      refine j_istore (pc := 23) C (lv' := [(4, .int 20), (3, .int 1), (0, .int va), (1, .int vb), (2, .int vc)]) d_Days_fits_23 (by decide) rfl ?_
      refine j_iload_n (pc := 25) C d_Days_fits_25 rfl 3 rfl ?_
      refine j_iconst (pc := 26) C (v := 1) d_Days_fits_26 (by decide) ?_
      refine j_icmp_ne (pc := 27) C (tgt := 45) d_Days_fits_27 (by decide) (fun c10 => ?_) (fun c10 => ?_)
      · refine j_iload_n (pc := 45) C d_Days_fits_45 rfl 2 rfl ?_
        refine j_iconst (pc := 46) C (v := 1) d_Days_fits_46 (by decide) ?_
        refine j_iadd (pc := 47) C (v := va + 1) d_Days_fits_47 rfl ?_
        refine j_iload (pc := 48) C d_Days_fits_48 0 rfl ?_
        refine j_icmp_gt (pc := 50) C (tgt := 57) d_Days_fits_50 (by decide) (fun c11 => ?_) (fun c11 => ?_)
        · refine j_iconst (pc := 57) C (v := 0) d_Days_fits_57 (by decide) ?_
          exact j_iret (pc := 58) C hr (by decide) () (by decide) [] rfl (by decide) (by decide) (by decide) d_Days_fits_58
        · refine j_iconst (pc := 53) C (v := 1) d_Days_fits_53 (by decide) ?_
          refine j_goto (pc := 54) C (tgt := 58) d_Days_fits_54 (by decide) ?_
          exact j_iret (pc := 58) C hr (by decide) () (by decide) [] rfl (by decide) (by decide) (by decide) d_Days_fits_58
      · refine j_iload_n (pc := 30) C d_Days_fits_30 rfl 2 rfl ?_
        refine j_iconst (pc := 31) C (v := 1) d_Days_fits_31 (by decide) ?_
        refine j_isub (pc := 32) C (v := va - 1) d_Days_fits_32 rfl ?_
        refine j_iload_n (pc := 33) C d_Days_fits_33 rfl 1 rfl ?_
        refine j_icmp_lt (pc := 34) C (tgt := 41) d_Days_fits_34 (by decide) (fun c12 => ?_) (fun c12 => ?_)
        · refine j_iconst (pc := 41) C (v := 0) d_Days_fits_41 (by decide) ?_
          refine j_goto (pc := 42) C (tgt := 58) d_Days_fits_42 (by decide) ?_
          exact j_iret (pc := 58) C hr (by decide) () (by decide) [] rfl (by decide) (by decide) (by decide) d_Days_fits_58
        · refine j_iconst (pc := 37) C (v := 1) d_Days_fits_37 (by decide) ?_
          refine j_goto (pc := 38) C (tgt := 58) d_Days_fits_38 (by decide) ?_
          exact j_iret (pc := 58) C hr (by decide) () (by decide) [] rfl (by decide) (by decide) (by decide) d_Days_fits_58
    · refine j_bipush (pc := 16) C (v := 9) d_Days_fits_16 (by decide) ?_
      refine j_goto (pc := 18) C (tgt := 23) d_Days_fits_18 (by decide) ?_
      refine j_istore (pc := 23) C (lv' := [(4, .int 9), (3, .int 1), (0, .int va), (1, .int vb), (2, .int vc)]) d_Days_fits_23 (by decide) rfl ?_
      refine j_iload_n (pc := 25) C d_Days_fits_25 rfl 3 rfl ?_
      refine j_iconst (pc := 26) C (v := 1) d_Days_fits_26 (by decide) ?_
      refine j_icmp_ne (pc := 27) C (tgt := 45) d_Days_fits_27 (by decide) (fun c13 => ?_) (fun c13 => ?_)
      · refine j_iload_n (pc := 45) C d_Days_fits_45 rfl 2 rfl ?_
        refine j_iconst (pc := 46) C (v := 1) d_Days_fits_46 (by decide) ?_
        refine j_iadd (pc := 47) C (v := va + 1) d_Days_fits_47 rfl ?_
        refine j_iload (pc := 48) C d_Days_fits_48 0 rfl ?_
        refine j_icmp_gt (pc := 50) C (tgt := 57) d_Days_fits_50 (by decide) (fun c14 => ?_) (fun c14 => ?_)
        · refine j_iconst (pc := 57) C (v := 0) d_Days_fits_57 (by decide) ?_
          exact j_iret (pc := 58) C hr (by decide) () (by decide) [] rfl (by decide) (by decide) (by decide) d_Days_fits_58
        · refine j_iconst (pc := 53) C (v := 1) d_Days_fits_53 (by decide) ?_
          refine j_goto (pc := 54) C (tgt := 58) d_Days_fits_54 (by decide) ?_
          exact j_iret (pc := 58) C hr (by decide) () (by decide) [] rfl (by decide) (by decide) (by decide) d_Days_fits_58
      · refine j_iload_n (pc := 30) C d_Days_fits_30 rfl 2 rfl ?_
        refine j_iconst (pc := 31) C (v := 1) d_Days_fits_31 (by decide) ?_
        refine j_isub (pc := 32) C (v := va - 1) d_Days_fits_32 rfl ?_
        refine j_iload_n (pc := 33) C d_Days_fits_33 rfl 1 rfl ?_
        refine j_icmp_lt (pc := 34) C (tgt := 41) d_Days_fits_34 (by decide) (fun c15 => ?_) (fun c15 => ?_)
        · refine j_iconst (pc := 41) C (v := 0) d_Days_fits_41 (by decide) ?_
          refine j_goto (pc := 42) C (tgt := 58) d_Days_fits_42 (by decide) ?_
          exact j_iret (pc := 58) C hr (by decide) () (by decide) [] rfl (by decide) (by decide) (by decide) d_Days_fits_58
        · refine j_iconst (pc := 37) C (v := 1) d_Days_fits_37 (by decide) ?_
          refine j_goto (pc := 38) C (tgt := 58) d_Days_fits_38 (by decide) ?_
          exact j_iret (pc := 58) C hr (by decide) () (by decide) [] rfl (by decide) (by decide) (by decide) d_Days_fits_58
theorem d_Days_allows_0 : decode prog_3_method_2_code 0 = .ok (.iload_n 3, 1) := by decide +kernel
theorem d_Days_allows_1 : decode prog_3_method_2_code 1 = .ok (.ifCond .ne 5, 3) := by decide +kernel
theorem d_Days_allows_6 : decode prog_3_method_2_code 6 = .ok (.iload_n 3, 1) := by decide +kernel
theorem d_Days_allows_7 : decode prog_3_method_2_code 7 = .ok (.iconst 1, 1) := by decide +kernel
theorem d_Days_allows_8 : decode prog_3_method_2_code 8 = .ok (.if_icmp .eq 8, 3) := by decide +kernel
theorem d_Days_allows_16 : decode prog_3_method_2_code 16 = .ok (.aload_n 0, 1) := by decide +kernel
theorem d_Days_allows_17 : decode prog_3_method_2_code 17 = .ok (.iload_n 2, 1) := by decide +kernel
theorem d_Days_allows_18 : decode prog_3_method_2_code 18 = .ok (.invokevirtual 9, 3) := by decide +kernel
theorem kw_Days_9 : KW "NineBoards$Days" 9 ⟨"NineBoards$Lake", "hasVillage", "(I)Z"⟩ prog_5_method_4_code 2 (some .boolean) 1 := ⟨(mt_4 (List.mem_of_getElem? (i := 40) rfl) rfl), (mt_1 (List.mem_of_getElem? (i := 6) rfl) rfl), (mt_3 (List.mem_of_getElem? (i := 231) rfl) rfl), by decide +kernel⟩
theorem kv_Lake_hasVillage : Cond.instanceMethod ⟨"NineBoards$Lake", "hasVillage", "(I)Z"⟩ ∈ TB ∧ Cond.selects "NineBoards$Lake" ⟨"NineBoards$Lake", "hasVillage", "(I)Z"⟩ ⟨"NineBoards$Lake", "hasVillage", "(I)Z"⟩ ∈ TB := ⟨(mt_3 (List.mem_of_getElem? (i := 229) rfl) rfl), (mt_3 (List.mem_of_getElem? (i := 230) rfl) rfl)⟩
theorem d_Days_allows_21 : decode prog_3_method_2_code 21 = .ok (.ifCond .eq 9, 3) := by decide +kernel
theorem d_Days_allows_30 : decode prog_3_method_2_code 30 = .ok (.iconst 0, 1) := by decide +kernel
theorem d_Days_allows_31 : decode prog_3_method_2_code 31 = .ok (.ireturn, 1) := by decide +kernel
theorem d_Days_allows_24 : decode prog_3_method_2_code 24 = .ok (.iload 4, 2) := by decide +kernel
theorem d_Days_allows_26 : decode prog_3_method_2_code 26 = .ok (.iconst 3, 1) := by decide +kernel
theorem d_Days_allows_27 : decode prog_3_method_2_code 27 = .ok (.if_icmp .ne 5, 3) := by decide +kernel
theorem d_Days_allows_32 : decode prog_3_method_2_code 32 = .ok (.iload 4, 2) := by decide +kernel
theorem d_Days_allows_34 : decode prog_3_method_2_code 34 = .ok (.ifCond .ne 13, 3) := by decide +kernel
theorem d_Days_allows_47 : decode prog_3_method_2_code 47 = .ok (.aload_n 0, 1) := by decide +kernel
theorem d_Days_allows_48 : decode prog_3_method_2_code 48 = .ok (.getfield 21, 3) := by decide +kernel
theorem gf_Days_21 : GF "NineBoards$Days" 21 2 7 := ⟨_, _, _, rfl, ci_Lake, by decide, (mt_2 (List.mem_of_getElem? (i := 55) rfl) rfl)⟩
theorem d_Days_allows_51 : decode prog_3_method_2_code 51 = .ok (.iload_n 2, 1) := by decide +kernel
theorem d_Days_allows_52 : decode prog_3_method_2_code 52 = .ok (.iaload, 1) := by decide +kernel
theorem d_Days_allows_53 : decode prog_3_method_2_code 53 = .ok (.istore 5, 2) := by decide +kernel
theorem d_Days_allows_55 : decode prog_3_method_2_code 55 = .ok (.aload_n 0, 1) := by decide +kernel
theorem d_Days_allows_56 : decode prog_3_method_2_code 56 = .ok (.getfield 25, 3) := by decide +kernel
theorem gf_Days_25 : GF "NineBoards$Days" 25 2 4 := ⟨_, _, _, rfl, ci_Lake, by decide, (mt_2 (List.mem_of_getElem? (i := 43) rfl) rfl)⟩
theorem d_Days_allows_59 : decode prog_3_method_2_code 59 = .ok (.getfield 29, 3) := by decide +kernel
theorem gf_Days_29 : GF "NineBoards$Days" 29 1 7 := ⟨_, _, _, rfl, ci_Gates, by decide, (mt_1 (List.mem_of_getElem? (i := 161) rfl) rfl)⟩
theorem d_Days_allows_62 : decode prog_3_method_2_code 62 = .ok (.iload 5, 2) := by decide +kernel
theorem d_Days_allows_64 : decode prog_3_method_2_code 64 = .ok (.iaload, 1) := by decide +kernel
theorem d_Days_allows_65 : decode prog_3_method_2_code 65 = .ok (.istore 6, 2) := by decide +kernel
theorem d_Days_allows_67 : decode prog_3_method_2_code 67 = .ok (.aload_n 1, 1) := by decide +kernel
theorem d_Days_allows_68 : decode prog_3_method_2_code 68 = .ok (.getfield 34, 3) := by decide +kernel
theorem gf_Days_34 : GF "NineBoards$Days" 34 7 3 := ⟨_, _, _, rfl, ci_State, by decide, (mt_1 (List.mem_of_getElem? (i := 64) rfl) rfl)⟩
theorem d_Days_allows_71 : decode prog_3_method_2_code 71 = .ok (.iload 5, 2) := by decide +kernel
theorem d_Days_allows_73 : decode prog_3_method_2_code 73 = .ok (.iaload, 1) := by decide +kernel
theorem d_Days_allows_74 : decode prog_3_method_2_code 74 = .ok (.iload_n 3, 1) := by decide +kernel
theorem d_Days_allows_75 : decode prog_3_method_2_code 75 = .ok (.iload 4, 2) := by decide +kernel
theorem d_Days_allows_77 : decode prog_3_method_2_code 77 = .ok (.invokestatic 37, 3) := by decide +kernel
theorem kw_Days_37 : KW "NineBoards$Days" 37 ⟨"NineBoards$Days", "fits", "(III)Z"⟩ prog_3_method_3_code 5 (some .boolean) 3 := ⟨(mt_4 (List.mem_of_getElem? (i := 41) rfl) rfl), (mt_1 (List.mem_of_getElem? (i := 18) rfl) rfl), (mt_4 (List.mem_of_getElem? (i := 43) rfl) rfl), by decide +kernel⟩
theorem ks_Days_fits : Cond.static ⟨"NineBoards$Days", "fits", "(III)Z"⟩ ∈ TB := (mt_4 (List.mem_of_getElem? (i := 42) rfl) rfl)
theorem d_Days_allows_80 : decode prog_3_method_2_code 80 = .ok (.ifCond .eq 29, 3) := by decide +kernel
theorem d_Days_allows_109 : decode prog_3_method_2_code 109 = .ok (.iconst 0, 1) := by decide +kernel
theorem d_Days_allows_110 : decode prog_3_method_2_code 110 = .ok (.ireturn, 1) := by decide +kernel
theorem d_Days_allows_83 : decode prog_3_method_2_code 83 = .ok (.iload 6, 2) := by decide +kernel
theorem d_Days_allows_85 : decode prog_3_method_2_code 85 = .ok (.iconst (-1), 1) := by decide +kernel
theorem d_Days_allows_86 : decode prog_3_method_2_code 86 = .ok (.if_icmp .eq 19, 3) := by decide +kernel
theorem d_Days_allows_105 : decode prog_3_method_2_code 105 = .ok (.iconst 1, 1) := by decide +kernel
theorem d_Days_allows_106 : decode prog_3_method_2_code 106 = .ok (.goto 4, 3) := by decide +kernel
theorem d_Days_allows_89 : decode prog_3_method_2_code 89 = .ok (.aload_n 1, 1) := by decide +kernel
theorem d_Days_allows_90 : decode prog_3_method_2_code 90 = .ok (.getfield 34, 3) := by decide +kernel
theorem d_Days_allows_93 : decode prog_3_method_2_code 93 = .ok (.iload 6, 2) := by decide +kernel
theorem d_Days_allows_95 : decode prog_3_method_2_code 95 = .ok (.iaload, 1) := by decide +kernel
theorem d_Days_allows_96 : decode prog_3_method_2_code 96 = .ok (.iload_n 3, 1) := by decide +kernel
theorem d_Days_allows_97 : decode prog_3_method_2_code 97 = .ok (.iload 4, 2) := by decide +kernel
theorem d_Days_allows_99 : decode prog_3_method_2_code 99 = .ok (.invokestatic 37, 3) := by decide +kernel
theorem d_Days_allows_102 : decode prog_3_method_2_code 102 = .ok (.ifCond .eq 7, 3) := by decide +kernel
theorem d_Days_allows_37 : decode prog_3_method_2_code 37 = .ok (.iload_n 3, 1) := by decide +kernel
theorem d_Days_allows_38 : decode prog_3_method_2_code 38 = .ok (.aload_n 1, 1) := by decide +kernel
theorem d_Days_allows_39 : decode prog_3_method_2_code 39 = .ok (.getfield 15, 3) := by decide +kernel
theorem gf_Days_15 : GF "NineBoards$Days" 15 7 2 := ⟨_, _, _, rfl, ci_State, by decide, (mt_1 (List.mem_of_getElem? (i := 61) rfl) rfl)⟩
theorem d_Days_allows_42 : decode prog_3_method_2_code 42 = .ok (.if_icmp .ne 5, 3) := by decide +kernel
theorem d_Days_allows_45 : decode prog_3_method_2_code 45 = .ok (.iconst 0, 1) := by decide +kernel
theorem d_Days_allows_46 : decode prog_3_method_2_code 46 = .ok (.ireturn, 1) := by decide +kernel
theorem d_Days_allows_11 : decode prog_3_method_2_code 11 = .ok (.iload_n 3, 1) := by decide +kernel
theorem d_Days_allows_12 : decode prog_3_method_2_code 12 = .ok (.iconst 2, 1) := by decide +kernel
theorem d_Days_allows_13 : decode prog_3_method_2_code 13 = .ok (.if_icmp .ne 17, 3) := by decide +kernel
theorem d_Days_allows_4 : decode prog_3_method_2_code 4 = .ok (.iconst 1, 1) := by decide +kernel
theorem d_Days_allows_5 : decode prog_3_method_2_code 5 = .ok (.ireturn, 1) := by decide +kernel
set_option maxHeartbeats 4000000 in
set_option maxRecDepth 100000 in
theorem c_allows (l : Launch) (D : va_G) (y : Nat → ClassId) (ad : Nat → Nat) (d : LD) (n4 : Nat) (h : Nat) (sa : Nat → Nat) (sb : SD) (va : Int32) (v : Int32) (vc : Int32) (h4 : d.1 4 = nI n4) (b4 : n4 ≤ 6) (hJ : ∀ j, j < 9 → d.2 6 j = -1 ∨ ∃ q, q < 9 ∧ d.2 6 j = nI q) (hV : ∀ j, j < n4 → ∃ q, q < 9 ∧ d.2 8 j = nI q) : CT l D y ⟨"NineBoards$Days", "allows", "(LNineBoards$Lake;LNineBoards$State;III)Z"⟩ prog_3_method_2_code 7 (some .boolean) ({ frames := 1, cells := 0, slots := 0, locals := 24 } : Room) [.ref (ad 0), .ref h, .int va, .int v, .int vc] [(ad 0, .inr (2, [.int (d.1 0), .int (d.1 1), .int (d.1 2), .int (d.1 3), .ref (ad 1), .int (d.1 4), .ref (ad 11), .ref (ad 12), .ref (ad 2), .ref (ad 3), .int (d.1 5), .int (d.1 6), .int (d.1 7), .int (d.1 8)])), (ad 1, .inr (1, [.int (d.1 9), .ref (ad 4), .ref (ad 5), .ref (ad 6), .ref (ad 7), .ref (ad 8), .ref (ad 9), .ref (ad 10)])), (ad 10, .inl (y 0, 9, .inl (d.2 6))), (ad 12, .inl (y 0, 6, .inl (d.2 8))), (h, .inr (7, [.int (sb.1 0), .int (sb.1 1), .int (sb.1 2), .ref (sa 0), .ref (sa 1), .ref (sa 2), .ref (sa 3), .ref (sa 4), .ref (sa 5), .ref (sa 6)])), (sa 0, .inl (y 0, 9, .inl (sb.2.1 0)))] (QI D [(ad 0, .inr (2, [.int (d.1 0), .int (d.1 1), .int (d.1 2), .int (d.1 3), .ref (ad 1), .int (d.1 4), .ref (ad 11), .ref (ad 12), .ref (ad 2), .ref (ad 3), .int (d.1 5), .int (d.1 6), .int (d.1 7), .int (d.1 8)])), (ad 1, .inr (1, [.int (d.1 9), .ref (ad 4), .ref (ad 5), .ref (ad 6), .ref (ad 7), .ref (ad 8), .ref (ad 9), .ref (ad 10)])), (ad 10, .inl (y 0, 9, .inl (d.2 6))), (ad 12, .inl (y 0, 6, .inl (d.2 8))), (h, .inr (7, [.int (sb.1 0), .int (sb.1 1), .int (sb.1 2), .ref (sa 0), .ref (sa 1), .ref (sa 2), .ref (sa 3), .ref (sa 4), .ref (sa 5), .ref (sa 6)])), (sa 0, .inl (y 0, 9, .inl (sb.2.1 0)))] (fun (r : Int32) (u : Unit) => r = 0 ∨ r = 1) (fun _ => [(ad 0, .inr (2, [.int (d.1 0), .int (d.1 1), .int (d.1 2), .int (d.1 3), .ref (ad 1), .int (d.1 4), .ref (ad 11), .ref (ad 12), .ref (ad 2), .ref (ad 3), .int (d.1 5), .int (d.1 6), .int (d.1 7), .int (d.1 8)])), (ad 1, .inr (1, [.int (d.1 9), .ref (ad 4), .ref (ad 5), .ref (ad 6), .ref (ad 7), .ref (ad 8), .ref (ad 9), .ref (ad 10)])), (ad 10, .inl (y 0, 9, .inl (d.2 6))), (ad 12, .inl (y 0, 6, .inl (d.2 8))), (h, .inr (7, [.int (sb.1 0), .int (sb.1 1), .int (sb.1 2), .ref (sa 0), .ref (sa 1), .ref (sa 2), .ref (sa 3), .ref (sa 4), .ref (sa 5), .ref (sa 6)])), (sa 0, .inl (y 0, 9, .inl (sb.2.1 0)))])) := by
  refine CT.of (by decide) (nb rfl) ?_
  intro p e s m args below meth c C hr
  refine j_lv (lv' := [(0, .ref (ad 0)), (1, .ref h), (2, .int va), (3, .int v), (4, .int vc)]) rfl ?_
  refine j_iload_n (pc := 0) C d_Days_allows_0 rfl 3 rfl ?_
  refine j_if_ne (pc := 1) C (tgt := 6) d_Days_allows_1 (by decide) (fun c1 => ?_) (fun c1 => ?_)
  · refine j_iload_n (pc := 6) C d_Days_allows_6 rfl 3 rfl ?_
    refine j_iconst (pc := 7) C (v := 1) d_Days_allows_7 (by decide) ?_
    refine j_icmp_eq (pc := 8) C (tgt := 16) d_Days_allows_8 (by decide) (fun c2 => ?_) (fun c2 => ?_)
    · refine j_aload_n (pc := 16) C d_Days_allows_16 rfl 0 rfl ?_
      refine j_iload_n (pc := 17) C d_Days_allows_17 rfl 2 rfl ?_
      refine j_callVi (pc := 18) C (c_hasVillage l D y ad d n4 va h4 b4) kw_Days_9 kv_Lake_hasVillage 0 2 rfl rfl ⟨by decide, by decide⟩ ⟨by decide, by decide⟩ (wr := [(ad 1, .inr (1, [.int (d.1 9), .ref (ad 4), .ref (ad 5), .ref (ad 6), .ref (ad 7), .ref (ad 8), .ref (ad 9), .ref (ad 10)])), (ad 10, .inl (y 0, 9, .inl (d.2 6))), (ad 12, .inl (y 0, 6, .inl (d.2 8))), (h, .inr (7, [.int (sb.1 0), .int (sb.1 1), .int (sb.1 2), .ref (sa 0), .ref (sa 1), .ref (sa 2), .ref (sa 3), .ref (sa 4), .ref (sa 5), .ref (sa 6)])), (sa 0, .inl (y 0, 9, .inl (sb.2.1 0)))]) [0] [1, 2, 3, 4, 5] rfl rfl (by decide) (by decide) (by decide) (As := [.int va]) (rest := []) rfl (nb rfl) rfl d_Days_allows_18 (fun r3 _ hr3 => ?_)
      refine j_ws (ws' := [(ad 1, .inr (1, [.int (d.1 9), .ref (ad 4), .ref (ad 5), .ref (ad 6), .ref (ad 7), .ref (ad 8), .ref (ad 9), .ref (ad 10)])), (ad 10, .inl (y 0, 9, .inl (d.2 6))), (ad 12, .inl (y 0, 6, .inl (d.2 8))), (h, .inr (7, [.int (sb.1 0), .int (sb.1 1), .int (sb.1 2), .ref (sa 0), .ref (sa 1), .ref (sa 2), .ref (sa 3), .ref (sa 4), .ref (sa 5), .ref (sa 6)])), (sa 0, .inl (y 0, 9, .inl (sb.2.1 0))), (ad 0, .inr (2, [.int (d.1 0), .int (d.1 1), .int (d.1 2), .int (d.1 3), .ref (ad 1), .int (d.1 4), .ref (ad 11), .ref (ad 12), .ref (ad 2), .ref (ad 3), .int (d.1 5), .int (d.1 6), .int (d.1 7), .int (d.1 8)]))]) rfl ?_
      rcases hr3 with rfl | ⟨rfl, j4, h5, rfl⟩
      · refine j_if_eqT (pc := 21) C (tgt := 30) d_Days_allows_21 (by decide) (by decide) ?_
        refine j_iconst (pc := 30) C (v := 0) d_Days_allows_30 (by decide) ?_
        exact j_iret (pc := 31) C hr (by decide) () (by decide) [5, 0, 1, 2, 3, 4] rfl (by decide) (by decide) (by decide) d_Days_allows_31
      · refine j_if_eqF (pc := 21) C (tgt := 30) d_Days_allows_21 (by decide) (by decide) ?_
        refine j_iload (pc := 24) C d_Days_allows_24 4 rfl ?_
        refine j_iconst (pc := 26) C (v := 3) d_Days_allows_26 (by decide) ?_
        refine j_icmp_ne (pc := 27) C (tgt := 32) d_Days_allows_27 (by decide) (fun c6 => ?_) (fun c6 => ?_)
        · refine j_iload (pc := 32) C d_Days_allows_32 4 rfl ?_
          refine j_if_ne (pc := 34) C (tgt := 47) d_Days_allows_34 (by decide) (fun c7 => ?_) (fun c7 => ?_)
          · refine j_aload_n (pc := 47) C d_Days_allows_47 rfl 0 rfl ?_
            refine j_get (pc := 48) C gf_Days_21 5 rfl rfl d_Days_allows_48 ?_
            refine j_iload_n (pc := 51) C d_Days_allows_51 rfl 2 rfl ?_
            obtain ⟨q8, h9, e10⟩ := hV j4 (by omega)
            refine j_iald (pc := 52) C 2 rfl (v := nI q8) (vp_in_nI (by omega) (by decide)) (by rw [nI_clamp (by omega)]; exact e10) d_Days_allows_52 ?_
            refine j_istore (pc := 53) C (lv' := [(5, .int (nI q8)), (0, .ref (ad 0)), (1, .ref h), (2, .int (nI j4)), (3, .int v), (4, .int vc)]) d_Days_allows_53 (by decide) rfl ?_
            refine j_aload_n (pc := 55) C d_Days_allows_55 rfl 1 rfl ?_
            refine j_get (pc := 56) C gf_Days_25 5 rfl rfl d_Days_allows_56 ?_
            refine j_get (pc := 59) C gf_Days_29 0 rfl rfl d_Days_allows_59 ?_
            refine j_iload (pc := 62) C d_Days_allows_62 0 rfl ?_
            rcases hJ q8 (by omega) with e13 | ⟨q11, h12, e13⟩
            · refine j_iald (pc := 64) C 1 rfl (v := (-1)) (vp_in_nI (by omega) (by decide)) (by rw [nI_clamp (by omega)]; exact e13) d_Days_allows_64 ?_
              refine j_istore (pc := 65) C (lv' := [(6, .int (-1)), (5, .int (nI q8)), (0, .ref (ad 0)), (1, .ref h), (2, .int (nI j4)), (3, .int v), (4, .int vc)]) d_Days_allows_65 (by decide) rfl ?_
              refine j_aload_n (pc := 67) C d_Days_allows_67 rfl 3 rfl ?_
              refine j_get (pc := 68) C gf_Days_34 3 rfl rfl d_Days_allows_68 ?_
              refine j_iload (pc := 71) C d_Days_allows_71 1 rfl ?_
              refine j_iald (pc := 73) C 4 rfl (v := (sb.2.1 0) (nI q8).toNatClampNeg) (vp_in_nI (by omega) (by decide)) rfl d_Days_allows_73 ?_
              refine j_iload_n (pc := 74) C d_Days_allows_74 rfl 5 rfl ?_
              refine j_iload (pc := 75) C d_Days_allows_75 6 rfl ?_
              refine j_callSi (pc := 77) C (c_fits l D y ((sb.2.1 0) (nI q8).toNatClampNeg) v vc) kw_Days_37 ks_Days_fits ⟨by decide, by decide⟩ ⟨by decide, by decide⟩ (wr := [(ad 1, .inr (1, [.int (d.1 9), .ref (ad 4), .ref (ad 5), .ref (ad 6), .ref (ad 7), .ref (ad 8), .ref (ad 9), .ref (ad 10)])), (ad 10, .inl (y 0, 9, .inl (d.2 6))), (ad 12, .inl (y 0, 6, .inl (d.2 8))), (h, .inr (7, [.int (sb.1 0), .int (sb.1 1), .int (sb.1 2), .ref (sa 0), .ref (sa 1), .ref (sa 2), .ref (sa 3), .ref (sa 4), .ref (sa 5), .ref (sa 6)])), (sa 0, .inl (y 0, 9, .inl (sb.2.1 0))), (ad 0, .inr (2, [.int (d.1 0), .int (d.1 1), .int (d.1 2), .int (d.1 3), .ref (ad 1), .int (d.1 4), .ref (ad 11), .ref (ad 12), .ref (ad 2), .ref (ad 3), .int (d.1 5), .int (d.1 6), .int (d.1 7), .int (d.1 8)]))]) [] [0, 1, 2, 3, 4, 5] rfl rfl (by decide) (by decide) (by decide) (As := [.int ((sb.2.1 0) (nI q8).toNatClampNeg), .int v, .int vc]) (rest := []) rfl (nb rfl) rfl d_Days_allows_77 (fun r14 _ hr14 => ?_)
              refine j_ws (ws' := [(ad 1, .inr (1, [.int (d.1 9), .ref (ad 4), .ref (ad 5), .ref (ad 6), .ref (ad 7), .ref (ad 8), .ref (ad 9), .ref (ad 10)])), (ad 10, .inl (y 0, 9, .inl (d.2 6))), (ad 12, .inl (y 0, 6, .inl (d.2 8))), (h, .inr (7, [.int (sb.1 0), .int (sb.1 1), .int (sb.1 2), .ref (sa 0), .ref (sa 1), .ref (sa 2), .ref (sa 3), .ref (sa 4), .ref (sa 5), .ref (sa 6)])), (sa 0, .inl (y 0, 9, .inl (sb.2.1 0))), (ad 0, .inr (2, [.int (d.1 0), .int (d.1 1), .int (d.1 2), .int (d.1 3), .ref (ad 1), .int (d.1 4), .ref (ad 11), .ref (ad 12), .ref (ad 2), .ref (ad 3), .int (d.1 5), .int (d.1 6), .int (d.1 7), .int (d.1 8)]))]) rfl ?_
              refine j_if_eq (pc := 80) C (tgt := 109) d_Days_allows_80 (by decide) (fun c15 => ?_) (fun c15 => ?_)
              · refine j_iconst (pc := 109) C (v := 0) d_Days_allows_109 (by decide) ?_
                exact j_iret (pc := 110) C hr (by decide) () (by decide) [5, 0, 1, 2, 3, 4] rfl (by decide) (by decide) (by decide) d_Days_allows_110
              · refine j_iload (pc := 83) C d_Days_allows_83 0 rfl ?_
                refine j_iconst (pc := 85) C (v := (-1)) d_Days_allows_85 (by decide) ?_
                refine j_icmp_eqT (pc := 86) C (tgt := 105) d_Days_allows_86 (by decide) (by decide) ?_
                refine j_iconst (pc := 105) C (v := 1) d_Days_allows_105 (by decide) ?_
                refine j_goto (pc := 106) C (tgt := 110) d_Days_allows_106 (by decide) ?_
                exact j_iret (pc := 110) C hr (by decide) () (by decide) [5, 0, 1, 2, 3, 4] rfl (by decide) (by decide) (by decide) d_Days_allows_110
            · refine j_iald (pc := 64) C 1 rfl (v := nI q11) (vp_in_nI (by omega) (by decide)) (by rw [nI_clamp (by omega)]; exact e13) d_Days_allows_64 ?_
              refine j_istore (pc := 65) C (lv' := [(6, .int (nI q11)), (5, .int (nI q8)), (0, .ref (ad 0)), (1, .ref h), (2, .int (nI j4)), (3, .int v), (4, .int vc)]) d_Days_allows_65 (by decide) rfl ?_
              refine j_aload_n (pc := 67) C d_Days_allows_67 rfl 3 rfl ?_
              refine j_get (pc := 68) C gf_Days_34 3 rfl rfl d_Days_allows_68 ?_
              refine j_iload (pc := 71) C d_Days_allows_71 1 rfl ?_
              refine j_iald (pc := 73) C 4 rfl (v := (sb.2.1 0) (nI q8).toNatClampNeg) (vp_in_nI (by omega) (by decide)) rfl d_Days_allows_73 ?_
              refine j_iload_n (pc := 74) C d_Days_allows_74 rfl 5 rfl ?_
              refine j_iload (pc := 75) C d_Days_allows_75 6 rfl ?_
              refine j_callSi (pc := 77) C (c_fits l D y ((sb.2.1 0) (nI q8).toNatClampNeg) v vc) kw_Days_37 ks_Days_fits ⟨by decide, by decide⟩ ⟨by decide, by decide⟩ (wr := [(ad 1, .inr (1, [.int (d.1 9), .ref (ad 4), .ref (ad 5), .ref (ad 6), .ref (ad 7), .ref (ad 8), .ref (ad 9), .ref (ad 10)])), (ad 10, .inl (y 0, 9, .inl (d.2 6))), (ad 12, .inl (y 0, 6, .inl (d.2 8))), (h, .inr (7, [.int (sb.1 0), .int (sb.1 1), .int (sb.1 2), .ref (sa 0), .ref (sa 1), .ref (sa 2), .ref (sa 3), .ref (sa 4), .ref (sa 5), .ref (sa 6)])), (sa 0, .inl (y 0, 9, .inl (sb.2.1 0))), (ad 0, .inr (2, [.int (d.1 0), .int (d.1 1), .int (d.1 2), .int (d.1 3), .ref (ad 1), .int (d.1 4), .ref (ad 11), .ref (ad 12), .ref (ad 2), .ref (ad 3), .int (d.1 5), .int (d.1 6), .int (d.1 7), .int (d.1 8)]))]) [] [0, 1, 2, 3, 4, 5] rfl rfl (by decide) (by decide) (by decide) (As := [.int ((sb.2.1 0) (nI q8).toNatClampNeg), .int v, .int vc]) (rest := []) rfl (nb rfl) rfl d_Days_allows_77 (fun r16 _ hr16 => ?_)
              refine j_ws (ws' := [(ad 1, .inr (1, [.int (d.1 9), .ref (ad 4), .ref (ad 5), .ref (ad 6), .ref (ad 7), .ref (ad 8), .ref (ad 9), .ref (ad 10)])), (ad 10, .inl (y 0, 9, .inl (d.2 6))), (ad 12, .inl (y 0, 6, .inl (d.2 8))), (h, .inr (7, [.int (sb.1 0), .int (sb.1 1), .int (sb.1 2), .ref (sa 0), .ref (sa 1), .ref (sa 2), .ref (sa 3), .ref (sa 4), .ref (sa 5), .ref (sa 6)])), (sa 0, .inl (y 0, 9, .inl (sb.2.1 0))), (ad 0, .inr (2, [.int (d.1 0), .int (d.1 1), .int (d.1 2), .int (d.1 3), .ref (ad 1), .int (d.1 4), .ref (ad 11), .ref (ad 12), .ref (ad 2), .ref (ad 3), .int (d.1 5), .int (d.1 6), .int (d.1 7), .int (d.1 8)]))]) rfl ?_
              refine j_if_eq (pc := 80) C (tgt := 109) d_Days_allows_80 (by decide) (fun c17 => ?_) (fun c17 => ?_)
              · refine j_iconst (pc := 109) C (v := 0) d_Days_allows_109 (by decide) ?_
                exact j_iret (pc := 110) C hr (by decide) () (by decide) [5, 0, 1, 2, 3, 4] rfl (by decide) (by decide) (by decide) d_Days_allows_110
              · refine j_iload (pc := 83) C d_Days_allows_83 0 rfl ?_
                refine j_iconst (pc := 85) C (v := (-1)) d_Days_allows_85 (by decide) ?_
                refine j_icmp_eqF (pc := 86) C (tgt := 105) d_Days_allows_86 (by decide) (nI_nm1 (by omega)) ?_
                refine j_aload_n (pc := 89) C d_Days_allows_89 rfl 3 rfl ?_
                refine j_get (pc := 90) C gf_Days_34 3 rfl rfl d_Days_allows_90 ?_
                refine j_iload (pc := 93) C d_Days_allows_93 0 rfl ?_
                refine j_iald (pc := 95) C 4 rfl (v := (sb.2.1 0) (nI q11).toNatClampNeg) (vp_in_nI (by omega) (by decide)) rfl d_Days_allows_95 ?_
                refine j_iload_n (pc := 96) C d_Days_allows_96 rfl 5 rfl ?_
                refine j_iload (pc := 97) C d_Days_allows_97 6 rfl ?_
                refine j_callSi (pc := 99) C (c_fits l D y ((sb.2.1 0) (nI q11).toNatClampNeg) v vc) kw_Days_37 ks_Days_fits ⟨by decide, by decide⟩ ⟨by decide, by decide⟩ (wr := [(ad 1, .inr (1, [.int (d.1 9), .ref (ad 4), .ref (ad 5), .ref (ad 6), .ref (ad 7), .ref (ad 8), .ref (ad 9), .ref (ad 10)])), (ad 10, .inl (y 0, 9, .inl (d.2 6))), (ad 12, .inl (y 0, 6, .inl (d.2 8))), (h, .inr (7, [.int (sb.1 0), .int (sb.1 1), .int (sb.1 2), .ref (sa 0), .ref (sa 1), .ref (sa 2), .ref (sa 3), .ref (sa 4), .ref (sa 5), .ref (sa 6)])), (sa 0, .inl (y 0, 9, .inl (sb.2.1 0))), (ad 0, .inr (2, [.int (d.1 0), .int (d.1 1), .int (d.1 2), .int (d.1 3), .ref (ad 1), .int (d.1 4), .ref (ad 11), .ref (ad 12), .ref (ad 2), .ref (ad 3), .int (d.1 5), .int (d.1 6), .int (d.1 7), .int (d.1 8)]))]) [] [0, 1, 2, 3, 4, 5] rfl rfl (by decide) (by decide) (by decide) (As := [.int ((sb.2.1 0) (nI q11).toNatClampNeg), .int v, .int vc]) (rest := []) rfl (nb rfl) rfl d_Days_allows_99 (fun r18 _ hr18 => ?_)
                refine j_ws (ws' := [(ad 1, .inr (1, [.int (d.1 9), .ref (ad 4), .ref (ad 5), .ref (ad 6), .ref (ad 7), .ref (ad 8), .ref (ad 9), .ref (ad 10)])), (ad 10, .inl (y 0, 9, .inl (d.2 6))), (ad 12, .inl (y 0, 6, .inl (d.2 8))), (h, .inr (7, [.int (sb.1 0), .int (sb.1 1), .int (sb.1 2), .ref (sa 0), .ref (sa 1), .ref (sa 2), .ref (sa 3), .ref (sa 4), .ref (sa 5), .ref (sa 6)])), (sa 0, .inl (y 0, 9, .inl (sb.2.1 0))), (ad 0, .inr (2, [.int (d.1 0), .int (d.1 1), .int (d.1 2), .int (d.1 3), .ref (ad 1), .int (d.1 4), .ref (ad 11), .ref (ad 12), .ref (ad 2), .ref (ad 3), .int (d.1 5), .int (d.1 6), .int (d.1 7), .int (d.1 8)]))]) rfl ?_
                refine j_if_eq (pc := 102) C (tgt := 109) d_Days_allows_102 (by decide) (fun c19 => ?_) (fun c19 => ?_)
                · refine j_iconst (pc := 109) C (v := 0) d_Days_allows_109 (by decide) ?_
                  exact j_iret (pc := 110) C hr (by decide) () (by decide) [5, 0, 1, 2, 3, 4] rfl (by decide) (by decide) (by decide) d_Days_allows_110
                · refine j_iconst (pc := 105) C (v := 1) d_Days_allows_105 (by decide) ?_
                  refine j_goto (pc := 106) C (tgt := 110) d_Days_allows_106 (by decide) ?_
                  exact j_iret (pc := 110) C hr (by decide) () (by decide) [5, 0, 1, 2, 3, 4] rfl (by decide) (by decide) (by decide) d_Days_allows_110
          · refine j_iload_n (pc := 37) C d_Days_allows_37 rfl 3 rfl ?_
            refine j_aload_n (pc := 38) C d_Days_allows_38 rfl 1 rfl ?_
            refine j_get (pc := 39) C gf_Days_15 3 rfl rfl d_Days_allows_39 ?_
            refine j_icmp_ne (pc := 42) C (tgt := 47) d_Days_allows_42 (by decide) (fun c20 => ?_) (fun c20 => ?_)
            · refine j_aload_n (pc := 47) C d_Days_allows_47 rfl 0 rfl ?_
              refine j_get (pc := 48) C gf_Days_21 5 rfl rfl d_Days_allows_48 ?_
              refine j_iload_n (pc := 51) C d_Days_allows_51 rfl 2 rfl ?_
              obtain ⟨q21, h22, e23⟩ := hV j4 (by omega)
              refine j_iald (pc := 52) C 2 rfl (v := nI q21) (vp_in_nI (by omega) (by decide)) (by rw [nI_clamp (by omega)]; exact e23) d_Days_allows_52 ?_
              refine j_istore (pc := 53) C (lv' := [(5, .int (nI q21)), (0, .ref (ad 0)), (1, .ref h), (2, .int (nI j4)), (3, .int v), (4, .int vc)]) d_Days_allows_53 (by decide) rfl ?_
              refine j_aload_n (pc := 55) C d_Days_allows_55 rfl 1 rfl ?_
              refine j_get (pc := 56) C gf_Days_25 5 rfl rfl d_Days_allows_56 ?_
              refine j_get (pc := 59) C gf_Days_29 0 rfl rfl d_Days_allows_59 ?_
              refine j_iload (pc := 62) C d_Days_allows_62 0 rfl ?_
              rcases hJ q21 (by omega) with e26 | ⟨q24, h25, e26⟩
              · refine j_iald (pc := 64) C 1 rfl (v := (-1)) (vp_in_nI (by omega) (by decide)) (by rw [nI_clamp (by omega)]; exact e26) d_Days_allows_64 ?_
                refine j_istore (pc := 65) C (lv' := [(6, .int (-1)), (5, .int (nI q21)), (0, .ref (ad 0)), (1, .ref h), (2, .int (nI j4)), (3, .int v), (4, .int vc)]) d_Days_allows_65 (by decide) rfl ?_
                refine j_aload_n (pc := 67) C d_Days_allows_67 rfl 3 rfl ?_
                refine j_get (pc := 68) C gf_Days_34 3 rfl rfl d_Days_allows_68 ?_
                refine j_iload (pc := 71) C d_Days_allows_71 1 rfl ?_
                refine j_iald (pc := 73) C 4 rfl (v := (sb.2.1 0) (nI q21).toNatClampNeg) (vp_in_nI (by omega) (by decide)) rfl d_Days_allows_73 ?_
                refine j_iload_n (pc := 74) C d_Days_allows_74 rfl 5 rfl ?_
                refine j_iload (pc := 75) C d_Days_allows_75 6 rfl ?_
                refine j_callSi (pc := 77) C (c_fits l D y ((sb.2.1 0) (nI q21).toNatClampNeg) v vc) kw_Days_37 ks_Days_fits ⟨by decide, by decide⟩ ⟨by decide, by decide⟩ (wr := [(ad 1, .inr (1, [.int (d.1 9), .ref (ad 4), .ref (ad 5), .ref (ad 6), .ref (ad 7), .ref (ad 8), .ref (ad 9), .ref (ad 10)])), (ad 10, .inl (y 0, 9, .inl (d.2 6))), (ad 12, .inl (y 0, 6, .inl (d.2 8))), (h, .inr (7, [.int (sb.1 0), .int (sb.1 1), .int (sb.1 2), .ref (sa 0), .ref (sa 1), .ref (sa 2), .ref (sa 3), .ref (sa 4), .ref (sa 5), .ref (sa 6)])), (sa 0, .inl (y 0, 9, .inl (sb.2.1 0))), (ad 0, .inr (2, [.int (d.1 0), .int (d.1 1), .int (d.1 2), .int (d.1 3), .ref (ad 1), .int (d.1 4), .ref (ad 11), .ref (ad 12), .ref (ad 2), .ref (ad 3), .int (d.1 5), .int (d.1 6), .int (d.1 7), .int (d.1 8)]))]) [] [0, 1, 2, 3, 4, 5] rfl rfl (by decide) (by decide) (by decide) (As := [.int ((sb.2.1 0) (nI q21).toNatClampNeg), .int v, .int vc]) (rest := []) rfl (nb rfl) rfl d_Days_allows_77 (fun r27 _ hr27 => ?_)
                refine j_ws (ws' := [(ad 1, .inr (1, [.int (d.1 9), .ref (ad 4), .ref (ad 5), .ref (ad 6), .ref (ad 7), .ref (ad 8), .ref (ad 9), .ref (ad 10)])), (ad 10, .inl (y 0, 9, .inl (d.2 6))), (ad 12, .inl (y 0, 6, .inl (d.2 8))), (h, .inr (7, [.int (sb.1 0), .int (sb.1 1), .int (sb.1 2), .ref (sa 0), .ref (sa 1), .ref (sa 2), .ref (sa 3), .ref (sa 4), .ref (sa 5), .ref (sa 6)])), (sa 0, .inl (y 0, 9, .inl (sb.2.1 0))), (ad 0, .inr (2, [.int (d.1 0), .int (d.1 1), .int (d.1 2), .int (d.1 3), .ref (ad 1), .int (d.1 4), .ref (ad 11), .ref (ad 12), .ref (ad 2), .ref (ad 3), .int (d.1 5), .int (d.1 6), .int (d.1 7), .int (d.1 8)]))]) rfl ?_
                refine j_if_eq (pc := 80) C (tgt := 109) d_Days_allows_80 (by decide) (fun c28 => ?_) (fun c28 => ?_)
                · refine j_iconst (pc := 109) C (v := 0) d_Days_allows_109 (by decide) ?_
                  exact j_iret (pc := 110) C hr (by decide) () (by decide) [5, 0, 1, 2, 3, 4] rfl (by decide) (by decide) (by decide) d_Days_allows_110
                · refine j_iload (pc := 83) C d_Days_allows_83 0 rfl ?_
                  refine j_iconst (pc := 85) C (v := (-1)) d_Days_allows_85 (by decide) ?_
                  refine j_icmp_eqT (pc := 86) C (tgt := 105) d_Days_allows_86 (by decide) (by decide) ?_
                  refine j_iconst (pc := 105) C (v := 1) d_Days_allows_105 (by decide) ?_
                  refine j_goto (pc := 106) C (tgt := 110) d_Days_allows_106 (by decide) ?_
                  exact j_iret (pc := 110) C hr (by decide) () (by decide) [5, 0, 1, 2, 3, 4] rfl (by decide) (by decide) (by decide) d_Days_allows_110
              · refine j_iald (pc := 64) C 1 rfl (v := nI q24) (vp_in_nI (by omega) (by decide)) (by rw [nI_clamp (by omega)]; exact e26) d_Days_allows_64 ?_
                refine j_istore (pc := 65) C (lv' := [(6, .int (nI q24)), (5, .int (nI q21)), (0, .ref (ad 0)), (1, .ref h), (2, .int (nI j4)), (3, .int v), (4, .int vc)]) d_Days_allows_65 (by decide) rfl ?_
                refine j_aload_n (pc := 67) C d_Days_allows_67 rfl 3 rfl ?_
                refine j_get (pc := 68) C gf_Days_34 3 rfl rfl d_Days_allows_68 ?_
                refine j_iload (pc := 71) C d_Days_allows_71 1 rfl ?_
                refine j_iald (pc := 73) C 4 rfl (v := (sb.2.1 0) (nI q21).toNatClampNeg) (vp_in_nI (by omega) (by decide)) rfl d_Days_allows_73 ?_
                refine j_iload_n (pc := 74) C d_Days_allows_74 rfl 5 rfl ?_
                refine j_iload (pc := 75) C d_Days_allows_75 6 rfl ?_
                refine j_callSi (pc := 77) C (c_fits l D y ((sb.2.1 0) (nI q21).toNatClampNeg) v vc) kw_Days_37 ks_Days_fits ⟨by decide, by decide⟩ ⟨by decide, by decide⟩ (wr := [(ad 1, .inr (1, [.int (d.1 9), .ref (ad 4), .ref (ad 5), .ref (ad 6), .ref (ad 7), .ref (ad 8), .ref (ad 9), .ref (ad 10)])), (ad 10, .inl (y 0, 9, .inl (d.2 6))), (ad 12, .inl (y 0, 6, .inl (d.2 8))), (h, .inr (7, [.int (sb.1 0), .int (sb.1 1), .int (sb.1 2), .ref (sa 0), .ref (sa 1), .ref (sa 2), .ref (sa 3), .ref (sa 4), .ref (sa 5), .ref (sa 6)])), (sa 0, .inl (y 0, 9, .inl (sb.2.1 0))), (ad 0, .inr (2, [.int (d.1 0), .int (d.1 1), .int (d.1 2), .int (d.1 3), .ref (ad 1), .int (d.1 4), .ref (ad 11), .ref (ad 12), .ref (ad 2), .ref (ad 3), .int (d.1 5), .int (d.1 6), .int (d.1 7), .int (d.1 8)]))]) [] [0, 1, 2, 3, 4, 5] rfl rfl (by decide) (by decide) (by decide) (As := [.int ((sb.2.1 0) (nI q21).toNatClampNeg), .int v, .int vc]) (rest := []) rfl (nb rfl) rfl d_Days_allows_77 (fun r29 _ hr29 => ?_)
                refine j_ws (ws' := [(ad 1, .inr (1, [.int (d.1 9), .ref (ad 4), .ref (ad 5), .ref (ad 6), .ref (ad 7), .ref (ad 8), .ref (ad 9), .ref (ad 10)])), (ad 10, .inl (y 0, 9, .inl (d.2 6))), (ad 12, .inl (y 0, 6, .inl (d.2 8))), (h, .inr (7, [.int (sb.1 0), .int (sb.1 1), .int (sb.1 2), .ref (sa 0), .ref (sa 1), .ref (sa 2), .ref (sa 3), .ref (sa 4), .ref (sa 5), .ref (sa 6)])), (sa 0, .inl (y 0, 9, .inl (sb.2.1 0))), (ad 0, .inr (2, [.int (d.1 0), .int (d.1 1), .int (d.1 2), .int (d.1 3), .ref (ad 1), .int (d.1 4), .ref (ad 11), .ref (ad 12), .ref (ad 2), .ref (ad 3), .int (d.1 5), .int (d.1 6), .int (d.1 7), .int (d.1 8)]))]) rfl ?_
                refine j_if_eq (pc := 80) C (tgt := 109) d_Days_allows_80 (by decide) (fun c30 => ?_) (fun c30 => ?_)
                · refine j_iconst (pc := 109) C (v := 0) d_Days_allows_109 (by decide) ?_
                  exact j_iret (pc := 110) C hr (by decide) () (by decide) [5, 0, 1, 2, 3, 4] rfl (by decide) (by decide) (by decide) d_Days_allows_110
                · refine j_iload (pc := 83) C d_Days_allows_83 0 rfl ?_
                  refine j_iconst (pc := 85) C (v := (-1)) d_Days_allows_85 (by decide) ?_
                  refine j_icmp_eqF (pc := 86) C (tgt := 105) d_Days_allows_86 (by decide) (nI_nm1 (by omega)) ?_
                  refine j_aload_n (pc := 89) C d_Days_allows_89 rfl 3 rfl ?_
                  refine j_get (pc := 90) C gf_Days_34 3 rfl rfl d_Days_allows_90 ?_
                  refine j_iload (pc := 93) C d_Days_allows_93 0 rfl ?_
                  refine j_iald (pc := 95) C 4 rfl (v := (sb.2.1 0) (nI q24).toNatClampNeg) (vp_in_nI (by omega) (by decide)) rfl d_Days_allows_95 ?_
                  refine j_iload_n (pc := 96) C d_Days_allows_96 rfl 5 rfl ?_
                  refine j_iload (pc := 97) C d_Days_allows_97 6 rfl ?_
                  refine j_callSi (pc := 99) C (c_fits l D y ((sb.2.1 0) (nI q24).toNatClampNeg) v vc) kw_Days_37 ks_Days_fits ⟨by decide, by decide⟩ ⟨by decide, by decide⟩ (wr := [(ad 1, .inr (1, [.int (d.1 9), .ref (ad 4), .ref (ad 5), .ref (ad 6), .ref (ad 7), .ref (ad 8), .ref (ad 9), .ref (ad 10)])), (ad 10, .inl (y 0, 9, .inl (d.2 6))), (ad 12, .inl (y 0, 6, .inl (d.2 8))), (h, .inr (7, [.int (sb.1 0), .int (sb.1 1), .int (sb.1 2), .ref (sa 0), .ref (sa 1), .ref (sa 2), .ref (sa 3), .ref (sa 4), .ref (sa 5), .ref (sa 6)])), (sa 0, .inl (y 0, 9, .inl (sb.2.1 0))), (ad 0, .inr (2, [.int (d.1 0), .int (d.1 1), .int (d.1 2), .int (d.1 3), .ref (ad 1), .int (d.1 4), .ref (ad 11), .ref (ad 12), .ref (ad 2), .ref (ad 3), .int (d.1 5), .int (d.1 6), .int (d.1 7), .int (d.1 8)]))]) [] [0, 1, 2, 3, 4, 5] rfl rfl (by decide) (by decide) (by decide) (As := [.int ((sb.2.1 0) (nI q24).toNatClampNeg), .int v, .int vc]) (rest := []) rfl (nb rfl) rfl d_Days_allows_99 (fun r31 _ hr31 => ?_)
                  refine j_ws (ws' := [(ad 1, .inr (1, [.int (d.1 9), .ref (ad 4), .ref (ad 5), .ref (ad 6), .ref (ad 7), .ref (ad 8), .ref (ad 9), .ref (ad 10)])), (ad 10, .inl (y 0, 9, .inl (d.2 6))), (ad 12, .inl (y 0, 6, .inl (d.2 8))), (h, .inr (7, [.int (sb.1 0), .int (sb.1 1), .int (sb.1 2), .ref (sa 0), .ref (sa 1), .ref (sa 2), .ref (sa 3), .ref (sa 4), .ref (sa 5), .ref (sa 6)])), (sa 0, .inl (y 0, 9, .inl (sb.2.1 0))), (ad 0, .inr (2, [.int (d.1 0), .int (d.1 1), .int (d.1 2), .int (d.1 3), .ref (ad 1), .int (d.1 4), .ref (ad 11), .ref (ad 12), .ref (ad 2), .ref (ad 3), .int (d.1 5), .int (d.1 6), .int (d.1 7), .int (d.1 8)]))]) rfl ?_
                  refine j_if_eq (pc := 102) C (tgt := 109) d_Days_allows_102 (by decide) (fun c32 => ?_) (fun c32 => ?_)
                  · refine j_iconst (pc := 109) C (v := 0) d_Days_allows_109 (by decide) ?_
                    exact j_iret (pc := 110) C hr (by decide) () (by decide) [5, 0, 1, 2, 3, 4] rfl (by decide) (by decide) (by decide) d_Days_allows_110
                  · refine j_iconst (pc := 105) C (v := 1) d_Days_allows_105 (by decide) ?_
                    refine j_goto (pc := 106) C (tgt := 110) d_Days_allows_106 (by decide) ?_
                    exact j_iret (pc := 110) C hr (by decide) () (by decide) [5, 0, 1, 2, 3, 4] rfl (by decide) (by decide) (by decide) d_Days_allows_110
            · refine j_iconst (pc := 45) C (v := 0) d_Days_allows_45 (by decide) ?_
              exact j_iret (pc := 46) C hr (by decide) () (by decide) [5, 0, 1, 2, 3, 4] rfl (by decide) (by decide) (by decide) d_Days_allows_46
        · refine j_iconst (pc := 30) C (v := 0) d_Days_allows_30 (by decide) ?_
          exact j_iret (pc := 31) C hr (by decide) () (by decide) [5, 0, 1, 2, 3, 4] rfl (by decide) (by decide) (by decide) d_Days_allows_31
    · refine j_iload_n (pc := 11) C d_Days_allows_11 rfl 3 rfl ?_
      refine j_iconst (pc := 12) C (v := 2) d_Days_allows_12 (by decide) ?_
      refine j_icmp_ne (pc := 13) C (tgt := 30) d_Days_allows_13 (by decide) (fun c33 => ?_) (fun c33 => ?_)
      · refine j_iconst (pc := 30) C (v := 0) d_Days_allows_30 (by decide) ?_
        exact j_iret (pc := 31) C hr (by decide) () (by decide) [0, 1, 2, 3, 4, 5] rfl (by decide) (by decide) (by decide) d_Days_allows_31
      · refine j_aload_n (pc := 16) C d_Days_allows_16 rfl 0 rfl ?_
        refine j_iload_n (pc := 17) C d_Days_allows_17 rfl 2 rfl ?_
        refine j_callVi (pc := 18) C (c_hasVillage l D y ad d n4 va h4 b4) kw_Days_9 kv_Lake_hasVillage 0 2 rfl rfl ⟨by decide, by decide⟩ ⟨by decide, by decide⟩ (wr := [(ad 1, .inr (1, [.int (d.1 9), .ref (ad 4), .ref (ad 5), .ref (ad 6), .ref (ad 7), .ref (ad 8), .ref (ad 9), .ref (ad 10)])), (ad 10, .inl (y 0, 9, .inl (d.2 6))), (ad 12, .inl (y 0, 6, .inl (d.2 8))), (h, .inr (7, [.int (sb.1 0), .int (sb.1 1), .int (sb.1 2), .ref (sa 0), .ref (sa 1), .ref (sa 2), .ref (sa 3), .ref (sa 4), .ref (sa 5), .ref (sa 6)])), (sa 0, .inl (y 0, 9, .inl (sb.2.1 0)))]) [0] [1, 2, 3, 4, 5] rfl rfl (by decide) (by decide) (by decide) (As := [.int va]) (rest := []) rfl (nb rfl) rfl d_Days_allows_18 (fun r34 _ hr34 => ?_)
        refine j_ws (ws' := [(ad 1, .inr (1, [.int (d.1 9), .ref (ad 4), .ref (ad 5), .ref (ad 6), .ref (ad 7), .ref (ad 8), .ref (ad 9), .ref (ad 10)])), (ad 10, .inl (y 0, 9, .inl (d.2 6))), (ad 12, .inl (y 0, 6, .inl (d.2 8))), (h, .inr (7, [.int (sb.1 0), .int (sb.1 1), .int (sb.1 2), .ref (sa 0), .ref (sa 1), .ref (sa 2), .ref (sa 3), .ref (sa 4), .ref (sa 5), .ref (sa 6)])), (sa 0, .inl (y 0, 9, .inl (sb.2.1 0))), (ad 0, .inr (2, [.int (d.1 0), .int (d.1 1), .int (d.1 2), .int (d.1 3), .ref (ad 1), .int (d.1 4), .ref (ad 11), .ref (ad 12), .ref (ad 2), .ref (ad 3), .int (d.1 5), .int (d.1 6), .int (d.1 7), .int (d.1 8)]))]) rfl ?_
        rcases hr34 with rfl | ⟨rfl, j35, h36, rfl⟩
        · refine j_if_eqT (pc := 21) C (tgt := 30) d_Days_allows_21 (by decide) (by decide) ?_
          refine j_iconst (pc := 30) C (v := 0) d_Days_allows_30 (by decide) ?_
          exact j_iret (pc := 31) C hr (by decide) () (by decide) [5, 0, 1, 2, 3, 4] rfl (by decide) (by decide) (by decide) d_Days_allows_31
        · refine j_if_eqF (pc := 21) C (tgt := 30) d_Days_allows_21 (by decide) (by decide) ?_
          refine j_iload (pc := 24) C d_Days_allows_24 4 rfl ?_
          refine j_iconst (pc := 26) C (v := 3) d_Days_allows_26 (by decide) ?_
          refine j_icmp_ne (pc := 27) C (tgt := 32) d_Days_allows_27 (by decide) (fun c37 => ?_) (fun c37 => ?_)
          · refine j_iload (pc := 32) C d_Days_allows_32 4 rfl ?_
            refine j_if_ne (pc := 34) C (tgt := 47) d_Days_allows_34 (by decide) (fun c38 => ?_) (fun c38 => ?_)
            · refine j_aload_n (pc := 47) C d_Days_allows_47 rfl 0 rfl ?_
              refine j_get (pc := 48) C gf_Days_21 5 rfl rfl d_Days_allows_48 ?_
              refine j_iload_n (pc := 51) C d_Days_allows_51 rfl 2 rfl ?_
              obtain ⟨q39, h40, e41⟩ := hV j35 (by omega)
              refine j_iald (pc := 52) C 2 rfl (v := nI q39) (vp_in_nI (by omega) (by decide)) (by rw [nI_clamp (by omega)]; exact e41) d_Days_allows_52 ?_
              refine j_istore (pc := 53) C (lv' := [(5, .int (nI q39)), (0, .ref (ad 0)), (1, .ref h), (2, .int (nI j35)), (3, .int v), (4, .int vc)]) d_Days_allows_53 (by decide) rfl ?_
              refine j_aload_n (pc := 55) C d_Days_allows_55 rfl 1 rfl ?_
              refine j_get (pc := 56) C gf_Days_25 5 rfl rfl d_Days_allows_56 ?_
              refine j_get (pc := 59) C gf_Days_29 0 rfl rfl d_Days_allows_59 ?_
              refine j_iload (pc := 62) C d_Days_allows_62 0 rfl ?_
              rcases hJ q39 (by omega) with e44 | ⟨q42, h43, e44⟩
              · refine j_iald (pc := 64) C 1 rfl (v := (-1)) (vp_in_nI (by omega) (by decide)) (by rw [nI_clamp (by omega)]; exact e44) d_Days_allows_64 ?_
                refine j_istore (pc := 65) C (lv' := [(6, .int (-1)), (5, .int (nI q39)), (0, .ref (ad 0)), (1, .ref h), (2, .int (nI j35)), (3, .int v), (4, .int vc)]) d_Days_allows_65 (by decide) rfl ?_
                refine j_aload_n (pc := 67) C d_Days_allows_67 rfl 3 rfl ?_
                refine j_get (pc := 68) C gf_Days_34 3 rfl rfl d_Days_allows_68 ?_
                refine j_iload (pc := 71) C d_Days_allows_71 1 rfl ?_
                refine j_iald (pc := 73) C 4 rfl (v := (sb.2.1 0) (nI q39).toNatClampNeg) (vp_in_nI (by omega) (by decide)) rfl d_Days_allows_73 ?_
                refine j_iload_n (pc := 74) C d_Days_allows_74 rfl 5 rfl ?_
                refine j_iload (pc := 75) C d_Days_allows_75 6 rfl ?_
                refine j_callSi (pc := 77) C (c_fits l D y ((sb.2.1 0) (nI q39).toNatClampNeg) v vc) kw_Days_37 ks_Days_fits ⟨by decide, by decide⟩ ⟨by decide, by decide⟩ (wr := [(ad 1, .inr (1, [.int (d.1 9), .ref (ad 4), .ref (ad 5), .ref (ad 6), .ref (ad 7), .ref (ad 8), .ref (ad 9), .ref (ad 10)])), (ad 10, .inl (y 0, 9, .inl (d.2 6))), (ad 12, .inl (y 0, 6, .inl (d.2 8))), (h, .inr (7, [.int (sb.1 0), .int (sb.1 1), .int (sb.1 2), .ref (sa 0), .ref (sa 1), .ref (sa 2), .ref (sa 3), .ref (sa 4), .ref (sa 5), .ref (sa 6)])), (sa 0, .inl (y 0, 9, .inl (sb.2.1 0))), (ad 0, .inr (2, [.int (d.1 0), .int (d.1 1), .int (d.1 2), .int (d.1 3), .ref (ad 1), .int (d.1 4), .ref (ad 11), .ref (ad 12), .ref (ad 2), .ref (ad 3), .int (d.1 5), .int (d.1 6), .int (d.1 7), .int (d.1 8)]))]) [] [0, 1, 2, 3, 4, 5] rfl rfl (by decide) (by decide) (by decide) (As := [.int ((sb.2.1 0) (nI q39).toNatClampNeg), .int v, .int vc]) (rest := []) rfl (nb rfl) rfl d_Days_allows_77 (fun r45 _ hr45 => ?_)
                refine j_ws (ws' := [(ad 1, .inr (1, [.int (d.1 9), .ref (ad 4), .ref (ad 5), .ref (ad 6), .ref (ad 7), .ref (ad 8), .ref (ad 9), .ref (ad 10)])), (ad 10, .inl (y 0, 9, .inl (d.2 6))), (ad 12, .inl (y 0, 6, .inl (d.2 8))), (h, .inr (7, [.int (sb.1 0), .int (sb.1 1), .int (sb.1 2), .ref (sa 0), .ref (sa 1), .ref (sa 2), .ref (sa 3), .ref (sa 4), .ref (sa 5), .ref (sa 6)])), (sa 0, .inl (y 0, 9, .inl (sb.2.1 0))), (ad 0, .inr (2, [.int (d.1 0), .int (d.1 1), .int (d.1 2), .int (d.1 3), .ref (ad 1), .int (d.1 4), .ref (ad 11), .ref (ad 12), .ref (ad 2), .ref (ad 3), .int (d.1 5), .int (d.1 6), .int (d.1 7), .int (d.1 8)]))]) rfl ?_
                refine j_if_eq (pc := 80) C (tgt := 109) d_Days_allows_80 (by decide) (fun c46 => ?_) (fun c46 => ?_)
                · refine j_iconst (pc := 109) C (v := 0) d_Days_allows_109 (by decide) ?_
                  exact j_iret (pc := 110) C hr (by decide) () (by decide) [5, 0, 1, 2, 3, 4] rfl (by decide) (by decide) (by decide) d_Days_allows_110
                · refine j_iload (pc := 83) C d_Days_allows_83 0 rfl ?_
                  refine j_iconst (pc := 85) C (v := (-1)) d_Days_allows_85 (by decide) ?_
                  refine j_icmp_eqT (pc := 86) C (tgt := 105) d_Days_allows_86 (by decide) (by decide) ?_
                  refine j_iconst (pc := 105) C (v := 1) d_Days_allows_105 (by decide) ?_
                  refine j_goto (pc := 106) C (tgt := 110) d_Days_allows_106 (by decide) ?_
                  exact j_iret (pc := 110) C hr (by decide) () (by decide) [5, 0, 1, 2, 3, 4] rfl (by decide) (by decide) (by decide) d_Days_allows_110
              · refine j_iald (pc := 64) C 1 rfl (v := nI q42) (vp_in_nI (by omega) (by decide)) (by rw [nI_clamp (by omega)]; exact e44) d_Days_allows_64 ?_
                refine j_istore (pc := 65) C (lv' := [(6, .int (nI q42)), (5, .int (nI q39)), (0, .ref (ad 0)), (1, .ref h), (2, .int (nI j35)), (3, .int v), (4, .int vc)]) d_Days_allows_65 (by decide) rfl ?_
                refine j_aload_n (pc := 67) C d_Days_allows_67 rfl 3 rfl ?_
                refine j_get (pc := 68) C gf_Days_34 3 rfl rfl d_Days_allows_68 ?_
                refine j_iload (pc := 71) C d_Days_allows_71 1 rfl ?_
                refine j_iald (pc := 73) C 4 rfl (v := (sb.2.1 0) (nI q39).toNatClampNeg) (vp_in_nI (by omega) (by decide)) rfl d_Days_allows_73 ?_
                refine j_iload_n (pc := 74) C d_Days_allows_74 rfl 5 rfl ?_
                refine j_iload (pc := 75) C d_Days_allows_75 6 rfl ?_
                refine j_callSi (pc := 77) C (c_fits l D y ((sb.2.1 0) (nI q39).toNatClampNeg) v vc) kw_Days_37 ks_Days_fits ⟨by decide, by decide⟩ ⟨by decide, by decide⟩ (wr := [(ad 1, .inr (1, [.int (d.1 9), .ref (ad 4), .ref (ad 5), .ref (ad 6), .ref (ad 7), .ref (ad 8), .ref (ad 9), .ref (ad 10)])), (ad 10, .inl (y 0, 9, .inl (d.2 6))), (ad 12, .inl (y 0, 6, .inl (d.2 8))), (h, .inr (7, [.int (sb.1 0), .int (sb.1 1), .int (sb.1 2), .ref (sa 0), .ref (sa 1), .ref (sa 2), .ref (sa 3), .ref (sa 4), .ref (sa 5), .ref (sa 6)])), (sa 0, .inl (y 0, 9, .inl (sb.2.1 0))), (ad 0, .inr (2, [.int (d.1 0), .int (d.1 1), .int (d.1 2), .int (d.1 3), .ref (ad 1), .int (d.1 4), .ref (ad 11), .ref (ad 12), .ref (ad 2), .ref (ad 3), .int (d.1 5), .int (d.1 6), .int (d.1 7), .int (d.1 8)]))]) [] [0, 1, 2, 3, 4, 5] rfl rfl (by decide) (by decide) (by decide) (As := [.int ((sb.2.1 0) (nI q39).toNatClampNeg), .int v, .int vc]) (rest := []) rfl (nb rfl) rfl d_Days_allows_77 (fun r47 _ hr47 => ?_)
                refine j_ws (ws' := [(ad 1, .inr (1, [.int (d.1 9), .ref (ad 4), .ref (ad 5), .ref (ad 6), .ref (ad 7), .ref (ad 8), .ref (ad 9), .ref (ad 10)])), (ad 10, .inl (y 0, 9, .inl (d.2 6))), (ad 12, .inl (y 0, 6, .inl (d.2 8))), (h, .inr (7, [.int (sb.1 0), .int (sb.1 1), .int (sb.1 2), .ref (sa 0), .ref (sa 1), .ref (sa 2), .ref (sa 3), .ref (sa 4), .ref (sa 5), .ref (sa 6)])), (sa 0, .inl (y 0, 9, .inl (sb.2.1 0))), (ad 0, .inr (2, [.int (d.1 0), .int (d.1 1), .int (d.1 2), .int (d.1 3), .ref (ad 1), .int (d.1 4), .ref (ad 11), .ref (ad 12), .ref (ad 2), .ref (ad 3), .int (d.1 5), .int (d.1 6), .int (d.1 7), .int (d.1 8)]))]) rfl ?_
                refine j_if_eq (pc := 80) C (tgt := 109) d_Days_allows_80 (by decide) (fun c48 => ?_) (fun c48 => ?_)
                · refine j_iconst (pc := 109) C (v := 0) d_Days_allows_109 (by decide) ?_
                  exact j_iret (pc := 110) C hr (by decide) () (by decide) [5, 0, 1, 2, 3, 4] rfl (by decide) (by decide) (by decide) d_Days_allows_110
                · refine j_iload (pc := 83) C d_Days_allows_83 0 rfl ?_
                  refine j_iconst (pc := 85) C (v := (-1)) d_Days_allows_85 (by decide) ?_
                  refine j_icmp_eqF (pc := 86) C (tgt := 105) d_Days_allows_86 (by decide) (nI_nm1 (by omega)) ?_
                  refine j_aload_n (pc := 89) C d_Days_allows_89 rfl 3 rfl ?_
                  refine j_get (pc := 90) C gf_Days_34 3 rfl rfl d_Days_allows_90 ?_
                  refine j_iload (pc := 93) C d_Days_allows_93 0 rfl ?_
                  refine j_iald (pc := 95) C 4 rfl (v := (sb.2.1 0) (nI q42).toNatClampNeg) (vp_in_nI (by omega) (by decide)) rfl d_Days_allows_95 ?_
                  refine j_iload_n (pc := 96) C d_Days_allows_96 rfl 5 rfl ?_
                  refine j_iload (pc := 97) C d_Days_allows_97 6 rfl ?_
                  refine j_callSi (pc := 99) C (c_fits l D y ((sb.2.1 0) (nI q42).toNatClampNeg) v vc) kw_Days_37 ks_Days_fits ⟨by decide, by decide⟩ ⟨by decide, by decide⟩ (wr := [(ad 1, .inr (1, [.int (d.1 9), .ref (ad 4), .ref (ad 5), .ref (ad 6), .ref (ad 7), .ref (ad 8), .ref (ad 9), .ref (ad 10)])), (ad 10, .inl (y 0, 9, .inl (d.2 6))), (ad 12, .inl (y 0, 6, .inl (d.2 8))), (h, .inr (7, [.int (sb.1 0), .int (sb.1 1), .int (sb.1 2), .ref (sa 0), .ref (sa 1), .ref (sa 2), .ref (sa 3), .ref (sa 4), .ref (sa 5), .ref (sa 6)])), (sa 0, .inl (y 0, 9, .inl (sb.2.1 0))), (ad 0, .inr (2, [.int (d.1 0), .int (d.1 1), .int (d.1 2), .int (d.1 3), .ref (ad 1), .int (d.1 4), .ref (ad 11), .ref (ad 12), .ref (ad 2), .ref (ad 3), .int (d.1 5), .int (d.1 6), .int (d.1 7), .int (d.1 8)]))]) [] [0, 1, 2, 3, 4, 5] rfl rfl (by decide) (by decide) (by decide) (As := [.int ((sb.2.1 0) (nI q42).toNatClampNeg), .int v, .int vc]) (rest := []) rfl (nb rfl) rfl d_Days_allows_99 (fun r49 _ hr49 => ?_)
                  refine j_ws (ws' := [(ad 1, .inr (1, [.int (d.1 9), .ref (ad 4), .ref (ad 5), .ref (ad 6), .ref (ad 7), .ref (ad 8), .ref (ad 9), .ref (ad 10)])), (ad 10, .inl (y 0, 9, .inl (d.2 6))), (ad 12, .inl (y 0, 6, .inl (d.2 8))), (h, .inr (7, [.int (sb.1 0), .int (sb.1 1), .int (sb.1 2), .ref (sa 0), .ref (sa 1), .ref (sa 2), .ref (sa 3), .ref (sa 4), .ref (sa 5), .ref (sa 6)])), (sa 0, .inl (y 0, 9, .inl (sb.2.1 0))), (ad 0, .inr (2, [.int (d.1 0), .int (d.1 1), .int (d.1 2), .int (d.1 3), .ref (ad 1), .int (d.1 4), .ref (ad 11), .ref (ad 12), .ref (ad 2), .ref (ad 3), .int (d.1 5), .int (d.1 6), .int (d.1 7), .int (d.1 8)]))]) rfl ?_
                  refine j_if_eq (pc := 102) C (tgt := 109) d_Days_allows_102 (by decide) (fun c50 => ?_) (fun c50 => ?_)
                  · refine j_iconst (pc := 109) C (v := 0) d_Days_allows_109 (by decide) ?_
                    exact j_iret (pc := 110) C hr (by decide) () (by decide) [5, 0, 1, 2, 3, 4] rfl (by decide) (by decide) (by decide) d_Days_allows_110
                  · refine j_iconst (pc := 105) C (v := 1) d_Days_allows_105 (by decide) ?_
                    refine j_goto (pc := 106) C (tgt := 110) d_Days_allows_106 (by decide) ?_
                    exact j_iret (pc := 110) C hr (by decide) () (by decide) [5, 0, 1, 2, 3, 4] rfl (by decide) (by decide) (by decide) d_Days_allows_110
            · refine j_iload_n (pc := 37) C d_Days_allows_37 rfl 3 rfl ?_
              refine j_aload_n (pc := 38) C d_Days_allows_38 rfl 1 rfl ?_
              refine j_get (pc := 39) C gf_Days_15 3 rfl rfl d_Days_allows_39 ?_
              refine j_icmp_ne (pc := 42) C (tgt := 47) d_Days_allows_42 (by decide) (fun c51 => ?_) (fun c51 => ?_)
              · refine j_aload_n (pc := 47) C d_Days_allows_47 rfl 0 rfl ?_
                refine j_get (pc := 48) C gf_Days_21 5 rfl rfl d_Days_allows_48 ?_
                refine j_iload_n (pc := 51) C d_Days_allows_51 rfl 2 rfl ?_
                obtain ⟨q52, h53, e54⟩ := hV j35 (by omega)
                refine j_iald (pc := 52) C 2 rfl (v := nI q52) (vp_in_nI (by omega) (by decide)) (by rw [nI_clamp (by omega)]; exact e54) d_Days_allows_52 ?_
                refine j_istore (pc := 53) C (lv' := [(5, .int (nI q52)), (0, .ref (ad 0)), (1, .ref h), (2, .int (nI j35)), (3, .int v), (4, .int vc)]) d_Days_allows_53 (by decide) rfl ?_
                refine j_aload_n (pc := 55) C d_Days_allows_55 rfl 1 rfl ?_
                refine j_get (pc := 56) C gf_Days_25 5 rfl rfl d_Days_allows_56 ?_
                refine j_get (pc := 59) C gf_Days_29 0 rfl rfl d_Days_allows_59 ?_
                refine j_iload (pc := 62) C d_Days_allows_62 0 rfl ?_
                rcases hJ q52 (by omega) with e57 | ⟨q55, h56, e57⟩
                · refine j_iald (pc := 64) C 1 rfl (v := (-1)) (vp_in_nI (by omega) (by decide)) (by rw [nI_clamp (by omega)]; exact e57) d_Days_allows_64 ?_
                  refine j_istore (pc := 65) C (lv' := [(6, .int (-1)), (5, .int (nI q52)), (0, .ref (ad 0)), (1, .ref h), (2, .int (nI j35)), (3, .int v), (4, .int vc)]) d_Days_allows_65 (by decide) rfl ?_
                  refine j_aload_n (pc := 67) C d_Days_allows_67 rfl 3 rfl ?_
                  refine j_get (pc := 68) C gf_Days_34 3 rfl rfl d_Days_allows_68 ?_
                  refine j_iload (pc := 71) C d_Days_allows_71 1 rfl ?_
                  refine j_iald (pc := 73) C 4 rfl (v := (sb.2.1 0) (nI q52).toNatClampNeg) (vp_in_nI (by omega) (by decide)) rfl d_Days_allows_73 ?_
                  refine j_iload_n (pc := 74) C d_Days_allows_74 rfl 5 rfl ?_
                  refine j_iload (pc := 75) C d_Days_allows_75 6 rfl ?_
                  refine j_callSi (pc := 77) C (c_fits l D y ((sb.2.1 0) (nI q52).toNatClampNeg) v vc) kw_Days_37 ks_Days_fits ⟨by decide, by decide⟩ ⟨by decide, by decide⟩ (wr := [(ad 1, .inr (1, [.int (d.1 9), .ref (ad 4), .ref (ad 5), .ref (ad 6), .ref (ad 7), .ref (ad 8), .ref (ad 9), .ref (ad 10)])), (ad 10, .inl (y 0, 9, .inl (d.2 6))), (ad 12, .inl (y 0, 6, .inl (d.2 8))), (h, .inr (7, [.int (sb.1 0), .int (sb.1 1), .int (sb.1 2), .ref (sa 0), .ref (sa 1), .ref (sa 2), .ref (sa 3), .ref (sa 4), .ref (sa 5), .ref (sa 6)])), (sa 0, .inl (y 0, 9, .inl (sb.2.1 0))), (ad 0, .inr (2, [.int (d.1 0), .int (d.1 1), .int (d.1 2), .int (d.1 3), .ref (ad 1), .int (d.1 4), .ref (ad 11), .ref (ad 12), .ref (ad 2), .ref (ad 3), .int (d.1 5), .int (d.1 6), .int (d.1 7), .int (d.1 8)]))]) [] [0, 1, 2, 3, 4, 5] rfl rfl (by decide) (by decide) (by decide) (As := [.int ((sb.2.1 0) (nI q52).toNatClampNeg), .int v, .int vc]) (rest := []) rfl (nb rfl) rfl d_Days_allows_77 (fun r58 _ hr58 => ?_)
                  refine j_ws (ws' := [(ad 1, .inr (1, [.int (d.1 9), .ref (ad 4), .ref (ad 5), .ref (ad 6), .ref (ad 7), .ref (ad 8), .ref (ad 9), .ref (ad 10)])), (ad 10, .inl (y 0, 9, .inl (d.2 6))), (ad 12, .inl (y 0, 6, .inl (d.2 8))), (h, .inr (7, [.int (sb.1 0), .int (sb.1 1), .int (sb.1 2), .ref (sa 0), .ref (sa 1), .ref (sa 2), .ref (sa 3), .ref (sa 4), .ref (sa 5), .ref (sa 6)])), (sa 0, .inl (y 0, 9, .inl (sb.2.1 0))), (ad 0, .inr (2, [.int (d.1 0), .int (d.1 1), .int (d.1 2), .int (d.1 3), .ref (ad 1), .int (d.1 4), .ref (ad 11), .ref (ad 12), .ref (ad 2), .ref (ad 3), .int (d.1 5), .int (d.1 6), .int (d.1 7), .int (d.1 8)]))]) rfl ?_
                  refine j_if_eq (pc := 80) C (tgt := 109) d_Days_allows_80 (by decide) (fun c59 => ?_) (fun c59 => ?_)
                  · refine j_iconst (pc := 109) C (v := 0) d_Days_allows_109 (by decide) ?_
                    exact j_iret (pc := 110) C hr (by decide) () (by decide) [5, 0, 1, 2, 3, 4] rfl (by decide) (by decide) (by decide) d_Days_allows_110
                  · refine j_iload (pc := 83) C d_Days_allows_83 0 rfl ?_
                    refine j_iconst (pc := 85) C (v := (-1)) d_Days_allows_85 (by decide) ?_
                    refine j_icmp_eqT (pc := 86) C (tgt := 105) d_Days_allows_86 (by decide) (by decide) ?_
                    refine j_iconst (pc := 105) C (v := 1) d_Days_allows_105 (by decide) ?_
                    refine j_goto (pc := 106) C (tgt := 110) d_Days_allows_106 (by decide) ?_
                    exact j_iret (pc := 110) C hr (by decide) () (by decide) [5, 0, 1, 2, 3, 4] rfl (by decide) (by decide) (by decide) d_Days_allows_110
                · refine j_iald (pc := 64) C 1 rfl (v := nI q55) (vp_in_nI (by omega) (by decide)) (by rw [nI_clamp (by omega)]; exact e57) d_Days_allows_64 ?_
                  refine j_istore (pc := 65) C (lv' := [(6, .int (nI q55)), (5, .int (nI q52)), (0, .ref (ad 0)), (1, .ref h), (2, .int (nI j35)), (3, .int v), (4, .int vc)]) d_Days_allows_65 (by decide) rfl ?_
                  refine j_aload_n (pc := 67) C d_Days_allows_67 rfl 3 rfl ?_
                  refine j_get (pc := 68) C gf_Days_34 3 rfl rfl d_Days_allows_68 ?_
                  refine j_iload (pc := 71) C d_Days_allows_71 1 rfl ?_
                  refine j_iald (pc := 73) C 4 rfl (v := (sb.2.1 0) (nI q52).toNatClampNeg) (vp_in_nI (by omega) (by decide)) rfl d_Days_allows_73 ?_
                  refine j_iload_n (pc := 74) C d_Days_allows_74 rfl 5 rfl ?_
                  refine j_iload (pc := 75) C d_Days_allows_75 6 rfl ?_
                  refine j_callSi (pc := 77) C (c_fits l D y ((sb.2.1 0) (nI q52).toNatClampNeg) v vc) kw_Days_37 ks_Days_fits ⟨by decide, by decide⟩ ⟨by decide, by decide⟩ (wr := [(ad 1, .inr (1, [.int (d.1 9), .ref (ad 4), .ref (ad 5), .ref (ad 6), .ref (ad 7), .ref (ad 8), .ref (ad 9), .ref (ad 10)])), (ad 10, .inl (y 0, 9, .inl (d.2 6))), (ad 12, .inl (y 0, 6, .inl (d.2 8))), (h, .inr (7, [.int (sb.1 0), .int (sb.1 1), .int (sb.1 2), .ref (sa 0), .ref (sa 1), .ref (sa 2), .ref (sa 3), .ref (sa 4), .ref (sa 5), .ref (sa 6)])), (sa 0, .inl (y 0, 9, .inl (sb.2.1 0))), (ad 0, .inr (2, [.int (d.1 0), .int (d.1 1), .int (d.1 2), .int (d.1 3), .ref (ad 1), .int (d.1 4), .ref (ad 11), .ref (ad 12), .ref (ad 2), .ref (ad 3), .int (d.1 5), .int (d.1 6), .int (d.1 7), .int (d.1 8)]))]) [] [0, 1, 2, 3, 4, 5] rfl rfl (by decide) (by decide) (by decide) (As := [.int ((sb.2.1 0) (nI q52).toNatClampNeg), .int v, .int vc]) (rest := []) rfl (nb rfl) rfl d_Days_allows_77 (fun r60 _ hr60 => ?_)
                  refine j_ws (ws' := [(ad 1, .inr (1, [.int (d.1 9), .ref (ad 4), .ref (ad 5), .ref (ad 6), .ref (ad 7), .ref (ad 8), .ref (ad 9), .ref (ad 10)])), (ad 10, .inl (y 0, 9, .inl (d.2 6))), (ad 12, .inl (y 0, 6, .inl (d.2 8))), (h, .inr (7, [.int (sb.1 0), .int (sb.1 1), .int (sb.1 2), .ref (sa 0), .ref (sa 1), .ref (sa 2), .ref (sa 3), .ref (sa 4), .ref (sa 5), .ref (sa 6)])), (sa 0, .inl (y 0, 9, .inl (sb.2.1 0))), (ad 0, .inr (2, [.int (d.1 0), .int (d.1 1), .int (d.1 2), .int (d.1 3), .ref (ad 1), .int (d.1 4), .ref (ad 11), .ref (ad 12), .ref (ad 2), .ref (ad 3), .int (d.1 5), .int (d.1 6), .int (d.1 7), .int (d.1 8)]))]) rfl ?_
                  refine j_if_eq (pc := 80) C (tgt := 109) d_Days_allows_80 (by decide) (fun c61 => ?_) (fun c61 => ?_)
                  · refine j_iconst (pc := 109) C (v := 0) d_Days_allows_109 (by decide) ?_
                    exact j_iret (pc := 110) C hr (by decide) () (by decide) [5, 0, 1, 2, 3, 4] rfl (by decide) (by decide) (by decide) d_Days_allows_110
                  · refine j_iload (pc := 83) C d_Days_allows_83 0 rfl ?_
                    refine j_iconst (pc := 85) C (v := (-1)) d_Days_allows_85 (by decide) ?_
                    refine j_icmp_eqF (pc := 86) C (tgt := 105) d_Days_allows_86 (by decide) (nI_nm1 (by omega)) ?_
                    refine j_aload_n (pc := 89) C d_Days_allows_89 rfl 3 rfl ?_
                    refine j_get (pc := 90) C gf_Days_34 3 rfl rfl d_Days_allows_90 ?_
                    refine j_iload (pc := 93) C d_Days_allows_93 0 rfl ?_
                    refine j_iald (pc := 95) C 4 rfl (v := (sb.2.1 0) (nI q55).toNatClampNeg) (vp_in_nI (by omega) (by decide)) rfl d_Days_allows_95 ?_
                    refine j_iload_n (pc := 96) C d_Days_allows_96 rfl 5 rfl ?_
                    refine j_iload (pc := 97) C d_Days_allows_97 6 rfl ?_
                    refine j_callSi (pc := 99) C (c_fits l D y ((sb.2.1 0) (nI q55).toNatClampNeg) v vc) kw_Days_37 ks_Days_fits ⟨by decide, by decide⟩ ⟨by decide, by decide⟩ (wr := [(ad 1, .inr (1, [.int (d.1 9), .ref (ad 4), .ref (ad 5), .ref (ad 6), .ref (ad 7), .ref (ad 8), .ref (ad 9), .ref (ad 10)])), (ad 10, .inl (y 0, 9, .inl (d.2 6))), (ad 12, .inl (y 0, 6, .inl (d.2 8))), (h, .inr (7, [.int (sb.1 0), .int (sb.1 1), .int (sb.1 2), .ref (sa 0), .ref (sa 1), .ref (sa 2), .ref (sa 3), .ref (sa 4), .ref (sa 5), .ref (sa 6)])), (sa 0, .inl (y 0, 9, .inl (sb.2.1 0))), (ad 0, .inr (2, [.int (d.1 0), .int (d.1 1), .int (d.1 2), .int (d.1 3), .ref (ad 1), .int (d.1 4), .ref (ad 11), .ref (ad 12), .ref (ad 2), .ref (ad 3), .int (d.1 5), .int (d.1 6), .int (d.1 7), .int (d.1 8)]))]) [] [0, 1, 2, 3, 4, 5] rfl rfl (by decide) (by decide) (by decide) (As := [.int ((sb.2.1 0) (nI q55).toNatClampNeg), .int v, .int vc]) (rest := []) rfl (nb rfl) rfl d_Days_allows_99 (fun r62 _ hr62 => ?_)
                    refine j_ws (ws' := [(ad 1, .inr (1, [.int (d.1 9), .ref (ad 4), .ref (ad 5), .ref (ad 6), .ref (ad 7), .ref (ad 8), .ref (ad 9), .ref (ad 10)])), (ad 10, .inl (y 0, 9, .inl (d.2 6))), (ad 12, .inl (y 0, 6, .inl (d.2 8))), (h, .inr (7, [.int (sb.1 0), .int (sb.1 1), .int (sb.1 2), .ref (sa 0), .ref (sa 1), .ref (sa 2), .ref (sa 3), .ref (sa 4), .ref (sa 5), .ref (sa 6)])), (sa 0, .inl (y 0, 9, .inl (sb.2.1 0))), (ad 0, .inr (2, [.int (d.1 0), .int (d.1 1), .int (d.1 2), .int (d.1 3), .ref (ad 1), .int (d.1 4), .ref (ad 11), .ref (ad 12), .ref (ad 2), .ref (ad 3), .int (d.1 5), .int (d.1 6), .int (d.1 7), .int (d.1 8)]))]) rfl ?_
                    refine j_if_eq (pc := 102) C (tgt := 109) d_Days_allows_102 (by decide) (fun c63 => ?_) (fun c63 => ?_)
                    · refine j_iconst (pc := 109) C (v := 0) d_Days_allows_109 (by decide) ?_
                      exact j_iret (pc := 110) C hr (by decide) () (by decide) [5, 0, 1, 2, 3, 4] rfl (by decide) (by decide) (by decide) d_Days_allows_110
                    · refine j_iconst (pc := 105) C (v := 1) d_Days_allows_105 (by decide) ?_
                      refine j_goto (pc := 106) C (tgt := 110) d_Days_allows_106 (by decide) ?_
                      exact j_iret (pc := 110) C hr (by decide) () (by decide) [5, 0, 1, 2, 3, 4] rfl (by decide) (by decide) (by decide) d_Days_allows_110
              · refine j_iconst (pc := 45) C (v := 0) d_Days_allows_45 (by decide) ?_
                exact j_iret (pc := 46) C hr (by decide) () (by decide) [5, 0, 1, 2, 3, 4] rfl (by decide) (by decide) (by decide) d_Days_allows_46
          · refine j_iconst (pc := 30) C (v := 0) d_Days_allows_30 (by decide) ?_
            exact j_iret (pc := 31) C hr (by decide) () (by decide) [5, 0, 1, 2, 3, 4] rfl (by decide) (by decide) (by decide) d_Days_allows_31
  · refine j_iconst (pc := 4) C (v := 1) d_Days_allows_4 (by decide) ?_
    exact j_iret (pc := 5) C hr (by decide) () (by decide) [0, 1, 2, 3, 4, 5] rfl (by decide) (by decide) (by decide) d_Days_allows_5
