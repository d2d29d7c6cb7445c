theorem nI_nm1 {n : Nat} (h : n < 2 ^ 31) : ¬ nI n = -1 := fun e => absurd (e ▸ nI_pos h : ¬ (-1 : Int32) < 0) (by decide)
theorem d_Days_fits_0 : decode prog_3_method_3_code 0 = .ok (.iload_n 2, 1) := by decide +kernel
theorem d_Days_fits_1 : decode prog_3_method_3_code 1 = .ok (.iconst 2, 1) := by decide +kernel
theorem d_Days_fits_2 : decode prog_3_method_3_code 2 = .ok (.if_icmp .ne 7, 3) := by decide +kernel
theorem d_Days_fits_9 : decode prog_3_method_3_code 9 = .ok (.iconst 0, 1) := by decide +kernel
theorem d_Days_fits_10 : decode prog_3_method_3_code 10 = .ok (.istore_n 3, 1) := by decide +kernel
theorem d_Days_fits_11 : decode prog_3_method_3_code 11 = .ok (.iload_n 2, 1) := by decide +kernel
theorem d_Days_fits_12 : decode prog_3_method_3_code 12 = .ok (.iconst 2, 1) := by decide +kernel
theorem d_Days_fits_13 : decode prog_3_method_3_code 13 = .ok (.if_icmp .ne 8, 3) := by decide +kernel
theorem d_Days_fits_21 : decode prog_3_method_3_code 21 = .ok (.bipush 20, 2) := by decide +kernel
theorem d_Days_fits_23 : decode prog_3_method_3_code 23 = .ok (.istore 4, 2) := by decide +kernel
theorem d_Days_fits_25 : decode prog_3_method_3_code 25 = .ok (.iload_n 1, 1) := by decide +kernel
theorem d_Days_fits_26 : decode prog_3_method_3_code 26 = .ok (.iconst 1, 1) := by decide +kernel
theorem d_Days_fits_27 : decode prog_3_method_3_code 27 = .ok (.if_icmp .ne 18, 3) := by decide +kernel
theorem d_Days_fits_45 : decode prog_3_method_3_code 45 = .ok (.iload_n 0, 1) := by decide +kernel
theorem d_Days_fits_46 : decode prog_3_method_3_code 46 = .ok (.iconst 1, 1) := by decide +kernel
theorem d_Days_fits_47 : decode prog_3_method_3_code 47 = .ok (.iadd, 1) := by decide +kernel
theorem d_Days_fits_48 : decode prog_3_method_3_code 48 = .ok (.iload 4, 2) := by decide +kernel
theorem d_Days_fits_50 : decode prog_3_method_3_code 50 = .ok (.if_icmp .gt 7, 3) := by decide +kernel
theorem d_Days_fits_57 : decode prog_3_method_3_code 57 = .ok (.iconst 0, 1) := by decide +kernel
theorem d_Days_fits_58 : decode prog_3_method_3_code 58 = .ok (.ireturn, 1) := by decide +kernel
theorem d_Days_fits_53 : decode prog_3_method_3_code 53 = .ok (.iconst 1, 1) := by decide +kernel
theorem d_Days_fits_54 : decode prog_3_method_3_code 54 = .ok (.goto 4, 3) := by decide +kernel
theorem d_Days_fits_30 : decode prog_3_method_3_code 30 = .ok (.iload_n 0, 1) := by decide +kernel
theorem d_Days_fits_31 : decode prog_3_method_3_code 31 = .ok (.iconst 1, 1) := by decide +kernel
theorem d_Days_fits_32 : decode prog_3_method_3_code 32 = .ok (.isub, 1) := by decide +kernel
theorem d_Days_fits_33 : decode prog_3_method_3_code 33 = .ok (.iload_n 3, 1) := by decide +kernel
theorem d_Days_fits_34 : decode prog_3_method_3_code 34 = .ok (.if_icmp .lt 7, 3) := by decide +kernel
theorem d_Days_fits_41 : decode prog_3_method_3_code 41 = .ok (.iconst 0, 1) := by decide +kernel
theorem d_Days_fits_42 : decode prog_3_method_3_code 42 = .ok (.goto 16, 3) := by decide +kernel
theorem d_Days_fits_37 : decode prog_3_method_3_code 37 = .ok (.iconst 1, 1) := by decide +kernel
theorem d_Days_fits_38 : decode prog_3_method_3_code 38 = .ok (.goto 20, 3) := by decide +kernel
theorem d_Days_fits_16 : decode prog_3_method_3_code 16 = .ok (.bipush 9, 2) := by decide +kernel
theorem d_Days_fits_18 : decode prog_3_method_3_code 18 = .ok (.goto 5, 3) := by decide +kernel
theorem d_Days_fits_5 : decode prog_3_method_3_code 5 = .ok (.iconst 1, 1) := by decide +kernel
theorem d_Days_fits_6 : decode prog_3_method_3_code 6 = .ok (.goto 4, 3) := by decide +kernel
set_option maxHeartbeats 4000000 in
set_option maxRecDepth 100000 in
theorem c_fits (l : Launch) (D : va_G) (y : Nat → ClassId) (va : Int32) (vb : Int32) (vc : Int32)  : CT l D y ⟨"NineBoards$Days", "fits", "(III)Z"⟩ prog_3_method_3_code 5 (some .boolean) ({ frames := 0, cells := 0, slots := 0, locals := 0 } : Room) [.int va, .int vb, .int vc] [] (QI D [] (fun (r : Int32) (u : Unit) => r = 0 ∨ r = 1) (fun _ => [])) := by
  refine CT.of (by decide) (nb rfl) ?_
  intro p e s m args below meth c C hr
  refine j_lv (lv' := [(0, .int va), (1, .int vb), (2, .int vc)]) rfl ?_
  refine j_iload_n (pc := 0) C d_Days_fits_0 rfl 2 rfl ?_
  refine j_iconst (pc := 1) C (v := 2) d_Days_fits_1 (by decide) ?_
  refine j_icmp_ne (pc := 2) C (tgt := 9) d_Days_fits_2 (by decide) (fun c1 => ?_) (fun c1 => ?_)
  · refine j_iconst (pc := 9) C (v := 0) d_Days_fits_9 (by decide) ?_
    refine j_istore_n (pc := 10) C (lv' := [(3, .int 0), (0, .int va), (1, .int vb), (2, .int vc)]) d_Days_fits_10 rfl (by decide) rfl ?_
    refine j_iload_n (pc := 11) C d_Days_fits_11 rfl 3 rfl ?_
    refine j_iconst (pc := 12) C (v := 2) d_Days_fits_12 (by decide) ?_
    refine j_icmp_ne (pc := 13) C (tgt := 21) d_Days_fits_13 (by decide) (fun c2 => ?_) (fun c2 => ?_)
    · refine j_bipush (pc := 21) C (v := 20) d_Days_fits_21 (by decide) ?_
      refine j_istore (pc := 23) C (lv' := [(4, .int 20), (3, .int 0), (0, .int va), (1, .int vb), (2, .int vc)]) d_Days_fits_23 (by decide) rfl ?_
      refine j_iload_n (pc := 25) C d_Days_fits_25 rfl 3 rfl ?_
      refine j_iconst (pc := 26) C (v := 1) d_Days_fits_26 (by decide) ?_
      refine j_icmp_ne (pc := 27) C (tgt := 45) d_Days_fits_27 (by decide) (fun c3 => ?_) (fun c3 => ?_)
      · refine j_iload_n (pc := 45) C d_Days_fits_45 rfl 2 rfl ?_
        refine j_iconst (pc := 46) C (v := 1) d_Days_fits_46 (by decide) ?_
        refine j_iadd (pc := 47) C (v := va + 1) d_Days_fits_47 rfl ?_
        refine j_iload (pc := 48) C d_Days_fits_48 0 rfl ?_
        refine j_icmp_gt (pc := 50) C (tgt := 57) d_Days_fits_50 (by decide) (fun c4 => ?_) (fun c4 => ?_)
        · refine j_iconst (pc := 57) C (v := 0) d_Days_fits_57 (by decide) ?_
          exact j_iret (pc := 58) C hr (by decide) () (by decide) [] rfl (by decide) (by decide) (by decide) d_Days_fits_58
        · refine j_iconst (pc := 53) C (v := 1) d_Days_fits_53 (by decide) ?_
          refine j_goto (pc := 54) C (tgt := 58) d_Days_fits_54 (by decide) ?_
          exact j_iret (pc := 58) C hr (by decide) () (by decide) [] rfl (by decide) (by decide) (by decide) d_Days_fits_58
      · refine j_iload_n (pc := 30) C d_Days_fits_30 rfl 2 rfl ?_
        refine j_iconst (pc := 31) C (v := 1) d_Days_fits_31 (by decide) ?_
        refine j_isub (pc := 32) C (v := va - 1) d_Days_fits_32 rfl ?_
        refine j_iload_n (pc := 33) C d_Days_fits_33 rfl 1 rfl ?_
        refine j_icmp_lt (pc := 34) C (tgt := 41) d_Days_fits_34 (by decide) (fun c5 => ?_) (fun c5 => ?_)
        · refine j_iconst (pc := 41) C (v := 0) d_Days_fits_41 (by decide) ?_
          refine j_goto (pc := 42) C (tgt := 58) d_Days_fits_42 (by decide) ?_
          exact j_iret (pc := 58) C hr (by decide) () (by decide) [] rfl (by decide) (by decide) (by decide) d_Days_fits_58
        · refine j_iconst (pc := 37) C (v := 1) d_Days_fits_37 (by decide) ?_
          refine j_goto (pc := 38) C (tgt := 58) d_Days_fits_38 (by decide) ?_
          exact j_iret (pc := 58) C hr (by decide) () (by decide) [] rfl (by decide) (by decide) (by decide) d_Days_fits_58
    · refine j_bipush (pc := 16) C (v := 9) d_Days_fits_16 (by decide) ?_
      refine j_goto (pc := 18) C (tgt := 23) d_Days_fits_18 (by decide) ?_
      refine j_istore (pc := 23) C (lv' := [(4, .int 9), (3, .int 0), (0, .int va), (1, .int vb), (2, .int vc)]) d_Days_fits_23 (by decide) rfl ?_
      refine j_iload_n (pc := 25) C d_Days_fits_25 rfl 3 rfl ?_
      refine j_iconst (pc := 26) C (v := 1) d_Days_fits_26 (by decide) ?_
      refine j_icmp_ne (pc := 27) C (tgt := 45) d_Days_fits_27 (by decide) (fun c6 => ?_) (fun c6 => ?_)
      · refine j_iload_n (pc := 45) C d_Days_fits_45 rfl 2 rfl ?_
        refine j_iconst (pc := 46) C (v := 1) d_Days_fits_46 (by decide) ?_
        refine j_iadd (pc := 47) C (v := va + 1) d_Days_fits_47 rfl ?_
        refine j_iload (pc := 48) C d_Days_fits_48 0 rfl ?_
        refine j_icmp_gt (pc := 50) C (tgt := 57) d_Days_fits_50 (by decide) (fun c7 => ?_) (fun c7 => ?_)
        · refine j_iconst (pc := 57) C (v := 0) d_Days_fits_57 (by decide) ?_
          exact j_iret (pc := 58) C hr (by decide) () (by decide) [] rfl (by decide) (by decide) (by decide) d_Days_fits_58
        · refine j_iconst (pc := 53) C (v := 1) d_Days_fits_53 (by decide) ?_
          refine j_goto (pc := 54) C (tgt := 58) d_Days_fits_54 (by decide) ?_
          exact j_iret (pc := 58) C hr (by decide) () (by decide) [] rfl (by decide) (by decide) (by decide) d_Days_fits_58
      · refine j_iload_n (pc := 30) C d_Days_fits_30 rfl 2 rfl ?_
        refine j_iconst (pc := 31) C (v := 1) d_Days_fits_31 (by decide) ?_
        refine j_isub (pc := 32) C (v := va - 1) d_Days_fits_32 rfl ?_
        refine j_iload_n (pc := 33) C d_Days_fits_33 rfl 1 rfl ?_
        refine j_icmp_lt (pc := 34) C (tgt := 41) d_Days_fits_34 (by decide) (fun c8 => ?_) (fun c8 => ?_)
        · refine j_iconst (pc := 41) C (v := 0) d_Days_fits_41 (by decide) ?_
          refine j_goto (pc := 42) C (tgt := 58) d_Days_fits_42 (by decide) ?_
          exact j_iret (pc := 58) C hr (by decide) () (by decide) [] rfl (by decide) (by decide) (by decide) d_Days_fits_58
        · refine j_iconst (pc := 37) C (v := 1) d_Days_fits_37 (by decide) ?_
          refine j_goto (pc := 38) C (tgt := 58) d_Days_fits_38 (by decide) ?_
          exact j_iret (pc := 58) C hr (by decide) () (by decide) [] rfl (by decide) (by decide) (by decide) d_Days_fits_58
  · refine j_iconst (pc := 5) C (v := 1) d_Days_fits_5 (by decide) ?_
    refine j_goto (pc := 6) C (tgt := 10) d_Days_fits_6 (by decide) ?_
    refine j_istore_n (pc := 10) C (lv' := [(3, .int 1), (0, .int va), (1, .int vb), (2, .int vc)]) d_Days_fits_10 rfl (by decide) rfl ?_
    refine j_iload_n (pc := 11) C d_Days_fits_11 rfl 3 rfl ?_
    refine j_iconst (pc := 12) C (v := 2) d_Days_fits_12 (by decide) ?_
    refine j_icmp_ne (pc := 13) C (tgt := 21) d_Days_fits_13 (by decide) (fun c9 => ?_) (fun c9 => ?_)
    · refine j_bipush (pc := 21) C (v := 20) d_Days_fits_21 (by decide) ?_
      refine j_istore (pc := 23) C (lv' := [(4, .int 20), (3, .int 1), (0, .int va), (1, .int vb), (2, .int vc)]) d_Days_fits_23 (by decide) rfl ?_
      refine j_iload_n (pc := 25) C d_Days_fits_25 rfl 3 rfl ?_
      refine j_iconst (pc := 26) C (v := 1) d_Days_fits_26 (by decide) ?_
      refine j_icmp_ne (pc := 27) C (tgt := 45) d_Days_fits_27 (by decide) (fun c10 => ?_) (fun c10 => ?_)
      · refine j_iload_n (pc := 45) C d_Days_fits_45 rfl 2 rfl ?_
        refine j_iconst (pc := 46) C (v := 1) d_Days_fits_46 (by decide) ?_
        refine j_iadd (pc := 47) C (v := va + 1) d_Days_fits_47 rfl ?_
        refine j_iload (pc := 48) C d_Days_fits_48 0 rfl ?_
        refine j_icmp_gt (pc := 50) C (tgt := 57) d_Days_fits_50 (by decide) (fun c11 => ?_) (fun c11 => ?_)
        · refine j_iconst (pc := 57) C (v := 0) d_Days_fits_57 (by decide) ?_
          exact j_iret (pc := 58) C hr (by decide) () (by decide) [] rfl (by decide) (by decide) (by decide) d_Days_fits_58
        · refine j_iconst (pc := 53) C (v := 1) d_Days_fits_53 (by decide) ?_
          refine j_goto (pc := 54) C (tgt := 58) d_Days_fits_54 (by decide) ?_
          exact j_iret (pc := 58) C hr (by decide) () (by decide) [] rfl (by decide) (by decide) (by decide) d_Days_fits_58
      · refine j_iload_n (pc := 30) C d_Days_fits_30 rfl 2 rfl ?_
        refine j_iconst (pc := 31) C (v := 1) d_Days_fits_31 (by decide) ?_
        refine j_isub (pc := 32) C (v := va - 1) d_Days_fits_32 rfl ?_
        refine j_iload_n (pc := 33) C d_Days_fits_33 rfl 1 rfl ?_
        refine j_icmp_lt (pc := 34) C (tgt := 41) d_Days_fits_34 (by decide) (fun c12 => ?_) (fun c12 => ?_)
        · refine j_iconst (pc := 41) C (v := 0) d_Days_fits_41 (by decide) ?_
          refine j_goto (pc := 42) C (tgt := 58) d_Days_fits_42 (by decide) ?_
          exact j_iret (pc := 58) C hr (by decide) () (by decide) [] rfl (by decide) (by decide) (by decide) d_Days_fits_58
        · refine j_iconst (pc := 37) C (v := 1) d_Days_fits_37 (by decide) ?_
          refine j_goto (pc := 38) C (tgt := 58) d_Days_fits_38 (by decide) ?_
          exact j_iret (pc := 58) C hr (by decide) () (by decide) [] rfl (by decide) (by decide) (by decide) d_Days_fits_58
    · refine j_bipush (pc := 16) C (v := 9) d_Days_fits_16 (by decide) ?_
      refine j_goto (pc := 18) C (tgt := 23) d_Days_fits_18 (by decide) ?_
      refine j_istore (pc := 23) C (lv' := [(4, .int 9), (3, .int 1), (0, .int va), (1, .int vb), (2, .int vc)]) d_Days_fits_23 (by decide) rfl ?_
      refine j_iload_n (pc := 25) C d_Days_fits_25 rfl 3 rfl ?_
      refine j_iconst (pc := 26) C (v := 1) d_Days_fits_26 (by decide) ?_
      refine j_icmp_ne (pc := 27) C (tgt := 45) d_Days_fits_27 (by decide) (fun c13 => ?_) (fun c13 => ?_)
      · refine j_iload_n (pc := 45) C d_Days_fits_45 rfl 2 rfl ?_
        refine j_iconst (pc := 46) C (v := 1) d_Days_fits_46 (by decide) ?_
        refine j_iadd (pc := 47) C (v := va + 1) d_Days_fits_47 rfl ?_
        refine j_iload (pc := 48) C d_Days_fits_48 0 rfl ?_
        refine j_icmp_gt (pc := 50) C (tgt := 57) d_Days_fits_50 (by decide) (fun c14 => ?_) (fun c14 => ?_)
        · refine j_iconst (pc := 57) C (v := 0) d_Days_fits_57 (by decide) ?_
          exact j_iret (pc := 58) C hr (by decide) () (by decide) [] rfl (by decide) (by decide) (by decide) d_Days_fits_58
        · refine j_iconst (pc := 53) C (v := 1) d_Days_fits_53 (by decide) ?_
          refine j_goto (pc := 54) C (tgt := 58) d_Days_fits_54 (by decide) ?_
          exact j_iret (pc := 58) C hr (by decide) () (by decide) [] rfl (by decide) (by decide) (by decide) d_Days_fits_58
      · refine j_iload_n (pc := 30) C d_Days_fits_30 rfl 2 rfl ?_
        refine j_iconst (pc := 31) C (v := 1) d_Days_fits_31 (by decide) ?_
        refine j_isub (pc := 32) C (v := va - 1) d_Days_fits_32 rfl ?_
        refine j_iload_n (pc := 33) C d_Days_fits_33 rfl 1 rfl ?_
        refine j_icmp_lt (pc := 34) C (tgt := 41) d_Days_fits_34 (by decide) (fun c15 => ?_) (fun c15 => ?_)
        · refine j_iconst (pc := 41) C (v := 0) d_Days_fits_41 (by decide) ?_
          refine j_goto (pc := 42) C (tgt := 58) d_Days_fits_42 (by decide) ?_
          exact j_iret (pc := 58) C hr (by decide) () (by decide) [] rfl (by decide) (by decide) (by decide) d_Days_fits_58
        · refine j_iconst (pc := 37) C (v := 1) d_Days_fits_37 (by decide) ?_
          refine j_goto (pc := 38) C (tgt := 58) d_Days_fits_38 (by decide) ?_
          exact j_iret (pc := 58) C hr (by decide) () (by decide) [] rfl (by decide) (by decide) (by decide) d_Days_fits_58
theorem d_Days_allows_0 : decode prog_3_method_2_code 0 = .ok (.iload_n 3, 1) := by decide +kernel
theorem d_Days_allows_1 : decode prog_3_method_2_code 1 = .ok (.ifCond .ne 5, 3) := by decide +kernel
theorem d_Days_allows_6 : decode prog_3_method_2_code 6 = .ok (.iload_n 3, 1) := by decide +kernel
theorem d_Days_allows_7 : decode prog_3_method_2_code 7 = .ok (.iconst 1, 1) := by decide +kernel
theorem d_Days_allows_8 : decode prog_3_method_2_code 8 = .ok (.if_icmp .eq 8, 3) := by decide +kernel
theorem d_Days_allows_16 : decode prog_3_method_2_code 16 = .ok (.aload_n 0, 1) := by decide +kernel
theorem d_Days_allows_17 : decode prog_3_method_2_code 17 = .ok (.iload_n 2, 1) := by decide +kernel
theorem d_Days_allows_18 : decode prog_3_method_2_code 18 = .ok (.invokevirtual 9, 3) := by decide +kernel
theorem kw_Days_9 : KW "NineBoards$Days" 9 ⟨"NineBoards$Lake", "hasVillage", "(I)Z"⟩ prog_5_method_4_code 2 (some .boolean) 1 := ⟨(mt_4 (List.mem_of_getElem? (i := 40) rfl) rfl), (mt_1 (List.mem_of_getElem? (i := 6) rfl) rfl), (mt_3 (List.mem_of_getElem? (i := 231) rfl) rfl), by decide +kernel⟩
theorem kv_Lake_hasVillage : Cond.instanceMethod ⟨"NineBoards$Lake", "hasVillage", "(I)Z"⟩ ∈ TB ∧ Cond.selects "NineBoards$Lake" ⟨"NineBoards$Lake", "hasVillage", "(I)Z"⟩ ⟨"NineBoards$Lake", "hasVillage", "(I)Z"⟩ ∈ TB := ⟨(mt_3 (List.mem_of_getElem? (i := 229) rfl) rfl), (mt_3 (List.mem_of_getElem? (i := 230) rfl) rfl)⟩
theorem d_Days_allows_21 : decode prog_3_method_2_code 21 = .ok (.ifCond .eq 9, 3) := by decide +kernel
theorem d_Days_allows_30 : decode prog_3_method_2_code 30 = .ok (.iconst 0, 1) := by decide +kernel
theorem d_Days_allows_31 : decode prog_3_method_2_code 31 = .ok (.ireturn, 1) := by decide +kernel
theorem d_Days_allows_24 : decode prog_3_method_2_code 24 = .ok (.iload 4, 2) := by decide +kernel
theorem d_Days_allows_26 : decode prog_3_method_2_code 26 = .ok (.iconst 3, 1) := by decide +kernel
theorem d_Days_allows_27 : decode prog_3_method_2_code 27 = .ok (.if_icmp .ne 5, 3) := by decide +kernel
theorem d_Days_allows_32 : decode prog_3_method_2_code 32 = .ok (.iload 4, 2) := by decide +kernel
theorem d_Days_allows_34 : decode prog_3_method_2_code 34 = .ok (.ifCond .ne 13, 3) := by decide +kernel
theorem d_Days_allows_47 : decode prog_3_method_2_code 47 = .ok (.aload_n 0, 1) := by decide +kernel
theorem d_Days_allows_48 : decode prog_3_method_2_code 48 = .ok (.getfield 21, 3) := by decide +kernel
theorem gf_Days_21 : GF "NineBoards$Days" 21 2 7 := ⟨_, _, _, rfl, ci_Lake, by decide, (mt_2 (List.mem_of_getElem? (i := 55) rfl) rfl)⟩
theorem d_Days_allows_51 : decode prog_3_method_2_code 51 = .ok (.iload_n 2, 1) := by decide +kernel
theorem d_Days_allows_52 : decode prog_3_method_2_code 52 = .ok (.iaload, 1) := by decide +kernel
theorem d_Days_allows_53 : decode prog_3_method_2_code 53 = .ok (.istore 5, 2) := by decide +kernel
theorem d_Days_allows_55 : decode prog_3_method_2_code 55 = .ok (.aload_n 0, 1) := by decide +kernel
theorem d_Days_allows_56 : decode prog_3_method_2_code 56 = .ok (.getfield 25, 3) := by decide +kernel
theorem gf_Days_25 : GF "NineBoards$Days" 25 2 4 := ⟨_, _, _, rfl, ci_Lake, by decide, (mt_2 (List.mem_of_getElem? (i := 43) rfl) rfl)⟩
theorem d_Days_allows_59 : decode prog_3_method_2_code 59 = .ok (.getfield 29, 3) := by decide +kernel
theorem gf_Days_29 : GF "NineBoards$Days" 29 1 7 := ⟨_, _, _, rfl, ci_Gates, by decide, (mt_1 (List.mem_of_getElem? (i := 161) rfl) rfl)⟩
theorem d_Days_allows_62 : decode prog_3_method_2_code 62 = .ok (.iload 5, 2) := by decide +kernel
theorem d_Days_allows_64 : decode prog_3_method_2_code 64 = .ok (.iaload, 1) := by decide +kernel
theorem d_Days_allows_65 : decode prog_3_method_2_code 65 = .ok (.istore 6, 2) := by decide +kernel
theorem d_Days_allows_67 : decode prog_3_method_2_code 67 = .ok (.aload_n 1, 1) := by decide +kernel
theorem d_Days_allows_68 : decode prog_3_method_2_code 68 = .ok (.getfield 34, 3) := by decide +kernel
theorem gf_Days_34 : GF "NineBoards$Days" 34 7 3 := ⟨_, _, _, rfl, ci_State, by decide, (mt_1 (List.mem_of_getElem? (i := 64) rfl) rfl)⟩
theorem d_Days_allows_71 : decode prog_3_method_2_code 71 = .ok (.iload 5, 2) := by decide +kernel
theorem d_Days_allows_73 : decode prog_3_method_2_code 73 = .ok (.iaload, 1) := by decide +kernel
theorem d_Days_allows_74 : decode prog_3_method_2_code 74 = .ok (.iload_n 3, 1) := by decide +kernel
theorem d_Days_allows_75 : decode prog_3_method_2_code 75 = .ok (.iload 4, 2) := by decide +kernel
theorem d_Days_allows_77 : decode prog_3_method_2_code 77 = .ok (.invokestatic 37, 3) := by decide +kernel
theorem kw_Days_37 : KW "NineBoards$Days" 37 ⟨"NineBoards$Days", "fits", "(III)Z"⟩ prog_3_method_3_code 5 (some .boolean) 3 := ⟨(mt_4 (List.mem_of_getElem? (i := 41) rfl) rfl), (mt_1 (List.mem_of_getElem? (i := 18) rfl) rfl), (mt_4 (List.mem_of_getElem? (i := 43) rfl) rfl), by decide +kernel⟩
theorem ks_Days_fits : Cond.static ⟨"NineBoards$Days", "fits", "(III)Z"⟩ ∈ TB := (mt_4 (List.mem_of_getElem? (i := 42) rfl) rfl)
theorem d_Days_allows_80 : decode prog_3_method_2_code 80 = .ok (.ifCond .eq 29, 3) := by decide +kernel
theorem d_Days_allows_109 : decode prog_3_method_2_code 109 = .ok (.iconst 0, 1) := by decide +kernel
theorem d_Days_allows_110 : decode prog_3_method_2_code 110 = .ok (.ireturn, 1) := by decide +kernel
theorem d_Days_allows_83 : decode prog_3_method_2_code 83 = .ok (.iload 6, 2) := by decide +kernel
theorem d_Days_allows_85 : decode prog_3_method_2_code 85 = .ok (.iconst (-1), 1) := by decide +kernel
theorem d_Days_allows_86 : decode prog_3_method_2_code 86 = .ok (.if_icmp .eq 19, 3) := by decide +kernel
theorem d_Days_allows_105 : decode prog_3_method_2_code 105 = .ok (.iconst 1, 1) := by decide +kernel
theorem d_Days_allows_106 : decode prog_3_method_2_code 106 = .ok (.goto 4, 3) := by decide +kernel
theorem d_Days_allows_89 : decode prog_3_method_2_code 89 = .ok (.aload_n 1, 1) := by decide +kernel
theorem d_Days_allows_90 : decode prog_3_method_2_code 90 = .ok (.getfield 34, 3) := by decide +kernel
theorem d_Days_allows_93 : decode prog_3_method_2_code 93 = .ok (.iload 6, 2) := by decide +kernel
theorem d_Days_allows_95 : decode prog_3_method_2_code 95 = .ok (.iaload, 1) := by decide +kernel
theorem d_Days_allows_96 : decode prog_3_method_2_code 96 = .ok (.iload_n 3, 1) := by decide +kernel
theorem d_Days_allows_97 : decode prog_3_method_2_code 97 = .ok (.iload 4, 2) := by decide +kernel
theorem d_Days_allows_99 : decode prog_3_method_2_code 99 = .ok (.invokestatic 37, 3) := by decide +kernel
theorem d_Days_allows_102 : decode prog_3_method_2_code 102 = .ok (.ifCond .eq 7, 3) := by decide +kernel
theorem d_Days_allows_37 : decode prog_3_method_2_code 37 = .ok (.iload_n 3, 1) := by decide +kernel
theorem d_Days_allows_38 : decode prog_3_method_2_code 38 = .ok (.aload_n 1, 1) := by decide +kernel
theorem d_Days_allows_39 : decode prog_3_method_2_code 39 = .ok (.getfield 15, 3) := by decide +kernel
theorem gf_Days_15 : GF "NineBoards$Days" 15 7 2 := ⟨_, _, _, rfl, ci_State, by decide, (mt_1 (List.mem_of_getElem? (i := 61) rfl) rfl)⟩
theorem d_Days_allows_42 : decode prog_3_method_2_code 42 = .ok (.if_icmp .ne 5, 3) := by decide +kernel
theorem d_Days_allows_45 : decode prog_3_method_2_code 45 = .ok (.iconst 0, 1) := by decide +kernel
theorem d_Days_allows_46 : decode prog_3_method_2_code 46 = .ok (.ireturn, 1) := by decide +kernel
theorem d_Days_allows_11 : decode prog_3_method_2_code 11 = .ok (.iload_n 3, 1) := by decide +kernel
theorem d_Days_allows_12 : decode prog_3_method_2_code 12 = .ok (.iconst 2, 1) := by decide +kernel
theorem d_Days_allows_13 : decode prog_3_method_2_code 13 = .ok (.if_icmp .ne 17, 3) := by decide +kernel
theorem d_Days_allows_4 : decode prog_3_method_2_code 4 = .ok (.iconst 1, 1) := by decide +kernel
theorem d_Days_allows_5 : decode prog_3_method_2_code 5 = .ok (.ireturn, 1) := by decide +kernel
set_option maxHeartbeats 4000000 in
set_option maxRecDepth 100000 in
theorem c_allows (l : Launch) (D : va_G) (y : Nat → ClassId) (ad : Nat → Nat) (d : LD) (n4 : Nat) (h : Nat) (sa : Nat → Nat) (sd : Int32) (sw : Int32) (sl : Int32) (f0 : Nat → Int32) (va : Int32) (v : Int32) (vc : Int32) (h4 : d.1 4 = nI n4) (b4 : n4 ≤ 6) (hJ : ∀ j, j < 9 → d.2 6 j = -1 ∨ ∃ q, q < 9 ∧ d.2 6 j = nI q) (hV : ∀ j, j < n4 → ∃ q, q < 9 ∧ d.2 8 j = nI q) : CT l D y ⟨"NineBoards$Days", "allows", "(LNineBoards$Lake;LNineBoards$State;III)Z"⟩ prog_3_method_2_code 7 (some .boolean) ({ frames := 1, cells := 0, slots := 0, locals := 24 } : Room) [.ref (ad 0), .ref h, .int va, .int v, .int vc] [(ad 0, .inr (2, [.int (d.1 0), .int (d.1 1), .int (d.1 2), .int (d.1 3), .ref (ad 1), .int (d.1 4), .ref (ad 11), .ref (ad 12), .ref (ad 2), .ref (ad 3), .int (d.1 5), .int (d.1 6), .int (d.1 7), .int (d.1 8)])), (ad 1, .inr (1, [.int (d.1 9), .ref (ad 4), .ref (ad 5), .ref (ad 6), .ref (ad 7), .ref (ad 8), .ref (ad 9), .ref (ad 10)])), (ad 10, .inl (y 0, 9, .inl (d.2 6))), (ad 12, .inl (y 0, 6, .inl (d.2 8))), (h, .inr (7, [.int sd, .int sw, .int sl, .ref (sa 0), .ref (sa 1), .ref (sa 2), .ref (sa 3), .ref (sa 4), .ref (sa 5), .ref (sa 6)])), (sa 0, .inl (y 0, 9, .inl f0))] (QI D [(ad 0, .inr (2, [.int (d.1 0), .int (d.1 1), .int (d.1 2), .int (d.1 3), .ref (ad 1), .int (d.1 4), .ref (ad 11), .ref (ad 12), .ref (ad 2), .ref (ad 3), .int (d.1 5), .int (d.1 6), .int (d.1 7), .int (d.1 8)])), (ad 1, .inr (1, [.int (d.1 9), .ref (ad 4), .ref (ad 5), .ref (ad 6), .ref (ad 7), .ref (ad 8), .ref (ad 9), .ref (ad 10)])), (ad 10, .inl (y 0, 9, .inl (d.2 6))), (ad 12, .inl (y 0, 6, .inl (d.2 8))), (h, .inr (7, [.int sd, .int sw, .int sl, .ref (sa 0), .ref (sa 1), .ref (sa 2), .ref (sa 3), .ref (sa 4), .ref (sa 5), .ref (sa 6)])), (sa 0, .inl (y 0, 9, .inl f0))] (fun (r : Int32) (u : Unit) => r = 0 ∨ r = 1) (fun _ => [(ad 0, .inr (2, [.int (d.1 0), .int (d.1 1), .int (d.1 2), .int (d.1 3), .ref (ad 1), .int (d.1 4), .ref (ad 11), .ref (ad 12), .ref (ad 2), .ref (ad 3), .int (d.1 5), .int (d.1 6), .int (d.1 7), .int (d.1 8)])), (ad 1, .inr (1, [.int (d.1 9), .ref (ad 4), .ref (ad 5), .ref (ad 6), .ref (ad 7), .ref (ad 8), .ref (ad 9), .ref (ad 10)])), (ad 10, .inl (y 0, 9, .inl (d.2 6))), (ad 12, .inl (y 0, 6, .inl (d.2 8))), (h, .inr (7, [.int sd, .int sw, .int sl, .ref (sa 0), .ref (sa 1), .ref (sa 2), .ref (sa 3), .ref (sa 4), .ref (sa 5), .ref (sa 6)])), (sa 0, .inl (y 0, 9, .inl f0))])) := by
  refine CT.of (by decide) (nb rfl) ?_
  intro p e s m args below meth c C hr
  refine j_lv (lv' := [(0, .ref (ad 0)), (1, .ref h), (2, .int va), (3, .int v), (4, .int vc)]) rfl ?_
  refine j_iload_n (pc := 0) C d_Days_allows_0 rfl 3 rfl ?_
  refine j_if_ne (pc := 1) C (tgt := 6) d_Days_allows_1 (by decide) (fun c1 => ?_) (fun c1 => ?_)
  · refine j_iload_n (pc := 6) C d_Days_allows_6 rfl 3 rfl ?_
    refine j_iconst (pc := 7) C (v := 1) d_Days_allows_7 (by decide) ?_
    refine j_icmp_eq (pc := 8) C (tgt := 16) d_Days_allows_8 (by decide) (fun c2 => ?_) (fun c2 => ?_)
    · refine j_aload_n (pc := 16) C d_Days_allows_16 rfl 0 rfl ?_
      refine j_iload_n (pc := 17) C d_Days_allows_17 rfl 2 rfl ?_
      refine j_callVi (pc := 18) C (c_hasVillage l D y ad d n4 va h4 b4) kw_Days_9 kv_Lake_hasVillage 0 2 rfl rfl ⟨by decide, by decide⟩ ⟨by decide, by decide⟩ (wr := [(ad 1, .inr (1, [.int (d.1 9), .ref (ad 4), .ref (ad 5), .ref (ad 6), .ref (ad 7), .ref (ad 8), .ref (ad 9), .ref (ad 10)])), (ad 10, .inl (y 0, 9, .inl (d.2 6))), (ad 12, .inl (y 0, 6, .inl (d.2 8))), (h, .inr (7, [.int sd, .int sw, .int sl, .ref (sa 0), .ref (sa 1), .ref (sa 2), .ref (sa 3), .ref (sa 4), .ref (sa 5), .ref (sa 6)])), (sa 0, .inl (y 0, 9, .inl f0))]) [0] [1, 2, 3, 4, 5] rfl rfl (by decide +kernel) (by decide +kernel) (by decide +kernel) (As := [.int va]) (rest := []) rfl (nb rfl) rfl d_Days_allows_18 (fun r3 _ hr3 => ?_)
      refine j_ws (ws' := [(ad 1, .inr (1, [.int (d.1 9), .ref (ad 4), .ref (ad 5), .ref (ad 6), .ref (ad 7), .ref (ad 8), .ref (ad 9), .ref (ad 10)])), (ad 10, .inl (y 0, 9, .inl (d.2 6))), (ad 12, .inl (y 0, 6, .inl (d.2 8))), (h, .inr (7, [.int sd, .int sw, .int sl, .ref (sa 0), .ref (sa 1), .ref (sa 2), .ref (sa 3), .ref (sa 4), .ref (sa 5), .ref (sa 6)])), (sa 0, .inl (y 0, 9, .inl f0)), (ad 0, .inr (2, [.int (d.1 0), .int (d.1 1), .int (d.1 2), .int (d.1 3), .ref (ad 1), .int (d.1 4), .ref (ad 11), .ref (ad 12), .ref (ad 2), .ref (ad 3), .int (d.1 5), .int (d.1 6), .int (d.1 7), .int (d.1 8)]))]) rfl ?_
      rcases hr3 with rfl | ⟨rfl, j4, xh5, rfl⟩
      · refine j_if_eqT (pc := 21) C (tgt := 30) d_Days_allows_21 (by decide) (by decide) ?_
        refine j_iconst (pc := 30) C (v := 0) d_Days_allows_30 (by decide) ?_
        exact j_iret (pc := 31) C hr (by decide) () (by decide) [5, 0, 1, 2, 3, 4] rfl (by decide) (by decide) (by decide) d_Days_allows_31
      · refine j_if_eqF (pc := 21) C (tgt := 30) d_Days_allows_21 (by decide) (by decide) ?_
        refine j_iload (pc := 24) C d_Days_allows_24 4 rfl ?_
        refine j_iconst (pc := 26) C (v := 3) d_Days_allows_26 (by decide) ?_
        refine j_icmp_ne (pc := 27) C (tgt := 32) d_Days_allows_27 (by decide) (fun c6 => ?_) (fun c6 => ?_)
        · refine j_iload (pc := 32) C d_Days_allows_32 4 rfl ?_
          refine j_if_ne (pc := 34) C (tgt := 47) d_Days_allows_34 (by decide) (fun c7 => ?_) (fun c7 => ?_)
          · refine j_aload_n (pc := 47) C d_Days_allows_47 rfl 0 rfl ?_
            refine j_get (pc := 48) C gf_Days_21 5 rfl rfl d_Days_allows_48 ?_
            refine j_iload_n (pc := 51) C d_Days_allows_51 rfl 2 rfl ?_
            obtain ⟨q8, xh9, e10⟩ := hV j4 (by omega)
            refine j_iald (pc := 52) C 2 rfl (v := nI q8) (vp_in_nI (by omega) (by decide)) (by rw [nI_clamp (by omega)]; exact e10) d_Days_allows_52 ?_
            refine j_istore (pc := 53) C (lv' := [(5, .int (nI q8)), (0, .ref (ad 0)), (1, .ref h), (2, .int (nI j4)), (3, .int v), (4, .int vc)]) d_Days_allows_53 (by decide) rfl ?_
            refine j_aload_n (pc := 55) C d_Days_allows_55 rfl 1 rfl ?_
            refine j_get (pc := 56) C gf_Days_25 5 rfl rfl d_Days_allows_56 ?_
            refine j_get (pc := 59) C gf_Days_29 0 rfl rfl d_Days_allows_59 ?_
            refine j_iload (pc := 62) C d_Days_allows_62 0 rfl ?_
            rcases hJ q8 (by omega) with e13 | ⟨q11, xh12, e13⟩
            · refine j_iald (pc := 64) C 1 rfl (v := (-1)) (vp_in_nI (by omega) (by decide)) (by rw [nI_clamp (by omega)]; exact e13) d_Days_allows_64 ?_
              refine j_istore (pc := 65) C (lv' := [(6, .int (-1)), (5, .int (nI q8)), (0, .ref (ad 0)), (1, .ref h), (2, .int (nI j4)), (3, .int v), (4, .int vc)]) d_Days_allows_65 (by decide) rfl ?_
              refine j_aload_n (pc := 67) C d_Days_allows_67 rfl 3 rfl ?_
              refine j_get (pc := 68) C gf_Days_34 3 rfl rfl d_Days_allows_68 ?_
              refine j_iload (pc := 71) C d_Days_allows_71 1 rfl ?_
              refine j_iald (pc := 73) C 4 rfl (v := f0 (nI q8).toNatClampNeg) (vp_in_nI (by omega) (by decide)) rfl d_Days_allows_73 ?_
              refine j_iload_n (pc := 74) C d_Days_allows_74 rfl 5 rfl ?_
              refine j_iload (pc := 75) C d_Days_allows_75 6 rfl ?_
              refine j_callSi (pc := 77) C (c_fits l D y (f0 (nI q8).toNatClampNeg) v vc) kw_Days_37 ks_Days_fits ⟨by decide, by decide⟩ ⟨by decide, by decide⟩ (wr := [(ad 1, .inr (1, [.int (d.1 9), .ref (ad 4), .ref (ad 5), .ref (ad 6), .ref (ad 7), .ref (ad 8), .ref (ad 9), .ref (ad 10)])), (ad 10, .inl (y 0, 9, .inl (d.2 6))), (ad 12, .inl (y 0, 6, .inl (d.2 8))), (h, .inr (7, [.int sd, .int sw, .int sl, .ref (sa 0), .ref (sa 1), .ref (sa 2), .ref (sa 3), .ref (sa 4), .ref (sa 5), .ref (sa 6)])), (sa 0, .inl (y 0, 9, .inl f0)), (ad 0, .inr (2, [.int (d.1 0), .int (d.1 1), .int (d.1 2), .int (d.1 3), .ref (ad 1), .int (d.1 4), .ref (ad 11), .ref (ad 12), .ref (ad 2), .ref (ad 3), .int (d.1 5), .int (d.1 6), .int (d.1 7), .int (d.1 8)]))]) [] [0, 1, 2, 3, 4, 5] rfl rfl (by decide +kernel) (by decide +kernel) (by decide +kernel) (As := [.int (f0 (nI q8).toNatClampNeg), .int v, .int vc]) (rest := []) rfl (nb rfl) rfl d_Days_allows_77 (fun r14 _ hr14 => ?_)
              refine j_ws (ws' := [(ad 1, .inr (1, [.int (d.1 9), .ref (ad 4), .ref (ad 5), .ref (ad 6), .ref (ad 7), .ref (ad 8), .ref (ad 9), .ref (ad 10)])), (ad 10, .inl (y 0, 9, .inl (d.2 6))), (ad 12, .inl (y 0, 6, .inl (d.2 8))), (h, .inr (7, [.int sd, .int sw, .int sl, .ref (sa 0), .ref (sa 1), .ref (sa 2), .ref (sa 3), .ref (sa 4), .ref (sa 5), .ref (sa 6)])), (sa 0, .inl (y 0, 9, .inl f0)), (ad 0, .inr (2, [.int (d.1 0), .int (d.1 1), .int (d.1 2), .int (d.1 3), .ref (ad 1), .int (d.1 4), .ref (ad 11), .ref (ad 12), .ref (ad 2), .ref (ad 3), .int (d.1 5), .int (d.1 6), .int (d.1 7), .int (d.1 8)]))]) rfl ?_
              refine j_if_eq (pc := 80) C (tgt := 109) d_Days_allows_80 (by decide) (fun c15 => ?_) (fun c15 => ?_)
              · refine j_iconst (pc := 109) C (v := 0) d_Days_allows_109 (by decide) ?_
                exact j_iret (pc := 110) C hr (by decide) () (by decide) [5, 0, 1, 2, 3, 4] rfl (by decide) (by decide) (by decide) d_Days_allows_110
              · refine j_iload (pc := 83) C d_Days_allows_83 0 rfl ?_
                refine j_iconst (pc := 85) C (v := (-1)) d_Days_allows_85 (by decide) ?_
                refine j_icmp_eqT (pc := 86) C (tgt := 105) d_Days_allows_86 (by decide) (by decide) ?_
                refine j_iconst (pc := 105) C (v := 1) d_Days_allows_105 (by decide) ?_
                refine j_goto (pc := 106) C (tgt := 110) d_Days_allows_106 (by decide) ?_
                exact j_iret (pc := 110) C hr (by decide) () (by decide) [5, 0, 1, 2, 3, 4] rfl (by decide) (by decide) (by decide) d_Days_allows_110
            · refine j_iald (pc := 64) C 1 rfl (v := nI q11) (vp_in_nI (by omega) (by decide)) (by rw [nI_clamp (by omega)]; exact e13) d_Days_allows_64 ?_
              refine j_istore (pc := 65) C (lv' := [(6, .int (nI q11)), (5, .int (nI q8)), (0, .ref (ad 0)), (1, .ref h), (2, .int (nI j4)), (3, .int v), (4, .int vc)]) d_Days_allows_65 (by decide) rfl ?_
              refine j_aload_n (pc := 67) C d_Days_allows_67 rfl 3 rfl ?_
              refine j_get (pc := 68) C gf_Days_34 3 rfl rfl d_Days_allows_68 ?_
              refine j_iload (pc := 71) C d_Days_allows_71 1 rfl ?_
              refine j_iald (pc := 73) C 4 rfl (v := f0 (nI q8).toNatClampNeg) (vp_in_nI (by omega) (by decide)) rfl d_Days_allows_73 ?_
              refine j_iload_n (pc := 74) C d_Days_allows_74 rfl 5 rfl ?_
              refine j_iload (pc := 75) C d_Days_allows_75 6 rfl ?_
              refine j_callSi (pc := 77) C (c_fits l D y (f0 (nI q8).toNatClampNeg) v vc) kw_Days_37 ks_Days_fits ⟨by decide, by decide⟩ ⟨by decide, by decide⟩ (wr := [(ad 1, .inr (1, [.int (d.1 9), .ref (ad 4), .ref (ad 5), .ref (ad 6), .ref (ad 7), .ref (ad 8), .ref (ad 9), .ref (ad 10)])), (ad 10, .inl (y 0, 9, .inl (d.2 6))), (ad 12, .inl (y 0, 6, .inl (d.2 8))), (h, .inr (7, [.int sd, .int sw, .int sl, .ref (sa 0), .ref (sa 1), .ref (sa 2), .ref (sa 3), .ref (sa 4), .ref (sa 5), .ref (sa 6)])), (sa 0, .inl (y 0, 9, .inl f0)), (ad 0, .inr (2, [.int (d.1 0), .int (d.1 1), .int (d.1 2), .int (d.1 3), .ref (ad 1), .int (d.1 4), .ref (ad 11), .ref (ad 12), .ref (ad 2), .ref (ad 3), .int (d.1 5), .int (d.1 6), .int (d.1 7), .int (d.1 8)]))]) [] [0, 1, 2, 3, 4, 5] rfl rfl (by decide +kernel) (by decide +kernel) (by decide +kernel) (As := [.int (f0 (nI q8).toNatClampNeg), .int v, .int vc]) (rest := []) rfl (nb rfl) rfl d_Days_allows_77 (fun r16 _ hr16 => ?_)
              refine j_ws (ws' := [(ad 1, .inr (1, [.int (d.1 9), .ref (ad 4), .ref (ad 5), .ref (ad 6), .ref (ad 7), .ref (ad 8), .ref (ad 9), .ref (ad 10)])), (ad 10, .inl (y 0, 9, .inl (d.2 6))), (ad 12, .inl (y 0, 6, .inl (d.2 8))), (h, .inr (7, [.int sd, .int sw, .int sl, .ref (sa 0), .ref (sa 1), .ref (sa 2), .ref (sa 3), .ref (sa 4), .ref (sa 5), .ref (sa 6)])), (sa 0, .inl (y 0, 9, .inl f0)), (ad 0, .inr (2, [.int (d.1 0), .int (d.1 1), .int (d.1 2), .int (d.1 3), .ref (ad 1), .int (d.1 4), .ref (ad 11), .ref (ad 12), .ref (ad 2), .ref (ad 3), .int (d.1 5), .int (d.1 6), .int (d.1 7), .int (d.1 8)]))]) rfl ?_
              refine j_if_eq (pc := 80) C (tgt := 109) d_Days_allows_80 (by decide) (fun c17 => ?_) (fun c17 => ?_)
              · refine j_iconst (pc := 109) C (v := 0) d_Days_allows_109 (by decide) ?_
                exact j_iret (pc := 110) C hr (by decide) () (by decide) [5, 0, 1, 2, 3, 4] rfl (by decide) (by decide) (by decide) d_Days_allows_110
              · refine j_iload (pc := 83) C d_Days_allows_83 0 rfl ?_
                refine j_iconst (pc := 85) C (v := (-1)) d_Days_allows_85 (by decide) ?_
                refine j_icmp_eqF (pc := 86) C (tgt := 105) d_Days_allows_86 (by decide) (nI_nm1 (by omega)) ?_
                refine j_aload_n (pc := 89) C d_Days_allows_89 rfl 3 rfl ?_
                refine j_get (pc := 90) C gf_Days_34 3 rfl rfl d_Days_allows_90 ?_
                refine j_iload (pc := 93) C d_Days_allows_93 0 rfl ?_
                refine j_iald (pc := 95) C 4 rfl (v := f0 (nI q11).toNatClampNeg) (vp_in_nI (by omega) (by decide)) rfl d_Days_allows_95 ?_
                refine j_iload_n (pc := 96) C d_Days_allows_96 rfl 5 rfl ?_
                refine j_iload (pc := 97) C d_Days_allows_97 6 rfl ?_
                refine j_callSi (pc := 99) C (c_fits l D y (f0 (nI q11).toNatClampNeg) v vc) kw_Days_37 ks_Days_fits ⟨by decide, by decide⟩ ⟨by decide, by decide⟩ (wr := [(ad 1, .inr (1, [.int (d.1 9), .ref (ad 4), .ref (ad 5), .ref (ad 6), .ref (ad 7), .ref (ad 8), .ref (ad 9), .ref (ad 10)])), (ad 10, .inl (y 0, 9, .inl (d.2 6))), (ad 12, .inl (y 0, 6, .inl (d.2 8))), (h, .inr (7, [.int sd, .int sw, .int sl, .ref (sa 0), .ref (sa 1), .ref (sa 2), .ref (sa 3), .ref (sa 4), .ref (sa 5), .ref (sa 6)])), (sa 0, .inl (y 0, 9, .inl f0)), (ad 0, .inr (2, [.int (d.1 0), .int (d.1 1), .int (d.1 2), .int (d.1 3), .ref (ad 1), .int (d.1 4), .ref (ad 11), .ref (ad 12), .ref (ad 2), .ref (ad 3), .int (d.1 5), .int (d.1 6), .int (d.1 7), .int (d.1 8)]))]) [] [0, 1, 2, 3, 4, 5] rfl rfl (by decide +kernel) (by decide +kernel) (by decide +kernel) (As := [.int (f0 (nI q11).toNatClampNeg), .int v, .int vc]) (rest := []) rfl (nb rfl) rfl d_Days_allows_99 (fun r18 _ hr18 => ?_)
                refine j_ws (ws' := [(ad 1, .inr (1, [.int (d.1 9), .ref (ad 4), .ref (ad 5), .ref (ad 6), .ref (ad 7), .ref (ad 8), .ref (ad 9), .ref (ad 10)])), (ad 10, .inl (y 0, 9, .inl (d.2 6))), (ad 12, .inl (y 0, 6, .inl (d.2 8))), (h, .inr (7, [.int sd, .int sw, .int sl, .ref (sa 0), .ref (sa 1), .ref (sa 2), .ref (sa 3), .ref (sa 4), .ref (sa 5), .ref (sa 6)])), (sa 0, .inl (y 0, 9, .inl f0)), (ad 0, .inr (2, [.int (d.1 0), .int (d.1 1), .int (d.1 2), .int (d.1 3), .ref (ad 1), .int (d.1 4), .ref (ad 11), .ref (ad 12), .ref (ad 2), .ref (ad 3), .int (d.1 5), .int (d.1 6), .int (d.1 7), .int (d.1 8)]))]) rfl ?_
                refine j_if_eq (pc := 102) C (tgt := 109) d_Days_allows_102 (by decide) (fun c19 => ?_) (fun c19 => ?_)
                · refine j_iconst (pc := 109) C (v := 0) d_Days_allows_109 (by decide) ?_
                  exact j_iret (pc := 110) C hr (by decide) () (by decide) [5, 0, 1, 2, 3, 4] rfl (by decide) (by decide) (by decide) d_Days_allows_110
                · refine j_iconst (pc := 105) C (v := 1) d_Days_allows_105 (by decide) ?_
                  refine j_goto (pc := 106) C (tgt := 110) d_Days_allows_106 (by decide) ?_
                  exact j_iret (pc := 110) C hr (by decide) () (by decide) [5, 0, 1, 2, 3, 4] rfl (by decide) (by decide) (by decide) d_Days_allows_110
          · refine j_iload_n (pc := 37) C d_Days_allows_37 rfl 3 rfl ?_
            refine j_aload_n (pc := 38) C d_Days_allows_38 rfl 1 rfl ?_
            refine j_get (pc := 39) C gf_Days_15 3 rfl rfl d_Days_allows_39 ?_
            refine j_icmp_ne (pc := 42) C (tgt := 47) d_Days_allows_42 (by decide) (fun c20 => ?_) (fun c20 => ?_)
            · refine j_aload_n (pc := 47) C d_Days_allows_47 rfl 0 rfl ?_
              refine j_get (pc := 48) C gf_Days_21 5 rfl rfl d_Days_allows_48 ?_
              refine j_iload_n (pc := 51) C d_Days_allows_51 rfl 2 rfl ?_
              obtain ⟨q21, xh22, e23⟩ := hV j4 (by omega)
              refine j_iald (pc := 52) C 2 rfl (v := nI q21) (vp_in_nI (by omega) (by decide)) (by rw [nI_clamp (by omega)]; exact e23) d_Days_allows_52 ?_
              refine j_istore (pc := 53) C (lv' := [(5, .int (nI q21)), (0, .ref (ad 0)), (1, .ref h), (2, .int (nI j4)), (3, .int v), (4, .int vc)]) d_Days_allows_53 (by decide) rfl ?_
              refine j_aload_n (pc := 55) C d_Days_allows_55 rfl 1 rfl ?_
              refine j_get (pc := 56) C gf_Days_25 5 rfl rfl d_Days_allows_56 ?_
              refine j_get (pc := 59) C gf_Days_29 0 rfl rfl d_Days_allows_59 ?_
              refine j_iload (pc := 62) C d_Days_allows_62 0 rfl ?_
              rcases hJ q21 (by omega) with e26 | ⟨q24, xh25, e26⟩
              · refine j_iald (pc := 64) C 1 rfl (v := (-1)) (vp_in_nI (by omega) (by decide)) (by rw [nI_clamp (by omega)]; exact e26) d_Days_allows_64 ?_
                refine j_istore (pc := 65) C (lv' := [(6, .int (-1)), (5, .int (nI q21)), (0, .ref (ad 0)), (1, .ref h), (2, .int (nI j4)), (3, .int v), (4, .int vc)]) d_Days_allows_65 (by decide) rfl ?_
                refine j_aload_n (pc := 67) C d_Days_allows_67 rfl 3 rfl ?_
                refine j_get (pc := 68) C gf_Days_34 3 rfl rfl d_Days_allows_68 ?_
                refine j_iload (pc := 71) C d_Days_allows_71 1 rfl ?_
                refine j_iald (pc := 73) C 4 rfl (v := f0 (nI q21).toNatClampNeg) (vp_in_nI (by omega) (by decide)) rfl d_Days_allows_73 ?_
                refine j_iload_n (pc := 74) C d_Days_allows_74 rfl 5 rfl ?_
                refine j_iload (pc := 75) C d_Days_allows_75 6 rfl ?_
                refine j_callSi (pc := 77) C (c_fits l D y (f0 (nI q21).toNatClampNeg) v vc) kw_Days_37 ks_Days_fits ⟨by decide, by decide⟩ ⟨by decide, by decide⟩ (wr := [(ad 1, .inr (1, [.int (d.1 9), .ref (ad 4), .ref (ad 5), .ref (ad 6), .ref (ad 7), .ref (ad 8), .ref (ad 9), .ref (ad 10)])), (ad 10, .inl (y 0, 9, .inl (d.2 6))), (ad 12, .inl (y 0, 6, .inl (d.2 8))), (h, .inr (7, [.int sd, .int sw, .int sl, .ref (sa 0), .ref (sa 1), .ref (sa 2), .ref (sa 3), .ref (sa 4), .ref (sa 5), .ref (sa 6)])), (sa 0, .inl (y 0, 9, .inl f0)), (ad 0, .inr (2, [.int (d.1 0), .int (d.1 1), .int (d.1 2), .int (d.1 3), .ref (ad 1), .int (d.1 4), .ref (ad 11), .ref (ad 12), .ref (ad 2), .ref (ad 3), .int (d.1 5), .int (d.1 6), .int (d.1 7), .int (d.1 8)]))]) [] [0, 1, 2, 3, 4, 5] rfl rfl (by decide +kernel) (by decide +kernel) (by decide +kernel) (As := [.int (f0 (nI q21).toNatClampNeg), .int v, .int vc]) (rest := []) rfl (nb rfl) rfl d_Days_allows_77 (fun r27 _ hr27 => ?_)
                refine j_ws (ws' := [(ad 1, .inr (1, [.int (d.1 9), .ref (ad 4), .ref (ad 5), .ref (ad 6), .ref (ad 7), .ref (ad 8), .ref (ad 9), .ref (ad 10)])), (ad 10, .inl (y 0, 9, .inl (d.2 6))), (ad 12, .inl (y 0, 6, .inl (d.2 8))), (h, .inr (7, [.int sd, .int sw, .int sl, .ref (sa 0), .ref (sa 1), .ref (sa 2), .ref (sa 3), .ref (sa 4), .ref (sa 5), .ref (sa 6)])), (sa 0, .inl (y 0, 9, .inl f0)), (ad 0, .inr (2, [.int (d.1 0), .int (d.1 1), .int (d.1 2), .int (d.1 3), .ref (ad 1), .int (d.1 4), .ref (ad 11), .ref (ad 12), .ref (ad 2), .ref (ad 3), .int (d.1 5), .int (d.1 6), .int (d.1 7), .int (d.1 8)]))]) rfl ?_
                refine j_if_eq (pc := 80) C (tgt := 109) d_Days_allows_80 (by decide) (fun c28 => ?_) (fun c28 => ?_)
                · refine j_iconst (pc := 109) C (v := 0) d_Days_allows_109 (by decide) ?_
                  exact j_iret (pc := 110) C hr (by decide) () (by decide) [5, 0, 1, 2, 3, 4] rfl (by decide) (by decide) (by decide) d_Days_allows_110
                · refine j_iload (pc := 83) C d_Days_allows_83 0 rfl ?_
                  refine j_iconst (pc := 85) C (v := (-1)) d_Days_allows_85 (by decide) ?_
                  refine j_icmp_eqT (pc := 86) C (tgt := 105) d_Days_allows_86 (by decide) (by decide) ?_
                  refine j_iconst (pc := 105) C (v := 1) d_Days_allows_105 (by decide) ?_
                  refine j_goto (pc := 106) C (tgt := 110) d_Days_allows_106 (by decide) ?_
                  exact j_iret (pc := 110) C hr (by decide) () (by decide) [5, 0, 1, 2, 3, 4] rfl (by decide) (by decide) (by decide) d_Days_allows_110
              · refine j_iald (pc := 64) C 1 rfl (v := nI q24) (vp_in_nI (by omega) (by decide)) (by rw [nI_clamp (by omega)]; exact e26) d_Days_allows_64 ?_
                refine j_istore (pc := 65) C (lv' := [(6, .int (nI q24)), (5, .int (nI q21)), (0, .ref (ad 0)), (1, .ref h), (2, .int (nI j4)), (3, .int v), (4, .int vc)]) d_Days_allows_65 (by decide) rfl ?_
                refine j_aload_n (pc := 67) C d_Days_allows_67 rfl 3 rfl ?_
                refine j_get (pc := 68) C gf_Days_34 3 rfl rfl d_Days_allows_68 ?_
                refine j_iload (pc := 71) C d_Days_allows_71 1 rfl ?_
                refine j_iald (pc := 73) C 4 rfl (v := f0 (nI q21).toNatClampNeg) (vp_in_nI (by omega) (by decide)) rfl d_Days_allows_73 ?_
                refine j_iload_n (pc := 74) C d_Days_allows_74 rfl 5 rfl ?_
                refine j_iload (pc := 75) C d_Days_allows_75 6 rfl ?_
                refine j_callSi (pc := 77) C (c_fits l D y (f0 (nI q21).toNatClampNeg) v vc) kw_Days_37 ks_Days_fits ⟨by decide, by decide⟩ ⟨by decide, by decide⟩ (wr := [(ad 1, .inr (1, [.int (d.1 9), .ref (ad 4), .ref (ad 5), .ref (ad 6), .ref (ad 7), .ref (ad 8), .ref (ad 9), .ref (ad 10)])), (ad 10, .inl (y 0, 9, .inl (d.2 6))), (ad 12, .inl (y 0, 6, .inl (d.2 8))), (h, .inr (7, [.int sd, .int sw, .int sl, .ref (sa 0), .ref (sa 1), .ref (sa 2), .ref (sa 3), .ref (sa 4), .ref (sa 5), .ref (sa 6)])), (sa 0, .inl (y 0, 9, .inl f0)), (ad 0, .inr (2, [.int (d.1 0), .int (d.1 1), .int (d.1 2), .int (d.1 3), .ref (ad 1), .int (d.1 4), .ref (ad 11), .ref (ad 12), .ref (ad 2), .ref (ad 3), .int (d.1 5), .int (d.1 6), .int (d.1 7), .int (d.1 8)]))]) [] [0, 1, 2, 3, 4, 5] rfl rfl (by decide +kernel) (by decide +kernel) (by decide +kernel) (As := [.int (f0 (nI q21).toNatClampNeg), .int v, .int vc]) (rest := []) rfl (nb rfl) rfl d_Days_allows_77 (fun r29 _ hr29 => ?_)
                refine j_ws (ws' := [(ad 1, .inr (1, [.int (d.1 9), .ref (ad 4), .ref (ad 5), .ref (ad 6), .ref (ad 7), .ref (ad 8), .ref (ad 9), .ref (ad 10)])), (ad 10, .inl (y 0, 9, .inl (d.2 6))), (ad 12, .inl (y 0, 6, .inl (d.2 8))), (h, .inr (7, [.int sd, .int sw, .int sl, .ref (sa 0), .ref (sa 1), .ref (sa 2), .ref (sa 3), .ref (sa 4), .ref (sa 5), .ref (sa 6)])), (sa 0, .inl (y 0, 9, .inl f0)), (ad 0, .inr (2, [.int (d.1 0), .int (d.1 1), .int (d.1 2), .int (d.1 3), .ref (ad 1), .int (d.1 4), .ref (ad 11), .ref (ad 12), .ref (ad 2), .ref (ad 3), .int (d.1 5), .int (d.1 6), .int (d.1 7), .int (d.1 8)]))]) rfl ?_
                refine j_if_eq (pc := 80) C (tgt := 109) d_Days_allows_80 (by decide) (fun c30 => ?_) (fun c30 => ?_)
                · refine j_iconst (pc := 109) C (v := 0) d_Days_allows_109 (by decide) ?_
                  exact j_iret (pc := 110) C hr (by decide) () (by decide) [5, 0, 1, 2, 3, 4] rfl (by decide) (by decide) (by decide) d_Days_allows_110
                · refine j_iload (pc := 83) C d_Days_allows_83 0 rfl ?_
                  refine j_iconst (pc := 85) C (v := (-1)) d_Days_allows_85 (by decide) ?_
                  refine j_icmp_eqF (pc := 86) C (tgt := 105) d_Days_allows_86 (by decide) (nI_nm1 (by omega)) ?_
                  refine j_aload_n (pc := 89) C d_Days_allows_89 rfl 3 rfl ?_
                  refine j_get (pc := 90) C gf_Days_34 3 rfl rfl d_Days_allows_90 ?_
                  refine j_iload (pc := 93) C d_Days_allows_93 0 rfl ?_
                  refine j_iald (pc := 95) C 4 rfl (v := f0 (nI q24).toNatClampNeg) (vp_in_nI (by omega) (by decide)) rfl d_Days_allows_95 ?_
                  refine j_iload_n (pc := 96) C d_Days_allows_96 rfl 5 rfl ?_
                  refine j_iload (pc := 97) C d_Days_allows_97 6 rfl ?_
                  refine j_callSi (pc := 99) C (c_fits l D y (f0 (nI q24).toNatClampNeg) v vc) kw_Days_37 ks_Days_fits ⟨by decide, by decide⟩ ⟨by decide, by decide⟩ (wr := [(ad 1, .inr (1, [.int (d.1 9), .ref (ad 4), .ref (ad 5), .ref (ad 6), .ref (ad 7), .ref (ad 8), .ref (ad 9), .ref (ad 10)])), (ad 10, .inl (y 0, 9, .inl (d.2 6))), (ad 12, .inl (y 0, 6, .inl (d.2 8))), (h, .inr (7, [.int sd, .int sw, .int sl, .ref (sa 0), .ref (sa 1), .ref (sa 2), .ref (sa 3), .ref (sa 4), .ref (sa 5), .ref (sa 6)])), (sa 0, .inl (y 0, 9, .inl f0)), (ad 0, .inr (2, [.int (d.1 0), .int (d.1 1), .int (d.1 2), .int (d.1 3), .ref (ad 1), .int (d.1 4), .ref (ad 11), .ref (ad 12), .ref (ad 2), .ref (ad 3), .int (d.1 5), .int (d.1 6), .int (d.1 7), .int (d.1 8)]))]) [] [0, 1, 2, 3, 4, 5] rfl rfl (by decide +kernel) (by decide +kernel) (by decide +kernel) (As := [.int (f0 (nI q24).toNatClampNeg), .int v, .int vc]) (rest := []) rfl (nb rfl) rfl d_Days_allows_99 (fun r31 _ hr31 => ?_)
                  refine j_ws (ws' := [(ad 1, .inr (1, [.int (d.1 9), .ref (ad 4), .ref (ad 5), .ref (ad 6), .ref (ad 7), .ref (ad 8), .ref (ad 9), .ref (ad 10)])), (ad 10, .inl (y 0, 9, .inl (d.2 6))), (ad 12, .inl (y 0, 6, .inl (d.2 8))), (h, .inr (7, [.int sd, .int sw, .int sl, .ref (sa 0), .ref (sa 1), .ref (sa 2), .ref (sa 3), .ref (sa 4), .ref (sa 5), .ref (sa 6)])), (sa 0, .inl (y 0, 9, .inl f0)), (ad 0, .inr (2, [.int (d.1 0), .int (d.1 1), .int (d.1 2), .int (d.1 3), .ref (ad 1), .int (d.1 4), .ref (ad 11), .ref (ad 12), .ref (ad 2), .ref (ad 3), .int (d.1 5), .int (d.1 6), .int (d.1 7), .int (d.1 8)]))]) rfl ?_
                  refine j_if_eq (pc := 102) C (tgt := 109) d_Days_allows_102 (by decide) (fun c32 => ?_) (fun c32 => ?_)
                  · refine j_iconst (pc := 109) C (v := 0) d_Days_allows_109 (by decide) ?_
                    exact j_iret (pc := 110) C hr (by decide) () (by decide) [5, 0, 1, 2, 3, 4] rfl (by decide) (by decide) (by decide) d_Days_allows_110
                  · refine j_iconst (pc := 105) C (v := 1) d_Days_allows_105 (by decide) ?_
                    refine j_goto (pc := 106) C (tgt := 110) d_Days_allows_106 (by decide) ?_
                    exact j_iret (pc := 110) C hr (by decide) () (by decide) [5, 0, 1, 2, 3, 4] rfl (by decide) (by decide) (by decide) d_Days_allows_110
            · refine j_iconst (pc := 45) C (v := 0) d_Days_allows_45 (by decide) ?_
              exact j_iret (pc := 46) C hr (by decide) () (by decide) [5, 0, 1, 2, 3, 4] rfl (by decide) (by decide) (by decide) d_Days_allows_46
        · refine j_iconst (pc := 30) C (v := 0) d_Days_allows_30 (by decide) ?_
          exact j_iret (pc := 31) C hr (by decide) () (by decide) [5, 0, 1, 2, 3, 4] rfl (by decide) (by decide) (by decide) d_Days_allows_31
    · refine j_iload_n (pc := 11) C d_Days_allows_11 rfl 3 rfl ?_
      refine j_iconst (pc := 12) C (v := 2) d_Days_allows_12 (by decide) ?_
      refine j_icmp_ne (pc := 13) C (tgt := 30) d_Days_allows_13 (by decide) (fun c33 => ?_) (fun c33 => ?_)
      · refine j_iconst (pc := 30) C (v := 0) d_Days_allows_30 (by decide) ?_
        exact j_iret (pc := 31) C hr (by decide) () (by decide) [0, 1, 2, 3, 4, 5] rfl (by decide) (by decide) (by decide) d_Days_allows_31
      · refine j_aload_n (pc := 16) C d_Days_allows_16 rfl 0 rfl ?_
        refine j_iload_n (pc := 17) C d_Days_allows_17 rfl 2 rfl ?_
        refine j_callVi (pc := 18) C (c_hasVillage l D y ad d n4 va h4 b4) kw_Days_9 kv_Lake_hasVillage 0 2 rfl rfl ⟨by decide, by decide⟩ ⟨by decide, by decide⟩ (wr := [(ad 1, .inr (1, [.int (d.1 9), .ref (ad 4), .ref (ad 5), .ref (ad 6), .ref (ad 7), .ref (ad 8), .ref (ad 9), .ref (ad 10)])), (ad 10, .inl (y 0, 9, .inl (d.2 6))), (ad 12, .inl (y 0, 6, .inl (d.2 8))), (h, .inr (7, [.int sd, .int sw, .int sl, .ref (sa 0), .ref (sa 1), .ref (sa 2), .ref (sa 3), .ref (sa 4), .ref (sa 5), .ref (sa 6)])), (sa 0, .inl (y 0, 9, .inl f0))]) [0] [1, 2, 3, 4, 5] rfl rfl (by decide +kernel) (by decide +kernel) (by decide +kernel) (As := [.int va]) (rest := []) rfl (nb rfl) rfl d_Days_allows_18 (fun r34 _ hr34 => ?_)
        refine j_ws (ws' := [(ad 1, .inr (1, [.int (d.1 9), .ref (ad 4), .ref (ad 5), .ref (ad 6), .ref (ad 7), .ref (ad 8), .ref (ad 9), .ref (ad 10)])), (ad 10, .inl (y 0, 9, .inl (d.2 6))), (ad 12, .inl (y 0, 6, .inl (d.2 8))), (h, .inr (7, [.int sd, .int sw, .int sl, .ref (sa 0), .ref (sa 1), .ref (sa 2), .ref (sa 3), .ref (sa 4), .ref (sa 5), .ref (sa 6)])), (sa 0, .inl (y 0, 9, .inl f0)), (ad 0, .inr (2, [.int (d.1 0), .int (d.1 1), .int (d.1 2), .int (d.1 3), .ref (ad 1), .int (d.1 4), .ref (ad 11), .ref (ad 12), .ref (ad 2), .ref (ad 3), .int (d.1 5), .int (d.1 6), .int (d.1 7), .int (d.1 8)]))]) rfl ?_
        rcases hr34 with rfl | ⟨rfl, j35, xh36, rfl⟩
        · refine j_if_eqT (pc := 21) C (tgt := 30) d_Days_allows_21 (by decide) (by decide) ?_
          refine j_iconst (pc := 30) C (v := 0) d_Days_allows_30 (by decide) ?_
          exact j_iret (pc := 31) C hr (by decide) () (by decide) [5, 0, 1, 2, 3, 4] rfl (by decide) (by decide) (by decide) d_Days_allows_31
        · refine j_if_eqF (pc := 21) C (tgt := 30) d_Days_allows_21 (by decide) (by decide) ?_
          refine j_iload (pc := 24) C d_Days_allows_24 4 rfl ?_
          refine j_iconst (pc := 26) C (v := 3) d_Days_allows_26 (by decide) ?_
          refine j_icmp_ne (pc := 27) C (tgt := 32) d_Days_allows_27 (by decide) (fun c37 => ?_) (fun c37 => ?_)
          · refine j_iload (pc := 32) C d_Days_allows_32 4 rfl ?_
            refine j_if_ne (pc := 34) C (tgt := 47) d_Days_allows_34 (by decide) (fun c38 => ?_) (fun c38 => ?_)
            · refine j_aload_n (pc := 47) C d_Days_allows_47 rfl 0 rfl ?_
              refine j_get (pc := 48) C gf_Days_21 5 rfl rfl d_Days_allows_48 ?_
              refine j_iload_n (pc := 51) C d_Days_allows_51 rfl 2 rfl ?_
              obtain ⟨q39, xh40, e41⟩ := hV j35 (by omega)
              refine j_iald (pc := 52) C 2 rfl (v := nI q39) (vp_in_nI (by omega) (by decide)) (by rw [nI_clamp (by omega)]; exact e41) d_Days_allows_52 ?_
              refine j_istore (pc := 53) C (lv' := [(5, .int (nI q39)), (0, .ref (ad 0)), (1, .ref h), (2, .int (nI j35)), (3, .int v), (4, .int vc)]) d_Days_allows_53 (by decide) rfl ?_
              refine j_aload_n (pc := 55) C d_Days_allows_55 rfl 1 rfl ?_
              refine j_get (pc := 56) C gf_Days_25 5 rfl rfl d_Days_allows_56 ?_
              refine j_get (pc := 59) C gf_Days_29 0 rfl rfl d_Days_allows_59 ?_
              refine j_iload (pc := 62) C d_Days_allows_62 0 rfl ?_
              rcases hJ q39 (by omega) with e44 | ⟨q42, xh43, e44⟩
              · refine j_iald (pc := 64) C 1 rfl (v := (-1)) (vp_in_nI (by omega) (by decide)) (by rw [nI_clamp (by omega)]; exact e44) d_Days_allows_64 ?_
                refine j_istore (pc := 65) C (lv' := [(6, .int (-1)), (5, .int (nI q39)), (0, .ref (ad 0)), (1, .ref h), (2, .int (nI j35)), (3, .int v), (4, .int vc)]) d_Days_allows_65 (by decide) rfl ?_
                refine j_aload_n (pc := 67) C d_Days_allows_67 rfl 3 rfl ?_
                refine j_get (pc := 68) C gf_Days_34 3 rfl rfl d_Days_allows_68 ?_
                refine j_iload (pc := 71) C d_Days_allows_71 1 rfl ?_
                refine j_iald (pc := 73) C 4 rfl (v := f0 (nI q39).toNatClampNeg) (vp_in_nI (by omega) (by decide)) rfl d_Days_allows_73 ?_
                refine j_iload_n (pc := 74) C d_Days_allows_74 rfl 5 rfl ?_
                refine j_iload (pc := 75) C d_Days_allows_75 6 rfl ?_
                refine j_callSi (pc := 77) C (c_fits l D y (f0 (nI q39).toNatClampNeg) v vc) kw_Days_37 ks_Days_fits ⟨by decide, by decide⟩ ⟨by decide, by decide⟩ (wr := [(ad 1, .inr (1, [.int (d.1 9), .ref (ad 4), .ref (ad 5), .ref (ad 6), .ref (ad 7), .ref (ad 8), .ref (ad 9), .ref (ad 10)])), (ad 10, .inl (y 0, 9, .inl (d.2 6))), (ad 12, .inl (y 0, 6, .inl (d.2 8))), (h, .inr (7, [.int sd, .int sw, .int sl, .ref (sa 0), .ref (sa 1), .ref (sa 2), .ref (sa 3), .ref (sa 4), .ref (sa 5), .ref (sa 6)])), (sa 0, .inl (y 0, 9, .inl f0)), (ad 0, .inr (2, [.int (d.1 0), .int (d.1 1), .int (d.1 2), .int (d.1 3), .ref (ad 1), .int (d.1 4), .ref (ad 11), .ref (ad 12), .ref (ad 2), .ref (ad 3), .int (d.1 5), .int (d.1 6), .int (d.1 7), .int (d.1 8)]))]) [] [0, 1, 2, 3, 4, 5] rfl rfl (by decide +kernel) (by decide +kernel) (by decide +kernel) (As := [.int (f0 (nI q39).toNatClampNeg), .int v, .int vc]) (rest := []) rfl (nb rfl) rfl d_Days_allows_77 (fun r45 _ hr45 => ?_)
                refine j_ws (ws' := [(ad 1, .inr (1, [.int (d.1 9), .ref (ad 4), .ref (ad 5), .ref (ad 6), .ref (ad 7), .ref (ad 8), .ref (ad 9), .ref (ad 10)])), (ad 10, .inl (y 0, 9, .inl (d.2 6))), (ad 12, .inl (y 0, 6, .inl (d.2 8))), (h, .inr (7, [.int sd, .int sw, .int sl, .ref (sa 0), .ref (sa 1), .ref (sa 2), .ref (sa 3), .ref (sa 4), .ref (sa 5), .ref (sa 6)])), (sa 0, .inl (y 0, 9, .inl f0)), (ad 0, .inr (2, [.int (d.1 0), .int (d.1 1), .int (d.1 2), .int (d.1 3), .ref (ad 1), .int (d.1 4), .ref (ad 11), .ref (ad 12), .ref (ad 2), .ref (ad 3), .int (d.1 5), .int (d.1 6), .int (d.1 7), .int (d.1 8)]))]) rfl ?_
                refine j_if_eq (pc := 80) C (tgt := 109) d_Days_allows_80 (by decide) (fun c46 => ?_) (fun c46 => ?_)
                · refine j_iconst (pc := 109) C (v := 0) d_Days_allows_109 (by decide) ?_
                  exact j_iret (pc := 110) C hr (by decide) () (by decide) [5, 0, 1, 2, 3, 4] rfl (by decide) (by decide) (by decide) d_Days_allows_110
                · refine j_iload (pc := 83) C d_Days_allows_83 0 rfl ?_
                  refine j_iconst (pc := 85) C (v := (-1)) d_Days_allows_85 (by decide) ?_
                  refine j_icmp_eqT (pc := 86) C (tgt := 105) d_Days_allows_86 (by decide) (by decide) ?_
                  refine j_iconst (pc := 105) C (v := 1) d_Days_allows_105 (by decide) ?_
                  refine j_goto (pc := 106) C (tgt := 110) d_Days_allows_106 (by decide) ?_
                  exact j_iret (pc := 110) C hr (by decide) () (by decide) [5, 0, 1, 2, 3, 4] rfl (by decide) (by decide) (by decide) d_Days_allows_110
              · refine j_iald (pc := 64) C 1 rfl (v := nI q42) (vp_in_nI (by omega) (by decide)) (by rw [nI_clamp (by omega)]; exact e44) d_Days_allows_64 ?_
                refine j_istore (pc := 65) C (lv' := [(6, .int (nI q42)), (5, .int (nI q39)), (0, .ref (ad 0)), (1, .ref h), (2, .int (nI j35)), (3, .int v), (4, .int vc)]) d_Days_allows_65 (by decide) rfl ?_
                refine j_aload_n (pc := 67) C d_Days_allows_67 rfl 3 rfl ?_
                refine j_get (pc := 68) C gf_Days_34 3 rfl rfl d_Days_allows_68 ?_
                refine j_iload (pc := 71) C d_Days_allows_71 1 rfl ?_
                refine j_iald (pc := 73) C 4 rfl (v := f0 (nI q39).toNatClampNeg) (vp_in_nI (by omega) (by decide)) rfl d_Days_allows_73 ?_
                refine j_iload_n (pc := 74) C d_Days_allows_74 rfl 5 rfl ?_
                refine j_iload (pc := 75) C d_Days_allows_75 6 rfl ?_
                refine j_callSi (pc := 77) C (c_fits l D y (f0 (nI q39).toNatClampNeg) v vc) kw_Days_37 ks_Days_fits ⟨by decide, by decide⟩ ⟨by decide, by decide⟩ (wr := [(ad 1, .inr (1, [.int (d.1 9), .ref (ad 4), .ref (ad 5), .ref (ad 6), .ref (ad 7), .ref (ad 8), .ref (ad 9), .ref (ad 10)])), (ad 10, .inl (y 0, 9, .inl (d.2 6))), (ad 12, .inl (y 0, 6, .inl (d.2 8))), (h, .inr (7, [.int sd, .int sw, .int sl, .ref (sa 0), .ref (sa 1), .ref (sa 2), .ref (sa 3), .ref (sa 4), .ref (sa 5), .ref (sa 6)])), (sa 0, .inl (y 0, 9, .inl f0)), (ad 0, .inr (2, [.int (d.1 0), .int (d.1 1), .int (d.1 2), .int (d.1 3), .ref (ad 1), .int (d.1 4), .ref (ad 11), .ref (ad 12), .ref (ad 2), .ref (ad 3), .int (d.1 5), .int (d.1 6), .int (d.1 7), .int (d.1 8)]))]) [] [0, 1, 2, 3, 4, 5] rfl rfl (by decide +kernel) (by decide +kernel) (by decide +kernel) (As := [.int (f0 (nI q39).toNatClampNeg), .int v, .int vc]) (rest := []) rfl (nb rfl) rfl d_Days_allows_77 (fun r47 _ hr47 => ?_)
                refine j_ws (ws' := [(ad 1, .inr (1, [.int (d.1 9), .ref (ad 4), .ref (ad 5), .ref (ad 6), .ref (ad 7), .ref (ad 8), .ref (ad 9), .ref (ad 10)])), (ad 10, .inl (y 0, 9, .inl (d.2 6))), (ad 12, .inl (y 0, 6, .inl (d.2 8))), (h, .inr (7, [.int sd, .int sw, .int sl, .ref (sa 0), .ref (sa 1), .ref (sa 2), .ref (sa 3), .ref (sa 4), .ref (sa 5), .ref (sa 6)])), (sa 0, .inl (y 0, 9, .inl f0)), (ad 0, .inr (2, [.int (d.1 0), .int (d.1 1), .int (d.1 2), .int (d.1 3), .ref (ad 1), .int (d.1 4), .ref (ad 11), .ref (ad 12), .ref (ad 2), .ref (ad 3), .int (d.1 5), .int (d.1 6), .int (d.1 7), .int (d.1 8)]))]) rfl ?_
                refine j_if_eq (pc := 80) C (tgt := 109) d_Days_allows_80 (by decide) (fun c48 => ?_) (fun c48 => ?_)
                · refine j_iconst (pc := 109) C (v := 0) d_Days_allows_109 (by decide) ?_
                  exact j_iret (pc := 110) C hr (by decide) () (by decide) [5, 0, 1, 2, 3, 4] rfl (by decide) (by decide) (by decide) d_Days_allows_110
                · refine j_iload (pc := 83) C d_Days_allows_83 0 rfl ?_
                  refine j_iconst (pc := 85) C (v := (-1)) d_Days_allows_85 (by decide) ?_
                  refine j_icmp_eqF (pc := 86) C (tgt := 105) d_Days_allows_86 (by decide) (nI_nm1 (by omega)) ?_
                  refine j_aload_n (pc := 89) C d_Days_allows_89 rfl 3 rfl ?_
                  refine j_get (pc := 90) C gf_Days_34 3 rfl rfl d_Days_allows_90 ?_
                  refine j_iload (pc := 93) C d_Days_allows_93 0 rfl ?_
                  refine j_iald (pc := 95) C 4 rfl (v := f0 (nI q42).toNatClampNeg) (vp_in_nI (by omega) (by decide)) rfl d_Days_allows_95 ?_
                  refine j_iload_n (pc := 96) C d_Days_allows_96 rfl 5 rfl ?_
                  refine j_iload (pc := 97) C d_Days_allows_97 6 rfl ?_
                  refine j_callSi (pc := 99) C (c_fits l D y (f0 (nI q42).toNatClampNeg) v vc) kw_Days_37 ks_Days_fits ⟨by decide, by decide⟩ ⟨by decide, by decide⟩ (wr := [(ad 1, .inr (1, [.int (d.1 9), .ref (ad 4), .ref (ad 5), .ref (ad 6), .ref (ad 7), .ref (ad 8), .ref (ad 9), .ref (ad 10)])), (ad 10, .inl (y 0, 9, .inl (d.2 6))), (ad 12, .inl (y 0, 6, .inl (d.2 8))), (h, .inr (7, [.int sd, .int sw, .int sl, .ref (sa 0), .ref (sa 1), .ref (sa 2), .ref (sa 3), .ref (sa 4), .ref (sa 5), .ref (sa 6)])), (sa 0, .inl (y 0, 9, .inl f0)), (ad 0, .inr (2, [.int (d.1 0), .int (d.1 1), .int (d.1 2), .int (d.1 3), .ref (ad 1), .int (d.1 4), .ref (ad 11), .ref (ad 12), .ref (ad 2), .ref (ad 3), .int (d.1 5), .int (d.1 6), .int (d.1 7), .int (d.1 8)]))]) [] [0, 1, 2, 3, 4, 5] rfl rfl (by decide +kernel) (by decide +kernel) (by decide +kernel) (As := [.int (f0 (nI q42).toNatClampNeg), .int v, .int vc]) (rest := []) rfl (nb rfl) rfl d_Days_allows_99 (fun r49 _ hr49 => ?_)
                  refine j_ws (ws' := [(ad 1, .inr (1, [.int (d.1 9), .ref (ad 4), .ref (ad 5), .ref (ad 6), .ref (ad 7), .ref (ad 8), .ref (ad 9), .ref (ad 10)])), (ad 10, .inl (y 0, 9, .inl (d.2 6))), (ad 12, .inl (y 0, 6, .inl (d.2 8))), (h, .inr (7, [.int sd, .int sw, .int sl, .ref (sa 0), .ref (sa 1), .ref (sa 2), .ref (sa 3), .ref (sa 4), .ref (sa 5), .ref (sa 6)])), (sa 0, .inl (y 0, 9, .inl f0)), (ad 0, .inr (2, [.int (d.1 0), .int (d.1 1), .int (d.1 2), .int (d.1 3), .ref (ad 1), .int (d.1 4), .ref (ad 11), .ref (ad 12), .ref (ad 2), .ref (ad 3), .int (d.1 5), .int (d.1 6), .int (d.1 7), .int (d.1 8)]))]) rfl ?_
                  refine j_if_eq (pc := 102) C (tgt := 109) d_Days_allows_102 (by decide) (fun c50 => ?_) (fun c50 => ?_)
                  · refine j_iconst (pc := 109) C (v := 0) d_Days_allows_109 (by decide) ?_
                    exact j_iret (pc := 110) C hr (by decide) () (by decide) [5, 0, 1, 2, 3, 4] rfl (by decide) (by decide) (by decide) d_Days_allows_110
                  · refine j_iconst (pc := 105) C (v := 1) d_Days_allows_105 (by decide) ?_
                    refine j_goto (pc := 106) C (tgt := 110) d_Days_allows_106 (by decide) ?_
                    exact j_iret (pc := 110) C hr (by decide) () (by decide) [5, 0, 1, 2, 3, 4] rfl (by decide) (by decide) (by decide) d_Days_allows_110
            · refine j_iload_n (pc := 37) C d_Days_allows_37 rfl 3 rfl ?_
              refine j_aload_n (pc := 38) C d_Days_allows_38 rfl 1 rfl ?_
              refine j_get (pc := 39) C gf_Days_15 3 rfl rfl d_Days_allows_39 ?_
              refine j_icmp_ne (pc := 42) C (tgt := 47) d_Days_allows_42 (by decide) (fun c51 => ?_) (fun c51 => ?_)
              · refine j_aload_n (pc := 47) C d_Days_allows_47 rfl 0 rfl ?_
                refine j_get (pc := 48) C gf_Days_21 5 rfl rfl d_Days_allows_48 ?_
                refine j_iload_n (pc := 51) C d_Days_allows_51 rfl 2 rfl ?_
                obtain ⟨q52, xh53, e54⟩ := hV j35 (by omega)
                refine j_iald (pc := 52) C 2 rfl (v := nI q52) (vp_in_nI (by omega) (by decide)) (by rw [nI_clamp (by omega)]; exact e54) d_Days_allows_52 ?_
                refine j_istore (pc := 53) C (lv' := [(5, .int (nI q52)), (0, .ref (ad 0)), (1, .ref h), (2, .int (nI j35)), (3, .int v), (4, .int vc)]) d_Days_allows_53 (by decide) rfl ?_
                refine j_aload_n (pc := 55) C d_Days_allows_55 rfl 1 rfl ?_
                refine j_get (pc := 56) C gf_Days_25 5 rfl rfl d_Days_allows_56 ?_
                refine j_get (pc := 59) C gf_Days_29 0 rfl rfl d_Days_allows_59 ?_
                refine j_iload (pc := 62) C d_Days_allows_62 0 rfl ?_
                rcases hJ q52 (by omega) with e57 | ⟨q55, xh56, e57⟩
                · refine j_iald (pc := 64) C 1 rfl (v := (-1)) (vp_in_nI (by omega) (by decide)) (by rw [nI_clamp (by omega)]; exact e57) d_Days_allows_64 ?_
                  refine j_istore (pc := 65) C (lv' := [(6, .int (-1)), (5, .int (nI q52)), (0, .ref (ad 0)), (1, .ref h), (2, .int (nI j35)), (3, .int v), (4, .int vc)]) d_Days_allows_65 (by decide) rfl ?_
                  refine j_aload_n (pc := 67) C d_Days_allows_67 rfl 3 rfl ?_
                  refine j_get (pc := 68) C gf_Days_34 3 rfl rfl d_Days_allows_68 ?_
                  refine j_iload (pc := 71) C d_Days_allows_71 1 rfl ?_
                  refine j_iald (pc := 73) C 4 rfl (v := f0 (nI q52).toNatClampNeg) (vp_in_nI (by omega) (by decide)) rfl d_Days_allows_73 ?_
                  refine j_iload_n (pc := 74) C d_Days_allows_74 rfl 5 rfl ?_
                  refine j_iload (pc := 75) C d_Days_allows_75 6 rfl ?_
                  refine j_callSi (pc := 77) C (c_fits l D y (f0 (nI q52).toNatClampNeg) v vc) kw_Days_37 ks_Days_fits ⟨by decide, by decide⟩ ⟨by decide, by decide⟩ (wr := [(ad 1, .inr (1, [.int (d.1 9), .ref (ad 4), .ref (ad 5), .ref (ad 6), .ref (ad 7), .ref (ad 8), .ref (ad 9), .ref (ad 10)])), (ad 10, .inl (y 0, 9, .inl (d.2 6))), (ad 12, .inl (y 0, 6, .inl (d.2 8))), (h, .inr (7, [.int sd, .int sw, .int sl, .ref (sa 0), .ref (sa 1), .ref (sa 2), .ref (sa 3), .ref (sa 4), .ref (sa 5), .ref (sa 6)])), (sa 0, .inl (y 0, 9, .inl f0)), (ad 0, .inr (2, [.int (d.1 0), .int (d.1 1), .int (d.1 2), .int (d.1 3), .ref (ad 1), .int (d.1 4), .ref (ad 11), .ref (ad 12), .ref (ad 2), .ref (ad 3), .int (d.1 5), .int (d.1 6), .int (d.1 7), .int (d.1 8)]))]) [] [0, 1, 2, 3, 4, 5] rfl rfl (by decide +kernel) (by decide +kernel) (by decide +kernel) (As := [.int (f0 (nI q52).toNatClampNeg), .int v, .int vc]) (rest := []) rfl (nb rfl) rfl d_Days_allows_77 (fun r58 _ hr58 => ?_)
                  refine j_ws (ws' := [(ad 1, .inr (1, [.int (d.1 9), .ref (ad 4), .ref (ad 5), .ref (ad 6), .ref (ad 7), .ref (ad 8), .ref (ad 9), .ref (ad 10)])), (ad 10, .inl (y 0, 9, .inl (d.2 6))), (ad 12, .inl (y 0, 6, .inl (d.2 8))), (h, .inr (7, [.int sd, .int sw, .int sl, .ref (sa 0), .ref (sa 1), .ref (sa 2), .ref (sa 3), .ref (sa 4), .ref (sa 5), .ref (sa 6)])), (sa 0, .inl (y 0, 9, .inl f0)), (ad 0, .inr (2, [.int (d.1 0), .int (d.1 1), .int (d.1 2), .int (d.1 3), .ref (ad 1), .int (d.1 4), .ref (ad 11), .ref (ad 12), .ref (ad 2), .ref (ad 3), .int (d.1 5), .int (d.1 6), .int (d.1 7), .int (d.1 8)]))]) rfl ?_
                  refine j_if_eq (pc := 80) C (tgt := 109) d_Days_allows_80 (by decide) (fun c59 => ?_) (fun c59 => ?_)
                  · refine j_iconst (pc := 109) C (v := 0) d_Days_allows_109 (by decide) ?_
                    exact j_iret (pc := 110) C hr (by decide) () (by decide) [5, 0, 1, 2, 3, 4] rfl (by decide) (by decide) (by decide) d_Days_allows_110
                  · refine j_iload (pc := 83) C d_Days_allows_83 0 rfl ?_
                    refine j_iconst (pc := 85) C (v := (-1)) d_Days_allows_85 (by decide) ?_
                    refine j_icmp_eqT (pc := 86) C (tgt := 105) d_Days_allows_86 (by decide) (by decide) ?_
                    refine j_iconst (pc := 105) C (v := 1) d_Days_allows_105 (by decide) ?_
                    refine j_goto (pc := 106) C (tgt := 110) d_Days_allows_106 (by decide) ?_
                    exact j_iret (pc := 110) C hr (by decide) () (by decide) [5, 0, 1, 2, 3, 4] rfl (by decide) (by decide) (by decide) d_Days_allows_110
                · refine j_iald (pc := 64) C 1 rfl (v := nI q55) (vp_in_nI (by omega) (by decide)) (by rw [nI_clamp (by omega)]; exact e57) d_Days_allows_64 ?_
                  refine j_istore (pc := 65) C (lv' := [(6, .int (nI q55)), (5, .int (nI q52)), (0, .ref (ad 0)), (1, .ref h), (2, .int (nI j35)), (3, .int v), (4, .int vc)]) d_Days_allows_65 (by decide) rfl ?_
                  refine j_aload_n (pc := 67) C d_Days_allows_67 rfl 3 rfl ?_
                  refine j_get (pc := 68) C gf_Days_34 3 rfl rfl d_Days_allows_68 ?_
                  refine j_iload (pc := 71) C d_Days_allows_71 1 rfl ?_
                  refine j_iald (pc := 73) C 4 rfl (v := f0 (nI q52).toNatClampNeg) (vp_in_nI (by omega) (by decide)) rfl d_Days_allows_73 ?_
                  refine j_iload_n (pc := 74) C d_Days_allows_74 rfl 5 rfl ?_
                  refine j_iload (pc := 75) C d_Days_allows_75 6 rfl ?_
                  refine j_callSi (pc := 77) C (c_fits l D y (f0 (nI q52).toNatClampNeg) v vc) kw_Days_37 ks_Days_fits ⟨by decide, by decide⟩ ⟨by decide, by decide⟩ (wr := [(ad 1, .inr (1, [.int (d.1 9), .ref (ad 4), .ref (ad 5), .ref (ad 6), .ref (ad 7), .ref (ad 8), .ref (ad 9), .ref (ad 10)])), (ad 10, .inl (y 0, 9, .inl (d.2 6))), (ad 12, .inl (y 0, 6, .inl (d.2 8))), (h, .inr (7, [.int sd, .int sw, .int sl, .ref (sa 0), .ref (sa 1), .ref (sa 2), .ref (sa 3), .ref (sa 4), .ref (sa 5), .ref (sa 6)])), (sa 0, .inl (y 0, 9, .inl f0)), (ad 0, .inr (2, [.int (d.1 0), .int (d.1 1), .int (d.1 2), .int (d.1 3), .ref (ad 1), .int (d.1 4), .ref (ad 11), .ref (ad 12), .ref (ad 2), .ref (ad 3), .int (d.1 5), .int (d.1 6), .int (d.1 7), .int (d.1 8)]))]) [] [0, 1, 2, 3, 4, 5] rfl rfl (by decide +kernel) (by decide +kernel) (by decide +kernel) (As := [.int (f0 (nI q52).toNatClampNeg), .int v, .int vc]) (rest := []) rfl (nb rfl) rfl d_Days_allows_77 (fun r60 _ hr60 => ?_)
                  refine j_ws (ws' := [(ad 1, .inr (1, [.int (d.1 9), .ref (ad 4), .ref (ad 5), .ref (ad 6), .ref (ad 7), .ref (ad 8), .ref (ad 9), .ref (ad 10)])), (ad 10, .inl (y 0, 9, .inl (d.2 6))), (ad 12, .inl (y 0, 6, .inl (d.2 8))), (h, .inr (7, [.int sd, .int sw, .int sl, .ref (sa 0), .ref (sa 1), .ref (sa 2), .ref (sa 3), .ref (sa 4), .ref (sa 5), .ref (sa 6)])), (sa 0, .inl (y 0, 9, .inl f0)), (ad 0, .inr (2, [.int (d.1 0), .int (d.1 1), .int (d.1 2), .int (d.1 3), .ref (ad 1), .int (d.1 4), .ref (ad 11), .ref (ad 12), .ref (ad 2), .ref (ad 3), .int (d.1 5), .int (d.1 6), .int (d.1 7), .int (d.1 8)]))]) rfl ?_
                  refine j_if_eq (pc := 80) C (tgt := 109) d_Days_allows_80 (by decide) (fun c61 => ?_) (fun c61 => ?_)
                  · refine j_iconst (pc := 109) C (v := 0) d_Days_allows_109 (by decide) ?_
                    exact j_iret (pc := 110) C hr (by decide) () (by decide) [5, 0, 1, 2, 3, 4] rfl (by decide) (by decide) (by decide) d_Days_allows_110
                  · refine j_iload (pc := 83) C d_Days_allows_83 0 rfl ?_
                    refine j_iconst (pc := 85) C (v := (-1)) d_Days_allows_85 (by decide) ?_
                    refine j_icmp_eqF (pc := 86) C (tgt := 105) d_Days_allows_86 (by decide) (nI_nm1 (by omega)) ?_
                    refine j_aload_n (pc := 89) C d_Days_allows_89 rfl 3 rfl ?_
                    refine j_get (pc := 90) C gf_Days_34 3 rfl rfl d_Days_allows_90 ?_
                    refine j_iload (pc := 93) C d_Days_allows_93 0 rfl ?_
                    refine j_iald (pc := 95) C 4 rfl (v := f0 (nI q55).toNatClampNeg) (vp_in_nI (by omega) (by decide)) rfl d_Days_allows_95 ?_
                    refine j_iload_n (pc := 96) C d_Days_allows_96 rfl 5 rfl ?_
                    refine j_iload (pc := 97) C d_Days_allows_97 6 rfl ?_
                    refine j_callSi (pc := 99) C (c_fits l D y (f0 (nI q55).toNatClampNeg) v vc) kw_Days_37 ks_Days_fits ⟨by decide, by decide⟩ ⟨by decide, by decide⟩ (wr := [(ad 1, .inr (1, [.int (d.1 9), .ref (ad 4), .ref (ad 5), .ref (ad 6), .ref (ad 7), .ref (ad 8), .ref (ad 9), .ref (ad 10)])), (ad 10, .inl (y 0, 9, .inl (d.2 6))), (ad 12, .inl (y 0, 6, .inl (d.2 8))), (h, .inr (7, [.int sd, .int sw, .int sl, .ref (sa 0), .ref (sa 1), .ref (sa 2), .ref (sa 3), .ref (sa 4), .ref (sa 5), .ref (sa 6)])), (sa 0, .inl (y 0, 9, .inl f0)), (ad 0, .inr (2, [.int (d.1 0), .int (d.1 1), .int (d.1 2), .int (d.1 3), .ref (ad 1), .int (d.1 4), .ref (ad 11), .ref (ad 12), .ref (ad 2), .ref (ad 3), .int (d.1 5), .int (d.1 6), .int (d.1 7), .int (d.1 8)]))]) [] [0, 1, 2, 3, 4, 5] rfl rfl (by decide +kernel) (by decide +kernel) (by decide +kernel) (As := [.int (f0 (nI q55).toNatClampNeg), .int v, .int vc]) (rest := []) rfl (nb rfl) rfl d_Days_allows_99 (fun r62 _ hr62 => ?_)
                    refine j_ws (ws' := [(ad 1, .inr (1, [.int (d.1 9), .ref (ad 4), .ref (ad 5), .ref (ad 6), .ref (ad 7), .ref (ad 8), .ref (ad 9), .ref (ad 10)])), (ad 10, .inl (y 0, 9, .inl (d.2 6))), (ad 12, .inl (y 0, 6, .inl (d.2 8))), (h, .inr (7, [.int sd, .int sw, .int sl, .ref (sa 0), .ref (sa 1), .ref (sa 2), .ref (sa 3), .ref (sa 4), .ref (sa 5), .ref (sa 6)])), (sa 0, .inl (y 0, 9, .inl f0)), (ad 0, .inr (2, [.int (d.1 0), .int (d.1 1), .int (d.1 2), .int (d.1 3), .ref (ad 1), .int (d.1 4), .ref (ad 11), .ref (ad 12), .ref (ad 2), .ref (ad 3), .int (d.1 5), .int (d.1 6), .int (d.1 7), .int (d.1 8)]))]) rfl ?_
                    refine j_if_eq (pc := 102) C (tgt := 109) d_Days_allows_102 (by decide) (fun c63 => ?_) (fun c63 => ?_)
                    · refine j_iconst (pc := 109) C (v := 0) d_Days_allows_109 (by decide) ?_
                      exact j_iret (pc := 110) C hr (by decide) () (by decide) [5, 0, 1, 2, 3, 4] rfl (by decide) (by decide) (by decide) d_Days_allows_110
                    · refine j_iconst (pc := 105) C (v := 1) d_Days_allows_105 (by decide) ?_
                      refine j_goto (pc := 106) C (tgt := 110) d_Days_allows_106 (by decide) ?_
                      exact j_iret (pc := 110) C hr (by decide) () (by decide) [5, 0, 1, 2, 3, 4] rfl (by decide) (by decide) (by decide) d_Days_allows_110
              · refine j_iconst (pc := 45) C (v := 0) d_Days_allows_45 (by decide) ?_
                exact j_iret (pc := 46) C hr (by decide) () (by decide) [5, 0, 1, 2, 3, 4] rfl (by decide) (by decide) (by decide) d_Days_allows_46
          · refine j_iconst (pc := 30) C (v := 0) d_Days_allows_30 (by decide) ?_
            exact j_iret (pc := 31) C hr (by decide) () (by decide) [5, 0, 1, 2, 3, 4] rfl (by decide) (by decide) (by decide) d_Days_allows_31
  · refine j_iconst (pc := 4) C (v := 1) d_Days_allows_4 (by decide) ?_
    exact j_iret (pc := 5) C hr (by decide) () (by decide) [0, 1, 2, 3, 4, 5] rfl (by decide) (by decide) (by decide) d_Days_allows_5
theorem d_Days_allowedBits_0 : decode prog_3_method_4_code 0 = .ok (.iconst 0, 1) := by decide +kernel
theorem d_Days_allowedBits_1 : decode prog_3_method_4_code 1 = .ok (.istore_n 3, 1) := by decide +kernel
theorem d_Days_allowedBits_2 : decode prog_3_method_4_code 2 = .ok (.iconst 0, 1) := by decide +kernel
theorem d_Days_allowedBits_3 : decode prog_3_method_4_code 3 = .ok (.istore 4, 2) := by decide +kernel
theorem d_Days_allowedBits_5 : decode prog_3_method_4_code 5 = .ok (.iload 4, 2) := by decide +kernel
theorem d_Days_allowedBits_7 : decode prog_3_method_4_code 7 = .ok (.iconst 3, 1) := by decide +kernel
theorem d_Days_allowedBits_8 : decode prog_3_method_4_code 8 = .ok (.if_icmp .ge 32, 3) := by decide +kernel
theorem d_Days_allowedBits_11 : decode prog_3_method_4_code 11 = .ok (.iload_n 3, 1) := by decide +kernel
theorem d_Days_allowedBits_12 : decode prog_3_method_4_code 12 = .ok (.aload_n 0, 1) := by decide +kernel
theorem d_Days_allowedBits_13 : decode prog_3_method_4_code 13 = .ok (.aload_n 1, 1) := by decide +kernel
theorem d_Days_allowedBits_14 : decode prog_3_method_4_code 14 = .ok (.iload_n 2, 1) := by decide +kernel
theorem d_Days_allowedBits_15 : decode prog_3_method_4_code 15 = .ok (.iload 4, 2) := by decide +kernel
theorem d_Days_allowedBits_17 : decode prog_3_method_4_code 17 = .ok (.iconst 0, 1) := by decide +kernel
theorem d_Days_allowedBits_18 : decode prog_3_method_4_code 18 = .ok (.invokestatic 43, 3) := by decide +kernel
theorem kw_Days_43 : KW "NineBoards$Days" 43 ⟨"NineBoards$Days", "allows", "(LNineBoards$Lake;LNineBoards$State;III)Z"⟩ prog_3_method_2_code 7 (some .boolean) 5 := ⟨(mt_4 (List.mem_of_getElem? (i := 37) rfl) rfl), (mt_1 (List.mem_of_getElem? (i := 18) rfl) rfl), (mt_4 (List.mem_of_getElem? (i := 39) rfl) rfl), by decide +kernel⟩
theorem ks_Days_allows : Cond.static ⟨"NineBoards$Days", "allows", "(LNineBoards$Lake;LNineBoards$State;III)Z"⟩ ∈ TB := (mt_4 (List.mem_of_getElem? (i := 38) rfl) rfl)
theorem d_Days_allowedBits_21 : decode prog_3_method_4_code 21 = .ok (.ifCond .eq 10, 3) := by decide +kernel
theorem d_Days_allowedBits_31 : decode prog_3_method_4_code 31 = .ok (.iconst 0, 1) := by decide +kernel
theorem d_Days_allowedBits_32 : decode prog_3_method_4_code 32 = .ok (.ior, 1) := by decide +kernel
theorem d_Days_allowedBits_33 : decode prog_3_method_4_code 33 = .ok (.istore_n 3, 1) := by decide +kernel
theorem d_Days_allowedBits_34 : decode prog_3_method_4_code 34 = .ok (.iinc 4 1, 3) := by decide +kernel
theorem d_Days_allowedBits_37 : decode prog_3_method_4_code 37 = .ok (.goto (-32), 3) := by decide +kernel
theorem d_Days_allowedBits_40 : decode prog_3_method_4_code 40 = .ok (.iload_n 3, 1) := by decide +kernel
theorem d_Days_allowedBits_41 : decode prog_3_method_4_code 41 = .ok (.ireturn, 1) := by decide +kernel
theorem d_Days_allowedBits_24 : decode prog_3_method_4_code 24 = .ok (.iconst 1, 1) := by decide +kernel
theorem d_Days_allowedBits_25 : decode prog_3_method_4_code 25 = .ok (.iload 4, 2) := by decide +kernel
theorem d_Days_allowedBits_27 : decode prog_3_method_4_code 27 = .ok (.ishl, 1) := by decide +kernel
theorem d_Days_allowedBits_28 : decode prog_3_method_4_code 28 = .ok (.goto 4, 3) := by decide +kernel
set_option maxHeartbeats 4000000 in
set_option maxRecDepth 100000 in
theorem c_allowedBits (l : Launch) (D : va_G) (y : Nat → ClassId) (ad : Nat → Nat) (d : LD) (n4 : Nat) (h : Nat) (sa : Nat → Nat) (sd : Int32) (sw : Int32) (sl : Int32) (f0 : Nat → Int32) (va : Int32) (h4 : d.1 4 = nI n4) (b4 : n4 ≤ 6) (hJ : ∀ j, j < 9 → d.2 6 j = -1 ∨ ∃ q, q < 9 ∧ d.2 6 j = nI q) (hV : ∀ j, j < n4 → ∃ q, q < 9 ∧ d.2 8 j = nI q) : CT l D y ⟨"NineBoards$Days", "allowedBits", "(LNineBoards$Lake;LNineBoards$State;I)I"⟩ prog_3_method_4_code 5 (some .int) ({ frames := 2, cells := 0, slots := 0, locals := 50 } : Room) [.ref (ad 0), .ref h, .int va] [(ad 0, .inr (2, [.int (d.1 0), .int (d.1 1), .int (d.1 2), .int (d.1 3), .ref (ad 1), .int (d.1 4), .ref (ad 11), .ref (ad 12), .ref (ad 2), .ref (ad 3), .int (d.1 5), .int (d.1 6), .int (d.1 7), .int (d.1 8)])), (ad 1, .inr (1, [.int (d.1 9), .ref (ad 4), .ref (ad 5), .ref (ad 6), .ref (ad 7), .ref (ad 8), .ref (ad 9), .ref (ad 10)])), (ad 10, .inl (y 0, 9, .inl (d.2 6))), (ad 12, .inl (y 0, 6, .inl (d.2 8))), (h, .inr (7, [.int sd, .int sw, .int sl, .ref (sa 0), .ref (sa 1), .ref (sa 2), .ref (sa 3), .ref (sa 4), .ref (sa 5), .ref (sa 6)])), (sa 0, .inl (y 0, 9, .inl f0))] (QI D [(ad 0, .inr (2, [.int (d.1 0), .int (d.1 1), .int (d.1 2), .int (d.1 3), .ref (ad 1), .int (d.1 4), .ref (ad 11), .ref (ad 12), .ref (ad 2), .ref (ad 3), .int (d.1 5), .int (d.1 6), .int (d.1 7), .int (d.1 8)])), (ad 1, .inr (1, [.int (d.1 9), .ref (ad 4), .ref (ad 5), .ref (ad 6), .ref (ad 7), .ref (ad 8), .ref (ad 9), .ref (ad 10)])), (ad 10, .inl (y 0, 9, .inl (d.2 6))), (ad 12, .inl (y 0, 6, .inl (d.2 8))), (h, .inr (7, [.int sd, .int sw, .int sl, .ref (sa 0), .ref (sa 1), .ref (sa 2), .ref (sa 3), .ref (sa 4), .ref (sa 5), .ref (sa 6)])), (sa 0, .inl (y 0, 9, .inl f0))] (fun (r : Int32) (u : Unit) => True) (fun _ => [(ad 0, .inr (2, [.int (d.1 0), .int (d.1 1), .int (d.1 2), .int (d.1 3), .ref (ad 1), .int (d.1 4), .ref (ad 11), .ref (ad 12), .ref (ad 2), .ref (ad 3), .int (d.1 5), .int (d.1 6), .int (d.1 7), .int (d.1 8)])), (ad 1, .inr (1, [.int (d.1 9), .ref (ad 4), .ref (ad 5), .ref (ad 6), .ref (ad 7), .ref (ad 8), .ref (ad 9), .ref (ad 10)])), (ad 10, .inl (y 0, 9, .inl (d.2 6))), (ad 12, .inl (y 0, 6, .inl (d.2 8))), (h, .inr (7, [.int sd, .int sw, .int sl, .ref (sa 0), .ref (sa 1), .ref (sa 2), .ref (sa 3), .ref (sa 4), .ref (sa 5), .ref (sa 6)])), (sa 0, .inl (y 0, 9, .inl f0))])) := by
  refine CT.of (by decide) (nb rfl) ?_
  intro p e s m args below meth c C hr
  refine j_lv (lv' := [(0, .ref (ad 0)), (1, .ref h), (2, .int va)]) rfl ?_
  refine j_iconst (pc := 0) C (v := 0) d_Days_allowedBits_0 (by decide) ?_
  refine j_istore_n (pc := 1) C (lv' := [(3, .int 0), (0, .ref (ad 0)), (1, .ref h), (2, .int va)]) d_Days_allowedBits_1 rfl (by decide) rfl ?_
  refine j_iconst (pc := 2) C (v := 0) d_Days_allowedBits_2 (by decide) ?_
  refine j_istore (pc := 3) C (lv' := [(4, .int 0), (3, .int 0), (0, .ref (ad 0)), (1, .ref h), (2, .int va)]) d_Days_allowedBits_3 (by decide) rfl ?_
  refine j_iload (pc := 5) C d_Days_allowedBits_5 0 rfl ?_
  refine j_iconst (pc := 7) C (v := 3) d_Days_allowedBits_7 (by decide) ?_
  refine j_icmp_geF (pc := 8) C (tgt := 40) d_Days_allowedBits_8 (by decide) (by decide) ?_
  refine j_iload_n (pc := 11) C d_Days_allowedBits_11 rfl 1 rfl ?_
  refine j_aload_n (pc := 12) C d_Days_allowedBits_12 rfl 2 rfl ?_
  refine j_aload_n (pc := 13) C d_Days_allowedBits_13 rfl 3 rfl ?_
  refine j_iload_n (pc := 14) C d_Days_allowedBits_14 rfl 4 rfl ?_
  refine j_iload (pc := 15) C d_Days_allowedBits_15 0 rfl ?_
  refine j_iconst (pc := 17) C (v := 0) d_Days_allowedBits_17 (by decide) ?_
  refine j_callSi (pc := 18) C (c_allows l D y ad d n4 h sa sd sw sl f0 va 0 0 h4 b4 hJ hV) kw_Days_43 ks_Days_allows ⟨by decide, by decide⟩ ⟨by decide, by decide⟩ (wr := []) [0, 1, 2, 3, 4, 5] [] rfl rfl (by decide +kernel) (by decide +kernel) (by decide +kernel) (As := [.ref (ad 0), .ref h, .int va, .int 0, .int 0]) (rest := [.int 0]) rfl (nb rfl) rfl d_Days_allowedBits_18 (fun r1 _ hr1 => ?_)
  refine j_ws (ws' := [(ad 0, .inr (2, [.int (d.1 0), .int (d.1 1), .int (d.1 2), .int (d.1 3), .ref (ad 1), .int (d.1 4), .ref (ad 11), .ref (ad 12), .ref (ad 2), .ref (ad 3), .int (d.1 5), .int (d.1 6), .int (d.1 7), .int (d.1 8)])), (ad 1, .inr (1, [.int (d.1 9), .ref (ad 4), .ref (ad 5), .ref (ad 6), .ref (ad 7), .ref (ad 8), .ref (ad 9), .ref (ad 10)])), (ad 10, .inl (y 0, 9, .inl (d.2 6))), (ad 12, .inl (y 0, 6, .inl (d.2 8))), (h, .inr (7, [.int sd, .int sw, .int sl, .ref (sa 0), .ref (sa 1), .ref (sa 2), .ref (sa 3), .ref (sa 4), .ref (sa 5), .ref (sa 6)])), (sa 0, .inl (y 0, 9, .inl f0))]) rfl ?_
  refine j_if_eq (pc := 21) C (tgt := 31) d_Days_allowedBits_21 (by decide) (fun c2 => ?_) (fun c2 => ?_)
  · refine j_iconst (pc := 31) C (v := 0) d_Days_allowedBits_31 (by decide) ?_
    refine j_ior (pc := 32) C (v := 0) d_Days_allowedBits_32 (by decide) ?_
    refine j_istore_n (pc := 33) C (lv' := [(3, .int 0), (4, .int 0), (0, .ref (ad 0)), (1, .ref h), (2, .int va)]) d_Days_allowedBits_33 rfl (by decide) rfl ?_
    refine j_iinc (pc := 34) C (v := 1) (lv' := [(4, .int 1), (3, .int 0), (0, .ref (ad 0)), (1, .ref h), (2, .int va)]) d_Days_allowedBits_34 1 rfl (by decide) (by decide) rfl ?_
    refine j_goto (pc := 37) C (tgt := 5) d_Days_allowedBits_37 (by decide) ?_
    refine j_iload (pc := 5) C d_Days_allowedBits_5 0 rfl ?_
    refine j_iconst (pc := 7) C (v := 3) d_Days_allowedBits_7 (by decide) ?_
    refine j_icmp_geF (pc := 8) C (tgt := 40) d_Days_allowedBits_8 (by decide) (by decide) ?_
    refine j_iload_n (pc := 11) C d_Days_allowedBits_11 rfl 1 rfl ?_
    refine j_aload_n (pc := 12) C d_Days_allowedBits_12 rfl 2 rfl ?_
    refine j_aload_n (pc := 13) C d_Days_allowedBits_13 rfl 3 rfl ?_
    refine j_iload_n (pc := 14) C d_Days_allowedBits_14 rfl 4 rfl ?_
    refine j_iload (pc := 15) C d_Days_allowedBits_15 0 rfl ?_
    refine j_iconst (pc := 17) C (v := 0) d_Days_allowedBits_17 (by decide) ?_
    refine j_callSi (pc := 18) C (c_allows l D y ad d n4 h sa sd sw sl f0 va 1 0 h4 b4 hJ hV) kw_Days_43 ks_Days_allows ⟨by decide, by decide⟩ ⟨by decide, by decide⟩ (wr := []) [0, 1, 2, 3, 4, 5] [] rfl rfl (by decide +kernel) (by decide +kernel) (by decide +kernel) (As := [.ref (ad 0), .ref h, .int va, .int 1, .int 0]) (rest := [.int 0]) rfl (nb rfl) rfl d_Days_allowedBits_18 (fun r3 _ hr3 => ?_)
    refine j_ws (ws' := [(ad 0, .inr (2, [.int (d.1 0), .int (d.1 1), .int (d.1 2), .int (d.1 3), .ref (ad 1), .int (d.1 4), .ref (ad 11), .ref (ad 12), .ref (ad 2), .ref (ad 3), .int (d.1 5), .int (d.1 6), .int (d.1 7), .int (d.1 8)])), (ad 1, .inr (1, [.int (d.1 9), .ref (ad 4), .ref (ad 5), .ref (ad 6), .ref (ad 7), .ref (ad 8), .ref (ad 9), .ref (ad 10)])), (ad 10, .inl (y 0, 9, .inl (d.2 6))), (ad 12, .inl (y 0, 6, .inl (d.2 8))), (h, .inr (7, [.int sd, .int sw, .int sl, .ref (sa 0), .ref (sa 1), .ref (sa 2), .ref (sa 3), .ref (sa 4), .ref (sa 5), .ref (sa 6)])), (sa 0, .inl (y 0, 9, .inl f0))]) rfl ?_
    refine j_if_eq (pc := 21) C (tgt := 31) d_Days_allowedBits_21 (by decide) (fun c4 => ?_) (fun c4 => ?_)
    · refine j_iconst (pc := 31) C (v := 0) d_Days_allowedBits_31 (by decide) ?_
      refine j_ior (pc := 32) C (v := 0) d_Days_allowedBits_32 (by decide) ?_
      refine j_istore_n (pc := 33) C (lv' := [(3, .int 0), (4, .int 1), (0, .ref (ad 0)), (1, .ref h), (2, .int va)]) d_Days_allowedBits_33 rfl (by decide) rfl ?_
      refine j_iinc (pc := 34) C (v := 2) (lv' := [(4, .int 2), (3, .int 0), (0, .ref (ad 0)), (1, .ref h), (2, .int va)]) d_Days_allowedBits_34 1 rfl (by decide) (by decide) rfl ?_
      refine j_goto (pc := 37) C (tgt := 5) d_Days_allowedBits_37 (by decide) ?_
      refine j_iload (pc := 5) C d_Days_allowedBits_5 0 rfl ?_
      refine j_iconst (pc := 7) C (v := 3) d_Days_allowedBits_7 (by decide) ?_
      refine j_icmp_geF (pc := 8) C (tgt := 40) d_Days_allowedBits_8 (by decide) (by decide) ?_
      refine j_iload_n (pc := 11) C d_Days_allowedBits_11 rfl 1 rfl ?_
      refine j_aload_n (pc := 12) C d_Days_allowedBits_12 rfl 2 rfl ?_
      refine j_aload_n (pc := 13) C d_Days_allowedBits_13 rfl 3 rfl ?_
      refine j_iload_n (pc := 14) C d_Days_allowedBits_14 rfl 4 rfl ?_
      refine j_iload (pc := 15) C d_Days_allowedBits_15 0 rfl ?_
      refine j_iconst (pc := 17) C (v := 0) d_Days_allowedBits_17 (by decide) ?_
      refine j_callSi (pc := 18) C (c_allows l D y ad d n4 h sa sd sw sl f0 va 2 0 h4 b4 hJ hV) kw_Days_43 ks_Days_allows ⟨by decide, by decide⟩ ⟨by decide, by decide⟩ (wr := []) [0, 1, 2, 3, 4, 5] [] rfl rfl (by decide +kernel) (by decide +kernel) (by decide +kernel) (As := [.ref (ad 0), .ref h, .int va, .int 2, .int 0]) (rest := [.int 0]) rfl (nb rfl) rfl d_Days_allowedBits_18 (fun r5 _ hr5 => ?_)
      refine j_ws (ws' := [(ad 0, .inr (2, [.int (d.1 0), .int (d.1 1), .int (d.1 2), .int (d.1 3), .ref (ad 1), .int (d.1 4), .ref (ad 11), .ref (ad 12), .ref (ad 2), .ref (ad 3), .int (d.1 5), .int (d.1 6), .int (d.1 7), .int (d.1 8)])), (ad 1, .inr (1, [.int (d.1 9), .ref (ad 4), .ref (ad 5), .ref (ad 6), .ref (ad 7), .ref (ad 8), .ref (ad 9), .ref (ad 10)])), (ad 10, .inl (y 0, 9, .inl (d.2 6))), (ad 12, .inl (y 0, 6, .inl (d.2 8))), (h, .inr (7, [.int sd, .int sw, .int sl, .ref (sa 0), .ref (sa 1), .ref (sa 2), .ref (sa 3), .ref (sa 4), .ref (sa 5), .ref (sa 6)])), (sa 0, .inl (y 0, 9, .inl f0))]) rfl ?_
      refine j_if_eq (pc := 21) C (tgt := 31) d_Days_allowedBits_21 (by decide) (fun c6 => ?_) (fun c6 => ?_)
      · refine j_iconst (pc := 31) C (v := 0) d_Days_allowedBits_31 (by decide) ?_
        refine j_ior (pc := 32) C (v := 0) d_Days_allowedBits_32 (by decide) ?_
        refine j_istore_n (pc := 33) C (lv' := [(3, .int 0), (4, .int 2), (0, .ref (ad 0)), (1, .ref h), (2, .int va)]) d_Days_allowedBits_33 rfl (by decide) rfl ?_
        refine j_iinc (pc := 34) C (v := 3) (lv' := [(4, .int 3), (3, .int 0), (0, .ref (ad 0)), (1, .ref h), (2, .int va)]) d_Days_allowedBits_34 1 rfl (by decide) (by decide) rfl ?_
        refine j_goto (pc := 37) C (tgt := 5) d_Days_allowedBits_37 (by decide) ?_
        refine j_iload (pc := 5) C d_Days_allowedBits_5 0 rfl ?_
        refine j_iconst (pc := 7) C (v := 3) d_Days_allowedBits_7 (by decide) ?_
        refine j_icmp_geT (pc := 8) C (tgt := 40) d_Days_allowedBits_8 (by decide) (by decide) ?_
        refine j_iload_n (pc := 40) C d_Days_allowedBits_40 rfl 1 rfl ?_
        exact j_iret (pc := 41) C hr rfl () trivial [0, 1, 2, 3, 4, 5] rfl (by decide) (by decide) (by decide) d_Days_allowedBits_41
      · refine j_iconst (pc := 24) C (v := 1) d_Days_allowedBits_24 (by decide) ?_
        refine j_iload (pc := 25) C d_Days_allowedBits_25 0 rfl ?_
        refine j_ishl (pc := 27) C (v := 4) d_Days_allowedBits_27 (by decide) ?_
        refine j_goto (pc := 28) C (tgt := 32) d_Days_allowedBits_28 (by decide) ?_
        refine j_ior (pc := 32) C (v := 4) d_Days_allowedBits_32 (by decide) ?_
        refine j_istore_n (pc := 33) C (lv' := [(3, .int 4), (4, .int 2), (0, .ref (ad 0)), (1, .ref h), (2, .int va)]) d_Days_allowedBits_33 rfl (by decide) rfl ?_
        refine j_iinc (pc := 34) C (v := 3) (lv' := [(4, .int 3), (3, .int 4), (0, .ref (ad 0)), (1, .ref h), (2, .int va)]) d_Days_allowedBits_34 1 rfl (by decide) (by decide) rfl ?_
        refine j_goto (pc := 37) C (tgt := 5) d_Days_allowedBits_37 (by decide) ?_
        refine j_iload (pc := 5) C d_Days_allowedBits_5 0 rfl ?_
        refine j_iconst (pc := 7) C (v := 3) d_Days_allowedBits_7 (by decide) ?_
        refine j_icmp_geT (pc := 8) C (tgt := 40) d_Days_allowedBits_8 (by decide) (by decide) ?_
        refine j_iload_n (pc := 40) C d_Days_allowedBits_40 rfl 1 rfl ?_
        exact j_iret (pc := 41) C hr rfl () trivial [0, 1, 2, 3, 4, 5] rfl (by decide) (by decide) (by decide) d_Days_allowedBits_41
    · refine j_iconst (pc := 24) C (v := 1) d_Days_allowedBits_24 (by decide) ?_
      refine j_iload (pc := 25) C d_Days_allowedBits_25 0 rfl ?_
      refine j_ishl (pc := 27) C (v := 2) d_Days_allowedBits_27 (by decide) ?_
      refine j_goto (pc := 28) C (tgt := 32) d_Days_allowedBits_28 (by decide) ?_
      refine j_ior (pc := 32) C (v := 2) d_Days_allowedBits_32 (by decide) ?_
      refine j_istore_n (pc := 33) C (lv' := [(3, .int 2), (4, .int 1), (0, .ref (ad 0)), (1, .ref h), (2, .int va)]) d_Days_allowedBits_33 rfl (by decide) rfl ?_
      refine j_iinc (pc := 34) C (v := 2) (lv' := [(4, .int 2), (3, .int 2), (0, .ref (ad 0)), (1, .ref h), (2, .int va)]) d_Days_allowedBits_34 1 rfl (by decide) (by decide) rfl ?_
      refine j_goto (pc := 37) C (tgt := 5) d_Days_allowedBits_37 (by decide) ?_
      refine j_iload (pc := 5) C d_Days_allowedBits_5 0 rfl ?_
      refine j_iconst (pc := 7) C (v := 3) d_Days_allowedBits_7 (by decide) ?_
      refine j_icmp_geF (pc := 8) C (tgt := 40) d_Days_allowedBits_8 (by decide) (by decide) ?_
      refine j_iload_n (pc := 11) C d_Days_allowedBits_11 rfl 1 rfl ?_
      refine j_aload_n (pc := 12) C d_Days_allowedBits_12 rfl 2 rfl ?_
      refine j_aload_n (pc := 13) C d_Days_allowedBits_13 rfl 3 rfl ?_
      refine j_iload_n (pc := 14) C d_Days_allowedBits_14 rfl 4 rfl ?_
      refine j_iload (pc := 15) C d_Days_allowedBits_15 0 rfl ?_
      refine j_iconst (pc := 17) C (v := 0) d_Days_allowedBits_17 (by decide) ?_
      refine j_callSi (pc := 18) C (c_allows l D y ad d n4 h sa sd sw sl f0 va 2 0 h4 b4 hJ hV) kw_Days_43 ks_Days_allows ⟨by decide, by decide⟩ ⟨by decide, by decide⟩ (wr := []) [0, 1, 2, 3, 4, 5] [] rfl rfl (by decide +kernel) (by decide +kernel) (by decide +kernel) (As := [.ref (ad 0), .ref h, .int va, .int 2, .int 0]) (rest := [.int 2]) rfl (nb rfl) rfl d_Days_allowedBits_18 (fun r7 _ hr7 => ?_)
      refine j_ws (ws' := [(ad 0, .inr (2, [.int (d.1 0), .int (d.1 1), .int (d.1 2), .int (d.1 3), .ref (ad 1), .int (d.1 4), .ref (ad 11), .ref (ad 12), .ref (ad 2), .ref (ad 3), .int (d.1 5), .int (d.1 6), .int (d.1 7), .int (d.1 8)])), (ad 1, .inr (1, [.int (d.1 9), .ref (ad 4), .ref (ad 5), .ref (ad 6), .ref (ad 7), .ref (ad 8), .ref (ad 9), .ref (ad 10)])), (ad 10, .inl (y 0, 9, .inl (d.2 6))), (ad 12, .inl (y 0, 6, .inl (d.2 8))), (h, .inr (7, [.int sd, .int sw, .int sl, .ref (sa 0), .ref (sa 1), .ref (sa 2), .ref (sa 3), .ref (sa 4), .ref (sa 5), .ref (sa 6)])), (sa 0, .inl (y 0, 9, .inl f0))]) rfl ?_
      refine j_if_eq (pc := 21) C (tgt := 31) d_Days_allowedBits_21 (by decide) (fun c8 => ?_) (fun c8 => ?_)
      · refine j_iconst (pc := 31) C (v := 0) d_Days_allowedBits_31 (by decide) ?_
        refine j_ior (pc := 32) C (v := 2) d_Days_allowedBits_32 (by decide) ?_
        refine j_istore_n (pc := 33) C (lv' := [(3, .int 2), (4, .int 2), (0, .ref (ad 0)), (1, .ref h), (2, .int va)]) d_Days_allowedBits_33 rfl (by decide) rfl ?_
        refine j_iinc (pc := 34) C (v := 3) (lv' := [(4, .int 3), (3, .int 2), (0, .ref (ad 0)), (1, .ref h), (2, .int va)]) d_Days_allowedBits_34 1 rfl (by decide) (by decide) rfl ?_
        refine j_goto (pc := 37) C (tgt := 5) d_Days_allowedBits_37 (by decide) ?_
        refine j_iload (pc := 5) C d_Days_allowedBits_5 0 rfl ?_
        refine j_iconst (pc := 7) C (v := 3) d_Days_allowedBits_7 (by decide) ?_
        refine j_icmp_geT (pc := 8) C (tgt := 40) d_Days_allowedBits_8 (by decide) (by decide) ?_
        refine j_iload_n (pc := 40) C d_Days_allowedBits_40 rfl 1 rfl ?_
        exact j_iret (pc := 41) C hr rfl () trivial [0, 1, 2, 3, 4, 5] rfl (by decide) (by decide) (by decide) d_Days_allowedBits_41
      · refine j_iconst (pc := 24) C (v := 1) d_Days_allowedBits_24 (by decide) ?_
        refine j_iload (pc := 25) C d_Days_allowedBits_25 0 rfl ?_
        refine j_ishl (pc := 27) C (v := 4) d_Days_allowedBits_27 (by decide) ?_
        refine j_goto (pc := 28) C (tgt := 32) d_Days_allowedBits_28 (by decide) ?_
        refine j_ior (pc := 32) C (v := 6) d_Days_allowedBits_32 (by decide) ?_
        refine j_istore_n (pc := 33) C (lv' := [(3, .int 6), (4, .int 2), (0, .ref (ad 0)), (1, .ref h), (2, .int va)]) d_Days_allowedBits_33 rfl (by decide) rfl ?_
        refine j_iinc (pc := 34) C (v := 3) (lv' := [(4, .int 3), (3, .int 6), (0, .ref (ad 0)), (1, .ref h), (2, .int va)]) d_Days_allowedBits_34 1 rfl (by decide) (by decide) rfl ?_
        refine j_goto (pc := 37) C (tgt := 5) d_Days_allowedBits_37 (by decide) ?_
        refine j_iload (pc := 5) C d_Days_allowedBits_5 0 rfl ?_
        refine j_iconst (pc := 7) C (v := 3) d_Days_allowedBits_7 (by decide) ?_
        refine j_icmp_geT (pc := 8) C (tgt := 40) d_Days_allowedBits_8 (by decide) (by decide) ?_
        refine j_iload_n (pc := 40) C d_Days_allowedBits_40 rfl 1 rfl ?_
        exact j_iret (pc := 41) C hr rfl () trivial [0, 1, 2, 3, 4, 5] rfl (by decide) (by decide) (by decide) d_Days_allowedBits_41
  · refine j_iconst (pc := 24) C (v := 1) d_Days_allowedBits_24 (by decide) ?_
    refine j_iload (pc := 25) C d_Days_allowedBits_25 0 rfl ?_
    refine j_ishl (pc := 27) C (v := 1) d_Days_allowedBits_27 (by decide) ?_
    refine j_goto (pc := 28) C (tgt := 32) d_Days_allowedBits_28 (by decide) ?_
    refine j_ior (pc := 32) C (v := 1) d_Days_allowedBits_32 (by decide) ?_
    refine j_istore_n (pc := 33) C (lv' := [(3, .int 1), (4, .int 0), (0, .ref (ad 0)), (1, .ref h), (2, .int va)]) d_Days_allowedBits_33 rfl (by decide) rfl ?_
    refine j_iinc (pc := 34) C (v := 1) (lv' := [(4, .int 1), (3, .int 1), (0, .ref (ad 0)), (1, .ref h), (2, .int va)]) d_Days_allowedBits_34 1 rfl (by decide) (by decide) rfl ?_
    refine j_goto (pc := 37) C (tgt := 5) d_Days_allowedBits_37 (by decide) ?_
    refine j_iload (pc := 5) C d_Days_allowedBits_5 0 rfl ?_
    refine j_iconst (pc := 7) C (v := 3) d_Days_allowedBits_7 (by decide) ?_
    refine j_icmp_geF (pc := 8) C (tgt := 40) d_Days_allowedBits_8 (by decide) (by decide) ?_
    refine j_iload_n (pc := 11) C d_Days_allowedBits_11 rfl 1 rfl ?_
    refine j_aload_n (pc := 12) C d_Days_allowedBits_12 rfl 2 rfl ?_
    refine j_aload_n (pc := 13) C d_Days_allowedBits_13 rfl 3 rfl ?_
    refine j_iload_n (pc := 14) C d_Days_allowedBits_14 rfl 4 rfl ?_
    refine j_iload (pc := 15) C d_Days_allowedBits_15 0 rfl ?_
    refine j_iconst (pc := 17) C (v := 0) d_Days_allowedBits_17 (by decide) ?_
    refine j_callSi (pc := 18) C (c_allows l D y ad d n4 h sa sd sw sl f0 va 1 0 h4 b4 hJ hV) kw_Days_43 ks_Days_allows ⟨by decide, by decide⟩ ⟨by decide, by decide⟩ (wr := []) [0, 1, 2, 3, 4, 5] [] rfl rfl (by decide +kernel) (by decide +kernel) (by decide +kernel) (As := [.ref (ad 0), .ref h, .int va, .int 1, .int 0]) (rest := [.int 1]) rfl (nb rfl) rfl d_Days_allowedBits_18 (fun r9 _ hr9 => ?_)
    refine j_ws (ws' := [(ad 0, .inr (2, [.int (d.1 0), .int (d.1 1), .int (d.1 2), .int (d.1 3), .ref (ad 1), .int (d.1 4), .ref (ad 11), .ref (ad 12), .ref (ad 2), .ref (ad 3), .int (d.1 5), .int (d.1 6), .int (d.1 7), .int (d.1 8)])), (ad 1, .inr (1, [.int (d.1 9), .ref (ad 4), .ref (ad 5), .ref (ad 6), .ref (ad 7), .ref (ad 8), .ref (ad 9), .ref (ad 10)])), (ad 10, .inl (y 0, 9, .inl (d.2 6))), (ad 12, .inl (y 0, 6, .inl (d.2 8))), (h, .inr (7, [.int sd, .int sw, .int sl, .ref (sa 0), .ref (sa 1), .ref (sa 2), .ref (sa 3), .ref (sa 4), .ref (sa 5), .ref (sa 6)])), (sa 0, .inl (y 0, 9, .inl f0))]) rfl ?_
    refine j_if_eq (pc := 21) C (tgt := 31) d_Days_allowedBits_21 (by decide) (fun c10 => ?_) (fun c10 => ?_)
    · refine j_iconst (pc := 31) C (v := 0) d_Days_allowedBits_31 (by decide) ?_
      refine j_ior (pc := 32) C (v := 1) d_Days_allowedBits_32 (by decide) ?_
      refine j_istore_n (pc := 33) C (lv' := [(3, .int 1), (4, .int 1), (0, .ref (ad 0)), (1, .ref h), (2, .int va)]) d_Days_allowedBits_33 rfl (by decide) rfl ?_
      refine j_iinc (pc := 34) C (v := 2) (lv' := [(4, .int 2), (3, .int 1), (0, .ref (ad 0)), (1, .ref h), (2, .int va)]) d_Days_allowedBits_34 1 rfl (by decide) (by decide) rfl ?_
      refine j_goto (pc := 37) C (tgt := 5) d_Days_allowedBits_37 (by decide) ?_
      refine j_iload (pc := 5) C d_Days_allowedBits_5 0 rfl ?_
      refine j_iconst (pc := 7) C (v := 3) d_Days_allowedBits_7 (by decide) ?_
      refine j_icmp_geF (pc := 8) C (tgt := 40) d_Days_allowedBits_8 (by decide) (by decide) ?_
      refine j_iload_n (pc := 11) C d_Days_allowedBits_11 rfl 1 rfl ?_
      refine j_aload_n (pc := 12) C d_Days_allowedBits_12 rfl 2 rfl ?_
      refine j_aload_n (pc := 13) C d_Days_allowedBits_13 rfl 3 rfl ?_
      refine j_iload_n (pc := 14) C d_Days_allowedBits_14 rfl 4 rfl ?_
      refine j_iload (pc := 15) C d_Days_allowedBits_15 0 rfl ?_
      refine j_iconst (pc := 17) C (v := 0) d_Days_allowedBits_17 (by decide) ?_
      refine j_callSi (pc := 18) C (c_allows l D y ad d n4 h sa sd sw sl f0 va 2 0 h4 b4 hJ hV) kw_Days_43 ks_Days_allows ⟨by decide, by decide⟩ ⟨by decide, by decide⟩ (wr := []) [0, 1, 2, 3, 4, 5] [] rfl rfl (by decide +kernel) (by decide +kernel) (by decide +kernel) (As := [.ref (ad 0), .ref h, .int va, .int 2, .int 0]) (rest := [.int 1]) rfl (nb rfl) rfl d_Days_allowedBits_18 (fun r11 _ hr11 => ?_)
      refine j_ws (ws' := [(ad 0, .inr (2, [.int (d.1 0), .int (d.1 1), .int (d.1 2), .int (d.1 3), .ref (ad 1), .int (d.1 4), .ref (ad 11), .ref (ad 12), .ref (ad 2), .ref (ad 3), .int (d.1 5), .int (d.1 6), .int (d.1 7), .int (d.1 8)])), (ad 1, .inr (1, [.int (d.1 9), .ref (ad 4), .ref (ad 5), .ref (ad 6), .ref (ad 7), .ref (ad 8), .ref (ad 9), .ref (ad 10)])), (ad 10, .inl (y 0, 9, .inl (d.2 6))), (ad 12, .inl (y 0, 6, .inl (d.2 8))), (h, .inr (7, [.int sd, .int sw, .int sl, .ref (sa 0), .ref (sa 1), .ref (sa 2), .ref (sa 3), .ref (sa 4), .ref (sa 5), .ref (sa 6)])), (sa 0, .inl (y 0, 9, .inl f0))]) rfl ?_
      refine j_if_eq (pc := 21) C (tgt := 31) d_Days_allowedBits_21 (by decide) (fun c12 => ?_) (fun c12 => ?_)
      · refine j_iconst (pc := 31) C (v := 0) d_Days_allowedBits_31 (by decide) ?_
        refine j_ior (pc := 32) C (v := 1) d_Days_allowedBits_32 (by decide) ?_
        refine j_istore_n (pc := 33) C (lv' := [(3, .int 1), (4, .int 2), (0, .ref (ad 0)), (1, .ref h), (2, .int va)]) d_Days_allowedBits_33 rfl (by decide) rfl ?_
        refine j_iinc (pc := 34) C (v := 3) (lv' := [(4, .int 3), (3, .int 1), (0, .ref (ad 0)), (1, .ref h), (2, .int va)]) d_Days_allowedBits_34 1 rfl (by decide) (by decide) rfl ?_
        refine j_goto (pc := 37) C (tgt := 5) d_Days_allowedBits_37 (by decide) ?_
        refine j_iload (pc := 5) C d_Days_allowedBits_5 0 rfl ?_
        refine j_iconst (pc := 7) C (v := 3) d_Days_allowedBits_7 (by decide) ?_
        refine j_icmp_geT (pc := 8) C (tgt := 40) d_Days_allowedBits_8 (by decide) (by decide) ?_
        refine j_iload_n (pc := 40) C d_Days_allowedBits_40 rfl 1 rfl ?_
        exact j_iret (pc := 41) C hr rfl () trivial [0, 1, 2, 3, 4, 5] rfl (by decide) (by decide) (by decide) d_Days_allowedBits_41
      · refine j_iconst (pc := 24) C (v := 1) d_Days_allowedBits_24 (by decide) ?_
        refine j_iload (pc := 25) C d_Days_allowedBits_25 0 rfl ?_
        refine j_ishl (pc := 27) C (v := 4) d_Days_allowedBits_27 (by decide) ?_
        refine j_goto (pc := 28) C (tgt := 32) d_Days_allowedBits_28 (by decide) ?_
        refine j_ior (pc := 32) C (v := 5) d_Days_allowedBits_32 (by decide) ?_
        refine j_istore_n (pc := 33) C (lv' := [(3, .int 5), (4, .int 2), (0, .ref (ad 0)), (1, .ref h), (2, .int va)]) d_Days_allowedBits_33 rfl (by decide) rfl ?_
        refine j_iinc (pc := 34) C (v := 3) (lv' := [(4, .int 3), (3, .int 5), (0, .ref (ad 0)), (1, .ref h), (2, .int va)]) d_Days_allowedBits_34 1 rfl (by decide) (by decide) rfl ?_
        refine j_goto (pc := 37) C (tgt := 5) d_Days_allowedBits_37 (by decide) ?_
        refine j_iload (pc := 5) C d_Days_allowedBits_5 0 rfl ?_
        refine j_iconst (pc := 7) C (v := 3) d_Days_allowedBits_7 (by decide) ?_
        refine j_icmp_geT (pc := 8) C (tgt := 40) d_Days_allowedBits_8 (by decide) (by decide) ?_
        refine j_iload_n (pc := 40) C d_Days_allowedBits_40 rfl 1 rfl ?_
        exact j_iret (pc := 41) C hr rfl () trivial [0, 1, 2, 3, 4, 5] rfl (by decide) (by decide) (by decide) d_Days_allowedBits_41
    · refine j_iconst (pc := 24) C (v := 1) d_Days_allowedBits_24 (by decide) ?_
      refine j_iload (pc := 25) C d_Days_allowedBits_25 0 rfl ?_
      refine j_ishl (pc := 27) C (v := 2) d_Days_allowedBits_27 (by decide) ?_
      refine j_goto (pc := 28) C (tgt := 32) d_Days_allowedBits_28 (by decide) ?_
      refine j_ior (pc := 32) C (v := 3) d_Days_allowedBits_32 (by decide) ?_
      refine j_istore_n (pc := 33) C (lv' := [(3, .int 3), (4, .int 1), (0, .ref (ad 0)), (1, .ref h), (2, .int va)]) d_Days_allowedBits_33 rfl (by decide) rfl ?_
      refine j_iinc (pc := 34) C (v := 2) (lv' := [(4, .int 2), (3, .int 3), (0, .ref (ad 0)), (1, .ref h), (2, .int va)]) d_Days_allowedBits_34 1 rfl (by decide) (by decide) rfl ?_
      refine j_goto (pc := 37) C (tgt := 5) d_Days_allowedBits_37 (by decide) ?_
      refine j_iload (pc := 5) C d_Days_allowedBits_5 0 rfl ?_
      refine j_iconst (pc := 7) C (v := 3) d_Days_allowedBits_7 (by decide) ?_
      refine j_icmp_geF (pc := 8) C (tgt := 40) d_Days_allowedBits_8 (by decide) (by decide) ?_
      refine j_iload_n (pc := 11) C d_Days_allowedBits_11 rfl 1 rfl ?_
      refine j_aload_n (pc := 12) C d_Days_allowedBits_12 rfl 2 rfl ?_
      refine j_aload_n (pc := 13) C d_Days_allowedBits_13 rfl 3 rfl ?_
      refine j_iload_n (pc := 14) C d_Days_allowedBits_14 rfl 4 rfl ?_
      refine j_iload (pc := 15) C d_Days_allowedBits_15 0 rfl ?_
      refine j_iconst (pc := 17) C (v := 0) d_Days_allowedBits_17 (by decide) ?_
      refine j_callSi (pc := 18) C (c_allows l D y ad d n4 h sa sd sw sl f0 va 2 0 h4 b4 hJ hV) kw_Days_43 ks_Days_allows ⟨by decide, by decide⟩ ⟨by decide, by decide⟩ (wr := []) [0, 1, 2, 3, 4, 5] [] rfl rfl (by decide +kernel) (by decide +kernel) (by decide +kernel) (As := [.ref (ad 0), .ref h, .int va, .int 2, .int 0]) (rest := [.int 3]) rfl (nb rfl) rfl d_Days_allowedBits_18 (fun r13 _ hr13 => ?_)
      refine j_ws (ws' := [(ad 0, .inr (2, [.int (d.1 0), .int (d.1 1), .int (d.1 2), .int (d.1 3), .ref (ad 1), .int (d.1 4), .ref (ad 11), .ref (ad 12), .ref (ad 2), .ref (ad 3), .int (d.1 5), .int (d.1 6), .int (d.1 7), .int (d.1 8)])), (ad 1, .inr (1, [.int (d.1 9), .ref (ad 4), .ref (ad 5), .ref (ad 6), .ref (ad 7), .ref (ad 8), .ref (ad 9), .ref (ad 10)])), (ad 10, .inl (y 0, 9, .inl (d.2 6))), (ad 12, .inl (y 0, 6, .inl (d.2 8))), (h, .inr (7, [.int sd, .int sw, .int sl, .ref (sa 0), .ref (sa 1), .ref (sa 2), .ref (sa 3), .ref (sa 4), .ref (sa 5), .ref (sa 6)])), (sa 0, .inl (y 0, 9, .inl f0))]) rfl ?_
      refine j_if_eq (pc := 21) C (tgt := 31) d_Days_allowedBits_21 (by decide) (fun c14 => ?_) (fun c14 => ?_)
      · refine j_iconst (pc := 31) C (v := 0) d_Days_allowedBits_31 (by decide) ?_
        refine j_ior (pc := 32) C (v := 3) d_Days_allowedBits_32 (by decide) ?_
        refine j_istore_n (pc := 33) C (lv' := [(3, .int 3), (4, .int 2), (0, .ref (ad 0)), (1, .ref h), (2, .int va)]) d_Days_allowedBits_33 rfl (by decide) rfl ?_
        refine j_iinc (pc := 34) C (v := 3) (lv' := [(4, .int 3), (3, .int 3), (0, .ref (ad 0)), (1, .ref h), (2, .int va)]) d_Days_allowedBits_34 1 rfl (by decide) (by decide) rfl ?_
        refine j_goto (pc := 37) C (tgt := 5) d_Days_allowedBits_37 (by decide) ?_
        refine j_iload (pc := 5) C d_Days_allowedBits_5 0 rfl ?_
        refine j_iconst (pc := 7) C (v := 3) d_Days_allowedBits_7 (by decide) ?_
        refine j_icmp_geT (pc := 8) C (tgt := 40) d_Days_allowedBits_8 (by decide) (by decide) ?_
        refine j_iload_n (pc := 40) C d_Days_allowedBits_40 rfl 1 rfl ?_
        exact j_iret (pc := 41) C hr rfl () trivial [0, 1, 2, 3, 4, 5] rfl (by decide) (by decide) (by decide) d_Days_allowedBits_41
      · refine j_iconst (pc := 24) C (v := 1) d_Days_allowedBits_24 (by decide) ?_
        refine j_iload (pc := 25) C d_Days_allowedBits_25 0 rfl ?_
        refine j_ishl (pc := 27) C (v := 4) d_Days_allowedBits_27 (by decide) ?_
        refine j_goto (pc := 28) C (tgt := 32) d_Days_allowedBits_28 (by decide) ?_
        refine j_ior (pc := 32) C (v := 7) d_Days_allowedBits_32 (by decide) ?_
        refine j_istore_n (pc := 33) C (lv' := [(3, .int 7), (4, .int 2), (0, .ref (ad 0)), (1, .ref h), (2, .int va)]) d_Days_allowedBits_33 rfl (by decide) rfl ?_
        refine j_iinc (pc := 34) C (v := 3) (lv' := [(4, .int 3), (3, .int 7), (0, .ref (ad 0)), (1, .ref h), (2, .int va)]) d_Days_allowedBits_34 1 rfl (by decide) (by decide) rfl ?_
        refine j_goto (pc := 37) C (tgt := 5) d_Days_allowedBits_37 (by decide) ?_
        refine j_iload (pc := 5) C d_Days_allowedBits_5 0 rfl ?_
        refine j_iconst (pc := 7) C (v := 3) d_Days_allowedBits_7 (by decide) ?_
        refine j_icmp_geT (pc := 8) C (tgt := 40) d_Days_allowedBits_8 (by decide) (by decide) ?_
        refine j_iload_n (pc := 40) C d_Days_allowedBits_40 rfl 1 rfl ?_
        exact j_iret (pc := 41) C hr rfl () trivial [0, 1, 2, 3, 4, 5] rfl (by decide) (by decide) (by decide) d_Days_allowedBits_41
theorem d_Days_moveBoards_0 : decode prog_3_method_7_code 0 = .ok (.aload_n 0, 1) := by decide +kernel
theorem d_Days_moveBoards_1 : decode prog_3_method_7_code 1 = .ok (.aload_n 1, 1) := by decide +kernel
theorem d_Days_moveBoards_2 : decode prog_3_method_7_code 2 = .ok (.getfield 59, 3) := by decide +kernel
theorem gf_Days_59 : GF "NineBoards$Days" 59 7 0 := ⟨_, _, _, rfl, ci_State, by decide, (mt_1 (List.mem_of_getElem? (i := 54) rfl) rfl)⟩
theorem d_Days_moveBoards_5 : decode prog_3_method_7_code 5 = .ok (.invokevirtual 109, 3) := by decide +kernel
theorem kw_Days_109 : KW "NineBoards$Days" 109 ⟨"NineBoards$Lake", "villageOn", "(I)I"⟩ prog_5_method_8_code 2 (some .int) 1 := ⟨(mt_4 (List.mem_of_getElem? (i := 76) rfl) rfl), (mt_1 (List.mem_of_getElem? (i := 6) rfl) rfl), (mt_4 (List.mem_of_getElem? (i := 59) rfl) rfl), by decide +kernel⟩
theorem kv_Lake_villageOn : Cond.instanceMethod ⟨"NineBoards$Lake", "villageOn", "(I)I"⟩ ∈ TB ∧ Cond.selects "NineBoards$Lake" ⟨"NineBoards$Lake", "villageOn", "(I)I"⟩ ⟨"NineBoards$Lake", "villageOn", "(I)I"⟩ ∈ TB := ⟨(mt_4 (List.mem_of_getElem? (i := 57) rfl) rfl), (mt_4 (List.mem_of_getElem? (i := 58) rfl) rfl)⟩
theorem d_Days_moveBoards_8 : decode prog_3_method_7_code 8 = .ok (.istore_n 3, 1) := by decide +kernel
theorem d_Days_moveBoards_9 : decode prog_3_method_7_code 9 = .ok (.iload_n 3, 1) := by decide +kernel
theorem d_Days_moveBoards_10 : decode prog_3_method_7_code 10 = .ok (.iconst (-1), 1) := by decide +kernel
theorem d_Days_moveBoards_11 : decode prog_3_method_7_code 11 = .ok (.if_icmp .ne 4, 3) := by decide +kernel
theorem d_Days_moveBoards_14 : decode prog_3_method_7_code 14 = .ok (.return_, 1) := by decide +kernel
theorem d_Days_moveBoards_15 : decode prog_3_method_7_code 15 = .ok (.aload_n 0, 1) := by decide +kernel
theorem d_Days_moveBoards_16 : decode prog_3_method_7_code 16 = .ok (.getfield 21, 3) := by decide +kernel
theorem d_Days_moveBoards_19 : decode prog_3_method_7_code 19 = .ok (.iload_n 3, 1) := by decide +kernel
theorem d_Days_moveBoards_20 : decode prog_3_method_7_code 20 = .ok (.iaload, 1) := by decide +kernel
theorem d_Days_moveBoards_21 : decode prog_3_method_7_code 21 = .ok (.istore 4, 2) := by decide +kernel
theorem d_Days_moveBoards_23 : decode prog_3_method_7_code 23 = .ok (.aload_n 0, 1) := by decide +kernel
theorem d_Days_moveBoards_24 : decode prog_3_method_7_code 24 = .ok (.getfield 25, 3) := by decide +kernel
theorem d_Days_moveBoards_27 : decode prog_3_method_7_code 27 = .ok (.getfield 29, 3) := by decide +kernel
theorem d_Days_moveBoards_30 : decode prog_3_method_7_code 30 = .ok (.iload 4, 2) := by decide +kernel
theorem d_Days_moveBoards_32 : decode prog_3_method_7_code 32 = .ok (.iaload, 1) := by decide +kernel
theorem d_Days_moveBoards_33 : decode prog_3_method_7_code 33 = .ok (.istore 5, 2) := by decide +kernel
theorem d_Days_moveBoards_35 : decode prog_3_method_7_code 35 = .ok (.aload_n 1, 1) := by decide +kernel
theorem d_Days_moveBoards_36 : decode prog_3_method_7_code 36 = .ok (.getfield 34, 3) := by decide +kernel
theorem d_Days_moveBoards_39 : decode prog_3_method_7_code 39 = .ok (.iload 4, 2) := by decide +kernel
theorem d_Days_moveBoards_41 : decode prog_3_method_7_code 41 = .ok (.dup2, 1) := by decide +kernel
theorem d_Days_moveBoards_42 : decode prog_3_method_7_code 42 = .ok (.iaload, 1) := by decide +kernel
theorem d_Days_moveBoards_43 : decode prog_3_method_7_code 43 = .ok (.iload_n 2, 1) := by decide +kernel
theorem d_Days_moveBoards_44 : decode prog_3_method_7_code 44 = .ok (.iadd, 1) := by decide +kernel
theorem d_Days_moveBoards_45 : decode prog_3_method_7_code 45 = .ok (.iastore, 1) := by decide +kernel
theorem d_Days_moveBoards_46 : decode prog_3_method_7_code 46 = .ok (.iload 5, 2) := by decide +kernel
theorem d_Days_moveBoards_48 : decode prog_3_method_7_code 48 = .ok (.iconst (-1), 1) := by decide +kernel
theorem d_Days_moveBoards_49 : decode prog_3_method_7_code 49 = .ok (.if_icmp .eq 14, 3) := by decide +kernel
theorem d_Days_moveBoards_63 : decode prog_3_method_7_code 63 = .ok (.return_, 1) := by decide +kernel
theorem d_Days_moveBoards_52 : decode prog_3_method_7_code 52 = .ok (.aload_n 1, 1) := by decide +kernel
theorem d_Days_moveBoards_53 : decode prog_3_method_7_code 53 = .ok (.getfield 34, 3) := by decide +kernel
theorem d_Days_moveBoards_56 : decode prog_3_method_7_code 56 = .ok (.iload 5, 2) := by decide +kernel
theorem d_Days_moveBoards_58 : decode prog_3_method_7_code 58 = .ok (.dup2, 1) := by decide +kernel
theorem d_Days_moveBoards_59 : decode prog_3_method_7_code 59 = .ok (.iaload, 1) := by decide +kernel
theorem d_Days_moveBoards_60 : decode prog_3_method_7_code 60 = .ok (.iload_n 2, 1) := by decide +kernel
theorem d_Days_moveBoards_61 : decode prog_3_method_7_code 61 = .ok (.iadd, 1) := by decide +kernel
theorem d_Days_moveBoards_62 : decode prog_3_method_7_code 62 = .ok (.iastore, 1) := by decide +kernel
set_option maxHeartbeats 4000000 in
set_option maxRecDepth 100000 in
theorem c_moveBoards (l : Launch) (D : va_G) (y : Nat → ClassId) (ad : Nat → Nat) (d : LD) (n4 : Nat) (h : Nat) (sa : Nat → Nat) (sd : Int32) (sw : Int32) (sl : Int32) (f0 : Nat → Int32) (va : Int32) (h4 : d.1 4 = nI n4) (b4 : n4 ≤ 6) (hJ : ∀ j, j < 9 → d.2 6 j = -1 ∨ ∃ q, q < 9 ∧ d.2 6 j = nI q) (hV : ∀ j, j < n4 → ∃ q, q < 9 ∧ d.2 8 j = nI q) : CT l D y ⟨"NineBoards$Days", "moveBoards", "(LNineBoards$Lake;LNineBoards$State;I)V"⟩ prog_3_method_7_code 6 none ({ frames := 2, cells := 0, slots := 0, locals := 43 } : Room) [.ref (ad 0), .ref h, .int va] [(ad 0, .inr (2, [.int (d.1 0), .int (d.1 1), .int (d.1 2), .int (d.1 3), .ref (ad 1), .int (d.1 4), .ref (ad 11), .ref (ad 12), .ref (ad 2), .ref (ad 3), .int (d.1 5), .int (d.1 6), .int (d.1 7), .int (d.1 8)])), (ad 1, .inr (1, [.int (d.1 9), .ref (ad 4), .ref (ad 5), .ref (ad 6), .ref (ad 7), .ref (ad 8), .ref (ad 9), .ref (ad 10)])), (ad 10, .inl (y 0, 9, .inl (d.2 6))), (ad 12, .inl (y 0, 6, .inl (d.2 8))), (h, .inr (7, [.int sd, .int sw, .int sl, .ref (sa 0), .ref (sa 1), .ref (sa 2), .ref (sa 3), .ref (sa 4), .ref (sa 5), .ref (sa 6)])), (sa 0, .inl (y 0, 9, .inl f0))] (QV D [(ad 0, .inr (2, [.int (d.1 0), .int (d.1 1), .int (d.1 2), .int (d.1 3), .ref (ad 1), .int (d.1 4), .ref (ad 11), .ref (ad 12), .ref (ad 2), .ref (ad 3), .int (d.1 5), .int (d.1 6), .int (d.1 7), .int (d.1 8)])), (ad 1, .inr (1, [.int (d.1 9), .ref (ad 4), .ref (ad 5), .ref (ad 6), .ref (ad 7), .ref (ad 8), .ref (ad 9), .ref (ad 10)])), (ad 10, .inl (y 0, 9, .inl (d.2 6))), (ad 12, .inl (y 0, 6, .inl (d.2 8))), (h, .inr (7, [.int sd, .int sw, .int sl, .ref (sa 0), .ref (sa 1), .ref (sa 2), .ref (sa 3), .ref (sa 4), .ref (sa 5), .ref (sa 6)])), (sa 0, .inl (y 0, 9, .inl f0))] (fun (_ : Nat → Int32) => True) (fun u => [(ad 0, .inr (2, [.int (d.1 0), .int (d.1 1), .int (d.1 2), .int (d.1 3), .ref (ad 1), .int (d.1 4), .ref (ad 11), .ref (ad 12), .ref (ad 2), .ref (ad 3), .int (d.1 5), .int (d.1 6), .int (d.1 7), .int (d.1 8)])), (ad 1, .inr (1, [.int (d.1 9), .ref (ad 4), .ref (ad 5), .ref (ad 6), .ref (ad 7), .ref (ad 8), .ref (ad 9), .ref (ad 10)])), (ad 10, .inl (y 0, 9, .inl (d.2 6))), (ad 12, .inl (y 0, 6, .inl (d.2 8))), (h, .inr (7, [.int sd, .int sw, .int sl, .ref (sa 0), .ref (sa 1), .ref (sa 2), .ref (sa 3), .ref (sa 4), .ref (sa 5), .ref (sa 6)])), (sa 0, .inl (y 0, 9, .inl u))])) := by
  refine CT.of (by decide) (nb rfl) ?_
  intro p e s m args below meth c C hr
  refine j_lv (lv' := [(0, .ref (ad 0)), (1, .ref h), (2, .int va)]) rfl ?_
  refine j_aload_n (pc := 0) C d_Days_moveBoards_0 rfl 0 rfl ?_
  refine j_aload_n (pc := 1) C d_Days_moveBoards_1 rfl 1 rfl ?_
  refine j_get (pc := 2) C gf_Days_59 4 rfl rfl d_Days_moveBoards_2 ?_
  refine j_callVi (pc := 5) C (c_villageOn l D y ad d n4 sd h4 b4) kw_Days_109 kv_Lake_villageOn 0 2 rfl rfl ⟨by decide, by decide⟩ ⟨by decide, by decide⟩ (wr := [(ad 1, .inr (1, [.int (d.1 9), .ref (ad 4), .ref (ad 5), .ref (ad 6), .ref (ad 7), .ref (ad 8), .ref (ad 9), .ref (ad 10)])), (ad 10, .inl (y 0, 9, .inl (d.2 6))), (ad 12, .inl (y 0, 6, .inl (d.2 8))), (h, .inr (7, [.int sd, .int sw, .int sl, .ref (sa 0), .ref (sa 1), .ref (sa 2), .ref (sa 3), .ref (sa 4), .ref (sa 5), .ref (sa 6)])), (sa 0, .inl (y 0, 9, .inl f0))]) [0] [1, 2, 3, 4, 5] rfl rfl (by decide +kernel) (by decide +kernel) (by decide +kernel) (As := [.int sd]) (rest := []) rfl (nb rfl) rfl d_Days_moveBoards_5 (fun r1 _ hr1 => ?_)
  refine j_ws (ws' := [(ad 1, .inr (1, [.int (d.1 9), .ref (ad 4), .ref (ad 5), .ref (ad 6), .ref (ad 7), .ref (ad 8), .ref (ad 9), .ref (ad 10)])), (ad 10, .inl (y 0, 9, .inl (d.2 6))), (ad 12, .inl (y 0, 6, .inl (d.2 8))), (h, .inr (7, [.int sd, .int sw, .int sl, .ref (sa 0), .ref (sa 1), .ref (sa 2), .ref (sa 3), .ref (sa 4), .ref (sa 5), .ref (sa 6)])), (sa 0, .inl (y 0, 9, .inl f0)), (ad 0, .inr (2, [.int (d.1 0), .int (d.1 1), .int (d.1 2), .int (d.1 3), .ref (ad 1), .int (d.1 4), .ref (ad 11), .ref (ad 12), .ref (ad 2), .ref (ad 3), .int (d.1 5), .int (d.1 6), .int (d.1 7), .int (d.1 8)]))]) rfl ?_
  rcases hr1 with rfl | ⟨j2, xh3, rfl⟩
  · refine j_istore_n (pc := 8) C (lv' := [(3, .int (-1)), (0, .ref (ad 0)), (1, .ref h), (2, .int va)]) d_Days_moveBoards_8 rfl (by decide) rfl ?_
    refine j_iload_n (pc := 9) C d_Days_moveBoards_9 rfl 0 rfl ?_
    refine j_iconst (pc := 10) C (v := (-1)) d_Days_moveBoards_10 (by decide) ?_
    refine j_icmp_neF (pc := 11) C (tgt := 15) d_Days_moveBoards_11 (by decide) (by decide) ?_
    exact j_vret (pc := 14) C hr f0 trivial [5, 0, 1, 2, 3, 4] rfl (by decide) (by decide) (by decide) d_Days_moveBoards_14
  · refine j_istore_n (pc := 8) C (lv' := [(3, .int (nI j2)), (0, .ref (ad 0)), (1, .ref h), (2, .int va)]) d_Days_moveBoards_8 rfl (by decide) rfl ?_
    refine j_iload_n (pc := 9) C d_Days_moveBoards_9 rfl 0 rfl ?_
    refine j_iconst (pc := 10) C (v := (-1)) d_Days_moveBoards_10 (by decide) ?_
    refine j_icmp_neT (pc := 11) C (tgt := 15) d_Days_moveBoards_11 (by decide) (nI_nm1 (by omega)) ?_
    refine j_aload_n (pc := 15) C d_Days_moveBoards_15 rfl 1 rfl ?_
    refine j_get (pc := 16) C gf_Days_21 5 rfl rfl d_Days_moveBoards_16 ?_
    refine j_iload_n (pc := 19) C d_Days_moveBoards_19 rfl 0 rfl ?_
    obtain ⟨q4, xh5, e6⟩ := hV j2 (by omega)
    refine j_iald (pc := 20) C 2 rfl (v := nI q4) (vp_in_nI (by omega) (by decide)) (by rw [nI_clamp (by omega)]; exact e6) d_Days_moveBoards_20 ?_
    refine j_istore (pc := 21) C (lv' := [(4, .int (nI q4)), (3, .int (nI j2)), (0, .ref (ad 0)), (1, .ref h), (2, .int va)]) d_Days_moveBoards_21 (by decide) rfl ?_
    refine j_aload_n (pc := 23) C d_Days_moveBoards_23 rfl 2 rfl ?_
    refine j_get (pc := 24) C gf_Days_25 5 rfl rfl d_Days_moveBoards_24 ?_
    refine j_get (pc := 27) C gf_Days_29 0 rfl rfl d_Days_moveBoards_27 ?_
    refine j_iload (pc := 30) C d_Days_moveBoards_30 0 rfl ?_
    rcases hJ q4 (by omega) with e9 | ⟨q7, xh8, e9⟩
    · refine j_iald (pc := 32) C 1 rfl (v := (-1)) (vp_in_nI (by omega) (by decide)) (by rw [nI_clamp (by omega)]; exact e9) d_Days_moveBoards_32 ?_
      refine j_istore (pc := 33) C (lv' := [(5, .int (-1)), (4, .int (nI q4)), (3, .int (nI j2)), (0, .ref (ad 0)), (1, .ref h), (2, .int va)]) d_Days_moveBoards_33 (by decide) rfl ?_
      refine j_aload_n (pc := 35) C d_Days_moveBoards_35 rfl 4 rfl ?_
      refine j_get (pc := 36) C gf_Days_34 3 rfl rfl d_Days_moveBoards_36 ?_
      refine j_iload (pc := 39) C d_Days_moveBoards_39 1 rfl ?_
      refine j_dup2 (pc := 41) C d_Days_moveBoards_41 rfl rfl ?_
      refine j_iald (pc := 42) C 4 rfl (v := f0 (nI q4).toNatClampNeg) (vp_in_nI (by omega) (by decide)) rfl d_Days_moveBoards_42 ?_
      refine j_iload_n (pc := 43) C d_Days_moveBoards_43 rfl 5 rfl ?_
      refine j_iadd (pc := 44) C (v := (f0 (nI q4).toNatClampNeg) + va) d_Days_moveBoards_44 rfl ?_
      refine j_iast (pc := 45) C 4 rfl (ws' := [(ad 1, .inr (1, [.int (d.1 9), .ref (ad 4), .ref (ad 5), .ref (ad 6), .ref (ad 7), .ref (ad 8), .ref (ad 9), .ref (ad 10)])), (ad 10, .inl (y 0, 9, .inl (d.2 6))), (ad 12, .inl (y 0, 6, .inl (d.2 8))), (h, .inr (7, [.int sd, .int sw, .int sl, .ref (sa 0), .ref (sa 1), .ref (sa 2), .ref (sa 3), .ref (sa 4), .ref (sa 5), .ref (sa 6)])), (sa 0, .inl (y 0, 9, .inl (upd f0 (nI q4).toNatClampNeg ((f0 (nI q4).toNatClampNeg) + va)))), (ad 0, .inr (2, [.int (d.1 0), .int (d.1 1), .int (d.1 2), .int (d.1 3), .ref (ad 1), .int (d.1 4), .ref (ad 11), .ref (ad 12), .ref (ad 2), .ref (ad 3), .int (d.1 5), .int (d.1 6), .int (d.1 7), .int (d.1 8)]))]) (vp_in_nI (by omega) (by decide)) rfl d_Days_moveBoards_45 ?_
      refine j_iload (pc := 46) C d_Days_moveBoards_46 0 rfl ?_
      refine j_iconst (pc := 48) C (v := (-1)) d_Days_moveBoards_48 (by decide) ?_
      refine j_icmp_eqT (pc := 49) C (tgt := 63) d_Days_moveBoards_49 (by decide) (by decide) ?_
      exact j_vret (pc := 63) C hr (upd f0 (nI q4).toNatClampNeg ((f0 (nI q4).toNatClampNeg) + va)) trivial [5, 0, 1, 2, 3, 4] rfl (by decide) (by decide) (by decide) d_Days_moveBoards_63
    · refine j_iald (pc := 32) C 1 rfl (v := nI q7) (vp_in_nI (by omega) (by decide)) (by rw [nI_clamp (by omega)]; exact e9) d_Days_moveBoards_32 ?_
      refine j_istore (pc := 33) C (lv' := [(5, .int (nI q7)), (4, .int (nI q4)), (3, .int (nI j2)), (0, .ref (ad 0)), (1, .ref h), (2, .int va)]) d_Days_moveBoards_33 (by decide) rfl ?_
      refine j_aload_n (pc := 35) C d_Days_moveBoards_35 rfl 4 rfl ?_
      refine j_get (pc := 36) C gf_Days_34 3 rfl rfl d_Days_moveBoards_36 ?_
      refine j_iload (pc := 39) C d_Days_moveBoards_39 1 rfl ?_
      refine j_dup2 (pc := 41) C d_Days_moveBoards_41 rfl rfl ?_
      refine j_iald (pc := 42) C 4 rfl (v := f0 (nI q4).toNatClampNeg) (vp_in_nI (by omega) (by decide)) rfl d_Days_moveBoards_42 ?_
      refine j_iload_n (pc := 43) C d_Days_moveBoards_43 rfl 5 rfl ?_
      refine j_iadd (pc := 44) C (v := (f0 (nI q4).toNatClampNeg) + va) d_Days_moveBoards_44 rfl ?_
      refine j_iast (pc := 45) C 4 rfl (ws' := [(ad 1, .inr (1, [.int (d.1 9), .ref (ad 4), .ref (ad 5), .ref (ad 6), .ref (ad 7), .ref (ad 8), .ref (ad 9), .ref (ad 10)])), (ad 10, .inl (y 0, 9, .inl (d.2 6))), (ad 12, .inl (y 0, 6, .inl (d.2 8))), (h, .inr (7, [.int sd, .int sw, .int sl, .ref (sa 0), .ref (sa 1), .ref (sa 2), .ref (sa 3), .ref (sa 4), .ref (sa 5), .ref (sa 6)])), (sa 0, .inl (y 0, 9, .inl (upd f0 (nI q4).toNatClampNeg ((f0 (nI q4).toNatClampNeg) + va)))), (ad 0, .inr (2, [.int (d.1 0), .int (d.1 1), .int (d.1 2), .int (d.1 3), .ref (ad 1), .int (d.1 4), .ref (ad 11), .ref (ad 12), .ref (ad 2), .ref (ad 3), .int (d.1 5), .int (d.1 6), .int (d.1 7), .int (d.1 8)]))]) (vp_in_nI (by omega) (by decide)) rfl d_Days_moveBoards_45 ?_
      refine j_iload (pc := 46) C d_Days_moveBoards_46 0 rfl ?_
      refine j_iconst (pc := 48) C (v := (-1)) d_Days_moveBoards_48 (by decide) ?_
      refine j_icmp_eqF (pc := 49) C (tgt := 63) d_Days_moveBoards_49 (by decide) (nI_nm1 (by omega)) ?_
      refine j_aload_n (pc := 52) C d_Days_moveBoards_52 rfl 4 rfl ?_
      refine j_get (pc := 53) C gf_Days_34 3 rfl rfl d_Days_moveBoards_53 ?_
      refine j_iload (pc := 56) C d_Days_moveBoards_56 0 rfl ?_
      refine j_dup2 (pc := 58) C d_Days_moveBoards_58 rfl rfl ?_
      refine j_iald (pc := 59) C 4 rfl (v := (upd f0 (nI q4).toNatClampNeg ((f0 (nI q4).toNatClampNeg) + va)) (nI q7).toNatClampNeg) (vp_in_nI (by omega) (by decide)) rfl d_Days_moveBoards_59 ?_
      refine j_iload_n (pc := 60) C d_Days_moveBoards_60 rfl 5 rfl ?_
      refine j_iadd (pc := 61) C (v := ((upd f0 (nI q4).toNatClampNeg ((f0 (nI q4).toNatClampNeg) + va)) (nI q7).toNatClampNeg) + va) d_Days_moveBoards_61 rfl ?_
      refine j_iast (pc := 62) C 4 rfl (ws' := [(ad 1, .inr (1, [.int (d.1 9), .ref (ad 4), .ref (ad 5), .ref (ad 6), .ref (ad 7), .ref (ad 8), .ref (ad 9), .ref (ad 10)])), (ad 10, .inl (y 0, 9, .inl (d.2 6))), (ad 12, .inl (y 0, 6, .inl (d.2 8))), (h, .inr (7, [.int sd, .int sw, .int sl, .ref (sa 0), .ref (sa 1), .ref (sa 2), .ref (sa 3), .ref (sa 4), .ref (sa 5), .ref (sa 6)])), (sa 0, .inl (y 0, 9, .inl (upd (upd f0 (nI q4).toNatClampNeg ((f0 (nI q4).toNatClampNeg) + va)) (nI q7).toNatClampNeg (((upd f0 (nI q4).toNatClampNeg ((f0 (nI q4).toNatClampNeg) + va)) (nI q7).toNatClampNeg) + va)))), (ad 0, .inr (2, [.int (d.1 0), .int (d.1 1), .int (d.1 2), .int (d.1 3), .ref (ad 1), .int (d.1 4), .ref (ad 11), .ref (ad 12), .ref (ad 2), .ref (ad 3), .int (d.1 5), .int (d.1 6), .int (d.1 7), .int (d.1 8)]))]) (vp_in_nI (by omega) (by decide)) rfl d_Days_moveBoards_62 ?_
      exact j_vret (pc := 63) C hr (upd (upd f0 (nI q4).toNatClampNeg ((f0 (nI q4).toNatClampNeg) + va)) (nI q7).toNatClampNeg (((upd f0 (nI q4).toNatClampNeg ((f0 (nI q4).toNatClampNeg) + va)) (nI q7).toNatClampNeg) + va)) trivial [5, 0, 1, 2, 3, 4] rfl (by decide) (by decide) (by decide) d_Days_moveBoards_63
theorem d_Days_doAct_0 : decode prog_3_method_6_code 0 = .ok (.iload_n 2, 1) := by decide +kernel
theorem d_Days_doAct_1 : decode prog_3_method_6_code 1 = .ok (.ifCond .eq 23, 3) := by decide +kernel
theorem d_Days_doAct_24 : decode prog_3_method_6_code 24 = .ok (.return_, 1) := by decide +kernel
theorem d_Days_doAct_4 : decode prog_3_method_6_code 4 = .ok (.aload_n 0, 1) := by decide +kernel
theorem d_Days_doAct_5 : decode prog_3_method_6_code 5 = .ok (.aload_n 1, 1) := by decide +kernel
theorem d_Days_doAct_6 : decode prog_3_method_6_code 6 = .ok (.iload_n 2, 1) := by decide +kernel
theorem d_Days_doAct_7 : decode prog_3_method_6_code 7 = .ok (.iconst 1, 1) := by decide +kernel
theorem d_Days_doAct_8 : decode prog_3_method_6_code 8 = .ok (.if_icmp .ne 7, 3) := by decide +kernel
theorem d_Days_doAct_15 : decode prog_3_method_6_code 15 = .ok (.iconst 1, 1) := by decide +kernel
theorem d_Days_doAct_16 : decode prog_3_method_6_code 16 = .ok (.invokestatic 106, 3) := by decide +kernel
theorem kw_Days_106 : KW "NineBoards$Days" 106 ⟨"NineBoards$Days", "moveBoards", "(LNineBoards$Lake;LNineBoards$State;I)V"⟩ prog_3_method_7_code 6 none 3 := ⟨(mt_4 (List.mem_of_getElem? (i := 73) rfl) rfl), (mt_1 (List.mem_of_getElem? (i := 18) rfl) rfl), (mt_4 (List.mem_of_getElem? (i := 75) rfl) rfl), by decide +kernel⟩
theorem ks_Days_moveBoards : Cond.static ⟨"NineBoards$Days", "moveBoards", "(LNineBoards$Lake;LNineBoards$State;I)V"⟩ ∈ TB := (mt_4 (List.mem_of_getElem? (i := 74) rfl) rfl)
theorem d_Days_doAct_19 : decode prog_3_method_6_code 19 = .ok (.aload_n 1, 1) := by decide +kernel
theorem d_Days_doAct_20 : decode prog_3_method_6_code 20 = .ok (.iload_n 2, 1) := by decide +kernel
theorem d_Days_doAct_21 : decode prog_3_method_6_code 21 = .ok (.putfield 15, 3) := by decide +kernel
theorem pf_Days_15 : PF "NineBoards$Days" 15 7 2 (.int) false := ⟨_, _, _, ct_State, rfl, ci_State, by decide, (mt_1 (List.mem_of_getElem? (i := 61) rfl) rfl), cp_State, cn_State, rfl, by decide +kernel, (fun h => by cases h)⟩
theorem d_Days_doAct_11 : decode prog_3_method_6_code 11 = .ok (.iconst (-1), 1) := by decide +kernel
theorem d_Days_doAct_12 : decode prog_3_method_6_code 12 = .ok (.goto 4, 3) := by decide +kernel
set_option maxHeartbeats 4000000 in
set_option maxRecDepth 100000 in
theorem c_doAct (l : Launch) (D : va_G) (y : Nat → ClassId) (ad : Nat → Nat) (d : LD) (n4 : Nat) (h : Nat) (sa : Nat → Nat) (sd : Int32) (sw : Int32) (sl : Int32) (f0 : Nat → Int32) (va : Int32) (h4 : d.1 4 = nI n4) (b4 : n4 ≤ 6) (hJ : ∀ j, j < 9 → d.2 6 j = -1 ∨ ∃ q, q < 9 ∧ d.2 6 j = nI q) (hV : ∀ j, j < n4 → ∃ q, q < 9 ∧ d.2 8 j = nI q) : CT l D y ⟨"NineBoards$Days", "doAct", "(LNineBoards$Lake;LNineBoards$State;I)V"⟩ prog_3_method_6_code 3 none ({ frames := 3, cells := 0, slots := 0, locals := 68 } : Room) [.ref (ad 0), .ref h, .int va] [(ad 0, .inr (2, [.int (d.1 0), .int (d.1 1), .int (d.1 2), .int (d.1 3), .ref (ad 1), .int (d.1 4), .ref (ad 11), .ref (ad 12), .ref (ad 2), .ref (ad 3), .int (d.1 5), .int (d.1 6), .int (d.1 7), .int (d.1 8)])), (ad 1, .inr (1, [.int (d.1 9), .ref (ad 4), .ref (ad 5), .ref (ad 6), .ref (ad 7), .ref (ad 8), .ref (ad 9), .ref (ad 10)])), (ad 10, .inl (y 0, 9, .inl (d.2 6))), (ad 12, .inl (y 0, 6, .inl (d.2 8))), (h, .inr (7, [.int sd, .int sw, .int sl, .ref (sa 0), .ref (sa 1), .ref (sa 2), .ref (sa 3), .ref (sa 4), .ref (sa 5), .ref (sa 6)])), (sa 0, .inl (y 0, 9, .inl f0))] (QV D [(ad 0, .inr (2, [.int (d.1 0), .int (d.1 1), .int (d.1 2), .int (d.1 3), .ref (ad 1), .int (d.1 4), .ref (ad 11), .ref (ad 12), .ref (ad 2), .ref (ad 3), .int (d.1 5), .int (d.1 6), .int (d.1 7), .int (d.1 8)])), (ad 1, .inr (1, [.int (d.1 9), .ref (ad 4), .ref (ad 5), .ref (ad 6), .ref (ad 7), .ref (ad 8), .ref (ad 9), .ref (ad 10)])), (ad 10, .inl (y 0, 9, .inl (d.2 6))), (ad 12, .inl (y 0, 6, .inl (d.2 8))), (h, .inr (7, [.int sd, .int sw, .int sl, .ref (sa 0), .ref (sa 1), .ref (sa 2), .ref (sa 3), .ref (sa 4), .ref (sa 5), .ref (sa 6)])), (sa 0, .inl (y 0, 9, .inl f0))] (fun (_ : Int32 × (Nat → Int32)) => True) (fun u => [(ad 0, .inr (2, [.int (d.1 0), .int (d.1 1), .int (d.1 2), .int (d.1 3), .ref (ad 1), .int (d.1 4), .ref (ad 11), .ref (ad 12), .ref (ad 2), .ref (ad 3), .int (d.1 5), .int (d.1 6), .int (d.1 7), .int (d.1 8)])), (ad 1, .inr (1, [.int (d.1 9), .ref (ad 4), .ref (ad 5), .ref (ad 6), .ref (ad 7), .ref (ad 8), .ref (ad 9), .ref (ad 10)])), (ad 10, .inl (y 0, 9, .inl (d.2 6))), (ad 12, .inl (y 0, 6, .inl (d.2 8))), (h, .inr (7, [.int sd, .int sw, .int u.1, .ref (sa 0), .ref (sa 1), .ref (sa 2), .ref (sa 3), .ref (sa 4), .ref (sa 5), .ref (sa 6)])), (sa 0, .inl (y 0, 9, .inl u.2))])) := by
  refine CT.of (by decide) (nb rfl) ?_
  intro p e s m args below meth c C hr
  refine j_lv (lv' := [(0, .ref (ad 0)), (1, .ref h), (2, .int va)]) rfl ?_
  refine j_iload_n (pc := 0) C d_Days_doAct_0 rfl 2 rfl ?_
  refine j_if_eq (pc := 1) C (tgt := 24) d_Days_doAct_1 (by decide) (fun c1 => ?_) (fun c1 => ?_)
  · exact j_vret (pc := 24) C hr (sl, f0) trivial [0, 1, 2, 3, 4, 5] rfl (by decide) (by decide) (by decide) d_Days_doAct_24
  · refine j_aload_n (pc := 4) C d_Days_doAct_4 rfl 0 rfl ?_
    refine j_aload_n (pc := 5) C d_Days_doAct_5 rfl 1 rfl ?_
    refine j_iload_n (pc := 6) C d_Days_doAct_6 rfl 2 rfl ?_
    refine j_iconst (pc := 7) C (v := 1) d_Days_doAct_7 (by decide) ?_
    refine j_icmp_ne (pc := 8) C (tgt := 15) d_Days_doAct_8 (by decide) (fun c2 => ?_) (fun c2 => ?_)
    · refine j_iconst (pc := 15) C (v := 1) d_Days_doAct_15 (by decide) ?_
      refine j_callSv (pc := 16) C (c_moveBoards l D y ad d n4 h sa sd sw sl f0 1 h4 b4 hJ hV) kw_Days_106 ks_Days_moveBoards ⟨by decide, by decide⟩ ⟨by decide, by decide⟩ (wr := []) [0, 1, 2, 3, 4, 5] [] rfl rfl (by decide +kernel) (by decide +kernel) (by decide +kernel) (As := [.ref (ad 0), .ref h, .int 1]) (rest := []) rfl (nb rfl) rfl d_Days_doAct_16 (fun u3 _ => ?_)
      refine j_ws (ws' := [(ad 0, .inr (2, [.int (d.1 0), .int (d.1 1), .int (d.1 2), .int (d.1 3), .ref (ad 1), .int (d.1 4), .ref (ad 11), .ref (ad 12), .ref (ad 2), .ref (ad 3), .int (d.1 5), .int (d.1 6), .int (d.1 7), .int (d.1 8)])), (ad 1, .inr (1, [.int (d.1 9), .ref (ad 4), .ref (ad 5), .ref (ad 6), .ref (ad 7), .ref (ad 8), .ref (ad 9), .ref (ad 10)])), (ad 10, .inl (y 0, 9, .inl (d.2 6))), (ad 12, .inl (y 0, 6, .inl (d.2 8))), (h, .inr (7, [.int sd, .int sw, .int sl, .ref (sa 0), .ref (sa 1), .ref (sa 2), .ref (sa 3), .ref (sa 4), .ref (sa 5), .ref (sa 6)])), (sa 0, .inl (y 0, 9, .inl u3))]) rfl ?_
      refine j_aload_n (pc := 19) C d_Days_doAct_19 rfl 1 rfl ?_
      refine j_iload_n (pc := 20) C d_Days_doAct_20 rfl 2 rfl ?_
      refine j_put (pc := 21) C pf_Days_15 4 (ws' := [(ad 0, .inr (2, [.int (d.1 0), .int (d.1 1), .int (d.1 2), .int (d.1 3), .ref (ad 1), .int (d.1 4), .ref (ad 11), .ref (ad 12), .ref (ad 2), .ref (ad 3), .int (d.1 5), .int (d.1 6), .int (d.1 7), .int (d.1 8)])), (ad 1, .inr (1, [.int (d.1 9), .ref (ad 4), .ref (ad 5), .ref (ad 6), .ref (ad 7), .ref (ad 8), .ref (ad 9), .ref (ad 10)])), (ad 10, .inl (y 0, 9, .inl (d.2 6))), (ad 12, .inl (y 0, 6, .inl (d.2 8))), (h, .inr (7, [.int sd, .int sw, .int va, .ref (sa 0), .ref (sa 1), .ref (sa 2), .ref (sa 3), .ref (sa 4), .ref (sa 5), .ref (sa 6)])), (sa 0, .inl (y 0, 9, .inl u3))]) rfl rfl rfl (nl rfl) rfl d_Days_doAct_21 ?_
      exact j_vret (pc := 24) C hr (va, u3) trivial [0, 1, 2, 3, 4, 5] rfl (by decide) (by decide) (by decide) d_Days_doAct_24
    · refine j_iconst (pc := 11) C (v := (-1)) d_Days_doAct_11 (by decide) ?_
      refine j_goto (pc := 12) C (tgt := 16) d_Days_doAct_12 (by decide) ?_
      refine j_callSv (pc := 16) C (c_moveBoards l D y ad d n4 h sa sd sw sl f0 (-1) h4 b4 hJ hV) kw_Days_106 ks_Days_moveBoards ⟨by decide, by decide⟩ ⟨by decide, by decide⟩ (wr := []) [0, 1, 2, 3, 4, 5] [] rfl rfl (by decide +kernel) (by decide +kernel) (by decide +kernel) (As := [.ref (ad 0), .ref h, .int (-1)]) (rest := []) rfl (nb rfl) rfl d_Days_doAct_16 (fun u4 _ => ?_)
      refine j_ws (ws' := [(ad 0, .inr (2, [.int (d.1 0), .int (d.1 1), .int (d.1 2), .int (d.1 3), .ref (ad 1), .int (d.1 4), .ref (ad 11), .ref (ad 12), .ref (ad 2), .ref (ad 3), .int (d.1 5), .int (d.1 6), .int (d.1 7), .int (d.1 8)])), (ad 1, .inr (1, [.int (d.1 9), .ref (ad 4), .ref (ad 5), .ref (ad 6), .ref (ad 7), .ref (ad 8), .ref (ad 9), .ref (ad 10)])), (ad 10, .inl (y 0, 9, .inl (d.2 6))), (ad 12, .inl (y 0, 6, .inl (d.2 8))), (h, .inr (7, [.int sd, .int sw, .int sl, .ref (sa 0), .ref (sa 1), .ref (sa 2), .ref (sa 3), .ref (sa 4), .ref (sa 5), .ref (sa 6)])), (sa 0, .inl (y 0, 9, .inl u4))]) rfl ?_
      refine j_aload_n (pc := 19) C d_Days_doAct_19 rfl 1 rfl ?_
      refine j_iload_n (pc := 20) C d_Days_doAct_20 rfl 2 rfl ?_
      refine j_put (pc := 21) C pf_Days_15 4 (ws' := [(ad 0, .inr (2, [.int (d.1 0), .int (d.1 1), .int (d.1 2), .int (d.1 3), .ref (ad 1), .int (d.1 4), .ref (ad 11), .ref (ad 12), .ref (ad 2), .ref (ad 3), .int (d.1 5), .int (d.1 6), .int (d.1 7), .int (d.1 8)])), (ad 1, .inr (1, [.int (d.1 9), .ref (ad 4), .ref (ad 5), .ref (ad 6), .ref (ad 7), .ref (ad 8), .ref (ad 9), .ref (ad 10)])), (ad 10, .inl (y 0, 9, .inl (d.2 6))), (ad 12, .inl (y 0, 6, .inl (d.2 8))), (h, .inr (7, [.int sd, .int sw, .int va, .ref (sa 0), .ref (sa 1), .ref (sa 2), .ref (sa 3), .ref (sa 4), .ref (sa 5), .ref (sa 6)])), (sa 0, .inl (y 0, 9, .inl u4))]) rfl rfl rfl (nl rfl) rfl d_Days_doAct_21 ?_
      exact j_vret (pc := 24) C hr (va, u4) trivial [0, 1, 2, 3, 4, 5] rfl (by decide) (by decide) (by decide) d_Days_doAct_24
theorem d_Days_canLoseBoard_0 : decode prog_3_method_12_code 0 = .ok (.aload_n 0, 1) := by decide +kernel
theorem d_Days_canLoseBoard_1 : decode prog_3_method_12_code 1 = .ok (.getfield 25, 3) := by decide +kernel
theorem d_Days_canLoseBoard_4 : decode prog_3_method_12_code 4 = .ok (.getfield 29, 3) := by decide +kernel
theorem d_Days_canLoseBoard_7 : decode prog_3_method_12_code 7 = .ok (.iload_n 2, 1) := by decide +kernel
theorem d_Days_canLoseBoard_8 : decode prog_3_method_12_code 8 = .ok (.iaload, 1) := by decide +kernel
theorem d_Days_canLoseBoard_9 : decode prog_3_method_12_code 9 = .ok (.istore_n 3, 1) := by decide +kernel
theorem d_Days_canLoseBoard_10 : decode prog_3_method_12_code 10 = .ok (.aload_n 1, 1) := by decide +kernel
theorem d_Days_canLoseBoard_11 : decode prog_3_method_12_code 11 = .ok (.getfield 34, 3) := by decide +kernel
theorem d_Days_canLoseBoard_14 : decode prog_3_method_12_code 14 = .ok (.iload_n 2, 1) := by decide +kernel
theorem d_Days_canLoseBoard_15 : decode prog_3_method_12_code 15 = .ok (.iaload, 1) := by decide +kernel
theorem d_Days_canLoseBoard_16 : decode prog_3_method_12_code 16 = .ok (.ifCond .le 21, 3) := by decide +kernel
theorem d_Days_canLoseBoard_37 : decode prog_3_method_12_code 37 = .ok (.iconst 0, 1) := by decide +kernel
theorem d_Days_canLoseBoard_38 : decode prog_3_method_12_code 38 = .ok (.ireturn, 1) := by decide +kernel
theorem d_Days_canLoseBoard_19 : decode prog_3_method_12_code 19 = .ok (.iload_n 3, 1) := by decide +kernel
theorem d_Days_canLoseBoard_20 : decode prog_3_method_12_code 20 = .ok (.iconst (-1), 1) := by decide +kernel
theorem d_Days_canLoseBoard_21 : decode prog_3_method_12_code 21 = .ok (.if_icmp .eq 12, 3) := by decide +kernel
theorem d_Days_canLoseBoard_33 : decode prog_3_method_12_code 33 = .ok (.iconst 1, 1) := by decide +kernel
theorem d_Days_canLoseBoard_34 : decode prog_3_method_12_code 34 = .ok (.goto 4, 3) := by decide +kernel
theorem d_Days_canLoseBoard_24 : decode prog_3_method_12_code 24 = .ok (.aload_n 1, 1) := by decide +kernel
theorem d_Days_canLoseBoard_25 : decode prog_3_method_12_code 25 = .ok (.getfield 34, 3) := by decide +kernel
theorem d_Days_canLoseBoard_28 : decode prog_3_method_12_code 28 = .ok (.iload_n 3, 1) := by decide +kernel
theorem d_Days_canLoseBoard_29 : decode prog_3_method_12_code 29 = .ok (.iaload, 1) := by decide +kernel
theorem d_Days_canLoseBoard_30 : decode prog_3_method_12_code 30 = .ok (.ifCond .le 7, 3) := by decide +kernel
set_option maxHeartbeats 4000000 in
set_option maxRecDepth 100000 in
theorem c_canLoseBoard (l : Launch) (D : va_G) (y : Nat → ClassId) (ad : Nat → Nat) (d : LD) (h : Nat) (sa : Nat → Nat) (sd : Int32) (sw : Int32) (sl : Int32) (f0 : Nat → Int32) (j : Nat) (hJ : ∀ j, j < 9 → d.2 6 j = -1 ∨ ∃ q, q < 9 ∧ d.2 6 j = nI q) (hj : j < 9) : CT l D y ⟨"NineBoards$Days", "canLoseBoard", "(LNineBoards$Lake;LNineBoards$State;I)Z"⟩ prog_3_method_12_code 4 (some .boolean) ({ frames := 0, cells := 0, slots := 0, locals := 0 } : Room) [.ref (ad 0), .ref h, .int (nI j)] [(ad 0, .inr (2, [.int (d.1 0), .int (d.1 1), .int (d.1 2), .int (d.1 3), .ref (ad 1), .int (d.1 4), .ref (ad 11), .ref (ad 12), .ref (ad 2), .ref (ad 3), .int (d.1 5), .int (d.1 6), .int (d.1 7), .int (d.1 8)])), (ad 1, .inr (1, [.int (d.1 9), .ref (ad 4), .ref (ad 5), .ref (ad 6), .ref (ad 7), .ref (ad 8), .ref (ad 9), .ref (ad 10)])), (ad 10, .inl (y 0, 9, .inl (d.2 6))), (h, .inr (7, [.int sd, .int sw, .int sl, .ref (sa 0), .ref (sa 1), .ref (sa 2), .ref (sa 3), .ref (sa 4), .ref (sa 5), .ref (sa 6)])), (sa 0, .inl (y 0, 9, .inl f0))] (QI D [(ad 0, .inr (2, [.int (d.1 0), .int (d.1 1), .int (d.1 2), .int (d.1 3), .ref (ad 1), .int (d.1 4), .ref (ad 11), .ref (ad 12), .ref (ad 2), .ref (ad 3), .int (d.1 5), .int (d.1 6), .int (d.1 7), .int (d.1 8)])), (ad 1, .inr (1, [.int (d.1 9), .ref (ad 4), .ref (ad 5), .ref (ad 6), .ref (ad 7), .ref (ad 8), .ref (ad 9), .ref (ad 10)])), (ad 10, .inl (y 0, 9, .inl (d.2 6))), (h, .inr (7, [.int sd, .int sw, .int sl, .ref (sa 0), .ref (sa 1), .ref (sa 2), .ref (sa 3), .ref (sa 4), .ref (sa 5), .ref (sa 6)])), (sa 0, .inl (y 0, 9, .inl f0))] (fun (r : Int32) (u : Unit) => r = 0 ∨ r = 1) (fun _ => [(ad 0, .inr (2, [.int (d.1 0), .int (d.1 1), .int (d.1 2), .int (d.1 3), .ref (ad 1), .int (d.1 4), .ref (ad 11), .ref (ad 12), .ref (ad 2), .ref (ad 3), .int (d.1 5), .int (d.1 6), .int (d.1 7), .int (d.1 8)])), (ad 1, .inr (1, [.int (d.1 9), .ref (ad 4), .ref (ad 5), .ref (ad 6), .ref (ad 7), .ref (ad 8), .ref (ad 9), .ref (ad 10)])), (ad 10, .inl (y 0, 9, .inl (d.2 6))), (h, .inr (7, [.int sd, .int sw, .int sl, .ref (sa 0), .ref (sa 1), .ref (sa 2), .ref (sa 3), .ref (sa 4), .ref (sa 5), .ref (sa 6)])), (sa 0, .inl (y 0, 9, .inl f0))])) := by
  refine CT.of (by decide) (nb rfl) ?_
  intro p e s m args below meth c C hr
  refine j_lv (lv' := [(0, .ref (ad 0)), (1, .ref h), (2, .int (nI j))]) rfl ?_
  refine j_aload_n (pc := 0) C d_Days_canLoseBoard_0 rfl 0 rfl ?_
  refine j_get (pc := 1) C gf_Days_25 0 rfl rfl d_Days_canLoseBoard_1 ?_
  refine j_get (pc := 4) C gf_Days_29 1 rfl rfl d_Days_canLoseBoard_4 ?_
  refine j_iload_n (pc := 7) C d_Days_canLoseBoard_7 rfl 2 rfl ?_
  rcases hJ j (by omega) with e3 | ⟨q1, xh2, e3⟩
  · refine j_iald (pc := 8) C 2 rfl (v := (-1)) (vp_in_nI (by omega) (by decide)) (by rw [nI_clamp (by omega)]; exact e3) d_Days_canLoseBoard_8 ?_
    refine j_istore_n (pc := 9) C (lv' := [(3, .int (-1)), (0, .ref (ad 0)), (1, .ref h), (2, .int (nI j))]) d_Days_canLoseBoard_9 rfl (by decide) rfl ?_
    refine j_aload_n (pc := 10) C d_Days_canLoseBoard_10 rfl 2 rfl ?_
    refine j_get (pc := 11) C gf_Days_34 3 rfl rfl d_Days_canLoseBoard_11 ?_
    refine j_iload_n (pc := 14) C d_Days_canLoseBoard_14 rfl 3 rfl ?_
    refine j_iald (pc := 15) C 4 rfl (v := f0 (nI j).toNatClampNeg) (vp_in_nI (by omega) (by decide)) rfl d_Days_canLoseBoard_15 ?_
    refine j_if_le (pc := 16) C (tgt := 37) d_Days_canLoseBoard_16 (by decide) (fun c4 => ?_) (fun c4 => ?_)
    · refine j_iconst (pc := 37) C (v := 0) d_Days_canLoseBoard_37 (by decide) ?_
      exact j_iret (pc := 38) C hr (by decide) () (by decide) [0, 1, 2, 3, 4] rfl (by decide) (by decide) (by decide) d_Days_canLoseBoard_38
    · refine j_iload_n (pc := 19) C d_Days_canLoseBoard_19 rfl 0 rfl ?_
      refine j_iconst (pc := 20) C (v := (-1)) d_Days_canLoseBoard_20 (by decide) ?_
      refine j_icmp_eqT (pc := 21) C (tgt := 33) d_Days_canLoseBoard_21 (by decide) (by decide) ?_
      refine j_iconst (pc := 33) C (v := 1) d_Days_canLoseBoard_33 (by decide) ?_
      refine j_goto (pc := 34) C (tgt := 38) d_Days_canLoseBoard_34 (by decide) ?_
      exact j_iret (pc := 38) C hr (by decide) () (by decide) [0, 1, 2, 3, 4] rfl (by decide) (by decide) (by decide) d_Days_canLoseBoard_38
  · refine j_iald (pc := 8) C 2 rfl (v := nI q1) (vp_in_nI (by omega) (by decide)) (by rw [nI_clamp (by omega)]; exact e3) d_Days_canLoseBoard_8 ?_
    refine j_istore_n (pc := 9) C (lv' := [(3, .int (nI q1)), (0, .ref (ad 0)), (1, .ref h), (2, .int (nI j))]) d_Days_canLoseBoard_9 rfl (by decide) rfl ?_
    refine j_aload_n (pc := 10) C d_Days_canLoseBoard_10 rfl 2 rfl ?_
    refine j_get (pc := 11) C gf_Days_34 3 rfl rfl d_Days_canLoseBoard_11 ?_
    refine j_iload_n (pc := 14) C d_Days_canLoseBoard_14 rfl 3 rfl ?_
    refine j_iald (pc := 15) C 4 rfl (v := f0 (nI j).toNatClampNeg) (vp_in_nI (by omega) (by decide)) rfl d_Days_canLoseBoard_15 ?_
    refine j_if_le (pc := 16) C (tgt := 37) d_Days_canLoseBoard_16 (by decide) (fun c5 => ?_) (fun c5 => ?_)
    · refine j_iconst (pc := 37) C (v := 0) d_Days_canLoseBoard_37 (by decide) ?_
      exact j_iret (pc := 38) C hr (by decide) () (by decide) [0, 1, 2, 3, 4] rfl (by decide) (by decide) (by decide) d_Days_canLoseBoard_38
    · refine j_iload_n (pc := 19) C d_Days_canLoseBoard_19 rfl 0 rfl ?_
      refine j_iconst (pc := 20) C (v := (-1)) d_Days_canLoseBoard_20 (by decide) ?_
      refine j_icmp_eqF (pc := 21) C (tgt := 33) d_Days_canLoseBoard_21 (by decide) (nI_nm1 (by omega)) ?_
      refine j_aload_n (pc := 24) C d_Days_canLoseBoard_24 rfl 2 rfl ?_
      refine j_get (pc := 25) C gf_Days_34 3 rfl rfl d_Days_canLoseBoard_25 ?_
      refine j_iload_n (pc := 28) C d_Days_canLoseBoard_28 rfl 0 rfl ?_
      refine j_iald (pc := 29) C 4 rfl (v := f0 (nI q1).toNatClampNeg) (vp_in_nI (by omega) (by decide)) rfl d_Days_canLoseBoard_29 ?_
      refine j_if_le (pc := 30) C (tgt := 37) d_Days_canLoseBoard_30 (by decide) (fun c6 => ?_) (fun c6 => ?_)
      · refine j_iconst (pc := 37) C (v := 0) d_Days_canLoseBoard_37 (by decide) ?_
        exact j_iret (pc := 38) C hr (by decide) () (by decide) [0, 1, 2, 3, 4] rfl (by decide) (by decide) (by decide) d_Days_canLoseBoard_38
      · refine j_iconst (pc := 33) C (v := 1) d_Days_canLoseBoard_33 (by decide) ?_
        refine j_goto (pc := 34) C (tgt := 38) d_Days_canLoseBoard_34 (by decide) ?_
        exact j_iret (pc := 38) C hr (by decide) () (by decide) [0, 1, 2, 3, 4] rfl (by decide) (by decide) (by decide) d_Days_canLoseBoard_38
theorem d_Days_loseBoard_0 : decode prog_3_method_13_code 0 = .ok (.aload_n 0, 1) := by decide +kernel
theorem d_Days_loseBoard_1 : decode prog_3_method_13_code 1 = .ok (.getfield 25, 3) := by decide +kernel
theorem d_Days_loseBoard_4 : decode prog_3_method_13_code 4 = .ok (.getfield 29, 3) := by decide +kernel
theorem d_Days_loseBoard_7 : decode prog_3_method_13_code 7 = .ok (.iload_n 2, 1) := by decide +kernel
theorem d_Days_loseBoard_8 : decode prog_3_method_13_code 8 = .ok (.iaload, 1) := by decide +kernel
theorem d_Days_loseBoard_9 : decode prog_3_method_13_code 9 = .ok (.istore_n 3, 1) := by decide +kernel
theorem d_Days_loseBoard_10 : decode prog_3_method_13_code 10 = .ok (.aload_n 1, 1) := by decide +kernel
theorem d_Days_loseBoard_11 : decode prog_3_method_13_code 11 = .ok (.getfield 34, 3) := by decide +kernel
theorem d_Days_loseBoard_14 : decode prog_3_method_13_code 14 = .ok (.iload_n 2, 1) := by decide +kernel
theorem d_Days_loseBoard_15 : decode prog_3_method_13_code 15 = .ok (.dup2, 1) := by decide +kernel
theorem d_Days_loseBoard_16 : decode prog_3_method_13_code 16 = .ok (.iaload, 1) := by decide +kernel
theorem d_Days_loseBoard_17 : decode prog_3_method_13_code 17 = .ok (.iconst 1, 1) := by decide +kernel
theorem d_Days_loseBoard_18 : decode prog_3_method_13_code 18 = .ok (.isub, 1) := by decide +kernel
theorem d_Days_loseBoard_19 : decode prog_3_method_13_code 19 = .ok (.iastore, 1) := by decide +kernel
theorem d_Days_loseBoard_20 : decode prog_3_method_13_code 20 = .ok (.iload_n 3, 1) := by decide +kernel
theorem d_Days_loseBoard_21 : decode prog_3_method_13_code 21 = .ok (.iconst (-1), 1) := by decide +kernel
theorem d_Days_loseBoard_22 : decode prog_3_method_13_code 22 = .ok (.if_icmp .eq 13, 3) := by decide +kernel
theorem d_Days_loseBoard_35 : decode prog_3_method_13_code 35 = .ok (.return_, 1) := by decide +kernel
theorem d_Days_loseBoard_25 : decode prog_3_method_13_code 25 = .ok (.aload_n 1, 1) := by decide +kernel
theorem d_Days_loseBoard_26 : decode prog_3_method_13_code 26 = .ok (.getfield 34, 3) := by decide +kernel
theorem d_Days_loseBoard_29 : decode prog_3_method_13_code 29 = .ok (.iload_n 3, 1) := by decide +kernel
theorem d_Days_loseBoard_30 : decode prog_3_method_13_code 30 = .ok (.dup2, 1) := by decide +kernel
theorem d_Days_loseBoard_31 : decode prog_3_method_13_code 31 = .ok (.iaload, 1) := by decide +kernel
theorem d_Days_loseBoard_32 : decode prog_3_method_13_code 32 = .ok (.iconst 1, 1) := by decide +kernel
theorem d_Days_loseBoard_33 : decode prog_3_method_13_code 33 = .ok (.isub, 1) := by decide +kernel
theorem d_Days_loseBoard_34 : decode prog_3_method_13_code 34 = .ok (.iastore, 1) := by decide +kernel
set_option maxHeartbeats 4000000 in
set_option maxRecDepth 100000 in
theorem c_loseBoard (l : Launch) (D : va_G) (y : Nat → ClassId) (ad : Nat → Nat) (d : LD) (h : Nat) (sa : Nat → Nat) (sd : Int32) (sw : Int32) (sl : Int32) (f0 : Nat → Int32) (j : Nat) (hJ : ∀ j, j < 9 → d.2 6 j = -1 ∨ ∃ q, q < 9 ∧ d.2 6 j = nI q) (hj : j < 9) : CT l D y ⟨"NineBoards$Days", "loseBoard", "(LNineBoards$Lake;LNineBoards$State;I)V"⟩ prog_3_method_13_code 4 none ({ frames := 0, cells := 0, slots := 0, locals := 0 } : Room) [.ref (ad 0), .ref h, .int (nI j)] [(ad 0, .inr (2, [.int (d.1 0), .int (d.1 1), .int (d.1 2), .int (d.1 3), .ref (ad 1), .int (d.1 4), .ref (ad 11), .ref (ad 12), .ref (ad 2), .ref (ad 3), .int (d.1 5), .int (d.1 6), .int (d.1 7), .int (d.1 8)])), (ad 1, .inr (1, [.int (d.1 9), .ref (ad 4), .ref (ad 5), .ref (ad 6), .ref (ad 7), .ref (ad 8), .ref (ad 9), .ref (ad 10)])), (ad 10, .inl (y 0, 9, .inl (d.2 6))), (h, .inr (7, [.int sd, .int sw, .int sl, .ref (sa 0), .ref (sa 1), .ref (sa 2), .ref (sa 3), .ref (sa 4), .ref (sa 5), .ref (sa 6)])), (sa 0, .inl (y 0, 9, .inl f0))] (QV D [(ad 0, .inr (2, [.int (d.1 0), .int (d.1 1), .int (d.1 2), .int (d.1 3), .ref (ad 1), .int (d.1 4), .ref (ad 11), .ref (ad 12), .ref (ad 2), .ref (ad 3), .int (d.1 5), .int (d.1 6), .int (d.1 7), .int (d.1 8)])), (ad 1, .inr (1, [.int (d.1 9), .ref (ad 4), .ref (ad 5), .ref (ad 6), .ref (ad 7), .ref (ad 8), .ref (ad 9), .ref (ad 10)])), (ad 10, .inl (y 0, 9, .inl (d.2 6))), (h, .inr (7, [.int sd, .int sw, .int sl, .ref (sa 0), .ref (sa 1), .ref (sa 2), .ref (sa 3), .ref (sa 4), .ref (sa 5), .ref (sa 6)])), (sa 0, .inl (y 0, 9, .inl f0))] (fun (_ : Nat → Int32) => True) (fun u => [(ad 0, .inr (2, [.int (d.1 0), .int (d.1 1), .int (d.1 2), .int (d.1 3), .ref (ad 1), .int (d.1 4), .ref (ad 11), .ref (ad 12), .ref (ad 2), .ref (ad 3), .int (d.1 5), .int (d.1 6), .int (d.1 7), .int (d.1 8)])), (ad 1, .inr (1, [.int (d.1 9), .ref (ad 4), .ref (ad 5), .ref (ad 6), .ref (ad 7), .ref (ad 8), .ref (ad 9), .ref (ad 10)])), (ad 10, .inl (y 0, 9, .inl (d.2 6))), (h, .inr (7, [.int sd, .int sw, .int sl, .ref (sa 0), .ref (sa 1), .ref (sa 2), .ref (sa 3), .ref (sa 4), .ref (sa 5), .ref (sa 6)])), (sa 0, .inl (y 0, 9, .inl u))])) := by
  refine CT.of (by decide) (nb rfl) ?_
  intro p e s m args below meth c C hr
  refine j_lv (lv' := [(0, .ref (ad 0)), (1, .ref h), (2, .int (nI j))]) rfl ?_
  refine j_aload_n (pc := 0) C d_Days_loseBoard_0 rfl 0 rfl ?_
  refine j_get (pc := 1) C gf_Days_25 0 rfl rfl d_Days_loseBoard_1 ?_
  refine j_get (pc := 4) C gf_Days_29 1 rfl rfl d_Days_loseBoard_4 ?_
  refine j_iload_n (pc := 7) C d_Days_loseBoard_7 rfl 2 rfl ?_
  rcases hJ j (by omega) with e3 | ⟨q1, xh2, e3⟩
  · refine j_iald (pc := 8) C 2 rfl (v := (-1)) (vp_in_nI (by omega) (by decide)) (by rw [nI_clamp (by omega)]; exact e3) d_Days_loseBoard_8 ?_
    refine j_istore_n (pc := 9) C (lv' := [(3, .int (-1)), (0, .ref (ad 0)), (1, .ref h), (2, .int (nI j))]) d_Days_loseBoard_9 rfl (by decide) rfl ?_
    refine j_aload_n (pc := 10) C d_Days_loseBoard_10 rfl 2 rfl ?_
    refine j_get (pc := 11) C gf_Days_34 3 rfl rfl d_Days_loseBoard_11 ?_
    refine j_iload_n (pc := 14) C d_Days_loseBoard_14 rfl 3 rfl ?_
    refine j_dup2 (pc := 15) C d_Days_loseBoard_15 rfl rfl ?_
    refine j_iald (pc := 16) C 4 rfl (v := f0 (nI j).toNatClampNeg) (vp_in_nI (by omega) (by decide)) rfl d_Days_loseBoard_16 ?_
    refine j_iconst (pc := 17) C (v := 1) d_Days_loseBoard_17 (by decide) ?_
    refine j_isub (pc := 18) C (v := (f0 (nI j).toNatClampNeg) - 1) d_Days_loseBoard_18 rfl ?_
    refine j_iast (pc := 19) C 4 rfl (ws' := [(ad 0, .inr (2, [.int (d.1 0), .int (d.1 1), .int (d.1 2), .int (d.1 3), .ref (ad 1), .int (d.1 4), .ref (ad 11), .ref (ad 12), .ref (ad 2), .ref (ad 3), .int (d.1 5), .int (d.1 6), .int (d.1 7), .int (d.1 8)])), (ad 1, .inr (1, [.int (d.1 9), .ref (ad 4), .ref (ad 5), .ref (ad 6), .ref (ad 7), .ref (ad 8), .ref (ad 9), .ref (ad 10)])), (ad 10, .inl (y 0, 9, .inl (d.2 6))), (h, .inr (7, [.int sd, .int sw, .int sl, .ref (sa 0), .ref (sa 1), .ref (sa 2), .ref (sa 3), .ref (sa 4), .ref (sa 5), .ref (sa 6)])), (sa 0, .inl (y 0, 9, .inl (upd f0 (nI j).toNatClampNeg ((f0 (nI j).toNatClampNeg) - 1))))]) (vp_in_nI (by omega) (by decide)) rfl d_Days_loseBoard_19 ?_
    refine j_iload_n (pc := 20) C d_Days_loseBoard_20 rfl 0 rfl ?_
    refine j_iconst (pc := 21) C (v := (-1)) d_Days_loseBoard_21 (by decide) ?_
    refine j_icmp_eqT (pc := 22) C (tgt := 35) d_Days_loseBoard_22 (by decide) (by decide) ?_
    exact j_vret (pc := 35) C hr (upd f0 (nI j).toNatClampNeg ((f0 (nI j).toNatClampNeg) - 1)) trivial [0, 1, 2, 3, 4] rfl (by decide) (by decide) (by decide) d_Days_loseBoard_35
  · refine j_iald (pc := 8) C 2 rfl (v := nI q1) (vp_in_nI (by omega) (by decide)) (by rw [nI_clamp (by omega)]; exact e3) d_Days_loseBoard_8 ?_
    refine j_istore_n (pc := 9) C (lv' := [(3, .int (nI q1)), (0, .ref (ad 0)), (1, .ref h), (2, .int (nI j))]) d_Days_loseBoard_9 rfl (by decide) rfl ?_
    refine j_aload_n (pc := 10) C d_Days_loseBoard_10 rfl 2 rfl ?_
    refine j_get (pc := 11) C gf_Days_34 3 rfl rfl d_Days_loseBoard_11 ?_
    refine j_iload_n (pc := 14) C d_Days_loseBoard_14 rfl 3 rfl ?_
    refine j_dup2 (pc := 15) C d_Days_loseBoard_15 rfl rfl ?_
    refine j_iald (pc := 16) C 4 rfl (v := f0 (nI j).toNatClampNeg) (vp_in_nI (by omega) (by decide)) rfl d_Days_loseBoard_16 ?_
    refine j_iconst (pc := 17) C (v := 1) d_Days_loseBoard_17 (by decide) ?_
    refine j_isub (pc := 18) C (v := (f0 (nI j).toNatClampNeg) - 1) d_Days_loseBoard_18 rfl ?_
    refine j_iast (pc := 19) C 4 rfl (ws' := [(ad 0, .inr (2, [.int (d.1 0), .int (d.1 1), .int (d.1 2), .int (d.1 3), .ref (ad 1), .int (d.1 4), .ref (ad 11), .ref (ad 12), .ref (ad 2), .ref (ad 3), .int (d.1 5), .int (d.1 6), .int (d.1 7), .int (d.1 8)])), (ad 1, .inr (1, [.int (d.1 9), .ref (ad 4), .ref (ad 5), .ref (ad 6), .ref (ad 7), .ref (ad 8), .ref (ad 9), .ref (ad 10)])), (ad 10, .inl (y 0, 9, .inl (d.2 6))), (h, .inr (7, [.int sd, .int sw, .int sl, .ref (sa 0), .ref (sa 1), .ref (sa 2), .ref (sa 3), .ref (sa 4), .ref (sa 5), .ref (sa 6)])), (sa 0, .inl (y 0, 9, .inl (upd f0 (nI j).toNatClampNeg ((f0 (nI j).toNatClampNeg) - 1))))]) (vp_in_nI (by omega) (by decide)) rfl d_Days_loseBoard_19 ?_
    refine j_iload_n (pc := 20) C d_Days_loseBoard_20 rfl 0 rfl ?_
    refine j_iconst (pc := 21) C (v := (-1)) d_Days_loseBoard_21 (by decide) ?_
    refine j_icmp_eqF (pc := 22) C (tgt := 35) d_Days_loseBoard_22 (by decide) (nI_nm1 (by omega)) ?_
    refine j_aload_n (pc := 25) C d_Days_loseBoard_25 rfl 2 rfl ?_
    refine j_get (pc := 26) C gf_Days_34 3 rfl rfl d_Days_loseBoard_26 ?_
    refine j_iload_n (pc := 29) C d_Days_loseBoard_29 rfl 0 rfl ?_
    refine j_dup2 (pc := 30) C d_Days_loseBoard_30 rfl rfl ?_
    refine j_iald (pc := 31) C 4 rfl (v := (upd f0 (nI j).toNatClampNeg ((f0 (nI j).toNatClampNeg) - 1)) (nI q1).toNatClampNeg) (vp_in_nI (by omega) (by decide)) rfl d_Days_loseBoard_31 ?_
    refine j_iconst (pc := 32) C (v := 1) d_Days_loseBoard_32 (by decide) ?_
    refine j_isub (pc := 33) C (v := ((upd f0 (nI j).toNatClampNeg ((f0 (nI j).toNatClampNeg) - 1)) (nI q1).toNatClampNeg) - 1) d_Days_loseBoard_33 rfl ?_
    refine j_iast (pc := 34) C 4 rfl (ws' := [(ad 0, .inr (2, [.int (d.1 0), .int (d.1 1), .int (d.1 2), .int (d.1 3), .ref (ad 1), .int (d.1 4), .ref (ad 11), .ref (ad 12), .ref (ad 2), .ref (ad 3), .int (d.1 5), .int (d.1 6), .int (d.1 7), .int (d.1 8)])), (ad 1, .inr (1, [.int (d.1 9), .ref (ad 4), .ref (ad 5), .ref (ad 6), .ref (ad 7), .ref (ad 8), .ref (ad 9), .ref (ad 10)])), (ad 10, .inl (y 0, 9, .inl (d.2 6))), (h, .inr (7, [.int sd, .int sw, .int sl, .ref (sa 0), .ref (sa 1), .ref (sa 2), .ref (sa 3), .ref (sa 4), .ref (sa 5), .ref (sa 6)])), (sa 0, .inl (y 0, 9, .inl (upd (upd f0 (nI j).toNatClampNeg ((f0 (nI j).toNatClampNeg) - 1)) (nI q1).toNatClampNeg (((upd f0 (nI j).toNatClampNeg ((f0 (nI j).toNatClampNeg) - 1)) (nI q1).toNatClampNeg) - 1))))]) (vp_in_nI (by omega) (by decide)) rfl d_Days_loseBoard_34 ?_
    exact j_vret (pc := 35) C hr (upd (upd f0 (nI j).toNatClampNeg ((f0 (nI j).toNatClampNeg) - 1)) (nI q1).toNatClampNeg (((upd f0 (nI j).toNatClampNeg ((f0 (nI j).toNatClampNeg) - 1)) (nI q1).toNatClampNeg) - 1)) trivial [0, 1, 2, 3, 4] rfl (by decide) (by decide) (by decide) d_Days_loseBoard_35
