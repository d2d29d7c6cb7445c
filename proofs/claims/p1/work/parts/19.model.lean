theorem d_Model_feed_18 : decode prog_13_method_3_code 18 = .ok (.iload 6, 2) := by decide +kernel
theorem d_Model_feed_20 : decode prog_13_method_3_code 20 = .ok (.bipush 20, 2) := by decide +kernel
theorem d_Model_feed_22 : decode prog_13_method_3_code 22 = .ok (.if_icmp .ge 92, 3) := by decide +kernel
theorem d_Model_feed_25 : decode prog_13_method_3_code 25 = .ok (.iload 6, 2) := by decide +kernel
theorem d_Model_feed_27 : decode prog_13_method_3_code 27 = .ok (.iconst 4, 1) := by decide +kernel
theorem d_Model_feed_28 : decode prog_13_method_3_code 28 = .ok (.if_icmp .ge 7, 3) := by decide +kernel
theorem d_Model_feed_35 : decode prog_13_method_3_code 35 = .ok (.iload 6, 2) := by decide +kernel
theorem d_Model_feed_37 : decode prog_13_method_3_code 37 = .ok (.bipush 8, 2) := by decide +kernel
theorem d_Model_feed_39 : decode prog_13_method_3_code 39 = .ok (.if_icmp .ge 7, 3) := by decide +kernel
theorem d_Model_feed_46 : decode prog_13_method_3_code 46 = .ok (.iload 6, 2) := by decide +kernel
theorem d_Model_feed_48 : decode prog_13_method_3_code 48 = .ok (.bipush 12, 2) := by decide +kernel
theorem d_Model_feed_50 : decode prog_13_method_3_code 50 = .ok (.if_icmp .ge 7, 3) := by decide +kernel
theorem d_Model_feed_57 : decode prog_13_method_3_code 57 = .ok (.iload 6, 2) := by decide +kernel
theorem d_Model_feed_59 : decode prog_13_method_3_code 59 = .ok (.bipush 16, 2) := by decide +kernel
theorem d_Model_feed_61 : decode prog_13_method_3_code 61 = .ok (.if_icmp .ge 8, 3) := by decide +kernel
theorem d_Model_feed_69 : decode prog_13_method_3_code 69 = .ok (.iload 5, 2) := by decide +kernel
theorem d_Model_feed_71 : decode prog_13_method_3_code 71 = .ok (.istore 7, 2) := by decide +kernel
theorem d_Model_feed_73 : decode prog_13_method_3_code 73 = .ok (.aload_n 0, 1) := by decide +kernel
theorem d_Model_feed_74 : decode prog_13_method_3_code 74 = .ok (.getfield 7, 3) := by decide +kernel
theorem gf_Model_7 : GF "NineBoardsModel" 7 10 0 := ⟨_, _, _, rfl, ci_Model, by decide, (mt_5 (List.mem_of_getElem? (i := 88) rfl) rfl)⟩
theorem d_Model_feed_77 : decode prog_13_method_3_code 77 = .ok (.aload_n 0, 1) := by decide +kernel
theorem d_Model_feed_78 : decode prog_13_method_3_code 78 = .ok (.getfield 198, 3) := by decide +kernel
theorem gf_Model_198 : GF "NineBoardsModel" 198 10 1 := ⟨_, _, _, rfl, ci_Model, by decide, (mt_5 (List.mem_of_getElem? (i := 89) rfl) rfl)⟩
theorem d_Model_feed_81 : decode prog_13_method_3_code 81 = .ok (.iload 7, 2) := by decide +kernel
theorem d_Model_feed_83 : decode prog_13_method_3_code 83 = .ok (.bipush 8, 2) := by decide +kernel
theorem d_Model_feed_85 : decode prog_13_method_3_code 85 = .ok (.iconst 3, 1) := by decide +kernel
theorem d_Model_feed_86 : decode prog_13_method_3_code 86 = .ok (.iload 6, 2) := by decide +kernel
theorem d_Model_feed_88 : decode prog_13_method_3_code 88 = .ok (.iconst 4, 1) := by decide +kernel
theorem d_Model_feed_89 : decode prog_13_method_3_code 89 = .ok (.irem, 1) := by decide +kernel
theorem d_Model_feed_90 : decode prog_13_method_3_code 90 = .ok (.isub, 1) := by decide +kernel
theorem d_Model_feed_91 : decode prog_13_method_3_code 91 = .ok (.imul, 1) := by decide +kernel
theorem d_Model_feed_92 : decode prog_13_method_3_code 92 = .ok (.ishr, 1) := by decide +kernel
theorem d_Model_feed_93 : decode prog_13_method_3_code 93 = .ok (.sipush 255, 3) := by decide +kernel
theorem d_Model_feed_96 : decode prog_13_method_3_code 96 = .ok (.iand, 1) := by decide +kernel
theorem d_Model_feed_97 : decode prog_13_method_3_code 97 = .ok (.iastore, 1) := by decide +kernel
theorem d_Model_feed_98 : decode prog_13_method_3_code 98 = .ok (.aload_n 0, 1) := by decide +kernel
theorem d_Model_feed_99 : decode prog_13_method_3_code 99 = .ok (.dup, 1) := by decide +kernel
theorem d_Model_feed_100 : decode prog_13_method_3_code 100 = .ok (.getfield 198, 3) := by decide +kernel
theorem d_Model_feed_103 : decode prog_13_method_3_code 103 = .ok (.iconst 1, 1) := by decide +kernel
theorem d_Model_feed_104 : decode prog_13_method_3_code 104 = .ok (.iadd, 1) := by decide +kernel
theorem d_Model_feed_105 : decode prog_13_method_3_code 105 = .ok (.putfield 198, 3) := by decide +kernel
theorem pf_Model_198 : PF "NineBoardsModel" 198 10 1 (.int) false := ⟨_, _, _, ct_Model, rfl, ci_Model, by decide, (mt_5 (List.mem_of_getElem? (i := 89) rfl) rfl), cp_Model, cn_Model, rfl, by decide +kernel, (fun h => by cases h)⟩
theorem d_Model_feed_108 : decode prog_13_method_3_code 108 = .ok (.iinc 6 1, 3) := by decide +kernel
theorem d_Model_feed_111 : decode prog_13_method_3_code 111 = .ok (.goto (-93), 3) := by decide +kernel
theorem d_Model_feed_64 : decode prog_13_method_3_code 64 = .ok (.iload 4, 2) := by decide +kernel
theorem d_Model_feed_66 : decode prog_13_method_3_code 66 = .ok (.goto 5, 3) := by decide +kernel
theorem d_Model_feed_53 : decode prog_13_method_3_code 53 = .ok (.iload_n 3, 1) := by decide +kernel
theorem d_Model_feed_54 : decode prog_13_method_3_code 54 = .ok (.goto 17, 3) := by decide +kernel
theorem d_Model_feed_42 : decode prog_13_method_3_code 42 = .ok (.iload_n 2, 1) := by decide +kernel
theorem d_Model_feed_43 : decode prog_13_method_3_code 43 = .ok (.goto 28, 3) := by decide +kernel
theorem d_Model_feed_31 : decode prog_13_method_3_code 31 = .ok (.iload_n 1, 1) := by decide +kernel
theorem d_Model_feed_32 : decode prog_13_method_3_code 32 = .ok (.goto 39, 3) := by decide +kernel
theorem d_Model_feed_0 : decode prog_13_method_3_code 0 = .ok (.aload_n 0, 1) := by decide +kernel
theorem d_Model_feed_1 : decode prog_13_method_3_code 1 = .ok (.getfield 198, 3) := by decide +kernel
theorem d_Model_feed_4 : decode prog_13_method_3_code 4 = .ok (.bipush 20, 2) := by decide +kernel
theorem d_Model_feed_6 : decode prog_13_method_3_code 6 = .ok (.iadd, 1) := by decide +kernel
theorem d_Model_feed_7 : decode prog_13_method_3_code 7 = .ok (.sipush 1600, 3) := by decide +kernel
theorem d_Model_feed_10 : decode prog_13_method_3_code 10 = .ok (.if_icmp .le 5, 3) := by decide +kernel
theorem d_Model_feed_15 : decode prog_13_method_3_code 15 = .ok (.iconst 0, 1) := by decide +kernel
theorem d_Model_feed_16 : decode prog_13_method_3_code 16 = .ok (.istore 6, 2) := by decide +kernel
theorem d_Model_feed_114 : decode prog_13_method_3_code 114 = .ok (.aload_n 0, 1) := by decide +kernel
theorem d_Model_feed_115 : decode prog_13_method_3_code 115 = .ok (.getfield 198, 3) := by decide +kernel
theorem d_Model_feed_118 : decode prog_13_method_3_code 118 = .ok (.ireturn, 1) := by decide +kernel
set_option maxHeartbeats 4000000 in
set_option maxRecDepth 100000 in
theorem lp_feed {p : Program} {l : Launch} {e : Env} {s : State} {m : MethodId} {args : Array Value} {below : List Frame} {meth : Method} {c : Code} {Q : State → Prop} {D : va_G} {y : Nat → ClassId} {A : Nat → Prop} (C : Cx p s m args meth c D y A prog_13_method_3_code 8 "NineBoardsModel" "feed") (mo : Nat) (ad : Nat → Nat) (v1 : Int32) (v2 : Int32) (v3 : Int32) (v4 : Int32) (v5 : Int32) (kx : ∀ f : Nat → Int32, J p l e ({ frames := 0, cells := 0, slots := 0, locals := 0 } : Room) s m args below meth c Q D A 8 [MB mo ad (nI 20) 0 0 0 0 0 0 (-1) 0 0 0 0 0 0 0 0 0 0 1 0, (ad 0, .inl (y 0, 1600, .inl f))] [(0, .ref mo), (1, .int v1), (2, .int v2), (3, .int v3), (4, .int v4), (5, .int v5), (6, .int (nI 20))] 0 0 114 []) : ∀ (n : Nat) (i : Nat) (f : Nat → Int32), (i + n = 20) → J p l e ({ frames := 0, cells := 0, slots := 0, locals := 0 } : Room) s m args below meth c Q D A 8 [MB mo ad (nI i) 0 0 0 0 0 0 (-1) 0 0 0 0 0 0 0 0 0 0 1 0, (ad 0, .inl (y 0, 1600, .inl f))] [(0, .ref mo), (1, .int v1), (2, .int v2), (3, .int v3), (4, .int v4), (5, .int v5), (6, .int (nI i))] 0 0 18 [] := by
  intro n
  induction n with
  | zero =>
    intro i f hi
    obtain rfl : i = 20 := by omega
    refine j_iload (pc := 18) C d_Model_feed_18 6 rfl ?_
    refine j_bipush (pc := 20) C (v := 20) d_Model_feed_20 (by decide) ?_
    refine j_icmp_geT (pc := 22) C (tgt := 114) d_Model_feed_22 (by decide) (by decide) ?_
    exact kx f
  | succ n ih =>
    intro i f hi
    refine j_iload (pc := 18) C d_Model_feed_18 6 rfl ?_
    refine j_bipush (pc := 20) C (v := 20) d_Model_feed_20 (by decide) ?_
    refine j_icmp_geF (pc := 22) C (tgt := 114) d_Model_feed_22 (by decide) (show ¬ nI 20 ≤ nI i from nI_ge (by omega) (by decide)) ?_
    refine j_iload (pc := 25) C d_Model_feed_25 6 rfl ?_
    refine j_iconst (pc := 27) C (v := 4) d_Model_feed_27 (by decide) ?_
    refine j_icmp_ge (pc := 28) C (tgt := 35) d_Model_feed_28 (by decide) (fun c1 => ?_) (fun c1 => ?_)
    · refine j_iload (pc := 35) C d_Model_feed_35 6 rfl ?_
      refine j_bipush (pc := 37) C (v := 8) d_Model_feed_37 (by decide) ?_
      refine j_icmp_ge (pc := 39) C (tgt := 46) d_Model_feed_39 (by decide) (fun c2 => ?_) (fun c2 => ?_)
      · refine j_iload (pc := 46) C d_Model_feed_46 6 rfl ?_
        refine j_bipush (pc := 48) C (v := 12) d_Model_feed_48 (by decide) ?_
        refine j_icmp_ge (pc := 50) C (tgt := 57) d_Model_feed_50 (by decide) (fun c3 => ?_) (fun c3 => ?_)
        · refine j_iload (pc := 57) C d_Model_feed_57 6 rfl ?_
          refine j_bipush (pc := 59) C (v := 16) d_Model_feed_59 (by decide) ?_
          refine j_icmp_ge (pc := 61) C (tgt := 69) d_Model_feed_61 (by decide) (fun c4 => ?_) (fun c4 => ?_)
          · refine j_iload (pc := 69) C d_Model_feed_69 5 rfl ?_
            refine j_istore (pc := 71) C (lv' := [(7, .int v5), (0, .ref mo), (1, .int v1), (2, .int v2), (3, .int v3), (4, .int v4), (5, .int v5), (6, .int (nI i))]) d_Model_feed_71 (by decide) rfl ?_
            refine j_aload_n (pc := 73) C d_Model_feed_73 rfl 1 rfl ?_
            refine j_get (pc := 74) C gf_Model_7 0 rfl rfl d_Model_feed_74 ?_
            refine j_aload_n (pc := 77) C d_Model_feed_77 rfl 1 rfl ?_
            refine j_get (pc := 78) C gf_Model_198 0 rfl rfl d_Model_feed_78 ?_
            refine j_iload (pc := 81) C d_Model_feed_81 0 rfl ?_
            refine j_bipush (pc := 83) C (v := 8) d_Model_feed_83 (by decide) ?_
            refine j_iconst (pc := 85) C (v := 3) d_Model_feed_85 (by decide) ?_
            refine j_iload (pc := 86) C d_Model_feed_86 7 rfl ?_
            refine j_iconst (pc := 88) C (v := 4) d_Model_feed_88 (by decide) ?_
            refine j_irem (pc := 89) C (v := (nI i) - (nI i) / 4 * 4) d_Model_feed_89 (by decide) rfl ?_
            refine j_isub (pc := 90) C (v := 3 - ((nI i) - (nI i) / 4 * 4)) d_Model_feed_90 rfl ?_
            refine j_imul (pc := 91) C (v := 8 * (3 - ((nI i) - (nI i) / 4 * 4))) d_Model_feed_91 rfl ?_
            refine j_ishr (pc := 92) C (v := v5 >>> ((8 * (3 - ((nI i) - (nI i) / 4 * 4))) &&& 31)) d_Model_feed_92 rfl ?_
            refine j_sipush (pc := 93) C (v := 255) d_Model_feed_93 (by decide) ?_
            refine j_iand (pc := 96) C (v := (v5 >>> ((8 * (3 - ((nI i) - (nI i) / 4 * 4))) &&& 31)) &&& 255) d_Model_feed_96 rfl ?_
            refine j_iast (pc := 97) C 1 rfl (ws' := [MB mo ad (nI i) 0 0 0 0 0 0 (-1) 0 0 0 0 0 0 0 0 0 0 1 0, (ad 0, .inl (y 0, 1600, .inl (upd f (nI i).toNatClampNeg ((v5 >>> ((8 * (3 - ((nI i) - (nI i) / 4 * 4))) &&& 31)) &&& 255))))]) (vp_in_nI (by omega) (by decide)) rfl d_Model_feed_97 ?_
            refine j_aload_n (pc := 98) C d_Model_feed_98 rfl 1 rfl ?_
            refine j_dup (pc := 99) C d_Model_feed_99 rfl ?_
            refine j_get (pc := 100) C gf_Model_198 0 rfl rfl d_Model_feed_100 ?_
            refine j_iconst (pc := 103) C (v := 1) d_Model_feed_103 (by decide) ?_
            refine j_iadd (pc := 104) C (v := nI (i + 1)) d_Model_feed_104 (nI_1 _) ?_
            refine j_put (pc := 105) C pf_Model_198 0 (ws' := [MB mo ad (nI (i + 1)) 0 0 0 0 0 0 (-1) 0 0 0 0 0 0 0 0 0 0 1 0, (ad 0, .inl (y 0, 1600, .inl (upd f (nI i).toNatClampNeg ((v5 >>> ((8 * (3 - ((nI i) - (nI i) / 4 * 4))) &&& 31)) &&& 255))))]) rfl rfl rfl (nl rfl) rfl d_Model_feed_105 ?_
            refine j_iinc (pc := 108) C (v := nI (i + 1)) (lv' := [(6, .int (nI (i + 1))), (7, .int v5), (0, .ref mo), (1, .int v1), (2, .int v2), (3, .int v3), (4, .int v4), (5, .int v5)]) d_Model_feed_108 7 rfl (nI_1 _) (by decide) rfl ?_
            refine j_goto (pc := 111) C (tgt := 18) d_Model_feed_111 (by decide) ?_
            refine j_locs (lv' := [(0, .ref mo), (1, .int v1), (2, .int v2), (3, .int v3), (4, .int v4), (5, .int v5), (6, .int (nI (i + 1)))]) [2, 3, 4, 5, 6, 7, 0] rfl ?_
            exact ih (i + 1) _ (by omega)
          · refine j_iload (pc := 64) C d_Model_feed_64 4 rfl ?_
            refine j_goto (pc := 66) C (tgt := 71) d_Model_feed_66 (by decide) ?_
            refine j_istore (pc := 71) C (lv' := [(7, .int v4), (0, .ref mo), (1, .int v1), (2, .int v2), (3, .int v3), (4, .int v4), (5, .int v5), (6, .int (nI i))]) d_Model_feed_71 (by decide) rfl ?_
            refine j_aload_n (pc := 73) C d_Model_feed_73 rfl 1 rfl ?_
            refine j_get (pc := 74) C gf_Model_7 0 rfl rfl d_Model_feed_74 ?_
            refine j_aload_n (pc := 77) C d_Model_feed_77 rfl 1 rfl ?_
            refine j_get (pc := 78) C gf_Model_198 0 rfl rfl d_Model_feed_78 ?_
            refine j_iload (pc := 81) C d_Model_feed_81 0 rfl ?_
            refine j_bipush (pc := 83) C (v := 8) d_Model_feed_83 (by decide) ?_
            refine j_iconst (pc := 85) C (v := 3) d_Model_feed_85 (by decide) ?_
            refine j_iload (pc := 86) C d_Model_feed_86 7 rfl ?_
            refine j_iconst (pc := 88) C (v := 4) d_Model_feed_88 (by decide) ?_
            refine j_irem (pc := 89) C (v := (nI i) - (nI i) / 4 * 4) d_Model_feed_89 (by decide) rfl ?_
            refine j_isub (pc := 90) C (v := 3 - ((nI i) - (nI i) / 4 * 4)) d_Model_feed_90 rfl ?_
            refine j_imul (pc := 91) C (v := 8 * (3 - ((nI i) - (nI i) / 4 * 4))) d_Model_feed_91 rfl ?_
            refine j_ishr (pc := 92) C (v := v4 >>> ((8 * (3 - ((nI i) - (nI i) / 4 * 4))) &&& 31)) d_Model_feed_92 rfl ?_
            refine j_sipush (pc := 93) C (v := 255) d_Model_feed_93 (by decide) ?_
            refine j_iand (pc := 96) C (v := (v4 >>> ((8 * (3 - ((nI i) - (nI i) / 4 * 4))) &&& 31)) &&& 255) d_Model_feed_96 rfl ?_
            refine j_iast (pc := 97) C 1 rfl (ws' := [MB mo ad (nI i) 0 0 0 0 0 0 (-1) 0 0 0 0 0 0 0 0 0 0 1 0, (ad 0, .inl (y 0, 1600, .inl (upd f (nI i).toNatClampNeg ((v4 >>> ((8 * (3 - ((nI i) - (nI i) / 4 * 4))) &&& 31)) &&& 255))))]) (vp_in_nI (by omega) (by decide)) rfl d_Model_feed_97 ?_
            refine j_aload_n (pc := 98) C d_Model_feed_98 rfl 1 rfl ?_
            refine j_dup (pc := 99) C d_Model_feed_99 rfl ?_
            refine j_get (pc := 100) C gf_Model_198 0 rfl rfl d_Model_feed_100 ?_
            refine j_iconst (pc := 103) C (v := 1) d_Model_feed_103 (by decide) ?_
            refine j_iadd (pc := 104) C (v := nI (i + 1)) d_Model_feed_104 (nI_1 _) ?_
            refine j_put (pc := 105) C pf_Model_198 0 (ws' := [MB mo ad (nI (i + 1)) 0 0 0 0 0 0 (-1) 0 0 0 0 0 0 0 0 0 0 1 0, (ad 0, .inl (y 0, 1600, .inl (upd f (nI i).toNatClampNeg ((v4 >>> ((8 * (3 - ((nI i) - (nI i) / 4 * 4))) &&& 31)) &&& 255))))]) rfl rfl rfl (nl rfl) rfl d_Model_feed_105 ?_
            refine j_iinc (pc := 108) C (v := nI (i + 1)) (lv' := [(6, .int (nI (i + 1))), (7, .int v4), (0, .ref mo), (1, .int v1), (2, .int v2), (3, .int v3), (4, .int v4), (5, .int v5)]) d_Model_feed_108 7 rfl (nI_1 _) (by decide) rfl ?_
            refine j_goto (pc := 111) C (tgt := 18) d_Model_feed_111 (by decide) ?_
            refine j_locs (lv' := [(0, .ref mo), (1, .int v1), (2, .int v2), (3, .int v3), (4, .int v4), (5, .int v5), (6, .int (nI (i + 1)))]) [2, 3, 4, 5, 6, 7, 0] rfl ?_
            exact ih (i + 1) _ (by omega)
        · refine j_iload_n (pc := 53) C d_Model_feed_53 rfl 3 rfl ?_
          refine j_goto (pc := 54) C (tgt := 71) d_Model_feed_54 (by decide) ?_
          refine j_istore (pc := 71) C (lv' := [(7, .int v3), (0, .ref mo), (1, .int v1), (2, .int v2), (3, .int v3), (4, .int v4), (5, .int v5), (6, .int (nI i))]) d_Model_feed_71 (by decide) rfl ?_
          refine j_aload_n (pc := 73) C d_Model_feed_73 rfl 1 rfl ?_
          refine j_get (pc := 74) C gf_Model_7 0 rfl rfl d_Model_feed_74 ?_
          refine j_aload_n (pc := 77) C d_Model_feed_77 rfl 1 rfl ?_
          refine j_get (pc := 78) C gf_Model_198 0 rfl rfl d_Model_feed_78 ?_
          refine j_iload (pc := 81) C d_Model_feed_81 0 rfl ?_
          refine j_bipush (pc := 83) C (v := 8) d_Model_feed_83 (by decide) ?_
          refine j_iconst (pc := 85) C (v := 3) d_Model_feed_85 (by decide) ?_
          refine j_iload (pc := 86) C d_Model_feed_86 7 rfl ?_
          refine j_iconst (pc := 88) C (v := 4) d_Model_feed_88 (by decide) ?_
          refine j_irem (pc := 89) C (v := (nI i) - (nI i) / 4 * 4) d_Model_feed_89 (by decide) rfl ?_
          refine j_isub (pc := 90) C (v := 3 - ((nI i) - (nI i) / 4 * 4)) d_Model_feed_90 rfl ?_
          refine j_imul (pc := 91) C (v := 8 * (3 - ((nI i) - (nI i) / 4 * 4))) d_Model_feed_91 rfl ?_
          refine j_ishr (pc := 92) C (v := v3 >>> ((8 * (3 - ((nI i) - (nI i) / 4 * 4))) &&& 31)) d_Model_feed_92 rfl ?_
          refine j_sipush (pc := 93) C (v := 255) d_Model_feed_93 (by decide) ?_
          refine j_iand (pc := 96) C (v := (v3 >>> ((8 * (3 - ((nI i) - (nI i) / 4 * 4))) &&& 31)) &&& 255) d_Model_feed_96 rfl ?_
          refine j_iast (pc := 97) C 1 rfl (ws' := [MB mo ad (nI i) 0 0 0 0 0 0 (-1) 0 0 0 0 0 0 0 0 0 0 1 0, (ad 0, .inl (y 0, 1600, .inl (upd f (nI i).toNatClampNeg ((v3 >>> ((8 * (3 - ((nI i) - (nI i) / 4 * 4))) &&& 31)) &&& 255))))]) (vp_in_nI (by omega) (by decide)) rfl d_Model_feed_97 ?_
          refine j_aload_n (pc := 98) C d_Model_feed_98 rfl 1 rfl ?_
          refine j_dup (pc := 99) C d_Model_feed_99 rfl ?_
          refine j_get (pc := 100) C gf_Model_198 0 rfl rfl d_Model_feed_100 ?_
          refine j_iconst (pc := 103) C (v := 1) d_Model_feed_103 (by decide) ?_
          refine j_iadd (pc := 104) C (v := nI (i + 1)) d_Model_feed_104 (nI_1 _) ?_
          refine j_put (pc := 105) C pf_Model_198 0 (ws' := [MB mo ad (nI (i + 1)) 0 0 0 0 0 0 (-1) 0 0 0 0 0 0 0 0 0 0 1 0, (ad 0, .inl (y 0, 1600, .inl (upd f (nI i).toNatClampNeg ((v3 >>> ((8 * (3 - ((nI i) - (nI i) / 4 * 4))) &&& 31)) &&& 255))))]) rfl rfl rfl (nl rfl) rfl d_Model_feed_105 ?_
          refine j_iinc (pc := 108) C (v := nI (i + 1)) (lv' := [(6, .int (nI (i + 1))), (7, .int v3), (0, .ref mo), (1, .int v1), (2, .int v2), (3, .int v3), (4, .int v4), (5, .int v5)]) d_Model_feed_108 7 rfl (nI_1 _) (by decide) rfl ?_
          refine j_goto (pc := 111) C (tgt := 18) d_Model_feed_111 (by decide) ?_
          refine j_locs (lv' := [(0, .ref mo), (1, .int v1), (2, .int v2), (3, .int v3), (4, .int v4), (5, .int v5), (6, .int (nI (i + 1)))]) [2, 3, 4, 5, 6, 7, 0] rfl ?_
          exact ih (i + 1) _ (by omega)
      · refine j_iload_n (pc := 42) C d_Model_feed_42 rfl 2 rfl ?_
        refine j_goto (pc := 43) C (tgt := 71) d_Model_feed_43 (by decide) ?_
        refine j_istore (pc := 71) C (lv' := [(7, .int v2), (0, .ref mo), (1, .int v1), (2, .int v2), (3, .int v3), (4, .int v4), (5, .int v5), (6, .int (nI i))]) d_Model_feed_71 (by decide) rfl ?_
        refine j_aload_n (pc := 73) C d_Model_feed_73 rfl 1 rfl ?_
        refine j_get (pc := 74) C gf_Model_7 0 rfl rfl d_Model_feed_74 ?_
        refine j_aload_n (pc := 77) C d_Model_feed_77 rfl 1 rfl ?_
        refine j_get (pc := 78) C gf_Model_198 0 rfl rfl d_Model_feed_78 ?_
        refine j_iload (pc := 81) C d_Model_feed_81 0 rfl ?_
        refine j_bipush (pc := 83) C (v := 8) d_Model_feed_83 (by decide) ?_
        refine j_iconst (pc := 85) C (v := 3) d_Model_feed_85 (by decide) ?_
        refine j_iload (pc := 86) C d_Model_feed_86 7 rfl ?_
        refine j_iconst (pc := 88) C (v := 4) d_Model_feed_88 (by decide) ?_
        refine j_irem (pc := 89) C (v := (nI i) - (nI i) / 4 * 4) d_Model_feed_89 (by decide) rfl ?_
        refine j_isub (pc := 90) C (v := 3 - ((nI i) - (nI i) / 4 * 4)) d_Model_feed_90 rfl ?_
        refine j_imul (pc := 91) C (v := 8 * (3 - ((nI i) - (nI i) / 4 * 4))) d_Model_feed_91 rfl ?_
        refine j_ishr (pc := 92) C (v := v2 >>> ((8 * (3 - ((nI i) - (nI i) / 4 * 4))) &&& 31)) d_Model_feed_92 rfl ?_
        refine j_sipush (pc := 93) C (v := 255) d_Model_feed_93 (by decide) ?_
        refine j_iand (pc := 96) C (v := (v2 >>> ((8 * (3 - ((nI i) - (nI i) / 4 * 4))) &&& 31)) &&& 255) d_Model_feed_96 rfl ?_
        refine j_iast (pc := 97) C 1 rfl (ws' := [MB mo ad (nI i) 0 0 0 0 0 0 (-1) 0 0 0 0 0 0 0 0 0 0 1 0, (ad 0, .inl (y 0, 1600, .inl (upd f (nI i).toNatClampNeg ((v2 >>> ((8 * (3 - ((nI i) - (nI i) / 4 * 4))) &&& 31)) &&& 255))))]) (vp_in_nI (by omega) (by decide)) rfl d_Model_feed_97 ?_
        refine j_aload_n (pc := 98) C d_Model_feed_98 rfl 1 rfl ?_
        refine j_dup (pc := 99) C d_Model_feed_99 rfl ?_
        refine j_get (pc := 100) C gf_Model_198 0 rfl rfl d_Model_feed_100 ?_
        refine j_iconst (pc := 103) C (v := 1) d_Model_feed_103 (by decide) ?_
        refine j_iadd (pc := 104) C (v := nI (i + 1)) d_Model_feed_104 (nI_1 _) ?_
        refine j_put (pc := 105) C pf_Model_198 0 (ws' := [MB mo ad (nI (i + 1)) 0 0 0 0 0 0 (-1) 0 0 0 0 0 0 0 0 0 0 1 0, (ad 0, .inl (y 0, 1600, .inl (upd f (nI i).toNatClampNeg ((v2 >>> ((8 * (3 - ((nI i) - (nI i) / 4 * 4))) &&& 31)) &&& 255))))]) rfl rfl rfl (nl rfl) rfl d_Model_feed_105 ?_
        refine j_iinc (pc := 108) C (v := nI (i + 1)) (lv' := [(6, .int (nI (i + 1))), (7, .int v2), (0, .ref mo), (1, .int v1), (2, .int v2), (3, .int v3), (4, .int v4), (5, .int v5)]) d_Model_feed_108 7 rfl (nI_1 _) (by decide) rfl ?_
        refine j_goto (pc := 111) C (tgt := 18) d_Model_feed_111 (by decide) ?_
        refine j_locs (lv' := [(0, .ref mo), (1, .int v1), (2, .int v2), (3, .int v3), (4, .int v4), (5, .int v5), (6, .int (nI (i + 1)))]) [2, 3, 4, 5, 6, 7, 0] rfl ?_
        exact ih (i + 1) _ (by omega)
    · refine j_iload_n (pc := 31) C d_Model_feed_31 rfl 1 rfl ?_
      refine j_goto (pc := 32) C (tgt := 71) d_Model_feed_32 (by decide) ?_
      refine j_istore (pc := 71) C (lv' := [(7, .int v1), (0, .ref mo), (1, .int v1), (2, .int v2), (3, .int v3), (4, .int v4), (5, .int v5), (6, .int (nI i))]) d_Model_feed_71 (by decide) rfl ?_
      refine j_aload_n (pc := 73) C d_Model_feed_73 rfl 1 rfl ?_
      refine j_get (pc := 74) C gf_Model_7 0 rfl rfl d_Model_feed_74 ?_
      refine j_aload_n (pc := 77) C d_Model_feed_77 rfl 1 rfl ?_
      refine j_get (pc := 78) C gf_Model_198 0 rfl rfl d_Model_feed_78 ?_
      refine j_iload (pc := 81) C d_Model_feed_81 0 rfl ?_
      refine j_bipush (pc := 83) C (v := 8) d_Model_feed_83 (by decide) ?_
      refine j_iconst (pc := 85) C (v := 3) d_Model_feed_85 (by decide) ?_
      refine j_iload (pc := 86) C d_Model_feed_86 7 rfl ?_
      refine j_iconst (pc := 88) C (v := 4) d_Model_feed_88 (by decide) ?_
      refine j_irem (pc := 89) C (v := (nI i) - (nI i) / 4 * 4) d_Model_feed_89 (by decide) rfl ?_
      refine j_isub (pc := 90) C (v := 3 - ((nI i) - (nI i) / 4 * 4)) d_Model_feed_90 rfl ?_
      refine j_imul (pc := 91) C (v := 8 * (3 - ((nI i) - (nI i) / 4 * 4))) d_Model_feed_91 rfl ?_
      refine j_ishr (pc := 92) C (v := v1 >>> ((8 * (3 - ((nI i) - (nI i) / 4 * 4))) &&& 31)) d_Model_feed_92 rfl ?_
      refine j_sipush (pc := 93) C (v := 255) d_Model_feed_93 (by decide) ?_
      refine j_iand (pc := 96) C (v := (v1 >>> ((8 * (3 - ((nI i) - (nI i) / 4 * 4))) &&& 31)) &&& 255) d_Model_feed_96 rfl ?_
      refine j_iast (pc := 97) C 1 rfl (ws' := [MB mo ad (nI i) 0 0 0 0 0 0 (-1) 0 0 0 0 0 0 0 0 0 0 1 0, (ad 0, .inl (y 0, 1600, .inl (upd f (nI i).toNatClampNeg ((v1 >>> ((8 * (3 - ((nI i) - (nI i) / 4 * 4))) &&& 31)) &&& 255))))]) (vp_in_nI (by omega) (by decide)) rfl d_Model_feed_97 ?_
      refine j_aload_n (pc := 98) C d_Model_feed_98 rfl 1 rfl ?_
      refine j_dup (pc := 99) C d_Model_feed_99 rfl ?_
      refine j_get (pc := 100) C gf_Model_198 0 rfl rfl d_Model_feed_100 ?_
      refine j_iconst (pc := 103) C (v := 1) d_Model_feed_103 (by decide) ?_
      refine j_iadd (pc := 104) C (v := nI (i + 1)) d_Model_feed_104 (nI_1 _) ?_
      refine j_put (pc := 105) C pf_Model_198 0 (ws' := [MB mo ad (nI (i + 1)) 0 0 0 0 0 0 (-1) 0 0 0 0 0 0 0 0 0 0 1 0, (ad 0, .inl (y 0, 1600, .inl (upd f (nI i).toNatClampNeg ((v1 >>> ((8 * (3 - ((nI i) - (nI i) / 4 * 4))) &&& 31)) &&& 255))))]) rfl rfl rfl (nl rfl) rfl d_Model_feed_105 ?_
      refine j_iinc (pc := 108) C (v := nI (i + 1)) (lv' := [(6, .int (nI (i + 1))), (7, .int v1), (0, .ref mo), (1, .int v1), (2, .int v2), (3, .int v3), (4, .int v4), (5, .int v5)]) d_Model_feed_108 7 rfl (nI_1 _) (by decide) rfl ?_
      refine j_goto (pc := 111) C (tgt := 18) d_Model_feed_111 (by decide) ?_
      refine j_locs (lv' := [(0, .ref mo), (1, .int v1), (2, .int v2), (3, .int v3), (4, .int v4), (5, .int v5), (6, .int (nI (i + 1)))]) [2, 3, 4, 5, 6, 7, 0] rfl ?_
      exact ih (i + 1) _ (by omega)
set_option maxHeartbeats 4000000 in
set_option maxRecDepth 100000 in
theorem c_M_feed (l : Launch) (D : va_G) (y : Nat → ClassId) (mo : Nat) (ad : Nat → Nat) (v1 : Int32) (v2 : Int32) (v3 : Int32) (v4 : Int32) (v5 : Int32)  : CT l D y ⟨"NineBoardsModel", "feed", "(IIIII)I"⟩ prog_13_method_3_code 8 (some .int) ({ frames := 0, cells := 0, slots := 0, locals := 0 } : Room) [.ref mo, .int v1, .int v2, .int v3, .int v4, .int v5] [MB mo ad 0 0 0 0 0 0 0 (-1) 0 0 0 0 0 0 0 0 0 0 1 0, (ad 0, .inl (y 0, 1600, .inl (fun _ => 0)))] (QI D [MB mo ad 0 0 0 0 0 0 0 (-1) 0 0 0 0 0 0 0 0 0 0 1 0, (ad 0, .inl (y 0, 1600, .inl (fun _ => 0)))] (fun (r : Int32) (_ : Unit) => r = 20) (fun _ => [])) := by
  refine CT.of (by decide) (nb rfl) ?_
  intro p e s m args below meth c C hr
  refine j_lv (lv' := [(0, .ref mo), (1, .int v1), (2, .int v2), (3, .int v3), (4, .int v4), (5, .int v5)]) rfl ?_
  refine j_aload_n (pc := 0) C d_Model_feed_0 rfl 0 rfl ?_
  refine j_get (pc := 1) C gf_Model_198 0 rfl rfl d_Model_feed_1 ?_
  refine j_bipush (pc := 4) C (v := 20) d_Model_feed_4 (by decide) ?_
  refine j_iadd (pc := 6) C (v := 20) d_Model_feed_6 (by decide) ?_
  refine j_sipush (pc := 7) C (v := 1600) d_Model_feed_7 (by decide) ?_
  refine j_icmp_leT (pc := 10) C (tgt := 15) d_Model_feed_10 (by decide) (by decide) ?_
  refine j_iconst (pc := 15) C (v := 0) d_Model_feed_15 (by decide) ?_
  refine j_istore (pc := 16) C (lv' := [(6, .int 0), (0, .ref mo), (1, .int v1), (2, .int v2), (3, .int v3), (4, .int v4), (5, .int v5)]) d_Model_feed_16 (by decide) rfl ?_
  refine j_ws (ws' := [MB mo ad (nI 0) 0 0 0 0 0 0 (-1) 0 0 0 0 0 0 0 0 0 0 1 0, (ad 0, .inl (y 0, 1600, .inl (fun _ => 0)))]) rfl ?_
  refine j_locs (lv' := [(0, .ref mo), (1, .int v1), (2, .int v2), (3, .int v3), (4, .int v4), (5, .int v5), (6, .int 0)]) [1, 2, 3, 4, 5, 6, 0] rfl ?_
  refine j_lv (lv' := [(0, .ref mo), (1, .int v1), (2, .int v2), (3, .int v3), (4, .int v4), (5, .int v5), (6, .int (nI 0))]) rfl ?_
  refine lp_feed C mo ad v1 v2 v3 v4 v5 (fun f => ?_) 20 0 _ (by omega)
  refine j_aload_n (pc := 114) C d_Model_feed_114 rfl 0 rfl ?_
  refine j_get (pc := 115) C gf_Model_198 0 rfl rfl d_Model_feed_115 ?_
  exact j_iret (pc := 118) C hr rfl () (show nI 20 = 20 from rfl) [] rfl (by decide) (by decide) (by decide) d_Model_feed_118
theorem d_Model_end_0 : decode prog_13_method_4_code 0 = .ok (.iload_n 1, 1) := by decide +kernel
theorem d_Model_end_1 : decode prog_13_method_4_code 1 = .ok (.ifCond .lt 11, 3) := by decide +kernel
theorem d_Model_end_12 : decode prog_13_method_4_code 12 = .ok (.iconst 0, 1) := by decide +kernel
theorem d_Model_end_13 : decode prog_13_method_4_code 13 = .ok (.ireturn, 1) := by decide +kernel
theorem d_Model_end_4 : decode prog_13_method_4_code 4 = .ok (.iload_n 1, 1) := by decide +kernel
theorem d_Model_end_5 : decode prog_13_method_4_code 5 = .ok (.aload_n 0, 1) := by decide +kernel
theorem d_Model_end_6 : decode prog_13_method_4_code 6 = .ok (.getfield 198, 3) := by decide +kernel
theorem d_Model_end_9 : decode prog_13_method_4_code 9 = .ok (.if_icmp .le 5, 3) := by decide +kernel
theorem d_Model_end_14 : decode prog_13_method_4_code 14 = .ok (.aload_n 0, 1) := by decide +kernel
theorem d_Model_end_15 : decode prog_13_method_4_code 15 = .ok (.iload_n 1, 1) := by decide +kernel
theorem d_Model_end_16 : decode prog_13_method_4_code 16 = .ok (.putfield 198, 3) := by decide +kernel
theorem d_Model_end_19 : decode prog_13_method_4_code 19 = .ok (.iconst 1, 1) := by decide +kernel
theorem d_Model_end_20 : decode prog_13_method_4_code 20 = .ok (.ireturn, 1) := by decide +kernel
set_option maxHeartbeats 4000000 in
set_option maxRecDepth 100000 in
theorem c_M_end (l : Launch) (D : va_G) (y : Nat → ClassId) (mo : Nat) (ad : Nat → Nat) (n : Int32)  : CT l D y ⟨"NineBoardsModel", "end", "(I)Z"⟩ prog_13_method_4_code 2 (some .boolean) ({ frames := 0, cells := 0, slots := 0, locals := 0 } : Room) [.ref mo, .int n] [MB mo ad 0 0 0 0 0 0 0 (-1) 0 0 0 0 0 0 0 0 0 0 1 0] (QI D [MB mo ad 0 0 0 0 0 0 0 (-1) 0 0 0 0 0 0 0 0 0 0 1 0] (fun (r : Int32) (_ : Unit) => r = if n.toInt = 0 then 1 else 0) (fun _ => [])) := by
  refine CT.of (by decide) (nb rfl) ?_
  intro p e s m args below meth c C hr
  refine j_lv (lv' := [(0, .ref mo), (1, .int n)]) rfl ?_
  refine j_iload_n (pc := 0) C d_Model_end_0 rfl 1 rfl ?_
  refine j_if_lt (pc := 1) C (tgt := 12) d_Model_end_1 (by decide) (fun c1 => ?_) (fun c1 => ?_)
  · refine j_iconst (pc := 12) C (v := 0) d_Model_end_12 (by decide) ?_
    exact j_iret (pc := 13) C hr (by decide) () (by simp only [Int32.lt_iff_toInt_lt, Int32.le_iff_toInt_le, ← Int32.toInt_inj, (by decide : Int32.toInt 0 = 0), (by decide : Int32.toInt 1 = 1)] at c1; (first | rw [if_pos (by omega)] | rw [if_neg (by omega)])) [] rfl (by decide) (by decide) (by decide) d_Model_end_13
  · refine j_iload_n (pc := 4) C d_Model_end_4 rfl 1 rfl ?_
    refine j_aload_n (pc := 5) C d_Model_end_5 rfl 0 rfl ?_
    refine j_get (pc := 6) C gf_Model_198 0 rfl rfl d_Model_end_6 ?_
    refine j_icmp_le (pc := 9) C (tgt := 14) d_Model_end_9 (by decide) (fun c2 => ?_) (fun c2 => ?_)
    · refine j_aload_n (pc := 14) C d_Model_end_14 rfl 0 rfl ?_
      refine j_iload_n (pc := 15) C d_Model_end_15 rfl 1 rfl ?_
      refine j_put (pc := 16) C pf_Model_198 0 (ws' := [MB mo ad n 0 0 0 0 0 0 (-1) 0 0 0 0 0 0 0 0 0 0 1 0]) rfl rfl rfl (nl rfl) rfl d_Model_end_16 ?_
      refine j_iconst (pc := 19) C (v := 1) d_Model_end_19 (by decide) ?_
      exact j_iret (pc := 20) C hr (by decide) () (by simp only [Int32.lt_iff_toInt_lt, Int32.le_iff_toInt_le, ← Int32.toInt_inj, (by decide : Int32.toInt 0 = 0), (by decide : Int32.toInt 1 = 1)] at c1 c2; (first | rw [if_pos (by omega)] | rw [if_neg (by omega)])) [] rfl (by decide) (by decide) (by decide) d_Model_end_20
    · refine j_iconst (pc := 12) C (v := 0) d_Model_end_12 (by decide) ?_
      exact j_iret (pc := 13) C hr (by decide) () (by simp only [Int32.lt_iff_toInt_lt, Int32.le_iff_toInt_le, ← Int32.toInt_inj, (by decide : Int32.toInt 0 = 0), (by decide : Int32.toInt 1 = 1)] at c1 c2; (first | rw [if_pos (by omega)] | rw [if_neg (by omega)])) [] rfl (by decide) (by decide) (by decide) d_Model_end_13
theorem d_Model_fault_0 : decode prog_13_method_46_code 0 = .ok (.iload_n 1, 1) := by decide +kernel
theorem d_Model_fault_1 : decode prog_13_method_46_code 1 = .ok (.ifCond .ne 10, 3) := by decide +kernel
theorem d_Model_fault_11 : decode prog_13_method_46_code 11 = .ok (.iload_n 1, 1) := by decide +kernel
theorem d_Model_fault_12 : decode prog_13_method_46_code 12 = .ok (.iconst 1, 1) := by decide +kernel
theorem d_Model_fault_13 : decode prog_13_method_46_code 13 = .ok (.if_icmp .ne 10, 3) := by decide +kernel
theorem d_Model_fault_23 : decode prog_13_method_46_code 23 = .ok (.iconst (-1), 1) := by decide +kernel
theorem d_Model_fault_24 : decode prog_13_method_46_code 24 = .ok (.ireturn, 1) := by decide +kernel
theorem d_Model_fault_16 : decode prog_13_method_46_code 16 = .ok (.aload_n 0, 1) := by decide +kernel
theorem d_Model_fault_17 : decode prog_13_method_46_code 17 = .ok (.getfield 13, 3) := by decide +kernel
theorem gf_Model_13 : GF "NineBoardsModel" 13 10 8 := ⟨_, _, _, rfl, ci_Model, by decide, (mt_5 (List.mem_of_getElem? (i := 96) rfl) rfl)⟩
theorem d_Model_fault_20 : decode prog_13_method_46_code 20 = .ok (.goto 4, 3) := by decide +kernel
theorem d_Model_fault_4 : decode prog_13_method_46_code 4 = .ok (.aload_n 0, 1) := by decide +kernel
theorem d_Model_fault_5 : decode prog_13_method_46_code 5 = .ok (.getfield 332, 3) := by decide +kernel
theorem gf_Model_332 : GF "NineBoardsModel" 332 10 7 := ⟨_, _, _, rfl, ci_Model, by decide, (mt_5 (List.mem_of_getElem? (i := 95) rfl) rfl)⟩
theorem d_Model_fault_8 : decode prog_13_method_46_code 8 = .ok (.goto 16, 3) := by decide +kernel
set_option maxHeartbeats 4000000 in
set_option maxRecDepth 100000 in
theorem c_M_fault (l : Launch) (D : va_G) (y : Nat → ClassId) (mo : Nat) (ad : Nat → Nat) (n : Int32)  : CT l D y ⟨"NineBoardsModel", "fault", "(I)I"⟩ prog_13_method_46_code 2 (some .int) ({ frames := 0, cells := 0, slots := 0, locals := 0 } : Room) [.ref mo, .int n] [MB mo ad 0 0 0 0 0 0 0 (-1) 0 0 0 0 0 0 0 0 0 0 1 0] (QI D [MB mo ad 0 0 0 0 0 0 0 (-1) 0 0 0 0 0 0 0 0 0 0 1 0] (fun (r : Int32) (_ : Unit) => r = if n.toInt = 0 then 0 else -1) (fun _ => [])) := by
  refine CT.of (by decide) (nb rfl) ?_
  intro p e s m args below meth c C hr
  refine j_lv (lv' := [(0, .ref mo), (1, .int n)]) rfl ?_
  refine j_iload_n (pc := 0) C d_Model_fault_0 rfl 1 rfl ?_
  refine j_if_ne (pc := 1) C (tgt := 11) d_Model_fault_1 (by decide) (fun c1 => ?_) (fun c1 => ?_)
  · refine j_iload_n (pc := 11) C d_Model_fault_11 rfl 1 rfl ?_
    refine j_iconst (pc := 12) C (v := 1) d_Model_fault_12 (by decide) ?_
    refine j_icmp_ne (pc := 13) C (tgt := 23) d_Model_fault_13 (by decide) (fun c2 => ?_) (fun c2 => ?_)
    · refine j_iconst (pc := 23) C (v := (-1)) d_Model_fault_23 (by decide) ?_
      exact j_iret (pc := 24) C hr rfl () (by simp only [Int32.lt_iff_toInt_lt, Int32.le_iff_toInt_le, ← Int32.toInt_inj, (by decide : Int32.toInt 0 = 0), (by decide : Int32.toInt 1 = 1)] at c1 c2; (first | rw [if_pos (by omega)] | rw [if_neg (by omega)])) [] rfl (by decide) (by decide) (by decide) d_Model_fault_24
    · refine j_aload_n (pc := 16) C d_Model_fault_16 rfl 0 rfl ?_
      refine j_get (pc := 17) C gf_Model_13 0 rfl rfl d_Model_fault_17 ?_
      refine j_goto (pc := 20) C (tgt := 24) d_Model_fault_20 (by decide) ?_
      exact j_iret (pc := 24) C hr rfl () (by simp only [Int32.lt_iff_toInt_lt, Int32.le_iff_toInt_le, ← Int32.toInt_inj, (by decide : Int32.toInt 0 = 0), (by decide : Int32.toInt 1 = 1)] at c1 c2; (first | rw [if_pos (by omega)] | rw [if_neg (by omega)])) [] rfl (by decide) (by decide) (by decide) d_Model_fault_24
  · refine j_aload_n (pc := 4) C d_Model_fault_4 rfl 0 rfl ?_
    refine j_get (pc := 5) C gf_Model_332 0 rfl rfl d_Model_fault_5 ?_
    refine j_goto (pc := 8) C (tgt := 24) d_Model_fault_8 (by decide) ?_
    exact j_iret (pc := 24) C hr rfl () (by simp only [Int32.lt_iff_toInt_lt, Int32.le_iff_toInt_le, ← Int32.toInt_inj, (by decide : Int32.toInt 0 = 0), (by decide : Int32.toInt 1 = 1)] at c1; (first | rw [if_pos (by omega)] | rw [if_neg (by omega)])) [] rfl (by decide) (by decide) (by decide) d_Model_fault_24
theorem d_Model_has_0 : decode prog_13_method_72_code 0 = .ok (.iload_n 1, 1) := by decide +kernel
theorem d_Model_has_1 : decode prog_13_method_72_code 1 = .ok (.tableswitch 108 0 8 #[51, 56, 61, 69, 77, 84, 91, 96, 103], 51) := by decide +kernel
theorem d_Model_has_52 : decode prog_13_method_72_code 52 = .ok (.aload_n 0, 1) := by decide +kernel
theorem d_Model_has_53 : decode prog_13_method_72_code 53 = .ok (.invokevirtual 341, 3) := by decide +kernel
theorem d_Model_has_56 : decode prog_13_method_72_code 56 = .ok (.ireturn, 1) := by decide +kernel
theorem d_Model_has_57 : decode prog_13_method_72_code 57 = .ok (.aload_n 0, 1) := by decide +kernel
theorem d_Model_has_58 : decode prog_13_method_72_code 58 = .ok (.invokevirtual 448, 3) := by decide +kernel
theorem d_Model_has_61 : decode prog_13_method_72_code 61 = .ok (.ireturn, 1) := by decide +kernel
theorem d_Model_has_62 : decode prog_13_method_72_code 62 = .ok (.aload_n 0, 1) := by decide +kernel
theorem d_Model_has_63 : decode prog_13_method_72_code 63 = .ok (.getfield 117, 3) := by decide +kernel
theorem d_Model_has_66 : decode prog_13_method_72_code 66 = .ok (.bipush 6, 2) := by decide +kernel
theorem d_Model_has_68 : decode prog_13_method_72_code 68 = .ok (.iaload, 1) := by decide +kernel
theorem d_Model_has_69 : decode prog_13_method_72_code 69 = .ok (.ireturn, 1) := by decide +kernel
theorem d_Model_has_70 : decode prog_13_method_72_code 70 = .ok (.aload_n 0, 1) := by decide +kernel
theorem d_Model_has_71 : decode prog_13_method_72_code 71 = .ok (.getfield 117, 3) := by decide +kernel
theorem d_Model_has_74 : decode prog_13_method_72_code 74 = .ok (.bipush 7, 2) := by decide +kernel
theorem d_Model_has_76 : decode prog_13_method_72_code 76 = .ok (.iaload, 1) := by decide +kernel
theorem d_Model_has_77 : decode prog_13_method_72_code 77 = .ok (.ireturn, 1) := by decide +kernel
theorem d_Model_has_78 : decode prog_13_method_72_code 78 = .ok (.aload_n 0, 1) := by decide +kernel
theorem d_Model_has_79 : decode prog_13_method_72_code 79 = .ok (.getfield 158, 3) := by decide +kernel
theorem d_Model_has_82 : decode prog_13_method_72_code 82 = .ok (.iconst 0, 1) := by decide +kernel
theorem d_Model_has_83 : decode prog_13_method_72_code 83 = .ok (.iaload, 1) := by decide +kernel
theorem d_Model_has_84 : decode prog_13_method_72_code 84 = .ok (.ireturn, 1) := by decide +kernel
theorem d_Model_has_85 : decode prog_13_method_72_code 85 = .ok (.aload_n 0, 1) := by decide +kernel
theorem d_Model_has_86 : decode prog_13_method_72_code 86 = .ok (.getfield 158, 3) := by decide +kernel
theorem d_Model_has_89 : decode prog_13_method_72_code 89 = .ok (.iconst 1, 1) := by decide +kernel
theorem d_Model_has_90 : decode prog_13_method_72_code 90 = .ok (.iaload, 1) := by decide +kernel
theorem d_Model_has_91 : decode prog_13_method_72_code 91 = .ok (.ireturn, 1) := by decide +kernel
theorem d_Model_has_92 : decode prog_13_method_72_code 92 = .ok (.aload_n 0, 1) := by decide +kernel
theorem d_Model_has_93 : decode prog_13_method_72_code 93 = .ok (.invokevirtual 427, 3) := by decide +kernel
theorem d_Model_has_96 : decode prog_13_method_72_code 96 = .ok (.ireturn, 1) := by decide +kernel
theorem d_Model_has_97 : decode prog_13_method_72_code 97 = .ok (.aload_n 0, 1) := by decide +kernel
theorem d_Model_has_98 : decode prog_13_method_72_code 98 = .ok (.getfield 158, 3) := by decide +kernel
theorem d_Model_has_101 : decode prog_13_method_72_code 101 = .ok (.iconst 2, 1) := by decide +kernel
theorem d_Model_has_102 : decode prog_13_method_72_code 102 = .ok (.iaload, 1) := by decide +kernel
theorem d_Model_has_103 : decode prog_13_method_72_code 103 = .ok (.ireturn, 1) := by decide +kernel
theorem d_Model_has_104 : decode prog_13_method_72_code 104 = .ok (.aload_n 0, 1) := by decide +kernel
theorem d_Model_has_105 : decode prog_13_method_72_code 105 = .ok (.getfield 415, 3) := by decide +kernel
theorem d_Model_has_108 : decode prog_13_method_72_code 108 = .ok (.ireturn, 1) := by decide +kernel
theorem d_Model_has_109 : decode prog_13_method_72_code 109 = .ok (.iconst (-1), 1) := by decide +kernel
theorem d_Model_has_110 : decode prog_13_method_72_code 110 = .ok (.ireturn, 1) := by decide +kernel
set_option maxHeartbeats 4000000 in
set_option maxRecDepth 100000 in
theorem c_M_has (l : Launch) (D : va_G) (y : Nat → ClassId) (mo : Nat) (ad : Nat → Nat) (n : Int32)  : CT l D y ⟨"NineBoardsModel", "has", "(I)I"⟩ prog_13_method_72_code 2 (some .int) ({ frames := 1, cells := 0, slots := 0, locals := 20 } : Room) [.ref mo, .int n] [MB mo ad 0 0 0 0 0 0 0 (-1) 0 0 0 0 0 0 0 0 0 0 1 0, (ad 43, .inl (y 0, 8, .inl (fun _ => 0))), (ad 62, .inl (y 0, 63, .inl (dayF 0))), (ad 45, .inl (y 0, 14, .inl lakeF))] (QI D [MB mo ad 0 0 0 0 0 0 0 (-1) 0 0 0 0 0 0 0 0 0 0 1 0, (ad 43, .inl (y 0, 8, .inl (fun _ => 0))), (ad 62, .inl (y 0, 63, .inl (dayF 0))), (ad 45, .inl (y 0, 14, .inl lakeF))] (fun (r : Int32) (_ : Unit) => r = if 0 ≤ n.toInt ∧ n.toInt ≤ 8 then 0 else -1) (fun _ => [])) := by
  refine CT.of (by decide) (nb rfl) ?_
  intro p e s m args below meth c C hr
  refine j_lv (lv' := [(0, .ref mo), (1, .int n)]) rfl ?_
  refine j_iload_n (pc := 0) C d_Model_has_0 rfl 1 rfl ?_
  by_cases c1_0 : n = 0
  · refine j_tabIn (pc := 1) C (off := 51) (tgt := 52) d_Model_has_1 (by rw [c1_0]; decide) (by rw [c1_0]; decide) (by rw [c1_0]; decide) (by decide) ?_
    refine j_aload_n (pc := 52) C d_Model_has_52 rfl 0 rfl ?_
    refine j_callVi (pc := 53) C (c_M_gateMany l D y mo ad 0 0 1) kw_Model_341 kv_Model_gateMany 0 10 rfl rfl ⟨by decide, by decide⟩ ⟨by decide, by decide⟩ (wr := [(ad 62, .inl (y 0, 63, .inl (dayF 0))), (ad 45, .inl (y 0, 14, .inl lakeF))]) [0, 1] [2, 3] rfl rfl (by decide) (by decide) (by decide) (As := []) (rest := []) rfl (nb rfl) rfl d_Model_has_53 (fun r2 _ hr2 => ?_)
    subst hr2
    refine j_ws (ws' := [(ad 62, .inl (y 0, 63, .inl (dayF 0))), (ad 45, .inl (y 0, 14, .inl lakeF)), MB mo ad 0 0 0 0 0 0 0 (-1) 0 0 0 0 0 0 0 0 0 0 1 0, (ad 43, .inl (y 0, 8, .inl (fun _ => 0)))]) rfl ?_
    refine j_st (st' := [.int 0]) rfl ?_
    exact j_iret (pc := 56) C hr rfl () (by simp only [Int32.lt_iff_toInt_lt, Int32.le_iff_toInt_le, ← Int32.toInt_inj, (by decide : Int32.toInt 0 = 0), (by decide : Int32.toInt 1 = 1)] at c1_0; (first | rw [if_pos (by omega)] | rw [if_neg (by omega)])) [] rfl (by decide) (by decide) (by decide) d_Model_has_56
  · by_cases c1_1 : n = 1
    · refine j_tabIn (pc := 1) C (off := 56) (tgt := 57) d_Model_has_1 (by rw [c1_1]; decide) (by rw [c1_1]; decide) (by rw [c1_1]; decide) (by decide) ?_
      refine j_aload_n (pc := 57) C d_Model_has_57 rfl 0 rfl ?_
      refine j_callVi (pc := 58) C (c_M_villages l D y mo ad 0 0 1) kw_Model_448 kv_Model_villages 0 10 rfl rfl ⟨by decide, by decide⟩ ⟨by decide, by decide⟩ (wr := [(ad 62, .inl (y 0, 63, .inl (dayF 0))), (ad 45, .inl (y 0, 14, .inl lakeF))]) [0, 1] [2, 3] rfl rfl (by decide) (by decide) (by decide) (As := []) (rest := []) rfl (nb rfl) rfl d_Model_has_58 (fun r3 _ hr3 => ?_)
      subst hr3
      refine j_ws (ws' := [(ad 62, .inl (y 0, 63, .inl (dayF 0))), (ad 45, .inl (y 0, 14, .inl lakeF)), MB mo ad 0 0 0 0 0 0 0 (-1) 0 0 0 0 0 0 0 0 0 0 1 0, (ad 43, .inl (y 0, 8, .inl (fun _ => 0)))]) rfl ?_
      refine j_st (st' := [.int 0]) rfl ?_
      exact j_iret (pc := 61) C hr rfl () (by simp only [Int32.lt_iff_toInt_lt, Int32.le_iff_toInt_le, ← Int32.toInt_inj, (by decide : Int32.toInt 0 = 0), (by decide : Int32.toInt 1 = 1)] at c1_0 c1_1; (first | rw [if_pos (by omega)] | rw [if_neg (by omega)])) [] rfl (by decide) (by decide) (by decide) d_Model_has_61
    · by_cases c1_2 : n = 2
      · refine j_tabIn (pc := 1) C (off := 61) (tgt := 62) d_Model_has_1 (by rw [c1_2]; decide) (by rw [c1_2]; decide) (by rw [c1_2]; decide) (by decide) ?_
        refine j_aload_n (pc := 62) C d_Model_has_62 rfl 0 rfl ?_
        refine j_get (pc := 63) C gf_Model_117 0 rfl rfl d_Model_has_63 ?_
        refine j_bipush (pc := 66) C (v := 6) d_Model_has_66 (by decide) ?_
        refine j_iald (pc := 68) C 1 rfl (v := 0) (vin (by decide)) rfl d_Model_has_68 ?_
        exact j_iret (pc := 69) C hr rfl () (by simp only [Int32.lt_iff_toInt_lt, Int32.le_iff_toInt_le, ← Int32.toInt_inj, (by decide : Int32.toInt 0 = 0), (by decide : Int32.toInt 1 = 1), (by decide : Int32.toInt 2 = 2)] at c1_0 c1_1 c1_2; (first | rw [if_pos (by omega)] | rw [if_neg (by omega)])) [] rfl (by decide) (by decide) (by decide) d_Model_has_69
      · by_cases c1_3 : n = 3
        · refine j_tabIn (pc := 1) C (off := 69) (tgt := 70) d_Model_has_1 (by rw [c1_3]; decide) (by rw [c1_3]; decide) (by rw [c1_3]; decide) (by decide) ?_
          refine j_aload_n (pc := 70) C d_Model_has_70 rfl 0 rfl ?_
          refine j_get (pc := 71) C gf_Model_117 0 rfl rfl d_Model_has_71 ?_
          refine j_bipush (pc := 74) C (v := 7) d_Model_has_74 (by decide) ?_
          refine j_iald (pc := 76) C 1 rfl (v := 0) (vin (by decide)) rfl d_Model_has_76 ?_
          exact j_iret (pc := 77) C hr rfl () (by simp only [Int32.lt_iff_toInt_lt, Int32.le_iff_toInt_le, ← Int32.toInt_inj, (by decide : Int32.toInt 0 = 0), (by decide : Int32.toInt 1 = 1), (by decide : Int32.toInt 2 = 2), (by decide : Int32.toInt 3 = 3)] at c1_0 c1_1 c1_2 c1_3; (first | rw [if_pos (by omega)] | rw [if_neg (by omega)])) [] rfl (by decide) (by decide) (by decide) d_Model_has_77
        · by_cases c1_4 : n = 4
          · refine j_tabIn (pc := 1) C (off := 77) (tgt := 78) d_Model_has_1 (by rw [c1_4]; decide) (by rw [c1_4]; decide) (by rw [c1_4]; decide) (by decide) ?_
            refine j_aload_n (pc := 78) C d_Model_has_78 rfl 0 rfl ?_
            refine j_get (pc := 79) C gf_Model_158 0 rfl rfl d_Model_has_79 ?_
            refine j_iconst (pc := 82) C (v := 0) d_Model_has_82 (by decide) ?_
            refine j_iald (pc := 83) C 2 rfl (v := 0) (vin (by decide)) rfl d_Model_has_83 ?_
            exact j_iret (pc := 84) C hr rfl () (by simp only [Int32.lt_iff_toInt_lt, Int32.le_iff_toInt_le, ← Int32.toInt_inj, (by decide : Int32.toInt 0 = 0), (by decide : Int32.toInt 1 = 1), (by decide : Int32.toInt 2 = 2), (by decide : Int32.toInt 3 = 3), (by decide : Int32.toInt 4 = 4)] at c1_0 c1_1 c1_2 c1_3 c1_4; (first | rw [if_pos (by omega)] | rw [if_neg (by omega)])) [] rfl (by decide) (by decide) (by decide) d_Model_has_84
          · by_cases c1_5 : n = 5
            · refine j_tabIn (pc := 1) C (off := 84) (tgt := 85) d_Model_has_1 (by rw [c1_5]; decide) (by rw [c1_5]; decide) (by rw [c1_5]; decide) (by decide) ?_
              refine j_aload_n (pc := 85) C d_Model_has_85 rfl 0 rfl ?_
              refine j_get (pc := 86) C gf_Model_158 0 rfl rfl d_Model_has_86 ?_
              refine j_iconst (pc := 89) C (v := 1) d_Model_has_89 (by decide) ?_
              refine j_iald (pc := 90) C 2 rfl (v := 0) (vin (by decide)) rfl d_Model_has_90 ?_
              exact j_iret (pc := 91) C hr rfl () (by simp only [Int32.lt_iff_toInt_lt, Int32.le_iff_toInt_le, ← Int32.toInt_inj, (by decide : Int32.toInt 0 = 0), (by decide : Int32.toInt 1 = 1), (by decide : Int32.toInt 2 = 2), (by decide : Int32.toInt 3 = 3), (by decide : Int32.toInt 4 = 4), (by decide : Int32.toInt 5 = 5)] at c1_0 c1_1 c1_2 c1_3 c1_4 c1_5; (first | rw [if_pos (by omega)] | rw [if_neg (by omega)])) [] rfl (by decide) (by decide) (by decide) d_Model_has_91
            · by_cases c1_6 : n = 6
              · refine j_tabIn (pc := 1) C (off := 91) (tgt := 92) d_Model_has_1 (by rw [c1_6]; decide) (by rw [c1_6]; decide) (by rw [c1_6]; decide) (by decide) ?_
                refine j_aload_n (pc := 92) C d_Model_has_92 rfl 0 rfl ?_
                refine j_callVi (pc := 93) C (c_M_level l D y mo ad 0 0 1 0) kw_Model_427 kv_Model_level 0 10 rfl rfl ⟨by decide, by decide⟩ ⟨by decide, by decide⟩ (wr := [(ad 43, .inl (y 0, 8, .inl (fun _ => 0)))]) [0, 2, 3] [1] rfl rfl (by decide) (by decide) (by decide) (As := []) (rest := []) rfl (nb rfl) rfl d_Model_has_93 (fun r4 _ hr4 => ?_)
                subst hr4
                refine j_ws (ws' := [(ad 43, .inl (y 0, 8, .inl (fun _ => 0))), MB mo ad 0 0 0 0 0 0 0 (-1) 0 0 0 0 0 0 0 0 0 0 1 0, (ad 62, .inl (y 0, 63, .inl (dayF 0))), (ad 45, .inl (y 0, 14, .inl lakeF))]) rfl ?_
                refine j_st (st' := [.int 0]) rfl ?_
                exact j_iret (pc := 96) C hr rfl () (by simp only [Int32.lt_iff_toInt_lt, Int32.le_iff_toInt_le, ← Int32.toInt_inj, (by decide : Int32.toInt 0 = 0), (by decide : Int32.toInt 1 = 1), (by decide : Int32.toInt 2 = 2), (by decide : Int32.toInt 3 = 3), (by decide : Int32.toInt 4 = 4), (by decide : Int32.toInt 5 = 5), (by decide : Int32.toInt 6 = 6)] at c1_0 c1_1 c1_2 c1_3 c1_4 c1_5 c1_6; (first | rw [if_pos (by omega)] | rw [if_neg (by omega)])) [] rfl (by decide) (by decide) (by decide) d_Model_has_96
              · by_cases c1_7 : n = 7
                · refine j_tabIn (pc := 1) C (off := 96) (tgt := 97) d_Model_has_1 (by rw [c1_7]; decide) (by rw [c1_7]; decide) (by rw [c1_7]; decide) (by decide) ?_
                  refine j_aload_n (pc := 97) C d_Model_has_97 rfl 0 rfl ?_
                  refine j_get (pc := 98) C gf_Model_158 0 rfl rfl d_Model_has_98 ?_
                  refine j_iconst (pc := 101) C (v := 2) d_Model_has_101 (by decide) ?_
                  refine j_iald (pc := 102) C 2 rfl (v := 0) (vin (by decide)) rfl d_Model_has_102 ?_
                  exact j_iret (pc := 103) C hr rfl () (by simp only [Int32.lt_iff_toInt_lt, Int32.le_iff_toInt_le, ← Int32.toInt_inj, (by decide : Int32.toInt 0 = 0), (by decide : Int32.toInt 1 = 1), (by decide : Int32.toInt 2 = 2), (by decide : Int32.toInt 3 = 3), (by decide : Int32.toInt 4 = 4), (by decide : Int32.toInt 5 = 5), (by decide : Int32.toInt 6 = 6), (by decide : Int32.toInt 7 = 7)] at c1_0 c1_1 c1_2 c1_3 c1_4 c1_5 c1_6 c1_7; (first | rw [if_pos (by omega)] | rw [if_neg (by omega)])) [] rfl (by decide) (by decide) (by decide) d_Model_has_103
                · by_cases c1_8 : n = 8
                  · refine j_tabIn (pc := 1) C (off := 103) (tgt := 104) d_Model_has_1 (by rw [c1_8]; decide) (by rw [c1_8]; decide) (by rw [c1_8]; decide) (by decide) ?_
                    refine j_aload_n (pc := 104) C d_Model_has_104 rfl 0 rfl ?_
                    refine j_get (pc := 105) C gf_Model_415 0 rfl rfl d_Model_has_105 ?_
                    exact j_iret (pc := 108) C hr rfl () (by simp only [Int32.lt_iff_toInt_lt, Int32.le_iff_toInt_le, ← Int32.toInt_inj, (by decide : Int32.toInt 0 = 0), (by decide : Int32.toInt 1 = 1), (by decide : Int32.toInt 2 = 2), (by decide : Int32.toInt 3 = 3), (by decide : Int32.toInt 4 = 4), (by decide : Int32.toInt 5 = 5), (by decide : Int32.toInt 6 = 6), (by decide : Int32.toInt 7 = 7), (by decide : Int32.toInt 8 = 8)] at c1_0 c1_1 c1_2 c1_3 c1_4 c1_5 c1_6 c1_7 c1_8; (first | rw [if_pos (by omega)] | rw [if_neg (by omega)])) [] rfl (by decide) (by decide) (by decide) d_Model_has_108
                  · refine j_tabOut (pc := 1) C (tgt := 109) d_Model_has_1 (by exact to_0_8 c1_0 c1_1 c1_2 c1_3 c1_4 c1_5 c1_6 c1_7 c1_8) (by decide) ?_
                    refine j_iconst (pc := 109) C (v := (-1)) d_Model_has_109 (by decide) ?_
                    exact j_iret (pc := 110) C hr rfl () (by simp only [Int32.lt_iff_toInt_lt, Int32.le_iff_toInt_le, ← Int32.toInt_inj, (by decide : Int32.toInt 0 = 0), (by decide : Int32.toInt 1 = 1), (by decide : Int32.toInt 2 = 2), (by decide : Int32.toInt 3 = 3), (by decide : Int32.toInt 4 = 4), (by decide : Int32.toInt 5 = 5), (by decide : Int32.toInt 6 = 6), (by decide : Int32.toInt 7 = 7), (by decide : Int32.toInt 8 = 8)] at c1_0 c1_1 c1_2 c1_3 c1_4 c1_5 c1_6 c1_7 c1_8; (first | rw [if_pos (by omega)] | rw [if_neg (by omega)])) [] rfl (by decide) (by decide) (by decide) d_Model_has_110
theorem d_Model_letter_0 : decode prog_13_method_73_code 0 = .ok (.iload_n 1, 1) := by decide +kernel
theorem d_Model_letter_1 : decode prog_13_method_73_code 1 = .ok (.i2l, 1) := by decide +kernel
theorem d_Model_letter_2 : decode prog_13_method_73_code 2 = .ok (.lconst 0, 1) := by decide +kernel
theorem d_Model_letter_3 : decode prog_13_method_73_code 3 = .ok (.lconst 1, 1) := by decide +kernel
theorem d_Model_letter_4 : decode prog_13_method_73_code 4 = .ok (.invokestatic 240, 3) := by decide +kernel
theorem d_Model_letter_7 : decode prog_13_method_73_code 7 = .ok (.ifCond .eq 35, 3) := by decide +kernel
theorem d_Model_letter_10 : decode prog_13_method_73_code 10 = .ok (.iload_n 2, 1) := by decide +kernel
theorem d_Model_letter_11 : decode prog_13_method_73_code 11 = .ok (.i2l, 1) := by decide +kernel
theorem d_Model_letter_12 : decode prog_13_method_73_code 12 = .ok (.lconst 0, 1) := by decide +kernel
theorem d_Model_letter_13 : decode prog_13_method_73_code 13 = .ok (.aload_n 0, 1) := by decide +kernel
theorem d_Model_letter_14 : decode prog_13_method_73_code 14 = .ok (.getfield 117, 3) := by decide +kernel
theorem d_Model_letter_17 : decode prog_13_method_73_code 17 = .ok (.iconst 4, 1) := by decide +kernel
theorem d_Model_letter_18 : decode prog_13_method_73_code 18 = .ok (.iload_n 1, 1) := by decide +kernel
theorem d_Model_letter_19 : decode prog_13_method_73_code 19 = .ok (.iadd, 1) := by decide +kernel
theorem d_Model_letter_20 : decode prog_13_method_73_code 20 = .ok (.iaload, 1) := by decide +kernel
theorem d_Model_letter_21 : decode prog_13_method_73_code 21 = .ok (.iconst 1, 1) := by decide +kernel
theorem d_Model_letter_22 : decode prog_13_method_73_code 22 = .ok (.isub, 1) := by decide +kernel
theorem d_Model_letter_23 : decode prog_13_method_73_code 23 = .ok (.i2l, 1) := by decide +kernel
theorem d_Model_letter_24 : decode prog_13_method_73_code 24 = .ok (.invokestatic 240, 3) := by decide +kernel
theorem d_Model_letter_27 : decode prog_13_method_73_code 27 = .ok (.ifCond .eq 15, 3) := by decide +kernel
theorem d_Model_letter_42 : decode prog_13_method_73_code 42 = .ok (.iconst (-1), 1) := by decide +kernel
theorem d_Model_letter_43 : decode prog_13_method_73_code 43 = .ok (.ireturn, 1) := by decide +kernel
set_option maxHeartbeats 4000000 in
set_option maxRecDepth 100000 in
theorem c_M_letter (l : Launch) (D : va_G) (y : Nat → ClassId) (mo : Nat) (ad : Nat → Nat) (va : Int32) (vb : Int32) (vc : Int32)  : CT l D y ⟨"NineBoardsModel", "letter", "(III)I"⟩ prog_13_method_73_code 9 (some .int) ({ frames := 1, cells := 0, slots := 0, locals := 25 } : Room) [.ref mo, .int va, .int vb, .int vc] [MB mo ad 0 0 0 0 0 0 0 (-1) 0 0 0 0 0 0 0 0 0 0 1 0, (ad 43, .inl (y 0, 8, .inl (fun _ => 0)))] (QI D [MB mo ad 0 0 0 0 0 0 0 (-1) 0 0 0 0 0 0 0 0 0 0 1 0, (ad 43, .inl (y 0, 8, .inl (fun _ => 0)))] (fun (r : Int32) (_ : Unit) => r = (-1)) (fun _ => [])) := by
  refine CT.of (by decide) (nb rfl) ?_
  intro p e s m args below meth c C hr
  refine j_lv (lv' := [(0, .ref mo), (1, .int va), (2, .int vb), (3, .int vc)]) rfl ?_
  refine j_iload_n (pc := 0) C d_Model_letter_0 rfl 1 rfl ?_
  refine j_i2l (pc := 1) C (v := va.toInt64) d_Model_letter_1 rfl ?_
  refine j_lconst (pc := 2) C (v := 0) d_Model_letter_2 (by decide) ?_
  refine j_lconst (pc := 3) C (v := 1) d_Model_letter_3 (by decide) ?_
  refine j_callSi (pc := 4) C (c_isIn_x l D y va 0 1 0 1 (by decide) (by decide)) kw_Model_240 ks_Model_isIn ⟨by decide, by decide⟩ ⟨by decide, by decide⟩ (wr := [MB mo ad 0 0 0 0 0 0 0 (-1) 0 0 0 0 0 0 0 0 0 0 1 0, (ad 43, .inl (y 0, 8, .inl (fun _ => 0)))]) [] [0, 1] rfl rfl (by decide) (by decide) (by decide) (As := [.long va.toInt64, .long 0, .long 1]) (rest := []) rfl (nb rfl) rfl d_Model_letter_4 (fun r1 _ hr1 => ?_)
  refine j_ws (ws' := [MB mo ad 0 0 0 0 0 0 0 (-1) 0 0 0 0 0 0 0 0 0 0 1 0, (ad 43, .inl (y 0, 8, .inl (fun _ => 0)))]) rfl ?_
  by_cases g2 : 0 ≤ va.toInt ∧ va.toInt ≤ 1
  · rw [if_pos g2] at hr1
    subst hr1
    refine j_if_eqF (pc := 7) C (tgt := 42) d_Model_letter_7 (by decide) (by decide) ?_
    by_cases e3 : va = 0
    · subst e3
      refine j_iload_n (pc := 10) C d_Model_letter_10 rfl 2 rfl ?_
      refine j_i2l (pc := 11) C (v := vb.toInt64) d_Model_letter_11 rfl ?_
      refine j_lconst (pc := 12) C (v := 0) d_Model_letter_12 (by decide) ?_
      refine j_aload_n (pc := 13) C d_Model_letter_13 rfl 0 rfl ?_
      refine j_get (pc := 14) C gf_Model_117 0 rfl rfl d_Model_letter_14 ?_
      refine j_iconst (pc := 17) C (v := 4) d_Model_letter_17 (by decide) ?_
      refine j_iload_n (pc := 18) C d_Model_letter_18 rfl 1 rfl ?_
      refine j_iadd (pc := 19) C (v := 4) d_Model_letter_19 (by decide) ?_
      refine j_iald (pc := 20) C 1 rfl (v := 0) (vin (by decide)) rfl d_Model_letter_20 ?_
      refine j_iconst (pc := 21) C (v := 1) d_Model_letter_21 (by decide) ?_
      refine j_isub (pc := 22) C (v := (-1)) d_Model_letter_22 (by decide) ?_
      refine j_i2l (pc := 23) C (v := (-1)) d_Model_letter_23 (by decide) ?_
      refine j_callSi (pc := 24) C (c_isIn_x l D y vb 0 (-1) 0 (-1) (by decide) (by decide)) kw_Model_240 ks_Model_isIn ⟨by decide, by decide⟩ ⟨by decide, by decide⟩ (wr := [MB mo ad 0 0 0 0 0 0 0 (-1) 0 0 0 0 0 0 0 0 0 0 1 0, (ad 43, .inl (y 0, 8, .inl (fun _ => 0)))]) [] [0, 1] rfl rfl (by decide) (by decide) (by decide) (As := [.long vb.toInt64, .long 0, .long (-1)]) (rest := []) rfl (nb rfl) rfl d_Model_letter_24 (fun r4 _ hr4 => ?_)
      refine j_ws (ws' := [MB mo ad 0 0 0 0 0 0 0 (-1) 0 0 0 0 0 0 0 0 0 0 1 0, (ad 43, .inl (y 0, 8, .inl (fun _ => 0)))]) rfl ?_
      rw [if_neg (by omega)] at hr4
      subst hr4
      refine j_if_eqT (pc := 27) C (tgt := 42) d_Model_letter_27 (by decide) (by decide) ?_
      refine j_iconst (pc := 42) C (v := (-1)) d_Model_letter_42 (by decide) ?_
      exact j_iret (pc := 43) C hr rfl () rfl [] rfl (by decide) (by decide) (by decide) d_Model_letter_43
    · by_cases e5 : va = 1
      · subst e5
        refine j_iload_n (pc := 10) C d_Model_letter_10 rfl 2 rfl ?_
        refine j_i2l (pc := 11) C (v := vb.toInt64) d_Model_letter_11 rfl ?_
        refine j_lconst (pc := 12) C (v := 0) d_Model_letter_12 (by decide) ?_
        refine j_aload_n (pc := 13) C d_Model_letter_13 rfl 0 rfl ?_
        refine j_get (pc := 14) C gf_Model_117 0 rfl rfl d_Model_letter_14 ?_
        refine j_iconst (pc := 17) C (v := 4) d_Model_letter_17 (by decide) ?_
        refine j_iload_n (pc := 18) C d_Model_letter_18 rfl 1 rfl ?_
        refine j_iadd (pc := 19) C (v := 5) d_Model_letter_19 (by decide) ?_
        refine j_iald (pc := 20) C 1 rfl (v := 0) (vin (by decide)) rfl d_Model_letter_20 ?_
        refine j_iconst (pc := 21) C (v := 1) d_Model_letter_21 (by decide) ?_
        refine j_isub (pc := 22) C (v := (-1)) d_Model_letter_22 (by decide) ?_
        refine j_i2l (pc := 23) C (v := (-1)) d_Model_letter_23 (by decide) ?_
        refine j_callSi (pc := 24) C (c_isIn_x l D y vb 0 (-1) 0 (-1) (by decide) (by decide)) kw_Model_240 ks_Model_isIn ⟨by decide, by decide⟩ ⟨by decide, by decide⟩ (wr := [MB mo ad 0 0 0 0 0 0 0 (-1) 0 0 0 0 0 0 0 0 0 0 1 0, (ad 43, .inl (y 0, 8, .inl (fun _ => 0)))]) [] [0, 1] rfl rfl (by decide) (by decide) (by decide) (As := [.long vb.toInt64, .long 0, .long (-1)]) (rest := []) rfl (nb rfl) rfl d_Model_letter_24 (fun r6 _ hr6 => ?_)
        refine j_ws (ws' := [MB mo ad 0 0 0 0 0 0 0 (-1) 0 0 0 0 0 0 0 0 0 0 1 0, (ad 43, .inl (y 0, 8, .inl (fun _ => 0)))]) rfl ?_
        rw [if_neg (by omega)] at hr6
        subst hr6
        refine j_if_eqT (pc := 27) C (tgt := 42) d_Model_letter_27 (by decide) (by decide) ?_
        refine j_iconst (pc := 42) C (v := (-1)) d_Model_letter_42 (by decide) ?_
        exact j_iret (pc := 43) C hr rfl () rfl [] rfl (by decide) (by decide) (by decide) d_Model_letter_43
      · exfalso; simp only [← Int32.toInt_inj, (by decide : Int32.toInt 0 = 0), (by decide : Int32.toInt 1 = 1)] at e3 e5; omega
  · rw [if_neg g2] at hr1
    subst hr1
    refine j_if_eqT (pc := 7) C (tgt := 42) d_Model_letter_7 (by decide) (by decide) ?_
    refine j_iconst (pc := 42) C (v := (-1)) d_Model_letter_42 (by decide) ?_
    exact j_iret (pc := 43) C hr rfl () rfl [] rfl (by decide) (by decide) (by decide) d_Model_letter_43
theorem d_Model_gate_0 : decode prog_13_method_76_code 0 = .ok (.aload_n 0, 1) := by decide +kernel
theorem d_Model_gate_1 : decode prog_13_method_76_code 1 = .ok (.iload_n 1, 1) := by decide +kernel
theorem d_Model_gate_2 : decode prog_13_method_76_code 2 = .ok (.invokevirtual 465, 3) := by decide +kernel
theorem kw_Model_465 : KW "NineBoardsModel" 465 ⟨"NineBoardsModel", "isGate", "(I)Z"⟩ prog_13_method_74_code 2 (some .boolean) 1 := ⟨(mt_7 (List.mem_of_getElem? (i := 56) rfl) rfl), (mt_1 (List.mem_of_getElem? (i := 16) rfl) rfl), (mt_7 (List.mem_of_getElem? (i := 59) rfl) rfl), by decide +kernel⟩
theorem kv_Model_isGate : Cond.instanceMethod ⟨"NineBoardsModel", "isGate", "(I)Z"⟩ ∈ TB ∧ Cond.selects "NineBoardsModel" ⟨"NineBoardsModel", "isGate", "(I)Z"⟩ ⟨"NineBoardsModel", "isGate", "(I)Z"⟩ ∈ TB := ⟨(mt_7 (List.mem_of_getElem? (i := 58) rfl) rfl), (ms_0 (List.mem_map.mpr ⟨(⟨"NineBoardsModel", "isGate", "(I)Z"⟩, 79), List.mem_of_getElem? (i := 91) (by decide +kernel), rfl⟩) rfl)⟩
theorem d_Model_gate_5 : decode prog_13_method_76_code 5 = .ok (.ifCond .ne 5, 3) := by decide +kernel
theorem d_Model_gate_8 : decode prog_13_method_76_code 8 = .ok (.iconst (-1), 1) := by decide +kernel
theorem d_Model_gate_9 : decode prog_13_method_76_code 9 = .ok (.ireturn, 1) := by decide +kernel
set_option maxHeartbeats 4000000 in
set_option maxRecDepth 100000 in
theorem c_M_gate (l : Launch) (D : va_G) (y : Nat → ClassId) (mo : Nat) (ad : Nat → Nat) (va : Int32) (vb : Int32)  : CT l D y ⟨"NineBoardsModel", "gate", "(II)I"⟩ prog_13_method_76_code 4 (some .int) ({ frames := 2, cells := 0, slots := 0, locals := 46 } : Room) [.ref mo, .int va, .int vb] [MB mo ad 0 0 0 0 0 0 0 (-1) 0 0 0 0 0 0 0 0 0 0 1 0, (ad 43, .inl (y 0, 8, .inl (fun _ => 0)))] (QI D [MB mo ad 0 0 0 0 0 0 0 (-1) 0 0 0 0 0 0 0 0 0 0 1 0, (ad 43, .inl (y 0, 8, .inl (fun _ => 0)))] (fun (r : Int32) (_ : Unit) => r = (-1)) (fun _ => [])) := by
  refine CT.of (by decide) (nb rfl) ?_
  intro p e s m args below meth c C hr
  refine j_lv (lv' := [(0, .ref mo), (1, .int va), (2, .int vb)]) rfl ?_
  refine j_aload_n (pc := 0) C d_Model_gate_0 rfl 0 rfl ?_
  refine j_iload_n (pc := 1) C d_Model_gate_1 rfl 1 rfl ?_
  refine j_callVi (pc := 2) C (c_M_isGate l D y mo ad 0 0 1 va) kw_Model_465 kv_Model_isGate 0 10 rfl rfl ⟨by decide, by decide⟩ ⟨by decide, by decide⟩ (wr := []) [0, 1] [] rfl rfl (by decide) (by decide) (by decide) (As := [.int va]) (rest := []) rfl (nb rfl) rfl d_Model_gate_2 (fun r1 _ hr1 => ?_)
  subst hr1
  refine j_ws (ws' := [MB mo ad 0 0 0 0 0 0 0 (-1) 0 0 0 0 0 0 0 0 0 0 1 0, (ad 43, .inl (y 0, 8, .inl (fun _ => 0)))]) rfl ?_
  refine j_st (st' := [.int 0]) rfl ?_
  refine j_if_neF (pc := 5) C (tgt := 10) d_Model_gate_5 (by decide) (by decide) ?_
  refine j_iconst (pc := 8) C (v := (-1)) d_Model_gate_8 (by decide) ?_
  exact j_iret (pc := 9) C hr rfl () rfl [] rfl (by decide) (by decide) (by decide) d_Model_gate_9
theorem d_Model_stream_0 : decode prog_13_method_77_code 0 = .ok (.aload_n 0, 1) := by decide +kernel
theorem d_Model_stream_1 : decode prog_13_method_77_code 1 = .ok (.iload_n 1, 1) := by decide +kernel
theorem d_Model_stream_2 : decode prog_13_method_77_code 2 = .ok (.invokevirtual 465, 3) := by decide +kernel
theorem d_Model_stream_5 : decode prog_13_method_77_code 5 = .ok (.ifCond .eq 16, 3) := by decide +kernel
theorem d_Model_stream_21 : decode prog_13_method_77_code 21 = .ok (.ldc2_w 468, 3) := by decide +kernel
theorem d_Model_stream_24 : decode prog_13_method_77_code 24 = .ok (.lreturn, 1) := by decide +kernel
set_option maxHeartbeats 4000000 in
set_option maxRecDepth 100000 in
theorem c_M_stream (l : Launch) (D : va_G) (y : Nat → ClassId) (mo : Nat) (ad : Nat → Nat) (va : Int32)  : CT l D y ⟨"NineBoardsModel", "stream", "(I)J"⟩ prog_13_method_77_code 2 (some .long) ({ frames := 2, cells := 0, slots := 0, locals := 46 } : Room) [.ref mo, .int va] [MB mo ad 0 0 0 0 0 0 0 (-1) 0 0 0 0 0 0 0 0 0 0 1 0, (ad 43, .inl (y 0, 8, .inl (fun _ => 0)))] (QL D [MB mo ad 0 0 0 0 0 0 0 (-1) 0 0 0 0 0 0 0 0 0 0 1 0, (ad 43, .inl (y 0, 8, .inl (fun _ => 0)))] (fun (r : Int64) (_ : Unit) => r = (-1)) (fun _ => [])) := by
  refine CT.of (by decide) (nb rfl) ?_
  intro p e s m args below meth c C hr
  refine j_lv (lv' := [(0, .ref mo), (1, .int va)]) rfl ?_
  refine j_aload_n (pc := 0) C d_Model_stream_0 rfl 0 rfl ?_
  refine j_iload_n (pc := 1) C d_Model_stream_1 rfl 1 rfl ?_
  refine j_callVi (pc := 2) C (c_M_isGate l D y mo ad 0 0 1 va) kw_Model_465 kv_Model_isGate 0 10 rfl rfl ⟨by decide, by decide⟩ ⟨by decide, by decide⟩ (wr := []) [0, 1] [] rfl rfl (by decide) (by decide) (by decide) (As := [.int va]) (rest := []) rfl (nb rfl) rfl d_Model_stream_2 (fun r1 _ hr1 => ?_)
  subst hr1
  refine j_ws (ws' := [MB mo ad 0 0 0 0 0 0 0 (-1) 0 0 0 0 0 0 0 0 0 0 1 0, (ad 43, .inl (y 0, 8, .inl (fun _ => 0)))]) rfl ?_
  refine j_st (st' := [.int 0]) rfl ?_
  refine j_if_eqT (pc := 5) C (tgt := 21) d_Model_stream_5 (by decide) (by decide) ?_
  refine j_ldc2 (pc := 21) C (v := (-1)) (mt_7 (List.mem_of_getElem? (i := 80) rfl) rfl) d_Model_stream_21 ?_
  exact j_lret (pc := 24) C hr () rfl [] rfl (by decide) (by decide) (by decide) d_Model_stream_24
theorem d_Model_all_0 : decode prog_13_method_78_code 0 = .ok (.iload_n 1, 1) := by decide +kernel
theorem d_Model_all_1 : decode prog_13_method_78_code 1 = .ok (.i2l, 1) := by decide +kernel
theorem d_Model_all_2 : decode prog_13_method_78_code 2 = .ok (.lconst 0, 1) := by decide +kernel
theorem d_Model_all_3 : decode prog_13_method_78_code 3 = .ok (.ldc2_w 470, 3) := by decide +kernel
theorem d_Model_all_6 : decode prog_13_method_78_code 6 = .ok (.invokestatic 240, 3) := by decide +kernel
theorem d_Model_all_9 : decode prog_13_method_78_code 9 = .ok (.ifCond .eq 16, 3) := by decide +kernel
theorem d_Model_all_12 : decode prog_13_method_78_code 12 = .ok (.aload_n 0, 1) := by decide +kernel
theorem d_Model_all_13 : decode prog_13_method_78_code 13 = .ok (.getfield 158, 3) := by decide +kernel
theorem d_Model_all_16 : decode prog_13_method_78_code 16 = .ok (.bipush 30, 2) := by decide +kernel
theorem d_Model_all_18 : decode prog_13_method_78_code 18 = .ok (.iload_n 1, 1) := by decide +kernel
theorem d_Model_all_19 : decode prog_13_method_78_code 19 = .ok (.iadd, 1) := by decide +kernel
theorem d_Model_all_20 : decode prog_13_method_78_code 20 = .ok (.iaload, 1) := by decide +kernel
theorem d_Model_all_21 : decode prog_13_method_78_code 21 = .ok (.i2l, 1) := by decide +kernel
theorem d_Model_all_22 : decode prog_13_method_78_code 22 = .ok (.goto 6, 3) := by decide +kernel
theorem d_Model_all_28 : decode prog_13_method_78_code 28 = .ok (.lreturn, 1) := by decide +kernel
theorem d_Model_all_25 : decode prog_13_method_78_code 25 = .ok (.ldc2_w 468, 3) := by decide +kernel
set_option maxHeartbeats 4000000 in
set_option maxRecDepth 100000 in
theorem c_M_all (l : Launch) (D : va_G) (y : Nat → ClassId) (mo : Nat) (ad : Nat → Nat) (n : Int32)  : CT l D y ⟨"NineBoardsModel", "all", "(I)J"⟩ prog_13_method_78_code 2 (some .long) ({ frames := 1, cells := 0, slots := 0, locals := 25 } : Room) [.ref mo, .int n] [MB mo ad 0 0 0 0 0 0 0 (-1) 0 0 0 0 0 0 0 0 0 0 1 0, (ad 62, .inl (y 0, 63, .inl (dayF 0)))] (QL D [MB mo ad 0 0 0 0 0 0 0 (-1) 0 0 0 0 0 0 0 0 0 0 1 0, (ad 62, .inl (y 0, 63, .inl (dayF 0)))] (fun (r : Int64) (_ : Unit) => r = if 0 ≤ n.toInt ∧ n.toInt ≤ 4 then 0 else -1) (fun _ => [])) := by
  refine CT.of (by decide) (nb rfl) ?_
  intro p e s m args below meth c C hr
  refine j_lv (lv' := [(0, .ref mo), (1, .int n)]) rfl ?_
  refine j_iload_n (pc := 0) C d_Model_all_0 rfl 1 rfl ?_
  refine j_i2l (pc := 1) C (v := n.toInt64) d_Model_all_1 rfl ?_
  refine j_lconst (pc := 2) C (v := 0) d_Model_all_2 (by decide) ?_
  refine j_ldc2 (pc := 3) C (v := 4) (mt_7 (List.mem_of_getElem? (i := 85) rfl) rfl) d_Model_all_3 ?_
  refine j_callSi (pc := 6) C (c_isIn_x l D y n 0 4 0 4 (by decide) (by decide)) kw_Model_240 ks_Model_isIn ⟨by decide, by decide⟩ ⟨by decide, by decide⟩ (wr := [MB mo ad 0 0 0 0 0 0 0 (-1) 0 0 0 0 0 0 0 0 0 0 1 0, (ad 62, .inl (y 0, 63, .inl (dayF 0)))]) [] [0, 1] rfl rfl (by decide) (by decide) (by decide) (As := [.long n.toInt64, .long 0, .long 4]) (rest := []) rfl (nb rfl) rfl d_Model_all_6 (fun r1 _ hr1 => ?_)
  refine j_ws (ws' := [MB mo ad 0 0 0 0 0 0 0 (-1) 0 0 0 0 0 0 0 0 0 0 1 0, (ad 62, .inl (y 0, 63, .inl (dayF 0)))]) rfl ?_
  by_cases g2 : 0 ≤ n.toInt ∧ n.toInt ≤ 4
  · rw [if_pos g2] at hr1
    subst hr1
    refine j_if_eqF (pc := 9) C (tgt := 25) d_Model_all_9 (by decide) (by decide) ?_
    by_cases e3 : n = 0
    · subst e3
      refine j_aload_n (pc := 12) C d_Model_all_12 rfl 0 rfl ?_
      refine j_get (pc := 13) C gf_Model_158 0 rfl rfl d_Model_all_13 ?_
      refine j_bipush (pc := 16) C (v := 30) d_Model_all_16 (by decide) ?_
      refine j_iload_n (pc := 18) C d_Model_all_18 rfl 1 rfl ?_
      refine j_iadd (pc := 19) C (v := 30) d_Model_all_19 (by decide) ?_
      refine j_iald (pc := 20) C 1 rfl (v := 0) (vin (by decide)) rfl d_Model_all_20 ?_
      refine j_i2l (pc := 21) C (v := 0) d_Model_all_21 (by decide) ?_
      refine j_goto (pc := 22) C (tgt := 28) d_Model_all_22 (by decide) ?_
      exact j_lret (pc := 28) C hr () (by decide) [] rfl (by decide) (by decide) (by decide) d_Model_all_28
    · by_cases e4 : n = 1
      · subst e4
        refine j_aload_n (pc := 12) C d_Model_all_12 rfl 0 rfl ?_
        refine j_get (pc := 13) C gf_Model_158 0 rfl rfl d_Model_all_13 ?_
        refine j_bipush (pc := 16) C (v := 30) d_Model_all_16 (by decide) ?_
        refine j_iload_n (pc := 18) C d_Model_all_18 rfl 1 rfl ?_
        refine j_iadd (pc := 19) C (v := 31) d_Model_all_19 (by decide) ?_
        refine j_iald (pc := 20) C 1 rfl (v := 0) (vin (by decide)) rfl d_Model_all_20 ?_
        refine j_i2l (pc := 21) C (v := 0) d_Model_all_21 (by decide) ?_
        refine j_goto (pc := 22) C (tgt := 28) d_Model_all_22 (by decide) ?_
        exact j_lret (pc := 28) C hr () (by decide) [] rfl (by decide) (by decide) (by decide) d_Model_all_28
      · by_cases e5 : n = 2
        · subst e5
          refine j_aload_n (pc := 12) C d_Model_all_12 rfl 0 rfl ?_
          refine j_get (pc := 13) C gf_Model_158 0 rfl rfl d_Model_all_13 ?_
          refine j_bipush (pc := 16) C (v := 30) d_Model_all_16 (by decide) ?_
          refine j_iload_n (pc := 18) C d_Model_all_18 rfl 1 rfl ?_
          refine j_iadd (pc := 19) C (v := 32) d_Model_all_19 (by decide) ?_
          refine j_iald (pc := 20) C 1 rfl (v := 0) (vin (by decide)) rfl d_Model_all_20 ?_
          refine j_i2l (pc := 21) C (v := 0) d_Model_all_21 (by decide) ?_
          refine j_goto (pc := 22) C (tgt := 28) d_Model_all_22 (by decide) ?_
          exact j_lret (pc := 28) C hr () (by decide) [] rfl (by decide) (by decide) (by decide) d_Model_all_28
        · by_cases e6 : n = 3
          · subst e6
            refine j_aload_n (pc := 12) C d_Model_all_12 rfl 0 rfl ?_
            refine j_get (pc := 13) C gf_Model_158 0 rfl rfl d_Model_all_13 ?_
            refine j_bipush (pc := 16) C (v := 30) d_Model_all_16 (by decide) ?_
            refine j_iload_n (pc := 18) C d_Model_all_18 rfl 1 rfl ?_
            refine j_iadd (pc := 19) C (v := 33) d_Model_all_19 (by decide) ?_
            refine j_iald (pc := 20) C 1 rfl (v := 0) (vin (by decide)) rfl d_Model_all_20 ?_
            refine j_i2l (pc := 21) C (v := 0) d_Model_all_21 (by decide) ?_
            refine j_goto (pc := 22) C (tgt := 28) d_Model_all_22 (by decide) ?_
            exact j_lret (pc := 28) C hr () (by decide) [] rfl (by decide) (by decide) (by decide) d_Model_all_28
          · by_cases e7 : n = 4
            · subst e7
              refine j_aload_n (pc := 12) C d_Model_all_12 rfl 0 rfl ?_
              refine j_get (pc := 13) C gf_Model_158 0 rfl rfl d_Model_all_13 ?_
              refine j_bipush (pc := 16) C (v := 30) d_Model_all_16 (by decide) ?_
              refine j_iload_n (pc := 18) C d_Model_all_18 rfl 1 rfl ?_
              refine j_iadd (pc := 19) C (v := 34) d_Model_all_19 (by decide) ?_
              refine j_iald (pc := 20) C 1 rfl (v := 0) (vin (by decide)) rfl d_Model_all_20 ?_
              refine j_i2l (pc := 21) C (v := 0) d_Model_all_21 (by decide) ?_
              refine j_goto (pc := 22) C (tgt := 28) d_Model_all_22 (by decide) ?_
              exact j_lret (pc := 28) C hr () (by decide) [] rfl (by decide) (by decide) (by decide) d_Model_all_28
            · exfalso; simp only [← Int32.toInt_inj, (by decide : Int32.toInt 0 = 0), (by decide : Int32.toInt 1 = 1), (by decide : Int32.toInt 2 = 2), (by decide : Int32.toInt 3 = 3), (by decide : Int32.toInt 4 = 4)] at e3 e4 e5 e6 e7; omega
  · rw [if_neg g2] at hr1
    subst hr1
    refine j_if_eqT (pc := 9) C (tgt := 25) d_Model_all_9 (by decide) (by decide) ?_
    refine j_ldc2 (pc := 25) C (v := (-1)) (mt_7 (List.mem_of_getElem? (i := 80) rfl) rfl) d_Model_all_25 ?_
    exact j_lret (pc := 28) C hr () (by (first | rw [if_pos (by omega)] | rw [if_neg (by omega)])) [] rfl (by decide) (by decide) (by decide) d_Model_all_28
theorem d_Model_village_0 : decode prog_13_method_79_code 0 = .ok (.aload_n 0, 1) := by decide +kernel
theorem d_Model_village_1 : decode prog_13_method_79_code 1 = .ok (.iload_n 1, 1) := by decide +kernel
theorem d_Model_village_2 : decode prog_13_method_79_code 2 = .ok (.invokevirtual 472, 3) := by decide +kernel
theorem kw_Model_472 : KW "NineBoardsModel" 472 ⟨"NineBoardsModel", "isVillage", "(I)Z"⟩ prog_13_method_75_code 2 (some .boolean) 1 := ⟨(mt_7 (List.mem_of_getElem? (i := 90) rfl) rfl), (mt_1 (List.mem_of_getElem? (i := 16) rfl) rfl), (mt_7 (List.mem_of_getElem? (i := 93) rfl) rfl), by decide +kernel⟩
theorem kv_Model_isVillage : Cond.instanceMethod ⟨"NineBoardsModel", "isVillage", "(I)Z"⟩ ∈ TB ∧ Cond.selects "NineBoardsModel" ⟨"NineBoardsModel", "isVillage", "(I)Z"⟩ ⟨"NineBoardsModel", "isVillage", "(I)Z"⟩ ∈ TB := ⟨(mt_7 (List.mem_of_getElem? (i := 92) rfl) rfl), (ms_0 (List.mem_map.mpr ⟨(⟨"NineBoardsModel", "isVillage", "(I)Z"⟩, 79), List.mem_of_getElem? (i := 96) (by decide +kernel), rfl⟩) rfl)⟩
theorem d_Model_village_5 : decode prog_13_method_79_code 5 = .ok (.ifCond .ne 7, 3) := by decide +kernel
theorem d_Model_village_8 : decode prog_13_method_79_code 8 = .ok (.ldc_w 475, 3) := by decide +kernel
theorem d_Model_village_11 : decode prog_13_method_79_code 11 = .ok (.ireturn, 1) := by decide +kernel
set_option maxHeartbeats 4000000 in
set_option maxRecDepth 100000 in
theorem c_M_village (l : Launch) (D : va_G) (y : Nat → ClassId) (mo : Nat) (ad : Nat → Nat) (va : Int32) (vb : Int32)  : CT l D y ⟨"NineBoardsModel", "village", "(II)I"⟩ prog_13_method_79_code 4 (some .int) ({ frames := 2, cells := 0, slots := 0, locals := 46 } : Room) [.ref mo, .int va, .int vb] [MB mo ad 0 0 0 0 0 0 0 (-1) 0 0 0 0 0 0 0 0 0 0 1 0, (ad 43, .inl (y 0, 8, .inl (fun _ => 0)))] (QI D [MB mo ad 0 0 0 0 0 0 0 (-1) 0 0 0 0 0 0 0 0 0 0 1 0, (ad 43, .inl (y 0, 8, .inl (fun _ => 0)))] (fun (r : Int32) (_ : Unit) => r = (-1000000000)) (fun _ => [])) := by
  refine CT.of (by decide) (nb rfl) ?_
  intro p e s m args below meth c C hr
  refine j_lv (lv' := [(0, .ref mo), (1, .int va), (2, .int vb)]) rfl ?_
  refine j_aload_n (pc := 0) C d_Model_village_0 rfl 0 rfl ?_
  refine j_iload_n (pc := 1) C d_Model_village_1 rfl 1 rfl ?_
  refine j_callVi (pc := 2) C (c_M_isVillage l D y mo ad 0 0 1 va) kw_Model_472 kv_Model_isVillage 0 10 rfl rfl ⟨by decide, by decide⟩ ⟨by decide, by decide⟩ (wr := []) [0, 1] [] rfl rfl (by decide) (by decide) (by decide) (As := [.int va]) (rest := []) rfl (nb rfl) rfl d_Model_village_2 (fun r1 _ hr1 => ?_)
  subst hr1
  refine j_ws (ws' := [MB mo ad 0 0 0 0 0 0 0 (-1) 0 0 0 0 0 0 0 0 0 0 1 0, (ad 43, .inl (y 0, 8, .inl (fun _ => 0)))]) rfl ?_
  refine j_st (st' := [.int 0]) rfl ?_
  refine j_if_neF (pc := 5) C (tgt := 12) d_Model_village_5 (by decide) (by decide) ?_
  refine j_ldcw (pc := 8) C (v := (-1000000000)) (mt_7 (List.mem_of_getElem? (i := 94) rfl) rfl) d_Model_village_8 ?_
  exact j_iret (pc := 11) C hr rfl () rfl [] rfl (by decide) (by decide) (by decide) d_Model_village_11
theorem d_Model_served_0 : decode prog_13_method_80_code 0 = .ok (.iload_n 1, 1) := by decide +kernel
theorem d_Model_served_1 : decode prog_13_method_80_code 1 = .ok (.i2l, 1) := by decide +kernel
theorem d_Model_served_2 : decode prog_13_method_80_code 2 = .ok (.lconst 0, 1) := by decide +kernel
theorem d_Model_served_3 : decode prog_13_method_80_code 3 = .ok (.aload_n 0, 1) := by decide +kernel
theorem d_Model_served_4 : decode prog_13_method_80_code 4 = .ok (.getfield 117, 3) := by decide +kernel
theorem d_Model_served_7 : decode prog_13_method_80_code 7 = .ok (.bipush 6, 2) := by decide +kernel
theorem d_Model_served_9 : decode prog_13_method_80_code 9 = .ok (.iaload, 1) := by decide +kernel
theorem d_Model_served_10 : decode prog_13_method_80_code 10 = .ok (.iconst 1, 1) := by decide +kernel
theorem d_Model_served_11 : decode prog_13_method_80_code 11 = .ok (.isub, 1) := by decide +kernel
theorem d_Model_served_12 : decode prog_13_method_80_code 12 = .ok (.i2l, 1) := by decide +kernel
theorem d_Model_served_13 : decode prog_13_method_80_code 13 = .ok (.invokestatic 240, 3) := by decide +kernel
theorem d_Model_served_16 : decode prog_13_method_80_code 16 = .ok (.ifCond .eq 15, 3) := by decide +kernel
theorem d_Model_served_31 : decode prog_13_method_80_code 31 = .ok (.iconst (-1), 1) := by decide +kernel
theorem d_Model_served_32 : decode prog_13_method_80_code 32 = .ok (.ireturn, 1) := by decide +kernel
set_option maxHeartbeats 4000000 in
set_option maxRecDepth 100000 in
theorem c_M_served (l : Launch) (D : va_G) (y : Nat → ClassId) (mo : Nat) (ad : Nat → Nat) (va : Int32)  : CT l D y ⟨"NineBoardsModel", "served", "(I)I"⟩ prog_13_method_80_code 2 (some .int) ({ frames := 1, cells := 0, slots := 0, locals := 25 } : Room) [.ref mo, .int va] [MB mo ad 0 0 0 0 0 0 0 (-1) 0 0 0 0 0 0 0 0 0 0 1 0, (ad 43, .inl (y 0, 8, .inl (fun _ => 0)))] (QI D [MB mo ad 0 0 0 0 0 0 0 (-1) 0 0 0 0 0 0 0 0 0 0 1 0, (ad 43, .inl (y 0, 8, .inl (fun _ => 0)))] (fun (r : Int32) (_ : Unit) => r = (-1)) (fun _ => [])) := by
  refine CT.of (by decide) (nb rfl) ?_
  intro p e s m args below meth c C hr
  refine j_lv (lv' := [(0, .ref mo), (1, .int va)]) rfl ?_
  refine j_iload_n (pc := 0) C d_Model_served_0 rfl 1 rfl ?_
  refine j_i2l (pc := 1) C (v := va.toInt64) d_Model_served_1 rfl ?_
  refine j_lconst (pc := 2) C (v := 0) d_Model_served_2 (by decide) ?_
  refine j_aload_n (pc := 3) C d_Model_served_3 rfl 0 rfl ?_
  refine j_get (pc := 4) C gf_Model_117 0 rfl rfl d_Model_served_4 ?_
  refine j_bipush (pc := 7) C (v := 6) d_Model_served_7 (by decide) ?_
  refine j_iald (pc := 9) C 1 rfl (v := 0) (vin (by decide)) rfl d_Model_served_9 ?_
  refine j_iconst (pc := 10) C (v := 1) d_Model_served_10 (by decide) ?_
  refine j_isub (pc := 11) C (v := (-1)) d_Model_served_11 (by decide) ?_
  refine j_i2l (pc := 12) C (v := (-1)) d_Model_served_12 (by decide) ?_
  refine j_callSi (pc := 13) C (c_isIn_x l D y va 0 (-1) 0 (-1) (by decide) (by decide)) kw_Model_240 ks_Model_isIn ⟨by decide, by decide⟩ ⟨by decide, by decide⟩ (wr := [MB mo ad 0 0 0 0 0 0 0 (-1) 0 0 0 0 0 0 0 0 0 0 1 0, (ad 43, .inl (y 0, 8, .inl (fun _ => 0)))]) [] [0, 1] rfl rfl (by decide) (by decide) (by decide) (As := [.long va.toInt64, .long 0, .long (-1)]) (rest := []) rfl (nb rfl) rfl d_Model_served_13 (fun r1 _ hr1 => ?_)
  refine j_ws (ws' := [MB mo ad 0 0 0 0 0 0 0 (-1) 0 0 0 0 0 0 0 0 0 0 1 0, (ad 43, .inl (y 0, 8, .inl (fun _ => 0)))]) rfl ?_
  rw [if_neg (by omega)] at hr1
  subst hr1
  refine j_if_eqT (pc := 16) C (tgt := 31) d_Model_served_16 (by decide) (by decide) ?_
  refine j_iconst (pc := 31) C (v := (-1)) d_Model_served_31 (by decide) ?_
  exact j_iret (pc := 32) C hr rfl () rfl [] rfl (by decide) (by decide) (by decide) d_Model_served_32
theorem d_Model_act_0 : decode prog_13_method_81_code 0 = .ok (.iload_n 1, 1) := by decide +kernel
theorem d_Model_act_1 : decode prog_13_method_81_code 1 = .ok (.i2l, 1) := by decide +kernel
theorem d_Model_act_2 : decode prog_13_method_81_code 2 = .ok (.lconst 0, 1) := by decide +kernel
theorem d_Model_act_3 : decode prog_13_method_81_code 3 = .ok (.ldc2_w 476, 3) := by decide +kernel
theorem d_Model_act_6 : decode prog_13_method_81_code 6 = .ok (.invokestatic 240, 3) := by decide +kernel
theorem d_Model_act_9 : decode prog_13_method_81_code 9 = .ok (.ifCond .eq 24, 3) := by decide +kernel
theorem d_Model_act_12 : decode prog_13_method_81_code 12 = .ok (.aload_n 0, 1) := by decide +kernel
theorem d_Model_act_13 : decode prog_13_method_81_code 13 = .ok (.getfield 158, 3) := by decide +kernel
theorem d_Model_act_16 : decode prog_13_method_81_code 16 = .ok (.iconst 0, 1) := by decide +kernel
theorem d_Model_act_17 : decode prog_13_method_81_code 17 = .ok (.iaload, 1) := by decide +kernel
theorem d_Model_act_18 : decode prog_13_method_81_code 18 = .ok (.sipush 999, 3) := by decide +kernel
theorem d_Model_act_21 : decode prog_13_method_81_code 21 = .ok (.if_icmp .eq 12, 3) := by decide +kernel
theorem d_Model_act_24 : decode prog_13_method_81_code 24 = .ok (.aload_n 0, 1) := by decide +kernel
theorem d_Model_act_25 : decode prog_13_method_81_code 25 = .ok (.iconst 0, 1) := by decide +kernel
theorem d_Model_act_26 : decode prog_13_method_81_code 26 = .ok (.iload_n 1, 1) := by decide +kernel
theorem d_Model_act_27 : decode prog_13_method_81_code 27 = .ok (.invokevirtual 478, 3) := by decide +kernel
theorem kw_Model_478 : KW "NineBoardsModel" 478 ⟨"NineBoardsModel", "mayDo", "(II)Z"⟩ prog_13_method_68_code 3 (some .boolean) 2 := ⟨(mt_7 (List.mem_of_getElem? (i := 116) rfl) rfl), (mt_1 (List.mem_of_getElem? (i := 16) rfl) rfl), (mt_7 (List.mem_of_getElem? (i := 119) rfl) rfl), by decide +kernel⟩
theorem kv_Model_mayDo : Cond.instanceMethod ⟨"NineBoardsModel", "mayDo", "(II)Z"⟩ ∈ TB ∧ Cond.selects "NineBoardsModel" ⟨"NineBoardsModel", "mayDo", "(II)Z"⟩ ⟨"NineBoardsModel", "mayDo", "(II)Z"⟩ ∈ TB := ⟨(mt_7 (List.mem_of_getElem? (i := 118) rfl) rfl), (ms_0 (List.mem_map.mpr ⟨(⟨"NineBoardsModel", "mayDo", "(II)Z"⟩, 79), List.mem_of_getElem? (i := 100) (by decide +kernel), rfl⟩) rfl)⟩
theorem d_Model_act_30 : decode prog_13_method_81_code 30 = .ok (.ifCond .ne 5, 3) := by decide +kernel
theorem d_Model_act_35 : decode prog_13_method_81_code 35 = .ok (.aload_n 0, 1) := by decide +kernel
theorem d_Model_act_36 : decode prog_13_method_81_code 36 = .ok (.invokevirtual 482, 3) := by decide +kernel
theorem kw_Model_482 : KW "NineBoardsModel" 482 ⟨"NineBoardsModel", "keepsDay", "()V"⟩ prog_13_method_69_code 2 none 0 := ⟨(mt_7 (List.mem_of_getElem? (i := 120) rfl) rfl), (mt_1 (List.mem_of_getElem? (i := 16) rfl) rfl), (mt_7 (List.mem_of_getElem? (i := 123) rfl) rfl), by decide +kernel⟩
theorem kv_Model_keepsDay : Cond.instanceMethod ⟨"NineBoardsModel", "keepsDay", "()V"⟩ ∈ TB ∧ Cond.selects "NineBoardsModel" ⟨"NineBoardsModel", "keepsDay", "()V"⟩ ⟨"NineBoardsModel", "keepsDay", "()V"⟩ ∈ TB := ⟨(mt_7 (List.mem_of_getElem? (i := 122) rfl) rfl), (ms_0 (List.mem_map.mpr ⟨(⟨"NineBoardsModel", "keepsDay", "()V"⟩, 79), List.mem_of_getElem? (i := 101) (by decide +kernel), rfl⟩) rfl)⟩
theorem d_Model_act_39 : decode prog_13_method_81_code 39 = .ok (.aload_n 0, 1) := by decide +kernel
theorem d_Model_act_40 : decode prog_13_method_81_code 40 = .ok (.iload_n 1, 1) := by decide +kernel
theorem d_Model_act_41 : decode prog_13_method_81_code 41 = .ok (.invokevirtual 485, 3) := by decide +kernel
theorem kw_Model_485 : KW "NineBoardsModel" 485 ⟨"NineBoardsModel", "acts", "(I)V"⟩ prog_13_method_67_code 2 none 1 := ⟨(mt_7 (List.mem_of_getElem? (i := 124) rfl) rfl), (mt_1 (List.mem_of_getElem? (i := 16) rfl) rfl), (mt_7 (List.mem_of_getElem? (i := 127) rfl) rfl), by decide +kernel⟩
theorem kv_Model_acts : Cond.instanceMethod ⟨"NineBoardsModel", "acts", "(I)V"⟩ ∈ TB ∧ Cond.selects "NineBoardsModel" ⟨"NineBoardsModel", "acts", "(I)V"⟩ ⟨"NineBoardsModel", "acts", "(I)V"⟩ ∈ TB := ⟨(mt_7 (List.mem_of_getElem? (i := 126) rfl) rfl), (ms_0 (List.mem_map.mpr ⟨(⟨"NineBoardsModel", "acts", "(I)V"⟩, 79), List.mem_of_getElem? (i := 102) (by decide +kernel), rfl⟩) rfl)⟩
theorem d_Model_act_44 : decode prog_13_method_81_code 44 = .ok (.aload_n 0, 1) := by decide +kernel
theorem d_Model_act_45 : decode prog_13_method_81_code 45 = .ok (.iconst 0, 1) := by decide +kernel
theorem d_Model_act_46 : decode prog_13_method_81_code 46 = .ok (.invokevirtual 488, 3) := by decide +kernel
theorem kw_Model_488 : KW "NineBoardsModel" 488 ⟨"NineBoardsModel", "goesBy", "(I)V"⟩ prog_13_method_64_code 8 none 1 := ⟨(mt_7 (List.mem_of_getElem? (i := 132) rfl) rfl), (mt_1 (List.mem_of_getElem? (i := 16) rfl) rfl), (mt_7 (List.mem_of_getElem? (i := 135) rfl) rfl), by decide +kernel⟩
theorem kv_Model_goesBy : Cond.instanceMethod ⟨"NineBoardsModel", "goesBy", "(I)V"⟩ ∈ TB ∧ Cond.selects "NineBoardsModel" ⟨"NineBoardsModel", "goesBy", "(I)V"⟩ ⟨"NineBoardsModel", "goesBy", "(I)V"⟩ ∈ TB := ⟨(mt_7 (List.mem_of_getElem? (i := 134) rfl) rfl), (ms_0 (List.mem_map.mpr ⟨(⟨"NineBoardsModel", "goesBy", "(I)V"⟩, 79), List.mem_of_getElem? (i := 104) (by decide +kernel), rfl⟩) rfl)⟩
theorem d_Model_act_49 : decode prog_13_method_81_code 49 = .ok (.aload_n 0, 1) := by decide +kernel
theorem d_Model_act_50 : decode prog_13_method_81_code 50 = .ok (.invokevirtual 427, 3) := by decide +kernel
theorem d_Model_act_53 : decode prog_13_method_81_code 53 = .ok (.ireturn, 1) := by decide +kernel
set_option maxHeartbeats 4000000 in
set_option maxRecDepth 100000 in
theorem c_M_act_0 (l : Launch) (D : va_G) (y : Nat → ClassId) (mo : Nat) (ad : Nat → Nat) (f : Nat → Int32)  : CT l D y ⟨"NineBoardsModel", "act", "(I)I"⟩ prog_13_method_81_code 2 (some .int) ({ frames := 3, cells := 0, slots := 0, locals := 71 } : Room) [.ref mo, .int 0] [MB mo ad 0 0 0 0 0 0 0 (-1) 0 0 0 0 0 0 0 0 0 (nI 0) 1 0, (ad 43, .inl (y 0, 8, .inl (fun _ => 0))), (ad 62, .inl (y 0, 63, .inl (dayF 0))), (ad 45, .inl (y 0, 14, .inl lakeF)), (ad 65, .inl (y 0, 1890, .inl f))] (QI D [MB mo ad 0 0 0 0 0 0 0 (-1) 0 0 0 0 0 0 0 0 0 (nI 0) 1 0, (ad 43, .inl (y 0, 8, .inl (fun _ => 0))), (ad 62, .inl (y 0, 63, .inl (dayF 0))), (ad 45, .inl (y 0, 14, .inl lakeF)), (ad 65, .inl (y 0, 1890, .inl f))] (fun (r : Int32) (_ : Unit) => r = 0) (fun _ => [])) := by
  refine CT.of (by decide) (nb rfl) ?_
  intro p e s m args below meth c C hr
  refine j_lv (lv' := [(0, .ref mo), (1, .int 0)]) rfl ?_
  refine j_iload_n (pc := 0) C d_Model_act_0 rfl 1 rfl ?_
  refine j_i2l (pc := 1) C (v := 0) d_Model_act_1 (by decide) ?_
  refine j_lconst (pc := 2) C (v := 0) d_Model_act_2 (by decide) ?_
  refine j_ldc2 (pc := 3) C (v := 2) (mt_7 (List.mem_of_getElem? (i := 115) rfl) rfl) d_Model_act_3 ?_
  refine j_callSi (pc := 6) C (c_isIn_c l D y 0 0 2 0 0 2 (by decide) (by decide) (by decide)) kw_Model_240 ks_Model_isIn ⟨by decide, by decide⟩ ⟨by decide, by decide⟩ (wr := [MB mo ad 0 0 0 0 0 0 0 (-1) 0 0 0 0 0 0 0 0 0 (nI 0) 1 0, (ad 43, .inl (y 0, 8, .inl (fun _ => 0))), (ad 62, .inl (y 0, 63, .inl (dayF 0))), (ad 45, .inl (y 0, 14, .inl lakeF)), (ad 65, .inl (y 0, 1890, .inl f))]) [] [0, 1, 2, 3, 4] rfl rfl (by decide) (by decide) (by decide) (As := [.long 0, .long 0, .long 2]) (rest := []) rfl (nb rfl) rfl d_Model_act_6 (fun r1 _ hr1 => ?_)
  refine j_ws (ws' := [MB mo ad 0 0 0 0 0 0 0 (-1) 0 0 0 0 0 0 0 0 0 (nI 0) 1 0, (ad 43, .inl (y 0, 8, .inl (fun _ => 0))), (ad 62, .inl (y 0, 63, .inl (dayF 0))), (ad 45, .inl (y 0, 14, .inl lakeF)), (ad 65, .inl (y 0, 1890, .inl f))]) rfl ?_
  rw [if_pos (by decide)] at hr1
  subst hr1
  refine j_if_eqF (pc := 9) C (tgt := 33) d_Model_act_9 (by decide) (by decide) ?_
  refine j_aload_n (pc := 12) C d_Model_act_12 rfl 0 rfl ?_
  refine j_get (pc := 13) C gf_Model_158 0 rfl rfl d_Model_act_13 ?_
  refine j_iconst (pc := 16) C (v := 0) d_Model_act_16 (by decide) ?_
  refine j_iald (pc := 17) C 2 rfl (v := 0) (vin (by decide)) rfl d_Model_act_17 ?_
  refine j_sipush (pc := 18) C (v := 999) d_Model_act_18 (by decide) ?_
  refine j_icmp_eqF (pc := 21) C (tgt := 33) d_Model_act_21 (by decide) (by decide) ?_
  refine j_aload_n (pc := 24) C d_Model_act_24 rfl 0 rfl ?_
  refine j_iconst (pc := 25) C (v := 0) d_Model_act_25 (by decide) ?_
  refine j_iload_n (pc := 26) C d_Model_act_26 rfl 1 rfl ?_
  refine j_callVi (pc := 27) C (c_M_mayDo_0 l D y mo ad 0 (nI 0) 1 0) kw_Model_478 kv_Model_mayDo 0 10 rfl rfl ⟨by decide, by decide⟩ ⟨by decide, by decide⟩ (wr := [(ad 43, .inl (y 0, 8, .inl (fun _ => 0))), (ad 62, .inl (y 0, 63, .inl (dayF 0))), (ad 45, .inl (y 0, 14, .inl lakeF)), (ad 65, .inl (y 0, 1890, .inl f))]) [0] [1, 2, 3, 4] rfl rfl (by decide) (by decide) (by decide) (As := [.int 0, .int 0]) (rest := []) rfl (nb rfl) rfl d_Model_act_27 (fun r2 _ hr2 => ?_)
  subst hr2
  refine j_ws (ws' := [(ad 43, .inl (y 0, 8, .inl (fun _ => 0))), (ad 62, .inl (y 0, 63, .inl (dayF 0))), (ad 45, .inl (y 0, 14, .inl lakeF)), (ad 65, .inl (y 0, 1890, .inl f)), MB mo ad 0 0 0 0 0 0 0 (-1) 0 0 0 0 0 0 0 0 0 (nI 0) 1 0]) rfl ?_
  refine j_st (st' := [.int 1]) rfl ?_
  refine j_if_neT (pc := 30) C (tgt := 35) d_Model_act_30 (by decide) (by decide) ?_
  refine j_aload_n (pc := 35) C d_Model_act_35 rfl 0 rfl ?_
  refine j_callVv (pc := 36) C (c_M_keepsDay l D y mo ad 0 1 (dayF 0) 0 f (by decide)) kw_Model_482 kv_Model_keepsDay 0 10 rfl rfl ⟨by decide, by decide⟩ ⟨by decide, by decide⟩ (wr := [(ad 43, .inl (y 0, 8, .inl (fun _ => 0))), (ad 45, .inl (y 0, 14, .inl lakeF))]) [4, 1, 3] [0, 2] rfl rfl (by decide) (by decide) (by decide) (As := []) (rest := []) rfl (nb rfl) rfl d_Model_act_36 (fun u3 _ => ?_)
  refine j_ws (ws' := [(ad 43, .inl (y 0, 8, .inl (fun _ => 0))), (ad 45, .inl (y 0, 14, .inl lakeF)), MB mo ad 0 0 0 0 0 0 0 (-1) 0 0 0 0 0 0 0 0 u3.1 (nI ((0 + 1) % 30)) 1 0, (ad 62, .inl (y 0, 63, .inl (dayF 0))), (ad 65, .inl (y 0, 1890, .inl u3.2))]) rfl ?_
  refine j_aload_n (pc := 39) C d_Model_act_39 rfl 0 rfl ?_
  refine j_iload_n (pc := 40) C d_Model_act_40 rfl 1 rfl ?_
  refine j_callVv (pc := 41) C (c_M_acts l D y mo ad u3.1 (nI ((0 + 1) % 30)) 1) kw_Model_485 kv_Model_acts 0 10 rfl rfl ⟨by decide, by decide⟩ ⟨by decide, by decide⟩ (wr := [(ad 43, .inl (y 0, 8, .inl (fun _ => 0))), (ad 45, .inl (y 0, 14, .inl lakeF)), (ad 62, .inl (y 0, 63, .inl (dayF 0))), (ad 65, .inl (y 0, 1890, .inl u3.2))]) [2] [0, 1, 3, 4] rfl rfl (by decide) (by decide) (by decide) (As := [.int 0]) (rest := []) rfl (nb rfl) rfl d_Model_act_41 (fun _ _ => ?_)
  refine j_ws (ws' := [(ad 43, .inl (y 0, 8, .inl (fun _ => 0))), (ad 45, .inl (y 0, 14, .inl lakeF)), (ad 62, .inl (y 0, 63, .inl (dayF 0))), (ad 65, .inl (y 0, 1890, .inl u3.2)), MB mo ad 0 0 0 0 0 0 0 (-1) 0 0 0 0 0 0 0 0 u3.1 (nI ((0 + 1) % 30)) 1 0]) rfl ?_
  refine j_aload_n (pc := 44) C d_Model_act_44 rfl 0 rfl ?_
  refine j_iconst (pc := 45) C (v := 0) d_Model_act_45 (by decide) ?_
  refine j_callVv (pc := 46) C (c_M_goesBy l D y mo ad u3.1 (nI ((0 + 1) % 30)) 1 0) kw_Model_488 kv_Model_goesBy 0 10 rfl rfl ⟨by decide, by decide⟩ ⟨by decide, by decide⟩ (wr := [(ad 65, .inl (y 0, 1890, .inl u3.2))]) [4, 0, 2, 1] [3] rfl rfl (by decide) (by decide) (by decide) (As := [.int 0]) (rest := []) rfl (nb rfl) rfl d_Model_act_46 (fun _ _ => ?_)
  refine j_ws (ws' := [(ad 65, .inl (y 0, 1890, .inl u3.2)), MB mo ad 0 0 0 0 0 0 0 (-1) 0 0 0 0 0 0 0 0 u3.1 (nI ((0 + 1) % 30)) 1 0, (ad 43, .inl (y 0, 8, .inl (fun _ => 0))), (ad 62, .inl (y 0, 63, .inl (dayF (0 + 1)))), (ad 45, .inl (y 0, 14, .inl lakeF))]) rfl ?_
  refine j_aload_n (pc := 49) C d_Model_act_49 rfl 0 rfl ?_
  refine j_callVi (pc := 50) C (c_M_level l D y mo ad u3.1 (nI ((0 + 1) % 30)) 1 (0 + 1)) kw_Model_427 kv_Model_level 0 10 rfl rfl ⟨by decide, by decide⟩ ⟨by decide, by decide⟩ (wr := [(ad 65, .inl (y 0, 1890, .inl u3.2)), (ad 43, .inl (y 0, 8, .inl (fun _ => 0)))]) [1, 3, 4] [0, 2] rfl rfl (by decide) (by decide) (by decide) (As := []) (rest := []) rfl (nb rfl) rfl d_Model_act_50 (fun r4 _ hr4 => ?_)
  subst hr4
  refine j_ws (ws' := [(ad 65, .inl (y 0, 1890, .inl u3.2)), (ad 43, .inl (y 0, 8, .inl (fun _ => 0))), MB mo ad 0 0 0 0 0 0 0 (-1) 0 0 0 0 0 0 0 0 u3.1 (nI ((0 + 1) % 30)) 1 0, (ad 62, .inl (y 0, 63, .inl (dayF (0 + 1)))), (ad 45, .inl (y 0, 14, .inl lakeF))]) rfl ?_
  refine j_st (st' := [.int 0]) rfl ?_
  exact j_iret (pc := 53) C hr rfl () rfl [] rfl (by decide) (by decide) (by decide) d_Model_act_53
theorem d_Model_act_33 : decode prog_13_method_81_code 33 = .ok (.iconst (-1), 1) := by decide +kernel
theorem d_Model_act_34 : decode prog_13_method_81_code 34 = .ok (.ireturn, 1) := by decide +kernel
set_option maxHeartbeats 4000000 in
set_option maxRecDepth 100000 in
theorem c_M_act_n (l : Launch) (D : va_G) (y : Nat → ClassId) (mo : Nat) (ad : Nat → Nat) (va : Int32) (hx : ¬ va = 0) : CT l D y ⟨"NineBoardsModel", "act", "(I)I"⟩ prog_13_method_81_code 2 (some .int) ({ frames := 2, cells := 0, slots := 0, locals := 42 } : Room) [.ref mo, .int va] [MB mo ad 0 0 0 0 0 0 0 (-1) 0 0 0 0 0 0 0 0 0 0 1 0, (ad 43, .inl (y 0, 8, .inl (fun _ => 0))), (ad 62, .inl (y 0, 63, .inl (dayF 0)))] (QI D [MB mo ad 0 0 0 0 0 0 0 (-1) 0 0 0 0 0 0 0 0 0 0 1 0, (ad 43, .inl (y 0, 8, .inl (fun _ => 0))), (ad 62, .inl (y 0, 63, .inl (dayF 0)))] (fun (r : Int32) (_ : Unit) => r = (-1)) (fun _ => [])) := by
  refine CT.of (by decide) (nb rfl) ?_
  intro p e s m args below meth c C hr
  refine j_lv (lv' := [(0, .ref mo), (1, .int va)]) rfl ?_
  refine j_iload_n (pc := 0) C d_Model_act_0 rfl 1 rfl ?_
  refine j_i2l (pc := 1) C (v := va.toInt64) d_Model_act_1 rfl ?_
  refine j_lconst (pc := 2) C (v := 0) d_Model_act_2 (by decide) ?_
  refine j_ldc2 (pc := 3) C (v := 2) (mt_7 (List.mem_of_getElem? (i := 115) rfl) rfl) d_Model_act_3 ?_
  refine j_callSi (pc := 6) C (c_isIn_x l D y va 0 2 0 2 (by decide) (by decide)) kw_Model_240 ks_Model_isIn ⟨by decide, by decide⟩ ⟨by decide, by decide⟩ (wr := [MB mo ad 0 0 0 0 0 0 0 (-1) 0 0 0 0 0 0 0 0 0 0 1 0, (ad 43, .inl (y 0, 8, .inl (fun _ => 0))), (ad 62, .inl (y 0, 63, .inl (dayF 0)))]) [] [0, 1, 2] rfl rfl (by decide) (by decide) (by decide) (As := [.long va.toInt64, .long 0, .long 2]) (rest := []) rfl (nb rfl) rfl d_Model_act_6 (fun r1 _ hr1 => ?_)
  refine j_ws (ws' := [MB mo ad 0 0 0 0 0 0 0 (-1) 0 0 0 0 0 0 0 0 0 0 1 0, (ad 43, .inl (y 0, 8, .inl (fun _ => 0))), (ad 62, .inl (y 0, 63, .inl (dayF 0)))]) rfl ?_
  by_cases g2 : 0 ≤ va.toInt ∧ va.toInt ≤ 2
  · rw [if_pos g2] at hr1
    subst hr1
    refine j_if_eqF (pc := 9) C (tgt := 33) d_Model_act_9 (by decide) (by decide) ?_
    refine j_aload_n (pc := 12) C d_Model_act_12 rfl 0 rfl ?_
    refine j_get (pc := 13) C gf_Model_158 0 rfl rfl d_Model_act_13 ?_
    refine j_iconst (pc := 16) C (v := 0) d_Model_act_16 (by decide) ?_
    refine j_iald (pc := 17) C 2 rfl (v := 0) (vin (by decide)) rfl d_Model_act_17 ?_
    refine j_sipush (pc := 18) C (v := 999) d_Model_act_18 (by decide) ?_
    refine j_icmp_eqF (pc := 21) C (tgt := 33) d_Model_act_21 (by decide) (by decide) ?_
    refine j_aload_n (pc := 24) C d_Model_act_24 rfl 0 rfl ?_
    refine j_iconst (pc := 25) C (v := 0) d_Model_act_25 (by decide) ?_
    refine j_iload_n (pc := 26) C d_Model_act_26 rfl 1 rfl ?_
    refine j_callVi (pc := 27) C (c_M_mayDo_n l D y mo ad 0 0 1 0 va hx) kw_Model_478 kv_Model_mayDo 0 10 rfl rfl ⟨by decide, by decide⟩ ⟨by decide, by decide⟩ (wr := [(ad 62, .inl (y 0, 63, .inl (dayF 0)))]) [0, 1] [2] rfl rfl (by decide) (by decide) (by decide) (As := [.int 0, .int va]) (rest := []) rfl (nb rfl) rfl d_Model_act_27 (fun r3 _ hr3 => ?_)
    subst hr3
    refine j_ws (ws' := [(ad 62, .inl (y 0, 63, .inl (dayF 0))), MB mo ad 0 0 0 0 0 0 0 (-1) 0 0 0 0 0 0 0 0 0 0 1 0, (ad 43, .inl (y 0, 8, .inl (fun _ => 0)))]) rfl ?_
    refine j_st (st' := [.int 0]) rfl ?_
    refine j_if_neF (pc := 30) C (tgt := 35) d_Model_act_30 (by decide) (by decide) ?_
    refine j_iconst (pc := 33) C (v := (-1)) d_Model_act_33 (by decide) ?_
    exact j_iret (pc := 34) C hr rfl () rfl [] rfl (by decide) (by decide) (by decide) d_Model_act_34
  · rw [if_neg g2] at hr1
    subst hr1
    refine j_if_eqT (pc := 9) C (tgt := 33) d_Model_act_9 (by decide) (by decide) ?_
    refine j_iconst (pc := 33) C (v := (-1)) d_Model_act_33 (by decide) ?_
    exact j_iret (pc := 34) C hr rfl () rfl [] rfl (by decide) (by decide) (by decide) d_Model_act_34
theorem d_Model_undo_0 : decode prog_13_method_83_code 0 = .ok (.aload_n 0, 1) := by decide +kernel
theorem d_Model_undo_1 : decode prog_13_method_83_code 1 = .ok (.getfield 415, 3) := by decide +kernel
theorem d_Model_undo_4 : decode prog_13_method_83_code 4 = .ok (.ifCond .ne 5, 3) := by decide +kernel
theorem d_Model_undo_7 : decode prog_13_method_83_code 7 = .ok (.iconst 0, 1) := by decide +kernel
theorem d_Model_undo_8 : decode prog_13_method_83_code 8 = .ok (.ireturn, 1) := by decide +kernel
set_option maxHeartbeats 4000000 in
set_option maxRecDepth 100000 in
theorem c_M_undo (l : Launch) (D : va_G) (y : Nat → ClassId) (mo : Nat) (ad : Nat → Nat)  : CT l D y ⟨"NineBoardsModel", "undo", "()Z"⟩ prog_13_method_83_code 2 (some .boolean) ({ frames := 0, cells := 0, slots := 0, locals := 0 } : Room) [.ref mo] [MB mo ad 0 0 0 0 0 0 0 (-1) 0 0 0 0 0 0 0 0 0 0 1 0] (QI D [MB mo ad 0 0 0 0 0 0 0 (-1) 0 0 0 0 0 0 0 0 0 0 1 0] (fun (r : Int32) (_ : Unit) => r = 0) (fun _ => [])) := by
  refine CT.of (by decide) (nb rfl) ?_
  intro p e s m args below meth c C hr
  refine j_lv (lv' := [(0, .ref mo)]) rfl ?_
  refine j_aload_n (pc := 0) C d_Model_undo_0 rfl 0 rfl ?_
  refine j_get (pc := 1) C gf_Model_415 0 rfl rfl d_Model_undo_1 ?_
  refine j_if_neF (pc := 4) C (tgt := 9) d_Model_undo_4 (by decide) (by decide) ?_
  refine j_iconst (pc := 7) C (v := 0) d_Model_undo_7 (by decide) ?_
  exact j_iret (pc := 8) C hr (by decide) () rfl [] rfl (by decide) (by decide) (by decide) d_Model_undo_8
theorem d_Model_weather_0 : decode prog_13_method_84_code 0 = .ok (.iload_n 1, 1) := by decide +kernel
theorem d_Model_weather_1 : decode prog_13_method_84_code 1 = .ok (.i2l, 1) := by decide +kernel
theorem d_Model_weather_2 : decode prog_13_method_84_code 2 = .ok (.lconst 0, 1) := by decide +kernel
theorem d_Model_weather_3 : decode prog_13_method_84_code 3 = .ok (.ldc2_w 493, 3) := by decide +kernel
theorem d_Model_weather_6 : decode prog_13_method_84_code 6 = .ok (.invokestatic 240, 3) := by decide +kernel
theorem d_Model_weather_9 : decode prog_13_method_84_code 9 = .ok (.ifCond .eq 25, 3) := by decide +kernel
theorem d_Model_weather_12 : decode prog_13_method_84_code 12 = .ok (.iload_n 2, 1) := by decide +kernel
theorem d_Model_weather_13 : decode prog_13_method_84_code 13 = .ok (.i2l, 1) := by decide +kernel
theorem d_Model_weather_14 : decode prog_13_method_84_code 14 = .ok (.lconst 0, 1) := by decide +kernel
theorem d_Model_weather_15 : decode prog_13_method_84_code 15 = .ok (.ldc2_w 413, 3) := by decide +kernel
theorem d_Model_weather_18 : decode prog_13_method_84_code 18 = .ok (.invokestatic 240, 3) := by decide +kernel
theorem d_Model_weather_21 : decode prog_13_method_84_code 21 = .ok (.ifCond .eq 13, 3) := by decide +kernel
theorem d_Model_weather_24 : decode prog_13_method_84_code 24 = .ok (.aload_n 0, 1) := by decide +kernel
theorem d_Model_weather_25 : decode prog_13_method_84_code 25 = .ok (.iload_n 1, 1) := by decide +kernel
theorem d_Model_weather_26 : decode prog_13_method_84_code 26 = .ok (.iload_n 2, 1) := by decide +kernel
theorem d_Model_weather_27 : decode prog_13_method_84_code 27 = .ok (.iload_n 3, 1) := by decide +kernel
theorem d_Model_weather_28 : decode prog_13_method_84_code 28 = .ok (.invokevirtual 437, 3) := by decide +kernel
theorem d_Model_weather_31 : decode prog_13_method_84_code 31 = .ok (.goto 4, 3) := by decide +kernel
theorem d_Model_weather_35 : decode prog_13_method_84_code 35 = .ok (.ireturn, 1) := by decide +kernel
theorem d_Model_weather_34 : decode prog_13_method_84_code 34 = .ok (.iconst (-1), 1) := by decide +kernel
set_option maxHeartbeats 4000000 in
set_option maxRecDepth 100000 in
theorem c_M_weather (l : Launch) (D : va_G) (y : Nat → ClassId) (mo : Nat) (ad : Nat → Nat) (va : Int32) (vb : Int32) (vc : Int32)  : CT l D y ⟨"NineBoardsModel", "weather", "(IIZ)I"⟩ prog_13_method_84_code 4 (some .int) ({ frames := 1, cells := 0, slots := 0, locals := 26 } : Room) [.ref mo, .int va, .int vb, .int vc] [MB mo ad 0 0 0 0 0 0 0 (-1) 0 0 0 0 0 0 0 0 0 0 1 0, (ad 43, .inl (y 0, 8, .inl (fun _ => 0)))] (QI D [MB mo ad 0 0 0 0 0 0 0 (-1) 0 0 0 0 0 0 0 0 0 0 1 0, (ad 43, .inl (y 0, 8, .inl (fun _ => 0)))] (fun (r : Int32) (_ : Unit) => r = if 0 ≤ va.toInt ∧ va.toInt < 999 ∧ 0 ≤ vb.toInt ∧ vb.toInt ≤ 9999 then 0 else -1) (fun _ => [])) := by
  refine CT.of (by decide) (nb rfl) ?_
  intro p e s m args below meth c C hr
  refine j_lv (lv' := [(0, .ref mo), (1, .int va), (2, .int vb), (3, .int vc)]) rfl ?_
  refine j_iload_n (pc := 0) C d_Model_weather_0 rfl 1 rfl ?_
  refine j_i2l (pc := 1) C (v := va.toInt64) d_Model_weather_1 rfl ?_
  refine j_lconst (pc := 2) C (v := 0) d_Model_weather_2 (by decide) ?_
  refine j_ldc2 (pc := 3) C (v := 998) (mt_7 (List.mem_of_getElem? (i := 180) rfl) rfl) d_Model_weather_3 ?_
  refine j_callSi (pc := 6) C (c_isIn_x l D y va 0 998 0 998 (by decide) (by decide)) kw_Model_240 ks_Model_isIn ⟨by decide, by decide⟩ ⟨by decide, by decide⟩ (wr := [MB mo ad 0 0 0 0 0 0 0 (-1) 0 0 0 0 0 0 0 0 0 0 1 0, (ad 43, .inl (y 0, 8, .inl (fun _ => 0)))]) [] [0, 1] rfl rfl (by decide) (by decide) (by decide) (As := [.long va.toInt64, .long 0, .long 998]) (rest := []) rfl (nb rfl) rfl d_Model_weather_6 (fun r1 _ hr1 => ?_)
  refine j_ws (ws' := [MB mo ad 0 0 0 0 0 0 0 (-1) 0 0 0 0 0 0 0 0 0 0 1 0, (ad 43, .inl (y 0, 8, .inl (fun _ => 0)))]) rfl ?_
  by_cases g2 : 0 ≤ va.toInt ∧ va.toInt ≤ 998
  · rw [if_pos g2] at hr1
    subst hr1
    refine j_if_eqF (pc := 9) C (tgt := 34) d_Model_weather_9 (by decide) (by decide) ?_
    refine j_iload_n (pc := 12) C d_Model_weather_12 rfl 2 rfl ?_
    refine j_i2l (pc := 13) C (v := vb.toInt64) d_Model_weather_13 rfl ?_
    refine j_lconst (pc := 14) C (v := 0) d_Model_weather_14 (by decide) ?_
    refine j_ldc2 (pc := 15) C (v := 9999) (mt_7 (List.mem_of_getElem? (i := 162) rfl) rfl) d_Model_weather_15 ?_
    refine j_callSi (pc := 18) C (c_isIn_x l D y vb 0 9999 0 9999 (by decide) (by decide)) kw_Model_240 ks_Model_isIn ⟨by decide, by decide⟩ ⟨by decide, by decide⟩ (wr := [MB mo ad 0 0 0 0 0 0 0 (-1) 0 0 0 0 0 0 0 0 0 0 1 0, (ad 43, .inl (y 0, 8, .inl (fun _ => 0)))]) [] [0, 1] rfl rfl (by decide) (by decide) (by decide) (As := [.long vb.toInt64, .long 0, .long 9999]) (rest := []) rfl (nb rfl) rfl d_Model_weather_18 (fun r3 _ hr3 => ?_)
    refine j_ws (ws' := [MB mo ad 0 0 0 0 0 0 0 (-1) 0 0 0 0 0 0 0 0 0 0 1 0, (ad 43, .inl (y 0, 8, .inl (fun _ => 0)))]) rfl ?_
    by_cases g4 : 0 ≤ vb.toInt ∧ vb.toInt ≤ 9999
    · rw [if_pos g4] at hr3
      subst hr3
      refine j_if_eqF (pc := 21) C (tgt := 34) d_Model_weather_21 (by decide) (by decide) ?_
      refine j_aload_n (pc := 24) C d_Model_weather_24 rfl 0 rfl ?_
      refine j_iload_n (pc := 25) C d_Model_weather_25 rfl 1 rfl ?_
      refine j_iload_n (pc := 26) C d_Model_weather_26 rfl 2 rfl ?_
      refine j_iload_n (pc := 27) C d_Model_weather_27 rfl 3 rfl ?_
      refine j_callVi (pc := 28) C (c_M_weatherOf l D y mo ad 0 0 1 va vb vc) kw_Model_437 kv_Model_weatherOf 0 10 rfl rfl ⟨by decide, by decide⟩ ⟨by decide, by decide⟩ (wr := []) [0, 1] [] rfl rfl (by decide) (by decide) (by decide) (As := [.int va, .int vb, .int vc]) (rest := []) rfl (nb rfl) rfl d_Model_weather_28 (fun r5 _ hr5 => ?_)
      subst hr5
      refine j_ws (ws' := [MB mo ad 0 0 0 0 0 0 0 (-1) 0 0 0 0 0 0 0 0 0 0 1 0, (ad 43, .inl (y 0, 8, .inl (fun _ => 0)))]) rfl ?_
      refine j_st (st' := [.int 0]) rfl ?_
      refine j_goto (pc := 31) C (tgt := 35) d_Model_weather_31 (by decide) ?_
      exact j_iret (pc := 35) C hr rfl () (by (first | rw [if_pos (by omega)] | rw [if_neg (by omega)])) [] rfl (by decide) (by decide) (by decide) d_Model_weather_35
    · rw [if_neg g4] at hr3
      subst hr3
      refine j_if_eqT (pc := 21) C (tgt := 34) d_Model_weather_21 (by decide) (by decide) ?_
      refine j_iconst (pc := 34) C (v := (-1)) d_Model_weather_34 (by decide) ?_
      exact j_iret (pc := 35) C hr rfl () (by (first | rw [if_pos (by omega)] | rw [if_neg (by omega)])) [] rfl (by decide) (by decide) (by decide) d_Model_weather_35
  · rw [if_neg g2] at hr1
    subst hr1
    refine j_if_eqT (pc := 9) C (tgt := 34) d_Model_weather_9 (by decide) (by decide) ?_
    refine j_iconst (pc := 34) C (v := (-1)) d_Model_weather_34 (by decide) ?_
    exact j_iret (pc := 35) C hr rfl () (by (first | rw [if_pos (by omega)] | rw [if_neg (by omega)])) [] rfl (by decide) (by decide) (by decide) d_Model_weather_35
theorem d_Model_would_0 : decode prog_13_method_101_code 0 = .ok (.aload_n 0, 1) := by decide +kernel
theorem d_Model_would_1 : decode prog_13_method_101_code 1 = .ok (.iload_n 1, 1) := by decide +kernel
theorem d_Model_would_2 : decode prog_13_method_101_code 2 = .ok (.invokevirtual 465, 3) := by decide +kernel
theorem d_Model_would_5 : decode prog_13_method_101_code 5 = .ok (.ifCond .eq 24, 3) := by decide +kernel
theorem d_Model_would_29 : decode prog_13_method_101_code 29 = .ok (.iconst (-1), 1) := by decide +kernel
theorem d_Model_would_30 : decode prog_13_method_101_code 30 = .ok (.ireturn, 1) := by decide +kernel
set_option maxHeartbeats 4000000 in
set_option maxRecDepth 100000 in
theorem c_M_would (l : Launch) (D : va_G) (y : Nat → ClassId) (mo : Nat) (ad : Nat → Nat) (va : Int32) (vb : Int32)  : CT l D y ⟨"NineBoardsModel", "would", "(II)I"⟩ prog_13_method_101_code 3 (some .int) ({ frames := 2, cells := 0, slots := 0, locals := 46 } : Room) [.ref mo, .int va, .int vb] [MB mo ad 0 0 0 0 0 0 0 (-1) 0 0 0 0 0 0 0 0 0 0 1 0, (ad 43, .inl (y 0, 8, .inl (fun _ => 0)))] (QI D [MB mo ad 0 0 0 0 0 0 0 (-1) 0 0 0 0 0 0 0 0 0 0 1 0, (ad 43, .inl (y 0, 8, .inl (fun _ => 0)))] (fun (r : Int32) (_ : Unit) => r = (-1)) (fun _ => [])) := by
  refine CT.of (by decide) (nb rfl) ?_
  intro p e s m args below meth c C hr
  refine j_lv (lv' := [(0, .ref mo), (1, .int va), (2, .int vb)]) rfl ?_
  refine j_aload_n (pc := 0) C d_Model_would_0 rfl 0 rfl ?_
  refine j_iload_n (pc := 1) C d_Model_would_1 rfl 1 rfl ?_
  refine j_callVi (pc := 2) C (c_M_isGate l D y mo ad 0 0 1 va) kw_Model_465 kv_Model_isGate 0 10 rfl rfl ⟨by decide, by decide⟩ ⟨by decide, by decide⟩ (wr := []) [0, 1] [] rfl rfl (by decide) (by decide) (by decide) (As := [.int va]) (rest := []) rfl (nb rfl) rfl d_Model_would_2 (fun r1 _ hr1 => ?_)
  subst hr1
  refine j_ws (ws' := [MB mo ad 0 0 0 0 0 0 0 (-1) 0 0 0 0 0 0 0 0 0 0 1 0, (ad 43, .inl (y 0, 8, .inl (fun _ => 0)))]) rfl ?_
  refine j_st (st' := [.int 0]) rfl ?_
  refine j_if_eqT (pc := 5) C (tgt := 29) d_Model_would_5 (by decide) (by decide) ?_
  refine j_iconst (pc := 29) C (v := (-1)) d_Model_would_29 (by decide) ?_
  exact j_iret (pc := 30) C hr rfl () rfl [] rfl (by decide) (by decide) (by decide) d_Model_would_30
theorem d_Model_need_0 : decode prog_13_method_105_code 0 = .ok (.aload_n 0, 1) := by decide +kernel
theorem d_Model_need_1 : decode prog_13_method_105_code 1 = .ok (.iload_n 1, 1) := by decide +kernel
theorem d_Model_need_2 : decode prog_13_method_105_code 2 = .ok (.invokevirtual 544, 3) := by decide +kernel
theorem kw_Model_544 : KW "NineBoardsModel" 544 ⟨"NineBoardsModel", "isThing", "(I)Z"⟩ prog_13_method_102_code 2 (some .boolean) 1 := ⟨(mt_8 (List.mem_of_getElem? (i := 24) rfl) rfl), (mt_1 (List.mem_of_getElem? (i := 16) rfl) rfl), (mt_8 (List.mem_of_getElem? (i := 27) rfl) rfl), by decide +kernel⟩
theorem kv_Model_isThing : Cond.instanceMethod ⟨"NineBoardsModel", "isThing", "(I)Z"⟩ ∈ TB ∧ Cond.selects "NineBoardsModel" ⟨"NineBoardsModel", "isThing", "(I)Z"⟩ ⟨"NineBoardsModel", "isThing", "(I)Z"⟩ ∈ TB := ⟨(mt_8 (List.mem_of_getElem? (i := 26) rfl) rfl), (ms_0 (List.mem_map.mpr ⟨(⟨"NineBoardsModel", "isThing", "(I)Z"⟩, 79), List.mem_of_getElem? (i := 124) (by decide +kernel), rfl⟩) rfl)⟩
theorem d_Model_need_5 : decode prog_13_method_105_code 5 = .ok (.ifCond .ne 5, 3) := by decide +kernel
theorem d_Model_need_8 : decode prog_13_method_105_code 8 = .ok (.iconst (-1), 1) := by decide +kernel
theorem d_Model_need_9 : decode prog_13_method_105_code 9 = .ok (.ireturn, 1) := by decide +kernel
set_option maxHeartbeats 4000000 in
set_option maxRecDepth 100000 in
theorem c_M_need (l : Launch) (D : va_G) (y : Nat → ClassId) (mo : Nat) (ad : Nat → Nat) (va : Int32)  : CT l D y ⟨"NineBoardsModel", "need", "(I)I"⟩ prog_13_method_105_code 3 (some .int) ({ frames := 2, cells := 0, slots := 0, locals := 46 } : Room) [.ref mo, .int va] [MB mo ad 0 0 0 0 0 0 0 (-1) 0 0 0 0 0 0 0 0 0 0 1 0, (ad 43, .inl (y 0, 8, .inl (fun _ => 0)))] (QI D [MB mo ad 0 0 0 0 0 0 0 (-1) 0 0 0 0 0 0 0 0 0 0 1 0, (ad 43, .inl (y 0, 8, .inl (fun _ => 0)))] (fun (r : Int32) (_ : Unit) => r = (-1)) (fun _ => [])) := by
  refine CT.of (by decide) (nb rfl) ?_
  intro p e s m args below meth c C hr
  refine j_lv (lv' := [(0, .ref mo), (1, .int va)]) rfl ?_
  refine j_aload_n (pc := 0) C d_Model_need_0 rfl 0 rfl ?_
  refine j_iload_n (pc := 1) C d_Model_need_1 rfl 1 rfl ?_
  refine j_callVi (pc := 2) C (c_M_isThing l D y mo ad 0 0 1 va) kw_Model_544 kv_Model_isThing 0 10 rfl rfl ⟨by decide, by decide⟩ ⟨by decide, by decide⟩ (wr := []) [0, 1] [] rfl rfl (by decide) (by decide) (by decide) (As := [.int va]) (rest := []) rfl (nb rfl) rfl d_Model_need_2 (fun r1 _ hr1 => ?_)
  subst hr1
  refine j_ws (ws' := [MB mo ad 0 0 0 0 0 0 0 (-1) 0 0 0 0 0 0 0 0 0 0 1 0, (ad 43, .inl (y 0, 8, .inl (fun _ => 0)))]) rfl ?_
  refine j_st (st' := [.int 0]) rfl ?_
  refine j_if_neF (pc := 5) C (tgt := 10) d_Model_need_5 (by decide) (by decide) ?_
  refine j_iconst (pc := 8) C (v := (-1)) d_Model_need_8 (by decide) ?_
  exact j_iret (pc := 9) C hr rfl () rfl [] rfl (by decide) (by decide) (by decide) d_Model_need_9
theorem d_Model_both_0 : decode prog_13_method_106_code 0 = .ok (.aload_n 0, 1) := by decide +kernel
theorem d_Model_both_1 : decode prog_13_method_106_code 1 = .ok (.iload_n 1, 1) := by decide +kernel
theorem d_Model_both_2 : decode prog_13_method_106_code 2 = .ok (.invokevirtual 544, 3) := by decide +kernel
theorem d_Model_both_5 : decode prog_13_method_106_code 5 = .ok (.ifCond .eq 16, 3) := by decide +kernel
theorem d_Model_both_21 : decode prog_13_method_106_code 21 = .ok (.iconst (-1), 1) := by decide +kernel
theorem d_Model_both_22 : decode prog_13_method_106_code 22 = .ok (.ireturn, 1) := by decide +kernel
set_option maxHeartbeats 4000000 in
set_option maxRecDepth 100000 in
theorem c_M_both (l : Launch) (D : va_G) (y : Nat → ClassId) (mo : Nat) (ad : Nat → Nat) (va : Int32) (vb : Int32)  : CT l D y ⟨"NineBoardsModel", "both", "(II)I"⟩ prog_13_method_106_code 9 (some .int) ({ frames := 2, cells := 0, slots := 0, locals := 46 } : Room) [.ref mo, .int va, .int vb] [MB mo ad 0 0 0 0 0 0 0 (-1) 0 0 0 0 0 0 0 0 0 0 1 0, (ad 43, .inl (y 0, 8, .inl (fun _ => 0)))] (QI D [MB mo ad 0 0 0 0 0 0 0 (-1) 0 0 0 0 0 0 0 0 0 0 1 0, (ad 43, .inl (y 0, 8, .inl (fun _ => 0)))] (fun (r : Int32) (_ : Unit) => r = (-1)) (fun _ => [])) := by
  refine CT.of (by decide) (nb rfl) ?_
  intro p e s m args below meth c C hr
  refine j_lv (lv' := [(0, .ref mo), (1, .int va), (2, .int vb)]) rfl ?_
  refine j_aload_n (pc := 0) C d_Model_both_0 rfl 0 rfl ?_
  refine j_iload_n (pc := 1) C d_Model_both_1 rfl 1 rfl ?_
  refine j_callVi (pc := 2) C (c_M_isThing l D y mo ad 0 0 1 va) kw_Model_544 kv_Model_isThing 0 10 rfl rfl ⟨by decide, by decide⟩ ⟨by decide, by decide⟩ (wr := []) [0, 1] [] rfl rfl (by decide) (by decide) (by decide) (As := [.int va]) (rest := []) rfl (nb rfl) rfl d_Model_both_2 (fun r1 _ hr1 => ?_)
  subst hr1
  refine j_ws (ws' := [MB mo ad 0 0 0 0 0 0 0 (-1) 0 0 0 0 0 0 0 0 0 0 1 0, (ad 43, .inl (y 0, 8, .inl (fun _ => 0)))]) rfl ?_
  refine j_st (st' := [.int 0]) rfl ?_
  refine j_if_eqT (pc := 5) C (tgt := 21) d_Model_both_5 (by decide) (by decide) ?_
  refine j_iconst (pc := 21) C (v := (-1)) d_Model_both_21 (by decide) ?_
  exact j_iret (pc := 22) C hr rfl () rfl [] rfl (by decide) (by decide) (by decide) d_Model_both_22
theorem d_Model_first_0 : decode prog_13_method_98_code 0 = .ok (.iload_n 1, 1) := by decide +kernel
theorem d_Model_first_1 : decode prog_13_method_98_code 1 = .ok (.i2l, 1) := by decide +kernel
theorem d_Model_first_2 : decode prog_13_method_98_code 2 = .ok (.lconst 0, 1) := by decide +kernel
theorem d_Model_first_3 : decode prog_13_method_98_code 3 = .ok (.ldc2_w 413, 3) := by decide +kernel
theorem d_Model_first_6 : decode prog_13_method_98_code 6 = .ok (.invokestatic 240, 3) := by decide +kernel
theorem d_Model_first_9 : decode prog_13_method_98_code 9 = .ok (.ifCond .eq 27, 3) := by decide +kernel
theorem d_Model_first_12 : decode prog_13_method_98_code 12 = .ok (.iload_n 2, 1) := by decide +kernel
theorem d_Model_first_13 : decode prog_13_method_98_code 13 = .ok (.i2l, 1) := by decide +kernel
theorem d_Model_first_14 : decode prog_13_method_98_code 14 = .ok (.lconst 0, 1) := by decide +kernel
theorem d_Model_first_15 : decode prog_13_method_98_code 15 = .ok (.ldc2_w 531, 3) := by decide +kernel
theorem d_Model_first_18 : decode prog_13_method_98_code 18 = .ok (.invokestatic 240, 3) := by decide +kernel
theorem d_Model_first_21 : decode prog_13_method_98_code 21 = .ok (.ifCond .eq 15, 3) := by decide +kernel
theorem d_Model_first_24 : decode prog_13_method_98_code 24 = .ok (.aload_n 0, 1) := by decide +kernel
theorem d_Model_first_25 : decode prog_13_method_98_code 25 = .ok (.getfield 158, 3) := by decide +kernel
theorem d_Model_first_28 : decode prog_13_method_98_code 28 = .ok (.iconst 0, 1) := by decide +kernel
theorem d_Model_first_29 : decode prog_13_method_98_code 29 = .ok (.iaload, 1) := by decide +kernel
theorem d_Model_first_30 : decode prog_13_method_98_code 30 = .ok (.sipush 999, 3) := by decide +kernel
theorem d_Model_first_33 : decode prog_13_method_98_code 33 = .ok (.if_icmp .ne 5, 3) := by decide +kernel
theorem d_Model_first_38 : decode prog_13_method_98_code 38 = .ok (.iconst (-1), 1) := by decide +kernel
theorem d_Model_first_39 : decode prog_13_method_98_code 39 = .ok (.istore_n 3, 1) := by decide +kernel
theorem d_Model_first_40 : decode prog_13_method_98_code 40 = .ok (.iconst 0, 1) := by decide +kernel
theorem d_Model_first_41 : decode prog_13_method_98_code 41 = .ok (.istore 4, 2) := by decide +kernel
theorem d_Model_first_43 : decode prog_13_method_98_code 43 = .ok (.iconst 0, 1) := by decide +kernel
theorem d_Model_first_44 : decode prog_13_method_98_code 44 = .ok (.istore 5, 2) := by decide +kernel
theorem d_Model_first_46 : decode prog_13_method_98_code 46 = .ok (.iload 5, 2) := by decide +kernel
theorem d_Model_first_48 : decode prog_13_method_98_code 48 = .ok (.aload_n 0, 1) := by decide +kernel
theorem d_Model_first_49 : decode prog_13_method_98_code 49 = .ok (.invokevirtual 341, 3) := by decide +kernel
theorem d_Model_first_52 : decode prog_13_method_98_code 52 = .ok (.if_icmp .ge 70, 3) := by decide +kernel
theorem d_Model_first_122 : decode prog_13_method_98_code 122 = .ok (.iload_n 3, 1) := by decide +kernel
theorem d_Model_first_123 : decode prog_13_method_98_code 123 = .ok (.ireturn, 1) := by decide +kernel
theorem d_Model_first_36 : decode prog_13_method_98_code 36 = .ok (.iconst (-1), 1) := by decide +kernel
theorem d_Model_first_37 : decode prog_13_method_98_code 37 = .ok (.ireturn, 1) := by decide +kernel
set_option maxHeartbeats 4000000 in
set_option maxRecDepth 100000 in
theorem c_M_first (l : Launch) (D : va_G) (y : Nat → ClassId) (mo : Nat) (ad : Nat → Nat) (va : Int32) (vb : Int32)  : CT l D y ⟨"NineBoardsModel", "first", "(II)I"⟩ prog_13_method_98_code 7 (some .int) ({ frames := 1, cells := 0, slots := 0, locals := 25 } : Room) [.ref mo, .int va, .int vb] [MB mo ad 0 0 0 0 0 0 0 (-1) 0 0 0 0 0 0 0 0 0 0 1 0, (ad 43, .inl (y 0, 8, .inl (fun _ => 0))), (ad 62, .inl (y 0, 63, .inl (dayF 0)))] (QI D [MB mo ad 0 0 0 0 0 0 0 (-1) 0 0 0 0 0 0 0 0 0 0 1 0, (ad 43, .inl (y 0, 8, .inl (fun _ => 0))), (ad 62, .inl (y 0, 63, .inl (dayF 0)))] (fun (r : Int32) (_ : Unit) => r = (-1)) (fun _ => [])) := by
  refine CT.of (by decide) (nb rfl) ?_
  intro p e s m args below meth c C hr
  refine j_lv (lv' := [(0, .ref mo), (1, .int va), (2, .int vb)]) rfl ?_
  refine j_iload_n (pc := 0) C d_Model_first_0 rfl 1 rfl ?_
  refine j_i2l (pc := 1) C (v := va.toInt64) d_Model_first_1 rfl ?_
  refine j_lconst (pc := 2) C (v := 0) d_Model_first_2 (by decide) ?_
  refine j_ldc2 (pc := 3) C (v := 9999) (mt_7 (List.mem_of_getElem? (i := 162) rfl) rfl) d_Model_first_3 ?_
  refine j_callSi (pc := 6) C (c_isIn_x l D y va 0 9999 0 9999 (by decide) (by decide)) kw_Model_240 ks_Model_isIn ⟨by decide, by decide⟩ ⟨by decide, by decide⟩ (wr := [MB mo ad 0 0 0 0 0 0 0 (-1) 0 0 0 0 0 0 0 0 0 0 1 0, (ad 43, .inl (y 0, 8, .inl (fun _ => 0))), (ad 62, .inl (y 0, 63, .inl (dayF 0)))]) [] [0, 1, 2] rfl rfl (by decide) (by decide) (by decide) (As := [.long va.toInt64, .long 0, .long 9999]) (rest := []) rfl (nb rfl) rfl d_Model_first_6 (fun r1 _ hr1 => ?_)
  refine j_ws (ws' := [MB mo ad 0 0 0 0 0 0 0 (-1) 0 0 0 0 0 0 0 0 0 0 1 0, (ad 43, .inl (y 0, 8, .inl (fun _ => 0))), (ad 62, .inl (y 0, 63, .inl (dayF 0)))]) rfl ?_
  by_cases g2 : 0 ≤ va.toInt ∧ va.toInt ≤ 9999
  · rw [if_pos g2] at hr1
    subst hr1
    refine j_if_eqF (pc := 9) C (tgt := 36) d_Model_first_9 (by decide) (by decide) ?_
    refine j_iload_n (pc := 12) C d_Model_first_12 rfl 2 rfl ?_
    refine j_i2l (pc := 13) C (v := vb.toInt64) d_Model_first_13 rfl ?_
    refine j_lconst (pc := 14) C (v := 0) d_Model_first_14 (by decide) ?_
    refine j_ldc2 (pc := 15) C (v := 100) (mt_8 (List.mem_of_getElem? (i := 2) rfl) rfl) d_Model_first_15 ?_
    refine j_callSi (pc := 18) C (c_isIn_x l D y vb 0 100 0 100 (by decide) (by decide)) kw_Model_240 ks_Model_isIn ⟨by decide, by decide⟩ ⟨by decide, by decide⟩ (wr := [MB mo ad 0 0 0 0 0 0 0 (-1) 0 0 0 0 0 0 0 0 0 0 1 0, (ad 43, .inl (y 0, 8, .inl (fun _ => 0))), (ad 62, .inl (y 0, 63, .inl (dayF 0)))]) [] [0, 1, 2] rfl rfl (by decide) (by decide) (by decide) (As := [.long vb.toInt64, .long 0, .long 100]) (rest := []) rfl (nb rfl) rfl d_Model_first_18 (fun r3 _ hr3 => ?_)
    refine j_ws (ws' := [MB mo ad 0 0 0 0 0 0 0 (-1) 0 0 0 0 0 0 0 0 0 0 1 0, (ad 43, .inl (y 0, 8, .inl (fun _ => 0))), (ad 62, .inl (y 0, 63, .inl (dayF 0)))]) rfl ?_
    by_cases g4 : 0 ≤ vb.toInt ∧ vb.toInt ≤ 100
    · rw [if_pos g4] at hr3
      subst hr3
      refine j_if_eqF (pc := 21) C (tgt := 36) d_Model_first_21 (by decide) (by decide) ?_
      refine j_aload_n (pc := 24) C d_Model_first_24 rfl 0 rfl ?_
      refine j_get (pc := 25) C gf_Model_158 0 rfl rfl d_Model_first_25 ?_
      refine j_iconst (pc := 28) C (v := 0) d_Model_first_28 (by decide) ?_
      refine j_iald (pc := 29) C 2 rfl (v := 0) (vin (by decide)) rfl d_Model_first_29 ?_
      refine j_sipush (pc := 30) C (v := 999) d_Model_first_30 (by decide) ?_
      refine j_icmp_neT (pc := 33) C (tgt := 38) d_Model_first_33 (by decide) (by decide) ?_
      refine j_iconst (pc := 38) C (v := (-1)) d_Model_first_38 (by decide) ?_
      refine j_istore_n (pc := 39) C (lv' := [(3, .int (-1)), (0, .ref mo), (1, .int va), (2, .int vb)]) d_Model_first_39 rfl (by decide) rfl ?_
      refine j_iconst (pc := 40) C (v := 0) d_Model_first_40 (by decide) ?_
      refine j_istore (pc := 41) C (lv' := [(4, .int 0), (3, .int (-1)), (0, .ref mo), (1, .int va), (2, .int vb)]) d_Model_first_41 (by decide) rfl ?_
      refine j_iconst (pc := 43) C (v := 0) d_Model_first_43 (by decide) ?_
      refine j_istore (pc := 44) C (lv' := [(5, .int 0), (4, .int 0), (3, .int (-1)), (0, .ref mo), (1, .int va), (2, .int vb)]) d_Model_first_44 (by decide) rfl ?_
      refine j_iload (pc := 46) C d_Model_first_46 0 rfl ?_
      refine j_aload_n (pc := 48) C d_Model_first_48 rfl 3 rfl ?_
      refine j_callVi (pc := 49) C (c_M_gateMany l D y mo ad 0 0 1) kw_Model_341 kv_Model_gateMany 0 10 rfl rfl ⟨by decide, by decide⟩ ⟨by decide, by decide⟩ (wr := [(ad 62, .inl (y 0, 63, .inl (dayF 0)))]) [0, 1] [2] rfl rfl (by decide) (by decide) (by decide) (As := []) (rest := [.int 0]) rfl (nb rfl) rfl d_Model_first_49 (fun r5 _ hr5 => ?_)
      subst hr5
      refine j_ws (ws' := [(ad 62, .inl (y 0, 63, .inl (dayF 0))), MB mo ad 0 0 0 0 0 0 0 (-1) 0 0 0 0 0 0 0 0 0 0 1 0, (ad 43, .inl (y 0, 8, .inl (fun _ => 0)))]) rfl ?_
      refine j_st (st' := [.int 0, .int 0]) rfl ?_
      refine j_icmp_geT (pc := 52) C (tgt := 122) d_Model_first_52 (by decide) (by decide) ?_
      refine j_iload_n (pc := 122) C d_Model_first_122 rfl 2 rfl ?_
      exact j_iret (pc := 123) C hr rfl () rfl [] rfl (by decide) (by decide) (by decide) d_Model_first_123
    · rw [if_neg g4] at hr3
      subst hr3
      refine j_if_eqT (pc := 21) C (tgt := 36) d_Model_first_21 (by decide) (by decide) ?_
      refine j_iconst (pc := 36) C (v := (-1)) d_Model_first_36 (by decide) ?_
      exact j_iret (pc := 37) C hr rfl () rfl [] rfl (by decide) (by decide) (by decide) d_Model_first_37
  · rw [if_neg g2] at hr1
    subst hr1
    refine j_if_eqT (pc := 9) C (tgt := 36) d_Model_first_9 (by decide) (by decide) ?_
    refine j_iconst (pc := 36) C (v := (-1)) d_Model_first_36 (by decide) ?_
    exact j_iret (pc := 37) C hr rfl () rfl [] rfl (by decide) (by decide) (by decide) d_Model_first_37
theorem d_Model_steal_0 : decode prog_13_method_111_code 0 = .ok (.aload_n 0, 1) := by decide +kernel
theorem d_Model_steal_1 : decode prog_13_method_111_code 1 = .ok (.iload_n 1, 1) := by decide +kernel
theorem d_Model_steal_2 : decode prog_13_method_111_code 2 = .ok (.invokevirtual 465, 3) := by decide +kernel
theorem d_Model_steal_5 : decode prog_13_method_111_code 5 = .ok (.ifCond .eq 14, 3) := by decide +kernel
theorem d_Model_steal_19 : decode prog_13_method_111_code 19 = .ok (.iconst (-1), 1) := by decide +kernel
theorem d_Model_steal_20 : decode prog_13_method_111_code 20 = .ok (.ireturn, 1) := by decide +kernel
set_option maxHeartbeats 4000000 in
set_option maxRecDepth 100000 in
theorem c_M_steal (l : Launch) (D : va_G) (y : Nat → ClassId) (mo : Nat) (ad : Nat → Nat) (va : Int32)  : CT l D y ⟨"NineBoardsModel", "steal", "(I)I"⟩ prog_13_method_111_code 2 (some .int) ({ frames := 2, cells := 0, slots := 0, locals := 46 } : Room) [.ref mo, .int va] [MB mo ad 0 0 0 0 0 0 0 (-1) 0 0 0 0 0 0 0 0 0 0 1 0, (ad 43, .inl (y 0, 8, .inl (fun _ => 0)))] (QI D [MB mo ad 0 0 0 0 0 0 0 (-1) 0 0 0 0 0 0 0 0 0 0 1 0, (ad 43, .inl (y 0, 8, .inl (fun _ => 0)))] (fun (r : Int32) (_ : Unit) => r = (-1)) (fun _ => [])) := by
  refine CT.of (by decide) (nb rfl) ?_
  intro p e s m args below meth c C hr
  refine j_lv (lv' := [(0, .ref mo), (1, .int va)]) rfl ?_
  refine j_aload_n (pc := 0) C d_Model_steal_0 rfl 0 rfl ?_
  refine j_iload_n (pc := 1) C d_Model_steal_1 rfl 1 rfl ?_
  refine j_callVi (pc := 2) C (c_M_isGate l D y mo ad 0 0 1 va) kw_Model_465 kv_Model_isGate 0 10 rfl rfl ⟨by decide, by decide⟩ ⟨by decide, by decide⟩ (wr := []) [0, 1] [] rfl rfl (by decide) (by decide) (by decide) (As := [.int va]) (rest := []) rfl (nb rfl) rfl d_Model_steal_2 (fun r1 _ hr1 => ?_)
  subst hr1
  refine j_ws (ws' := [MB mo ad 0 0 0 0 0 0 0 (-1) 0 0 0 0 0 0 0 0 0 0 1 0, (ad 43, .inl (y 0, 8, .inl (fun _ => 0)))]) rfl ?_
  refine j_st (st' := [.int 0]) rfl ?_
  refine j_if_eqT (pc := 5) C (tgt := 19) d_Model_steal_5 (by decide) (by decide) ?_
  refine j_iconst (pc := 19) C (v := (-1)) d_Model_steal_19 (by decide) ?_
  exact j_iret (pc := 20) C hr rfl () rfl [] rfl (by decide) (by decide) (by decide) d_Model_steal_20
theorem d_Model_areSeen_0 : decode prog_13_method_112_code 0 = .ok (.aload_n 0, 1) := by decide +kernel
theorem d_Model_areSeen_1 : decode prog_13_method_112_code 1 = .ok (.getfield 198, 3) := by decide +kernel
theorem d_Model_areSeen_4 : decode prog_13_method_112_code 4 = .ok (.istore_n 1, 1) := by decide +kernel
theorem d_Model_areSeen_5 : decode prog_13_method_112_code 5 = .ok (.aload_n 0, 1) := by decide +kernel
theorem d_Model_areSeen_6 : decode prog_13_method_112_code 6 = .ok (.iconst 0, 1) := by decide +kernel
theorem d_Model_areSeen_7 : decode prog_13_method_112_code 7 = .ok (.putfield 198, 3) := by decide +kernel
theorem d_Model_areSeen_10 : decode prog_13_method_112_code 10 = .ok (.iload_n 1, 1) := by decide +kernel
theorem d_Model_areSeen_11 : decode prog_13_method_112_code 11 = .ok (.iconst 2, 1) := by decide +kernel
theorem d_Model_areSeen_12 : decode prog_13_method_112_code 12 = .ok (.aload_n 0, 1) := by decide +kernel
theorem d_Model_areSeen_13 : decode prog_13_method_112_code 13 = .ok (.invokevirtual 341, 3) := by decide +kernel
theorem d_Model_areSeen_16 : decode prog_13_method_112_code 16 = .ok (.imul, 1) := by decide +kernel
theorem d_Model_areSeen_17 : decode prog_13_method_112_code 17 = .ok (.if_icmp .ne 19, 3) := by decide +kernel
theorem d_Model_areSeen_20 : decode prog_13_method_112_code 20 = .ok (.aload_n 0, 1) := by decide +kernel
theorem d_Model_areSeen_21 : decode prog_13_method_112_code 21 = .ok (.getfield 158, 3) := by decide +kernel
theorem d_Model_areSeen_24 : decode prog_13_method_112_code 24 = .ok (.iconst 0, 1) := by decide +kernel
theorem d_Model_areSeen_25 : decode prog_13_method_112_code 25 = .ok (.iaload, 1) := by decide +kernel
theorem d_Model_areSeen_26 : decode prog_13_method_112_code 26 = .ok (.sipush 999, 3) := by decide +kernel
theorem d_Model_areSeen_29 : decode prog_13_method_112_code 29 = .ok (.if_icmp .ge 7, 3) := by decide +kernel
theorem d_Model_areSeen_32 : decode prog_13_method_112_code 32 = .ok (.iconst 1, 1) := by decide +kernel
theorem d_Model_areSeen_33 : decode prog_13_method_112_code 33 = .ok (.goto 4, 3) := by decide +kernel
theorem d_Model_areSeen_37 : decode prog_13_method_112_code 37 = .ok (.ireturn, 1) := by decide +kernel
set_option maxHeartbeats 4000000 in
set_option maxRecDepth 100000 in
theorem c_M_areSeen (l : Launch) (D : va_G) (y : Nat → ClassId) (mo : Nat) (ad : Nat → Nat)  : CT l D y ⟨"NineBoardsModel", "areSeen", "()Z"⟩ prog_13_method_112_code 2 (some .boolean) ({ frames := 1, cells := 0, slots := 0, locals := 20 } : Room) [.ref mo] [MB mo ad 0 0 0 0 0 0 0 (-1) 0 0 0 0 0 0 0 0 0 0 1 0, (ad 43, .inl (y 0, 8, .inl (fun _ => 0))), (ad 62, .inl (y 0, 63, .inl (dayF 0)))] (QI D [MB mo ad 0 0 0 0 0 0 0 (-1) 0 0 0 0 0 0 0 0 0 0 1 0, (ad 43, .inl (y 0, 8, .inl (fun _ => 0))), (ad 62, .inl (y 0, 63, .inl (dayF 0)))] (fun (r : Int32) (_ : Unit) => r = 1) (fun _ => [MB mo ad 0 0 0 0 0 0 0 (-1) 0 0 0 0 0 0 0 0 0 0 1 0, (ad 43, .inl (y 0, 8, .inl (fun _ => 0))), (ad 62, .inl (y 0, 63, .inl (dayF 0)))])) := by
  refine CT.of (by decide) (nb rfl) ?_
  intro p e s m args below meth c C hr
  refine j_lv (lv' := [(0, .ref mo)]) rfl ?_
  refine j_aload_n (pc := 0) C d_Model_areSeen_0 rfl 0 rfl ?_
  refine j_get (pc := 1) C gf_Model_198 0 rfl rfl d_Model_areSeen_1 ?_
  refine j_istore_n (pc := 4) C (lv' := [(1, .int 0), (0, .ref mo)]) d_Model_areSeen_4 rfl (by decide) rfl ?_
  refine j_aload_n (pc := 5) C d_Model_areSeen_5 rfl 1 rfl ?_
  refine j_iconst (pc := 6) C (v := 0) d_Model_areSeen_6 (by decide) ?_
  refine j_put (pc := 7) C pf_Model_198 0 (ws' := [MB mo ad 0 0 0 0 0 0 0 (-1) 0 0 0 0 0 0 0 0 0 0 1 0, (ad 43, .inl (y 0, 8, .inl (fun _ => 0))), (ad 62, .inl (y 0, 63, .inl (dayF 0)))]) rfl rfl rfl (nl rfl) rfl d_Model_areSeen_7 ?_
  refine j_iload_n (pc := 10) C d_Model_areSeen_10 rfl 0 rfl ?_
  refine j_iconst (pc := 11) C (v := 2) d_Model_areSeen_11 (by decide) ?_
  refine j_aload_n (pc := 12) C d_Model_areSeen_12 rfl 1 rfl ?_
  refine j_callVi (pc := 13) C (c_M_gateMany l D y mo ad 0 0 1) kw_Model_341 kv_Model_gateMany 0 10 rfl rfl ⟨by decide, by decide⟩ ⟨by decide, by decide⟩ (wr := [(ad 62, .inl (y 0, 63, .inl (dayF 0)))]) [0, 1] [2] rfl rfl (by decide) (by decide) (by decide) (As := []) (rest := [.int 2, .int 0]) rfl (nb rfl) rfl d_Model_areSeen_13 (fun r1 _ hr1 => ?_)
  subst hr1
  refine j_ws (ws' := [(ad 62, .inl (y 0, 63, .inl (dayF 0))), MB mo ad 0 0 0 0 0 0 0 (-1) 0 0 0 0 0 0 0 0 0 0 1 0, (ad 43, .inl (y 0, 8, .inl (fun _ => 0)))]) rfl ?_
  refine j_st (st' := [.int 0, .int 2, .int 0]) rfl ?_
  refine j_imul (pc := 16) C (v := 0) d_Model_areSeen_16 (by decide) ?_
  refine j_icmp_neF (pc := 17) C (tgt := 36) d_Model_areSeen_17 (by decide) (by decide) ?_
  refine j_aload_n (pc := 20) C d_Model_areSeen_20 rfl 1 rfl ?_
  refine j_get (pc := 21) C gf_Model_158 1 rfl rfl d_Model_areSeen_21 ?_
  refine j_iconst (pc := 24) C (v := 0) d_Model_areSeen_24 (by decide) ?_
  refine j_iald (pc := 25) C 0 rfl (v := 0) (vin (by decide)) rfl d_Model_areSeen_25 ?_
  refine j_sipush (pc := 26) C (v := 999) d_Model_areSeen_26 (by decide) ?_
  refine j_icmp_geF (pc := 29) C (tgt := 36) d_Model_areSeen_29 (by decide) (by decide) ?_
  refine j_iconst (pc := 32) C (v := 1) d_Model_areSeen_32 (by decide) ?_
  refine j_goto (pc := 33) C (tgt := 37) d_Model_areSeen_33 (by decide) ?_
  exact j_iret (pc := 37) C hr (by decide) () rfl [1, 2, 0] rfl (by decide) (by decide) (by decide) d_Model_areSeen_37
theorem d_Model_isAsSeen_0 : decode prog_13_method_114_code 0 = .ok (.aload_n 0, 1) := by decide +kernel
theorem d_Model_isAsSeen_1 : decode prog_13_method_114_code 1 = .ok (.invokevirtual 434, 3) := by decide +kernel
theorem d_Model_isAsSeen_4 : decode prog_13_method_114_code 4 = .ok (.istore_n 1, 1) := by decide +kernel
theorem d_Model_isAsSeen_5 : decode prog_13_method_114_code 5 = .ok (.iconst 0, 1) := by decide +kernel
theorem d_Model_isAsSeen_6 : decode prog_13_method_114_code 6 = .ok (.istore_n 2, 1) := by decide +kernel
theorem d_Model_isAsSeen_7 : decode prog_13_method_114_code 7 = .ok (.iload_n 2, 1) := by decide +kernel
theorem d_Model_isAsSeen_8 : decode prog_13_method_114_code 8 = .ok (.aload_n 0, 1) := by decide +kernel
theorem d_Model_isAsSeen_9 : decode prog_13_method_114_code 9 = .ok (.invokevirtual 341, 3) := by decide +kernel
theorem d_Model_isAsSeen_12 : decode prog_13_method_114_code 12 = .ok (.if_icmp .ge 25, 3) := by decide +kernel
theorem d_Model_isAsSeen_37 : decode prog_13_method_114_code 37 = .ok (.iconst 1, 1) := by decide +kernel
theorem d_Model_isAsSeen_38 : decode prog_13_method_114_code 38 = .ok (.ireturn, 1) := by decide +kernel
set_option maxHeartbeats 4000000 in
set_option maxRecDepth 100000 in
theorem c_M_isAsSeen (l : Launch) (D : va_G) (y : Nat → ClassId) (mo : Nat) (ad : Nat → Nat)  : CT l D y ⟨"NineBoardsModel", "isAsSeen", "()Z"⟩ prog_13_method_114_code 3 (some .boolean) ({ frames := 2, cells := 0, slots := 0, locals := 43 } : Room) [.ref mo] [MB mo ad 0 0 0 0 0 0 0 (-1) 0 0 0 0 0 0 0 0 0 0 1 0, (ad 43, .inl (y 0, 8, .inl (fun _ => 0))), (ad 62, .inl (y 0, 63, .inl (dayF 0))), (ad 45, .inl (y 0, 14, .inl lakeF))] (QI D [MB mo ad 0 0 0 0 0 0 0 (-1) 0 0 0 0 0 0 0 0 0 0 1 0, (ad 43, .inl (y 0, 8, .inl (fun _ => 0))), (ad 62, .inl (y 0, 63, .inl (dayF 0))), (ad 45, .inl (y 0, 14, .inl lakeF))] (fun (r : Int32) (_ : Unit) => r = 1) (fun _ => [MB mo ad 0 0 0 0 0 0 0 (-1) 0 0 0 0 0 0 0 0 0 0 1 0, (ad 43, .inl (y 0, 8, .inl (fun _ => 0))), (ad 62, .inl (y 0, 63, .inl (dayF 0))), (ad 45, .inl (y 0, 14, .inl lakeF))])) := by
  refine CT.of (by decide) (nb rfl) ?_
  intro p e s m args below meth c C hr
  refine j_lv (lv' := [(0, .ref mo)]) rfl ?_
  refine j_aload_n (pc := 0) C d_Model_isAsSeen_0 rfl 0 rfl ?_
  refine j_callVi (pc := 1) C (c_M_flowsNow l D y mo ad 0 0 1 0) kw_Model_434 kv_Model_flowsNow 0 10 rfl rfl ⟨by decide, by decide⟩ ⟨by decide, by decide⟩ (wr := []) [0, 1, 2, 3] [] rfl rfl (by decide) (by decide) (by decide) (As := []) (rest := []) rfl (nb rfl) rfl d_Model_isAsSeen_1 (fun r1 _ hr1 => ?_)
  subst hr1
  refine j_ws (ws' := [MB mo ad 0 0 0 0 0 0 0 (-1) 0 0 0 0 0 0 0 0 0 0 1 0, (ad 43, .inl (y 0, 8, .inl (fun _ => 0))), (ad 62, .inl (y 0, 63, .inl (dayF 0))), (ad 45, .inl (y 0, 14, .inl lakeF))]) rfl ?_
  refine j_st (st' := [.int 0]) rfl ?_
  refine j_istore_n (pc := 4) C (lv' := [(1, .int 0), (0, .ref mo)]) d_Model_isAsSeen_4 rfl (by decide) rfl ?_
  refine j_iconst (pc := 5) C (v := 0) d_Model_isAsSeen_5 (by decide) ?_
  refine j_istore_n (pc := 6) C (lv' := [(2, .int 0), (1, .int 0), (0, .ref mo)]) d_Model_isAsSeen_6 rfl (by decide) rfl ?_
  refine j_iload_n (pc := 7) C d_Model_isAsSeen_7 rfl 0 rfl ?_
  refine j_aload_n (pc := 8) C d_Model_isAsSeen_8 rfl 2 rfl ?_
  refine j_callVi (pc := 9) C (c_M_gateMany l D y mo ad 0 0 1) kw_Model_341 kv_Model_gateMany 0 10 rfl rfl ⟨by decide, by decide⟩ ⟨by decide, by decide⟩ (wr := [(ad 62, .inl (y 0, 63, .inl (dayF 0))), (ad 45, .inl (y 0, 14, .inl lakeF))]) [0, 1] [2, 3] rfl rfl (by decide) (by decide) (by decide) (As := []) (rest := [.int 0]) rfl (nb rfl) rfl d_Model_isAsSeen_9 (fun r2 _ hr2 => ?_)
  subst hr2
  refine j_ws (ws' := [(ad 62, .inl (y 0, 63, .inl (dayF 0))), (ad 45, .inl (y 0, 14, .inl lakeF)), MB mo ad 0 0 0 0 0 0 0 (-1) 0 0 0 0 0 0 0 0 0 0 1 0, (ad 43, .inl (y 0, 8, .inl (fun _ => 0)))]) rfl ?_
  refine j_st (st' := [.int 0, .int 0]) rfl ?_
  refine j_icmp_geT (pc := 12) C (tgt := 37) d_Model_isAsSeen_12 (by decide) (by decide) ?_
  refine j_iconst (pc := 37) C (v := 1) d_Model_isAsSeen_37 (by decide) ?_
  exact j_iret (pc := 38) C hr (by decide) () rfl [2, 3, 0, 1] rfl (by decide) (by decide) (by decide) d_Model_isAsSeen_38
theorem d_Model_thief_0 : decode prog_13_method_115_code 0 = .ok (.aload_n 0, 1) := by decide +kernel
theorem d_Model_thief_1 : decode prog_13_method_115_code 1 = .ok (.invokevirtual 561, 3) := by decide +kernel
theorem kw_Model_561 : KW "NineBoardsModel" 561 ⟨"NineBoardsModel", "areSeen", "()Z"⟩ prog_13_method_112_code 2 (some .boolean) 0 := ⟨(mt_8 (List.mem_of_getElem? (i := 65) rfl) rfl), (mt_1 (List.mem_of_getElem? (i := 16) rfl) rfl), (mt_8 (List.mem_of_getElem? (i := 68) rfl) rfl), by decide +kernel⟩
theorem kv_Model_areSeen : Cond.instanceMethod ⟨"NineBoardsModel", "areSeen", "()Z"⟩ ∈ TB ∧ Cond.selects "NineBoardsModel" ⟨"NineBoardsModel", "areSeen", "()Z"⟩ ⟨"NineBoardsModel", "areSeen", "()Z"⟩ ∈ TB := ⟨(mt_8 (List.mem_of_getElem? (i := 67) rfl) rfl), (ms_0 (List.mem_map.mpr ⟨(⟨"NineBoardsModel", "areSeen", "()Z"⟩, 79), List.mem_of_getElem? (i := 128) (by decide +kernel), rfl⟩) rfl)⟩
theorem d_Model_thief_4 : decode prog_13_method_115_code 4 = .ok (.ifCond .ne 5, 3) := by decide +kernel
theorem d_Model_thief_9 : decode prog_13_method_115_code 9 = .ok (.aload_n 0, 1) := by decide +kernel
theorem d_Model_thief_10 : decode prog_13_method_115_code 10 = .ok (.invokevirtual 564, 3) := by decide +kernel
theorem kw_Model_564 : KW "NineBoardsModel" 564 ⟨"NineBoardsModel", "isAsSeen", "()Z"⟩ prog_13_method_114_code 3 (some .boolean) 0 := ⟨(mt_8 (List.mem_of_getElem? (i := 69) rfl) rfl), (mt_1 (List.mem_of_getElem? (i := 16) rfl) rfl), (mt_8 (List.mem_of_getElem? (i := 72) rfl) rfl), by decide +kernel⟩
theorem kv_Model_isAsSeen : Cond.instanceMethod ⟨"NineBoardsModel", "isAsSeen", "()Z"⟩ ∈ TB ∧ Cond.selects "NineBoardsModel" ⟨"NineBoardsModel", "isAsSeen", "()Z"⟩ ⟨"NineBoardsModel", "isAsSeen", "()Z"⟩ ∈ TB := ⟨(mt_8 (List.mem_of_getElem? (i := 71) rfl) rfl), (ms_0 (List.mem_map.mpr ⟨(⟨"NineBoardsModel", "isAsSeen", "()Z"⟩, 79), List.mem_of_getElem? (i := 129) (by decide +kernel), rfl⟩) rfl)⟩
theorem d_Model_thief_13 : decode prog_13_method_115_code 13 = .ok (.ifCond .eq 9, 3) := by decide +kernel
theorem d_Model_thief_16 : decode prog_13_method_115_code 16 = .ok (.sipush 512, 3) := by decide +kernel
theorem d_Model_thief_19 : decode prog_13_method_115_code 19 = .ok (.goto 4, 3) := by decide +kernel
theorem d_Model_thief_23 : decode prog_13_method_115_code 23 = .ok (.istore_n 1, 1) := by decide +kernel
theorem d_Model_thief_24 : decode prog_13_method_115_code 24 = .ok (.iconst 0, 1) := by decide +kernel
theorem d_Model_thief_25 : decode prog_13_method_115_code 25 = .ok (.istore_n 2, 1) := by decide +kernel
theorem d_Model_thief_26 : decode prog_13_method_115_code 26 = .ok (.iload_n 2, 1) := by decide +kernel
theorem d_Model_thief_27 : decode prog_13_method_115_code 27 = .ok (.aload_n 0, 1) := by decide +kernel
theorem d_Model_thief_28 : decode prog_13_method_115_code 28 = .ok (.invokevirtual 341, 3) := by decide +kernel
theorem d_Model_thief_31 : decode prog_13_method_115_code 31 = .ok (.if_icmp .ge 48, 3) := by decide +kernel
theorem d_Model_thief_79 : decode prog_13_method_115_code 79 = .ok (.iload_n 1, 1) := by decide +kernel
theorem d_Model_thief_80 : decode prog_13_method_115_code 80 = .ok (.ireturn, 1) := by decide +kernel
set_option maxHeartbeats 4000000 in
set_option maxRecDepth 100000 in
theorem c_M_thief (l : Launch) (D : va_G) (y : Nat → ClassId) (mo : Nat) (ad : Nat → Nat)  : CT l D y ⟨"NineBoardsModel", "thief", "()I"⟩ prog_13_method_115_code 3 (some .int) ({ frames := 3, cells := 0, slots := 0, locals := 65 } : Room) [.ref mo] [MB mo ad 0 0 0 0 0 0 0 (-1) 0 0 0 0 0 0 0 0 0 0 1 0, (ad 43, .inl (y 0, 8, .inl (fun _ => 0))), (ad 62, .inl (y 0, 63, .inl (dayF 0))), (ad 45, .inl (y 0, 14, .inl lakeF))] (QI D [MB mo ad 0 0 0 0 0 0 0 (-1) 0 0 0 0 0 0 0 0 0 0 1 0, (ad 43, .inl (y 0, 8, .inl (fun _ => 0))), (ad 62, .inl (y 0, 63, .inl (dayF 0))), (ad 45, .inl (y 0, 14, .inl lakeF))] (fun (r : Int32) (_ : Unit) => r = 512) (fun _ => [])) := by
  refine CT.of (by decide) (nb rfl) ?_
  intro p e s m args below meth c C hr
  refine j_lv (lv' := [(0, .ref mo)]) rfl ?_
  refine j_aload_n (pc := 0) C d_Model_thief_0 rfl 0 rfl ?_
  refine j_callVi (pc := 1) C (c_M_areSeen l D y mo ad) kw_Model_561 kv_Model_areSeen 0 10 rfl rfl ⟨by decide, by decide⟩ ⟨by decide, by decide⟩ (wr := [(ad 45, .inl (y 0, 14, .inl lakeF))]) [0, 1, 2] [3] rfl rfl (by decide) (by decide) (by decide) (As := []) (rest := []) rfl (nb rfl) rfl d_Model_thief_1 (fun r1 _ hr1 => ?_)
  subst hr1
  refine j_ws (ws' := [(ad 45, .inl (y 0, 14, .inl lakeF)), MB mo ad 0 0 0 0 0 0 0 (-1) 0 0 0 0 0 0 0 0 0 0 1 0, (ad 43, .inl (y 0, 8, .inl (fun _ => 0))), (ad 62, .inl (y 0, 63, .inl (dayF 0)))]) rfl ?_
  refine j_st (st' := [.int 1]) rfl ?_
  refine j_if_neT (pc := 4) C (tgt := 9) d_Model_thief_4 (by decide) (by decide) ?_
  refine j_aload_n (pc := 9) C d_Model_thief_9 rfl 0 rfl ?_
  refine j_callVi (pc := 10) C (c_M_isAsSeen l D y mo ad) kw_Model_564 kv_Model_isAsSeen 0 10 rfl rfl ⟨by decide, by decide⟩ ⟨by decide, by decide⟩ (wr := []) [1, 2, 3, 0] [] rfl rfl (by decide) (by decide) (by decide) (As := []) (rest := []) rfl (nb rfl) rfl d_Model_thief_10 (fun r2 _ hr2 => ?_)
  subst hr2
  refine j_ws (ws' := [MB mo ad 0 0 0 0 0 0 0 (-1) 0 0 0 0 0 0 0 0 0 0 1 0, (ad 43, .inl (y 0, 8, .inl (fun _ => 0))), (ad 62, .inl (y 0, 63, .inl (dayF 0))), (ad 45, .inl (y 0, 14, .inl lakeF))]) rfl ?_
  refine j_st (st' := [.int 1]) rfl ?_
  refine j_if_eqF (pc := 13) C (tgt := 22) d_Model_thief_13 (by decide) (by decide) ?_
  refine j_sipush (pc := 16) C (v := 512) d_Model_thief_16 (by decide) ?_
  refine j_goto (pc := 19) C (tgt := 23) d_Model_thief_19 (by decide) ?_
  refine j_istore_n (pc := 23) C (lv' := [(1, .int 512), (0, .ref mo)]) d_Model_thief_23 rfl (by decide) rfl ?_
  refine j_iconst (pc := 24) C (v := 0) d_Model_thief_24 (by decide) ?_
  refine j_istore_n (pc := 25) C (lv' := [(2, .int 0), (1, .int 512), (0, .ref mo)]) d_Model_thief_25 rfl (by decide) rfl ?_
  refine j_iload_n (pc := 26) C d_Model_thief_26 rfl 0 rfl ?_
  refine j_aload_n (pc := 27) C d_Model_thief_27 rfl 2 rfl ?_
  refine j_callVi (pc := 28) C (c_M_gateMany l D y mo ad 0 0 1) kw_Model_341 kv_Model_gateMany 0 10 rfl rfl ⟨by decide, by decide⟩ ⟨by decide, by decide⟩ (wr := [(ad 62, .inl (y 0, 63, .inl (dayF 0))), (ad 45, .inl (y 0, 14, .inl lakeF))]) [0, 1] [2, 3] rfl rfl (by decide) (by decide) (by decide) (As := []) (rest := [.int 0]) rfl (nb rfl) rfl d_Model_thief_28 (fun r3 _ hr3 => ?_)
  subst hr3
  refine j_ws (ws' := [(ad 62, .inl (y 0, 63, .inl (dayF 0))), (ad 45, .inl (y 0, 14, .inl lakeF)), MB mo ad 0 0 0 0 0 0 0 (-1) 0 0 0 0 0 0 0 0 0 0 1 0, (ad 43, .inl (y 0, 8, .inl (fun _ => 0)))]) rfl ?_
  refine j_st (st' := [.int 0, .int 0]) rfl ?_
  refine j_icmp_geT (pc := 31) C (tgt := 79) d_Model_thief_31 (by decide) (by decide) ?_
  refine j_iload_n (pc := 79) C d_Model_thief_79 rfl 1 rfl ?_
  exact j_iret (pc := 80) C hr rfl () rfl [] rfl (by decide) (by decide) (by decide) d_Model_thief_80
theorem d_Model_beaver_0 : decode prog_13_method_116_code 0 = .ok (.aload_n 0, 1) := by decide +kernel
theorem d_Model_beaver_1 : decode prog_13_method_116_code 1 = .ok (.invokevirtual 561, 3) := by decide +kernel
theorem d_Model_beaver_4 : decode prog_13_method_116_code 4 = .ok (.ifCond .ne 5, 3) := by decide +kernel
theorem d_Model_beaver_9 : decode prog_13_method_116_code 9 = .ok (.aload_n 0, 1) := by decide +kernel
theorem d_Model_beaver_10 : decode prog_13_method_116_code 10 = .ok (.invokevirtual 434, 3) := by decide +kernel
theorem d_Model_beaver_13 : decode prog_13_method_116_code 13 = .ok (.istore_n 1, 1) := by decide +kernel
theorem d_Model_beaver_14 : decode prog_13_method_116_code 14 = .ok (.iconst (-1), 1) := by decide +kernel
theorem d_Model_beaver_15 : decode prog_13_method_116_code 15 = .ok (.istore_n 2, 1) := by decide +kernel
theorem d_Model_beaver_16 : decode prog_13_method_116_code 16 = .ok (.iconst 0, 1) := by decide +kernel
theorem d_Model_beaver_17 : decode prog_13_method_116_code 17 = .ok (.istore_n 3, 1) := by decide +kernel
theorem d_Model_beaver_18 : decode prog_13_method_116_code 18 = .ok (.iload_n 3, 1) := by decide +kernel
theorem d_Model_beaver_19 : decode prog_13_method_116_code 19 = .ok (.aload_n 0, 1) := by decide +kernel
theorem d_Model_beaver_20 : decode prog_13_method_116_code 20 = .ok (.invokevirtual 341, 3) := by decide +kernel
theorem d_Model_beaver_23 : decode prog_13_method_116_code 23 = .ok (.if_icmp .ge 49, 3) := by decide +kernel
theorem d_Model_beaver_72 : decode prog_13_method_116_code 72 = .ok (.iload_n 2, 1) := by decide +kernel
theorem d_Model_beaver_73 : decode prog_13_method_116_code 73 = .ok (.ireturn, 1) := by decide +kernel
set_option maxHeartbeats 4000000 in
set_option maxRecDepth 100000 in
theorem c_M_beaver (l : Launch) (D : va_G) (y : Nat → ClassId) (mo : Nat) (ad : Nat → Nat)  : CT l D y ⟨"NineBoardsModel", "beaver", "()I"⟩ prog_13_method_116_code 4 (some .int) ({ frames := 2, cells := 0, slots := 0, locals := 43 } : Room) [.ref mo] [MB mo ad 0 0 0 0 0 0 0 (-1) 0 0 0 0 0 0 0 0 0 0 1 0, (ad 43, .inl (y 0, 8, .inl (fun _ => 0))), (ad 62, .inl (y 0, 63, .inl (dayF 0))), (ad 45, .inl (y 0, 14, .inl lakeF))] (QI D [MB mo ad 0 0 0 0 0 0 0 (-1) 0 0 0 0 0 0 0 0 0 0 1 0, (ad 43, .inl (y 0, 8, .inl (fun _ => 0))), (ad 62, .inl (y 0, 63, .inl (dayF 0))), (ad 45, .inl (y 0, 14, .inl lakeF))] (fun (r : Int32) (_ : Unit) => r = (-1)) (fun _ => [])) := by
  refine CT.of (by decide) (nb rfl) ?_
  intro p e s m args below meth c C hr
  refine j_lv (lv' := [(0, .ref mo)]) rfl ?_
  refine j_aload_n (pc := 0) C d_Model_beaver_0 rfl 0 rfl ?_
  refine j_callVi (pc := 1) C (c_M_areSeen l D y mo ad) kw_Model_561 kv_Model_areSeen 0 10 rfl rfl ⟨by decide, by decide⟩ ⟨by decide, by decide⟩ (wr := [(ad 45, .inl (y 0, 14, .inl lakeF))]) [0, 1, 2] [3] rfl rfl (by decide) (by decide) (by decide) (As := []) (rest := []) rfl (nb rfl) rfl d_Model_beaver_1 (fun r1 _ hr1 => ?_)
  subst hr1
  refine j_ws (ws' := [(ad 45, .inl (y 0, 14, .inl lakeF)), MB mo ad 0 0 0 0 0 0 0 (-1) 0 0 0 0 0 0 0 0 0 0 1 0, (ad 43, .inl (y 0, 8, .inl (fun _ => 0))), (ad 62, .inl (y 0, 63, .inl (dayF 0)))]) rfl ?_
  refine j_st (st' := [.int 1]) rfl ?_
  refine j_if_neT (pc := 4) C (tgt := 9) d_Model_beaver_4 (by decide) (by decide) ?_
  refine j_aload_n (pc := 9) C d_Model_beaver_9 rfl 0 rfl ?_
  refine j_callVi (pc := 10) C (c_M_flowsNow l D y mo ad 0 0 1 0) kw_Model_434 kv_Model_flowsNow 0 10 rfl rfl ⟨by decide, by decide⟩ ⟨by decide, by decide⟩ (wr := []) [1, 2, 3, 0] [] rfl rfl (by decide) (by decide) (by decide) (As := []) (rest := []) rfl (nb rfl) rfl d_Model_beaver_10 (fun r2 _ hr2 => ?_)
  subst hr2
  refine j_ws (ws' := [MB mo ad 0 0 0 0 0 0 0 (-1) 0 0 0 0 0 0 0 0 0 0 1 0, (ad 43, .inl (y 0, 8, .inl (fun _ => 0))), (ad 62, .inl (y 0, 63, .inl (dayF 0))), (ad 45, .inl (y 0, 14, .inl lakeF))]) rfl ?_
  refine j_st (st' := [.int 0]) rfl ?_
  refine j_istore_n (pc := 13) C (lv' := [(1, .int 0), (0, .ref mo)]) d_Model_beaver_13 rfl (by decide) rfl ?_
  refine j_iconst (pc := 14) C (v := (-1)) d_Model_beaver_14 (by decide) ?_
  refine j_istore_n (pc := 15) C (lv' := [(2, .int (-1)), (1, .int 0), (0, .ref mo)]) d_Model_beaver_15 rfl (by decide) rfl ?_
  refine j_iconst (pc := 16) C (v := 0) d_Model_beaver_16 (by decide) ?_
  refine j_istore_n (pc := 17) C (lv' := [(3, .int 0), (2, .int (-1)), (1, .int 0), (0, .ref mo)]) d_Model_beaver_17 rfl (by decide) rfl ?_
  refine j_iload_n (pc := 18) C d_Model_beaver_18 rfl 0 rfl ?_
  refine j_aload_n (pc := 19) C d_Model_beaver_19 rfl 3 rfl ?_
  refine j_callVi (pc := 20) C (c_M_gateMany l D y mo ad 0 0 1) kw_Model_341 kv_Model_gateMany 0 10 rfl rfl ⟨by decide, by decide⟩ ⟨by decide, by decide⟩ (wr := [(ad 62, .inl (y 0, 63, .inl (dayF 0))), (ad 45, .inl (y 0, 14, .inl lakeF))]) [0, 1] [2, 3] rfl rfl (by decide) (by decide) (by decide) (As := []) (rest := [.int 0]) rfl (nb rfl) rfl d_Model_beaver_20 (fun r3 _ hr3 => ?_)
  subst hr3
  refine j_ws (ws' := [(ad 62, .inl (y 0, 63, .inl (dayF 0))), (ad 45, .inl (y 0, 14, .inl lakeF)), MB mo ad 0 0 0 0 0 0 0 (-1) 0 0 0 0 0 0 0 0 0 0 1 0, (ad 43, .inl (y 0, 8, .inl (fun _ => 0)))]) rfl ?_
  refine j_st (st' := [.int 0, .int 0]) rfl ?_
  refine j_icmp_geT (pc := 23) C (tgt := 72) d_Model_beaver_23 (by decide) (by decide) ?_
  refine j_iload_n (pc := 72) C d_Model_beaver_72 rfl 1 rfl ?_
  exact j_iret (pc := 73) C hr rfl () rfl [] rfl (by decide) (by decide) (by decide) d_Model_beaver_73
theorem d_Model_seed_0 : decode prog_13_method_117_code 0 = .ok (.iload_n 1, 1) := by decide +kernel
theorem d_Model_seed_1 : decode prog_13_method_117_code 1 = .ok (.ifCond .ge 5, 3) := by decide +kernel
theorem d_Model_seed_6 : decode prog_13_method_117_code 6 = .ok (.aload_n 0, 1) := by decide +kernel
theorem d_Model_seed_7 : decode prog_13_method_117_code 7 = .ok (.iload_n 1, 1) := by decide +kernel
theorem d_Model_seed_8 : decode prog_13_method_117_code 8 = .ok (.i2l, 1) := by decide +kernel
theorem d_Model_seed_9 : decode prog_13_method_117_code 9 = .ok (.putfield 191, 3) := by decide +kernel
theorem pf_Model_191 : PF "NineBoardsModel" 191 10 76 (.long) false := ⟨_, _, _, ct_Model, rfl, ci_Model, by decide, (mt_5 (List.mem_of_getElem? (i := 164) rfl) rfl), cp_Model, cn_Model, rfl, by decide +kernel, (fun h => by cases h)⟩
theorem d_Model_seed_12 : decode prog_13_method_117_code 12 = .ok (.iconst 1, 1) := by decide +kernel
theorem d_Model_seed_13 : decode prog_13_method_117_code 13 = .ok (.ireturn, 1) := by decide +kernel
theorem d_Model_seed_4 : decode prog_13_method_117_code 4 = .ok (.iconst 0, 1) := by decide +kernel
theorem d_Model_seed_5 : decode prog_13_method_117_code 5 = .ok (.ireturn, 1) := by decide +kernel
set_option maxHeartbeats 4000000 in
set_option maxRecDepth 100000 in
theorem c_M_seed (l : Launch) (D : va_G) (y : Nat → ClassId) (mo : Nat) (ad : Nat → Nat) (n : Int32)  : CT l D y ⟨"NineBoardsModel", "seed", "(I)Z"⟩ prog_13_method_117_code 2 (some .boolean) ({ frames := 0, cells := 0, slots := 0, locals := 0 } : Room) [.ref mo, .int n] [MB mo ad 0 0 0 0 0 0 0 (-1) 0 0 0 0 0 0 0 0 0 0 1 0] (QI D [MB mo ad 0 0 0 0 0 0 0 (-1) 0 0 0 0 0 0 0 0 0 0 1 0] (fun (r : Int32) (_ : Unit) => r = if n.toInt < 0 then 0 else 1) (fun _ => [])) := by
  refine CT.of (by decide) (nb rfl) ?_
  intro p e s m args below meth c C hr
  refine j_lv (lv' := [(0, .ref mo), (1, .int n)]) rfl ?_
  refine j_iload_n (pc := 0) C d_Model_seed_0 rfl 1 rfl ?_
  refine j_if_ge (pc := 1) C (tgt := 6) d_Model_seed_1 (by decide) (fun c1 => ?_) (fun c1 => ?_)
  · refine j_aload_n (pc := 6) C d_Model_seed_6 rfl 0 rfl ?_
    refine j_iload_n (pc := 7) C d_Model_seed_7 rfl 1 rfl ?_
    refine j_i2l (pc := 8) C (v := n.toInt64) d_Model_seed_8 rfl ?_
    refine j_put (pc := 9) C pf_Model_191 0 (ws' := [MB mo ad 0 0 0 0 0 0 0 (-1) 0 0 0 0 0 0 0 0 0 0 n.toInt64 0]) rfl rfl rfl (nl rfl) rfl d_Model_seed_9 ?_
    refine j_iconst (pc := 12) C (v := 1) d_Model_seed_12 (by decide) ?_
    exact j_iret (pc := 13) C hr (by decide) () (by simp only [Int32.lt_iff_toInt_lt, Int32.le_iff_toInt_le, ← Int32.toInt_inj, (by decide : Int32.toInt 0 = 0), (by decide : Int32.toInt 1 = 1)] at c1; (first | rw [if_pos (by omega)] | rw [if_neg (by omega)])) [] rfl (by decide) (by decide) (by decide) d_Model_seed_13
  · refine j_iconst (pc := 4) C (v := 0) d_Model_seed_4 (by decide) ?_
    exact j_iret (pc := 5) C hr (by decide) () (by simp only [Int32.lt_iff_toInt_lt, Int32.le_iff_toInt_le, ← Int32.toInt_inj, (by decide : Int32.toInt 0 = 0), (by decide : Int32.toInt 1 = 1)] at c1; (first | rw [if_pos (by omega)] | rw [if_neg (by omega)])) [] rfl (by decide) (by decide) (by decide) d_Model_seed_5
theorem d_Model_octet_0 : decode prog_13_method_123_code 0 = .ok (.iload_n 1, 1) := by decide +kernel
theorem d_Model_octet_1 : decode prog_13_method_123_code 1 = .ok (.ifCond .lt 20, 3) := by decide +kernel
theorem d_Model_octet_21 : decode prog_13_method_123_code 21 = .ok (.iconst (-1), 1) := by decide +kernel
theorem d_Model_octet_22 : decode prog_13_method_123_code 22 = .ok (.ireturn, 1) := by decide +kernel
theorem d_Model_octet_4 : decode prog_13_method_123_code 4 = .ok (.iload_n 1, 1) := by decide +kernel
theorem d_Model_octet_5 : decode prog_13_method_123_code 5 = .ok (.aload_n 0, 1) := by decide +kernel
theorem d_Model_octet_6 : decode prog_13_method_123_code 6 = .ok (.getfield 582, 3) := by decide +kernel
theorem gf_Model_582 : GF "NineBoardsModel" 582 10 78 := ⟨_, _, _, rfl, ci_Model, by decide, (mt_5 (List.mem_of_getElem? (i := 166) rfl) rfl)⟩
theorem d_Model_octet_9 : decode prog_13_method_123_code 9 = .ok (.if_icmp .ge 12, 3) := by decide +kernel
set_option maxHeartbeats 4000000 in
set_option maxRecDepth 100000 in
theorem c_M_octet (l : Launch) (D : va_G) (y : Nat → ClassId) (mo : Nat) (ad : Nat → Nat) (n : Int32)  : CT l D y ⟨"NineBoardsModel", "octet", "(I)I"⟩ prog_13_method_123_code 2 (some .int) ({ frames := 0, cells := 0, slots := 0, locals := 0 } : Room) [.ref mo, .int n] [MB mo ad 0 0 0 0 0 0 0 (-1) 0 0 0 0 0 0 0 0 0 0 1 0] (QI D [MB mo ad 0 0 0 0 0 0 0 (-1) 0 0 0 0 0 0 0 0 0 0 1 0] (fun (r : Int32) (_ : Unit) => r = (-1)) (fun _ => [])) := by
  refine CT.of (by decide) (nb rfl) ?_
  intro p e s m args below meth c C hr
  refine j_lv (lv' := [(0, .ref mo), (1, .int n)]) rfl ?_
  refine j_iload_n (pc := 0) C d_Model_octet_0 rfl 1 rfl ?_
  refine j_if_lt (pc := 1) C (tgt := 21) d_Model_octet_1 (by decide) (fun c1 => ?_) (fun c1 => ?_)
  · refine j_iconst (pc := 21) C (v := (-1)) d_Model_octet_21 (by decide) ?_
    exact j_iret (pc := 22) C hr rfl () rfl [] rfl (by decide) (by decide) (by decide) d_Model_octet_22
  · refine j_iload_n (pc := 4) C d_Model_octet_4 rfl 1 rfl ?_
    refine j_aload_n (pc := 5) C d_Model_octet_5 rfl 0 rfl ?_
    refine j_get (pc := 6) C gf_Model_582 0 rfl rfl d_Model_octet_6 ?_
    refine j_icmp_geT (pc := 9) C (tgt := 21) d_Model_octet_9 (by decide) (ge_of_nlt c1) ?_
    refine j_iconst (pc := 21) C (v := (-1)) d_Model_octet_21 (by decide) ?_
    exact j_iret (pc := 22) C hr rfl () rfl [] rfl (by decide) (by decide) (by decide) d_Model_octet_22
theorem d_Model_writes_0 : decode prog_13_method_120_code 0 = .ok (.aload_n 0, 1) := by decide +kernel
theorem d_Model_writes_1 : decode prog_13_method_120_code 1 = .ok (.getfield 195, 3) := by decide +kernel
theorem gf_Model_195 : GF "NineBoardsModel" 195 10 77 := ⟨_, _, _, rfl, ci_Model, by decide, (mt_5 (List.mem_of_getElem? (i := 165) rfl) rfl)⟩
theorem d_Model_writes_4 : decode prog_13_method_120_code 4 = .ok (.aload_n 0, 1) := by decide +kernel
theorem d_Model_writes_5 : decode prog_13_method_120_code 5 = .ok (.getfield 582, 3) := by decide +kernel
theorem d_Model_writes_8 : decode prog_13_method_120_code 8 = .ok (.iload_n 1, 1) := by decide +kernel
theorem d_Model_writes_9 : decode prog_13_method_120_code 9 = .ok (.iastore, 1) := by decide +kernel
theorem d_Model_writes_10 : decode prog_13_method_120_code 10 = .ok (.aload_n 0, 1) := by decide +kernel
theorem d_Model_writes_11 : decode prog_13_method_120_code 11 = .ok (.dup, 1) := by decide +kernel
theorem d_Model_writes_12 : decode prog_13_method_120_code 12 = .ok (.getfield 582, 3) := by decide +kernel
theorem d_Model_writes_15 : decode prog_13_method_120_code 15 = .ok (.iconst 1, 1) := by decide +kernel
theorem d_Model_writes_16 : decode prog_13_method_120_code 16 = .ok (.iadd, 1) := by decide +kernel
theorem d_Model_writes_17 : decode prog_13_method_120_code 17 = .ok (.putfield 582, 3) := by decide +kernel
theorem pf_Model_582 : PF "NineBoardsModel" 582 10 78 (.int) false := ⟨_, _, _, ct_Model, rfl, ci_Model, by decide, (mt_5 (List.mem_of_getElem? (i := 166) rfl) rfl), cp_Model, cn_Model, rfl, by decide +kernel, (fun h => by cases h)⟩
theorem d_Model_writes_20 : decode prog_13_method_120_code 20 = .ok (.return_, 1) := by decide +kernel
set_option maxHeartbeats 4000000 in
set_option maxRecDepth 100000 in
theorem c_M_writes_0 (l : Launch) (D : va_G) (y : Nat → ClassId) (mo : Nat) (ad : Nat → Nat)  : CT l D y ⟨"NineBoardsModel", "writes", "(I)V"⟩ prog_13_method_120_code 2 none ({ frames := 0, cells := 0, slots := 0, locals := 0 } : Room) [.ref mo, .int 0] [MB mo ad 0 0 0 0 0 0 0 (-1) 0 0 0 0 0 0 0 0 0 0 1 0, (ad 77, .inl (y 0, 15, .inl (fun _ => 0)))] (QV D [MB mo ad 0 0 0 0 0 0 0 (-1) 0 0 0 0 0 0 0 0 0 0 1 0, (ad 77, .inl (y 0, 15, .inl (fun _ => 0)))] (fun (_ : Unit) => True) (fun _ => [MB mo ad 0 0 0 0 0 0 0 (-1) 0 0 0 0 0 0 0 0 0 0 1 1, (ad 77, .inl (y 0, 15, .inl (fun _ => 0)))])) := by
  refine CT.of (by decide) (nb rfl) ?_
  intro p e s m args below meth c C hr
  refine j_lv (lv' := [(0, .ref mo), (1, .int 0)]) rfl ?_
  refine j_aload_n (pc := 0) C d_Model_writes_0 rfl 0 rfl ?_
  refine j_get (pc := 1) C gf_Model_195 0 rfl rfl d_Model_writes_1 ?_
  refine j_aload_n (pc := 4) C d_Model_writes_4 rfl 0 rfl ?_
  refine j_get (pc := 5) C gf_Model_582 0 rfl rfl d_Model_writes_5 ?_
  refine j_iload_n (pc := 8) C d_Model_writes_8 rfl 1 rfl ?_
  refine j_iast (pc := 9) C 1 rfl (ws' := [MB mo ad 0 0 0 0 0 0 0 (-1) 0 0 0 0 0 0 0 0 0 0 1 0, (ad 77, .inl (y 0, 15, .inl (fun _ => 0)))]) (vin (by decide)) (by rw [up_z0]; rfl) d_Model_writes_9 ?_
  refine j_aload_n (pc := 10) C d_Model_writes_10 rfl 0 rfl ?_
  refine j_dup (pc := 11) C d_Model_writes_11 rfl ?_
  refine j_get (pc := 12) C gf_Model_582 0 rfl rfl d_Model_writes_12 ?_
  refine j_iconst (pc := 15) C (v := 1) d_Model_writes_15 (by decide) ?_
  refine j_iadd (pc := 16) C (v := 1) d_Model_writes_16 (by decide) ?_
  refine j_put (pc := 17) C pf_Model_582 0 (ws' := [MB mo ad 0 0 0 0 0 0 0 (-1) 0 0 0 0 0 0 0 0 0 0 1 1, (ad 77, .inl (y 0, 15, .inl (fun _ => 0)))]) rfl rfl rfl (nl rfl) rfl d_Model_writes_17 ?_
  exact j_vret (pc := 20) C hr () trivial [0, 1] rfl (by decide) (by decide) (by decide) d_Model_writes_20
set_option maxHeartbeats 4000000 in
set_option maxRecDepth 100000 in
theorem c_M_writes_1 (l : Launch) (D : va_G) (y : Nat → ClassId) (mo : Nat) (ad : Nat → Nat)  : CT l D y ⟨"NineBoardsModel", "writes", "(I)V"⟩ prog_13_method_120_code 2 none ({ frames := 0, cells := 0, slots := 0, locals := 0 } : Room) [.ref mo, .int 0] [MB mo ad 0 0 0 0 0 0 0 (-1) 0 0 0 0 0 0 0 0 0 0 1 1, (ad 77, .inl (y 0, 15, .inl (fun _ => 0)))] (QV D [MB mo ad 0 0 0 0 0 0 0 (-1) 0 0 0 0 0 0 0 0 0 0 1 1, (ad 77, .inl (y 0, 15, .inl (fun _ => 0)))] (fun (_ : Unit) => True) (fun _ => [MB mo ad 0 0 0 0 0 0 0 (-1) 0 0 0 0 0 0 0 0 0 0 1 2, (ad 77, .inl (y 0, 15, .inl (fun _ => 0)))])) := by
  refine CT.of (by decide) (nb rfl) ?_
  intro p e s m args below meth c C hr
  refine j_lv (lv' := [(0, .ref mo), (1, .int 0)]) rfl ?_
  refine j_aload_n (pc := 0) C d_Model_writes_0 rfl 0 rfl ?_
  refine j_get (pc := 1) C gf_Model_195 0 rfl rfl d_Model_writes_1 ?_
  refine j_aload_n (pc := 4) C d_Model_writes_4 rfl 0 rfl ?_
  refine j_get (pc := 5) C gf_Model_582 0 rfl rfl d_Model_writes_5 ?_
  refine j_iload_n (pc := 8) C d_Model_writes_8 rfl 1 rfl ?_
  refine j_iast (pc := 9) C 1 rfl (ws' := [MB mo ad 0 0 0 0 0 0 0 (-1) 0 0 0 0 0 0 0 0 0 0 1 1, (ad 77, .inl (y 0, 15, .inl (fun _ => 0)))]) (vin (by decide)) (by rw [up_z0]; rfl) d_Model_writes_9 ?_
  refine j_aload_n (pc := 10) C d_Model_writes_10 rfl 0 rfl ?_
  refine j_dup (pc := 11) C d_Model_writes_11 rfl ?_
  refine j_get (pc := 12) C gf_Model_582 0 rfl rfl d_Model_writes_12 ?_
  refine j_iconst (pc := 15) C (v := 1) d_Model_writes_15 (by decide) ?_
  refine j_iadd (pc := 16) C (v := 2) d_Model_writes_16 (by decide) ?_
  refine j_put (pc := 17) C pf_Model_582 0 (ws' := [MB mo ad 0 0 0 0 0 0 0 (-1) 0 0 0 0 0 0 0 0 0 0 1 2, (ad 77, .inl (y 0, 15, .inl (fun _ => 0)))]) rfl rfl rfl (nl rfl) rfl d_Model_writes_17 ?_
  exact j_vret (pc := 20) C hr () trivial [0, 1] rfl (by decide) (by decide) (by decide) d_Model_writes_20
set_option maxHeartbeats 4000000 in
set_option maxRecDepth 100000 in
theorem c_M_writes_2 (l : Launch) (D : va_G) (y : Nat → ClassId) (mo : Nat) (ad : Nat → Nat)  : CT l D y ⟨"NineBoardsModel", "writes", "(I)V"⟩ prog_13_method_120_code 2 none ({ frames := 0, cells := 0, slots := 0, locals := 0 } : Room) [.ref mo, .int 0] [MB mo ad 0 0 0 0 0 0 0 (-1) 0 0 0 0 0 0 0 0 0 0 1 2, (ad 77, .inl (y 0, 15, .inl (fun _ => 0)))] (QV D [MB mo ad 0 0 0 0 0 0 0 (-1) 0 0 0 0 0 0 0 0 0 0 1 2, (ad 77, .inl (y 0, 15, .inl (fun _ => 0)))] (fun (_ : Unit) => True) (fun _ => [MB mo ad 0 0 0 0 0 0 0 (-1) 0 0 0 0 0 0 0 0 0 0 1 3, (ad 77, .inl (y 0, 15, .inl (fun _ => 0)))])) := by
  refine CT.of (by decide) (nb rfl) ?_
  intro p e s m args below meth c C hr
  refine j_lv (lv' := [(0, .ref mo), (1, .int 0)]) rfl ?_
  refine j_aload_n (pc := 0) C d_Model_writes_0 rfl 0 rfl ?_
  refine j_get (pc := 1) C gf_Model_195 0 rfl rfl d_Model_writes_1 ?_
  refine j_aload_n (pc := 4) C d_Model_writes_4 rfl 0 rfl ?_
  refine j_get (pc := 5) C gf_Model_582 0 rfl rfl d_Model_writes_5 ?_
  refine j_iload_n (pc := 8) C d_Model_writes_8 rfl 1 rfl ?_
  refine j_iast (pc := 9) C 1 rfl (ws' := [MB mo ad 0 0 0 0 0 0 0 (-1) 0 0 0 0 0 0 0 0 0 0 1 2, (ad 77, .inl (y 0, 15, .inl (fun _ => 0)))]) (vin (by decide)) (by rw [up_z0]; rfl) d_Model_writes_9 ?_
  refine j_aload_n (pc := 10) C d_Model_writes_10 rfl 0 rfl ?_
  refine j_dup (pc := 11) C d_Model_writes_11 rfl ?_
  refine j_get (pc := 12) C gf_Model_582 0 rfl rfl d_Model_writes_12 ?_
  refine j_iconst (pc := 15) C (v := 1) d_Model_writes_15 (by decide) ?_
  refine j_iadd (pc := 16) C (v := 3) d_Model_writes_16 (by decide) ?_
  refine j_put (pc := 17) C pf_Model_582 0 (ws' := [MB mo ad 0 0 0 0 0 0 0 (-1) 0 0 0 0 0 0 0 0 0 0 1 3, (ad 77, .inl (y 0, 15, .inl (fun _ => 0)))]) rfl rfl rfl (nl rfl) rfl d_Model_writes_17 ?_
  exact j_vret (pc := 20) C hr () trivial [0, 1] rfl (by decide) (by decide) (by decide) d_Model_writes_20
set_option maxHeartbeats 4000000 in
set_option maxRecDepth 100000 in
theorem c_M_writes_3 (l : Launch) (D : va_G) (y : Nat → ClassId) (mo : Nat) (ad : Nat → Nat)  : CT l D y ⟨"NineBoardsModel", "writes", "(I)V"⟩ prog_13_method_120_code 2 none ({ frames := 0, cells := 0, slots := 0, locals := 0 } : Room) [.ref mo, .int 0] [MB mo ad 0 0 0 0 0 0 0 (-1) 0 0 0 0 0 0 0 0 0 0 1 3, (ad 77, .inl (y 0, 15, .inl (fun _ => 0)))] (QV D [MB mo ad 0 0 0 0 0 0 0 (-1) 0 0 0 0 0 0 0 0 0 0 1 3, (ad 77, .inl (y 0, 15, .inl (fun _ => 0)))] (fun (_ : Unit) => True) (fun _ => [MB mo ad 0 0 0 0 0 0 0 (-1) 0 0 0 0 0 0 0 0 0 0 1 4, (ad 77, .inl (y 0, 15, .inl (fun _ => 0)))])) := by
  refine CT.of (by decide) (nb rfl) ?_
  intro p e s m args below meth c C hr
  refine j_lv (lv' := [(0, .ref mo), (1, .int 0)]) rfl ?_
  refine j_aload_n (pc := 0) C d_Model_writes_0 rfl 0 rfl ?_
  refine j_get (pc := 1) C gf_Model_195 0 rfl rfl d_Model_writes_1 ?_
  refine j_aload_n (pc := 4) C d_Model_writes_4 rfl 0 rfl ?_
  refine j_get (pc := 5) C gf_Model_582 0 rfl rfl d_Model_writes_5 ?_
  refine j_iload_n (pc := 8) C d_Model_writes_8 rfl 1 rfl ?_
  refine j_iast (pc := 9) C 1 rfl (ws' := [MB mo ad 0 0 0 0 0 0 0 (-1) 0 0 0 0 0 0 0 0 0 0 1 3, (ad 77, .inl (y 0, 15, .inl (fun _ => 0)))]) (vin (by decide)) (by rw [up_z0]; rfl) d_Model_writes_9 ?_
  refine j_aload_n (pc := 10) C d_Model_writes_10 rfl 0 rfl ?_
  refine j_dup (pc := 11) C d_Model_writes_11 rfl ?_
  refine j_get (pc := 12) C gf_Model_582 0 rfl rfl d_Model_writes_12 ?_
  refine j_iconst (pc := 15) C (v := 1) d_Model_writes_15 (by decide) ?_
  refine j_iadd (pc := 16) C (v := 4) d_Model_writes_16 (by decide) ?_
  refine j_put (pc := 17) C pf_Model_582 0 (ws' := [MB mo ad 0 0 0 0 0 0 0 (-1) 0 0 0 0 0 0 0 0 0 0 1 4, (ad 77, .inl (y 0, 15, .inl (fun _ => 0)))]) rfl rfl rfl (nl rfl) rfl d_Model_writes_17 ?_
  exact j_vret (pc := 20) C hr () trivial [0, 1] rfl (by decide) (by decide) (by decide) d_Model_writes_20
set_option maxHeartbeats 4000000 in
set_option maxRecDepth 100000 in
theorem c_M_writes_4 (l : Launch) (D : va_G) (y : Nat → ClassId) (mo : Nat) (ad : Nat → Nat)  : CT l D y ⟨"NineBoardsModel", "writes", "(I)V"⟩ prog_13_method_120_code 2 none ({ frames := 0, cells := 0, slots := 0, locals := 0 } : Room) [.ref mo, .int 0] [MB mo ad 0 0 0 0 0 0 0 (-1) 0 0 0 0 0 0 0 0 0 0 1 4, (ad 77, .inl (y 0, 15, .inl (fun _ => 0)))] (QV D [MB mo ad 0 0 0 0 0 0 0 (-1) 0 0 0 0 0 0 0 0 0 0 1 4, (ad 77, .inl (y 0, 15, .inl (fun _ => 0)))] (fun (_ : Unit) => True) (fun _ => [MB mo ad 0 0 0 0 0 0 0 (-1) 0 0 0 0 0 0 0 0 0 0 1 5, (ad 77, .inl (y 0, 15, .inl (fun _ => 0)))])) := by
  refine CT.of (by decide) (nb rfl) ?_
  intro p e s m args below meth c C hr
  refine j_lv (lv' := [(0, .ref mo), (1, .int 0)]) rfl ?_
  refine j_aload_n (pc := 0) C d_Model_writes_0 rfl 0 rfl ?_
  refine j_get (pc := 1) C gf_Model_195 0 rfl rfl d_Model_writes_1 ?_
  refine j_aload_n (pc := 4) C d_Model_writes_4 rfl 0 rfl ?_
  refine j_get (pc := 5) C gf_Model_582 0 rfl rfl d_Model_writes_5 ?_
  refine j_iload_n (pc := 8) C d_Model_writes_8 rfl 1 rfl ?_
  refine j_iast (pc := 9) C 1 rfl (ws' := [MB mo ad 0 0 0 0 0 0 0 (-1) 0 0 0 0 0 0 0 0 0 0 1 4, (ad 77, .inl (y 0, 15, .inl (fun _ => 0)))]) (vin (by decide)) (by rw [up_z0]; rfl) d_Model_writes_9 ?_
  refine j_aload_n (pc := 10) C d_Model_writes_10 rfl 0 rfl ?_
  refine j_dup (pc := 11) C d_Model_writes_11 rfl ?_
  refine j_get (pc := 12) C gf_Model_582 0 rfl rfl d_Model_writes_12 ?_
  refine j_iconst (pc := 15) C (v := 1) d_Model_writes_15 (by decide) ?_
  refine j_iadd (pc := 16) C (v := 5) d_Model_writes_16 (by decide) ?_
  refine j_put (pc := 17) C pf_Model_582 0 (ws' := [MB mo ad 0 0 0 0 0 0 0 (-1) 0 0 0 0 0 0 0 0 0 0 1 5, (ad 77, .inl (y 0, 15, .inl (fun _ => 0)))]) rfl rfl rfl (nl rfl) rfl d_Model_writes_17 ?_
  exact j_vret (pc := 20) C hr () trivial [0, 1] rfl (by decide) (by decide) (by decide) d_Model_writes_20
set_option maxHeartbeats 4000000 in
set_option maxRecDepth 100000 in
theorem c_M_writes_5 (l : Launch) (D : va_G) (y : Nat → ClassId) (mo : Nat) (ad : Nat → Nat)  : CT l D y ⟨"NineBoardsModel", "writes", "(I)V"⟩ prog_13_method_120_code 2 none ({ frames := 0, cells := 0, slots := 0, locals := 0 } : Room) [.ref mo, .int 217] [MB mo ad 0 0 0 0 0 0 0 (-1) 0 0 0 0 0 0 0 0 0 0 1 5, (ad 77, .inl (y 0, 15, .inl (fun _ => 0)))] (QV D [MB mo ad 0 0 0 0 0 0 0 (-1) 0 0 0 0 0 0 0 0 0 0 1 5, (ad 77, .inl (y 0, 15, .inl (fun _ => 0)))] (fun (_ : Unit) => True) (fun _ => [MB mo ad 0 0 0 0 0 0 0 (-1) 0 0 0 0 0 0 0 0 0 0 1 6])) := by
  refine CT.of (by decide) (nb rfl) ?_
  intro p e s m args below meth c C hr
  refine j_lv (lv' := [(0, .ref mo), (1, .int 217)]) rfl ?_
  refine j_aload_n (pc := 0) C d_Model_writes_0 rfl 0 rfl ?_
  refine j_get (pc := 1) C gf_Model_195 0 rfl rfl d_Model_writes_1 ?_
  refine j_aload_n (pc := 4) C d_Model_writes_4 rfl 0 rfl ?_
  refine j_get (pc := 5) C gf_Model_582 0 rfl rfl d_Model_writes_5 ?_
  refine j_iload_n (pc := 8) C d_Model_writes_8 rfl 1 rfl ?_
  refine j_iast (pc := 9) C 1 rfl (ws' := [MB mo ad 0 0 0 0 0 0 0 (-1) 0 0 0 0 0 0 0 0 0 0 1 5, (ad 77, .inl (y 0, 15, .inl (upd (fun _ => 0) 5 217)))]) (vin (by decide)) rfl d_Model_writes_9 ?_
  refine j_aload_n (pc := 10) C d_Model_writes_10 rfl 0 rfl ?_
  refine j_dup (pc := 11) C d_Model_writes_11 rfl ?_
  refine j_get (pc := 12) C gf_Model_582 0 rfl rfl d_Model_writes_12 ?_
  refine j_iconst (pc := 15) C (v := 1) d_Model_writes_15 (by decide) ?_
  refine j_iadd (pc := 16) C (v := 6) d_Model_writes_16 (by decide) ?_
  refine j_put (pc := 17) C pf_Model_582 0 (ws' := [MB mo ad 0 0 0 0 0 0 0 (-1) 0 0 0 0 0 0 0 0 0 0 1 6, (ad 77, .inl (y 0, 15, .inl (upd (fun _ => 0) 5 217)))]) rfl rfl rfl (nl rfl) rfl d_Model_writes_17 ?_
  exact j_vret (pc := 20) C hr () trivial [0] rfl (by decide) (by decide) (by decide) d_Model_writes_20
set_option maxHeartbeats 4000000 in
set_option maxRecDepth 100000 in
theorem c_M_gateMany_5 (l : Launch) (D : va_G) (y : Nat → ClassId) (mo : Nat) (ad : Nat → Nat)  : CT l D y ⟨"NineBoardsModel", "gateMany", "()I"⟩ prog_13_method_54_code 1 (some .int) ({ frames := 0, cells := 0, slots := 0, locals := 0 } : Room) [.ref mo] [MB mo ad 0 0 0 0 0 0 0 (-1) 0 0 0 0 0 0 0 0 0 0 1 5, (ad 43, .inl (y 0, 8, .inl (fun _ => 0)))] (QI D [MB mo ad 0 0 0 0 0 0 0 (-1) 0 0 0 0 0 0 0 0 0 0 1 5, (ad 43, .inl (y 0, 8, .inl (fun _ => 0)))] (fun (r : Int32) (_ : Unit) => r = 0) (fun _ => [MB mo ad 0 0 0 0 0 0 0 (-1) 0 0 0 0 0 0 0 0 0 0 1 5, (ad 43, .inl (y 0, 8, .inl (fun _ => 0)))])) := by
  refine CT.of (by decide) (nb rfl) ?_
  intro p e s m args below meth c C hr
  refine j_lv (lv' := [(0, .ref mo)]) rfl ?_
  refine j_aload_n (pc := 0) C d_Model_gateMany_0 rfl 0 rfl ?_
  refine j_get (pc := 1) C gf_Model_117 0 rfl rfl d_Model_gateMany_1 ?_
  refine j_iconst (pc := 4) C (v := 4) d_Model_gateMany_4 (by decide) ?_
  refine j_iald (pc := 5) C 1 rfl (v := 0) (vin (by decide)) rfl d_Model_gateMany_5 ?_
  exact j_iret (pc := 6) C hr rfl () rfl [0, 1] rfl (by decide) (by decide) (by decide) d_Model_gateMany_6
theorem d_Model_checked_0 : decode prog_13_method_121_code 0 = .ok (.bipush 67, 2) := by decide +kernel
theorem d_Model_checked_2 : decode prog_13_method_121_code 2 = .ok (.istore_n 2, 1) := by decide +kernel
theorem d_Model_checked_3 : decode prog_13_method_121_code 3 = .ok (.iconst 0, 1) := by decide +kernel
theorem d_Model_checked_4 : decode prog_13_method_121_code 4 = .ok (.istore_n 3, 1) := by decide +kernel
theorem d_Model_checked_5 : decode prog_13_method_121_code 5 = .ok (.iload_n 3, 1) := by decide +kernel
theorem d_Model_checked_6 : decode prog_13_method_121_code 6 = .ok (.iload_n 1, 1) := by decide +kernel
theorem d_Model_checked_7 : decode prog_13_method_121_code 7 = .ok (.if_icmp .ge 21, 3) := by decide +kernel
theorem d_Model_checked_10 : decode prog_13_method_121_code 10 = .ok (.iconst 3, 1) := by decide +kernel
theorem d_Model_checked_11 : decode prog_13_method_121_code 11 = .ok (.iload_n 2, 1) := by decide +kernel
theorem d_Model_checked_12 : decode prog_13_method_121_code 12 = .ok (.imul, 1) := by decide +kernel
theorem d_Model_checked_13 : decode prog_13_method_121_code 13 = .ok (.aload_n 0, 1) := by decide +kernel
theorem d_Model_checked_14 : decode prog_13_method_121_code 14 = .ok (.iload_n 3, 1) := by decide +kernel
theorem d_Model_checked_15 : decode prog_13_method_121_code 15 = .ok (.iaload, 1) := by decide +kernel
theorem d_Model_checked_16 : decode prog_13_method_121_code 16 = .ok (.iadd, 1) := by decide +kernel
theorem d_Model_checked_17 : decode prog_13_method_121_code 17 = .ok (.sipush 251, 3) := by decide +kernel
theorem d_Model_checked_20 : decode prog_13_method_121_code 20 = .ok (.irem, 1) := by decide +kernel
theorem d_Model_checked_21 : decode prog_13_method_121_code 21 = .ok (.istore_n 2, 1) := by decide +kernel
theorem d_Model_checked_22 : decode prog_13_method_121_code 22 = .ok (.iinc 3 1, 3) := by decide +kernel
theorem d_Model_checked_25 : decode prog_13_method_121_code 25 = .ok (.goto (-20), 3) := by decide +kernel
theorem d_Model_checked_28 : decode prog_13_method_121_code 28 = .ok (.iload_n 2, 1) := by decide +kernel
theorem d_Model_checked_29 : decode prog_13_method_121_code 29 = .ok (.ireturn, 1) := by decide +kernel
set_option maxHeartbeats 4000000 in
set_option maxRecDepth 100000 in
theorem c_M_checked (l : Launch) (D : va_G) (y : Nat → ClassId) (ad : Nat → Nat)  : CT l D y ⟨"NineBoardsModel", "checked", "([II)I"⟩ prog_13_method_121_code 4 (some .int) ({ frames := 0, cells := 0, slots := 0, locals := 0 } : Room) [.ref (ad 77), .int 5] [(ad 77, .inl (y 0, 15, .inl (fun _ => 0)))] (QI D [(ad 77, .inl (y 0, 15, .inl (fun _ => 0)))] (fun (r : Int32) (_ : Unit) => r = 217) (fun _ => [(ad 77, .inl (y 0, 15, .inl (fun _ => 0)))])) := by
  refine CT.of (by decide) (nb rfl) ?_
  intro p e s m args below meth c C hr
  refine j_lv (lv' := [(0, .ref (ad 77)), (1, .int 5)]) rfl ?_
  refine j_bipush (pc := 0) C (v := 67) d_Model_checked_0 (by decide) ?_
  refine j_istore_n (pc := 2) C (lv' := [(2, .int 67), (0, .ref (ad 77)), (1, .int 5)]) d_Model_checked_2 rfl (by decide) rfl ?_
  refine j_iconst (pc := 3) C (v := 0) d_Model_checked_3 (by decide) ?_
  refine j_istore_n (pc := 4) C (lv' := [(3, .int 0), (2, .int 67), (0, .ref (ad 77)), (1, .int 5)]) d_Model_checked_4 rfl (by decide) rfl ?_
  refine j_iload_n (pc := 5) C d_Model_checked_5 rfl 0 rfl ?_
  refine j_iload_n (pc := 6) C d_Model_checked_6 rfl 3 rfl ?_
  refine j_icmp_geF (pc := 7) C (tgt := 28) d_Model_checked_7 (by decide) (by decide) ?_
  refine j_iconst (pc := 10) C (v := 3) d_Model_checked_10 (by decide) ?_
  refine j_iload_n (pc := 11) C d_Model_checked_11 rfl 1 rfl ?_
  refine j_imul (pc := 12) C (v := 201) d_Model_checked_12 (by decide) ?_
  refine j_aload_n (pc := 13) C d_Model_checked_13 rfl 2 rfl ?_
  refine j_iload_n (pc := 14) C d_Model_checked_14 rfl 0 rfl ?_
  refine j_iald (pc := 15) C 0 rfl (v := 0) (vin (by decide)) rfl d_Model_checked_15 ?_
  refine j_iadd (pc := 16) C (v := 201) d_Model_checked_16 (by decide) ?_
  refine j_sipush (pc := 17) C (v := 251) d_Model_checked_17 (by decide) ?_
  refine j_irem (pc := 20) C (v := 201) d_Model_checked_20 (by decide) (by decide) ?_
  refine j_istore_n (pc := 21) C (lv' := [(2, .int 201), (3, .int 0), (0, .ref (ad 77)), (1, .int 5)]) d_Model_checked_21 rfl (by decide) rfl ?_
  refine j_iinc (pc := 22) C (v := 1) (lv' := [(3, .int 1), (2, .int 201), (0, .ref (ad 77)), (1, .int 5)]) d_Model_checked_22 1 rfl (by decide) (by decide) rfl ?_
  refine j_goto (pc := 25) C (tgt := 5) d_Model_checked_25 (by decide) ?_
  refine j_iload_n (pc := 5) C d_Model_checked_5 rfl 0 rfl ?_
  refine j_iload_n (pc := 6) C d_Model_checked_6 rfl 3 rfl ?_
  refine j_icmp_geF (pc := 7) C (tgt := 28) d_Model_checked_7 (by decide) (by decide) ?_
  refine j_iconst (pc := 10) C (v := 3) d_Model_checked_10 (by decide) ?_
  refine j_iload_n (pc := 11) C d_Model_checked_11 rfl 1 rfl ?_
  refine j_imul (pc := 12) C (v := 603) d_Model_checked_12 (by decide) ?_
  refine j_aload_n (pc := 13) C d_Model_checked_13 rfl 2 rfl ?_
  refine j_iload_n (pc := 14) C d_Model_checked_14 rfl 0 rfl ?_
  refine j_iald (pc := 15) C 0 rfl (v := 0) (vin (by decide)) rfl d_Model_checked_15 ?_
  refine j_iadd (pc := 16) C (v := 603) d_Model_checked_16 (by decide) ?_
  refine j_sipush (pc := 17) C (v := 251) d_Model_checked_17 (by decide) ?_
  refine j_irem (pc := 20) C (v := 101) d_Model_checked_20 (by decide) (by decide) ?_
  refine j_istore_n (pc := 21) C (lv' := [(2, .int 101), (3, .int 1), (0, .ref (ad 77)), (1, .int 5)]) d_Model_checked_21 rfl (by decide) rfl ?_
  refine j_iinc (pc := 22) C (v := 2) (lv' := [(3, .int 2), (2, .int 101), (0, .ref (ad 77)), (1, .int 5)]) d_Model_checked_22 1 rfl (by decide) (by decide) rfl ?_
  refine j_goto (pc := 25) C (tgt := 5) d_Model_checked_25 (by decide) ?_
  refine j_iload_n (pc := 5) C d_Model_checked_5 rfl 0 rfl ?_
  refine j_iload_n (pc := 6) C d_Model_checked_6 rfl 3 rfl ?_
  refine j_icmp_geF (pc := 7) C (tgt := 28) d_Model_checked_7 (by decide) (by decide) ?_
  refine j_iconst (pc := 10) C (v := 3) d_Model_checked_10 (by decide) ?_
  refine j_iload_n (pc := 11) C d_Model_checked_11 rfl 1 rfl ?_
  refine j_imul (pc := 12) C (v := 303) d_Model_checked_12 (by decide) ?_
  refine j_aload_n (pc := 13) C d_Model_checked_13 rfl 2 rfl ?_
  refine j_iload_n (pc := 14) C d_Model_checked_14 rfl 0 rfl ?_
  refine j_iald (pc := 15) C 0 rfl (v := 0) (vin (by decide)) rfl d_Model_checked_15 ?_
  refine j_iadd (pc := 16) C (v := 303) d_Model_checked_16 (by decide) ?_
  refine j_sipush (pc := 17) C (v := 251) d_Model_checked_17 (by decide) ?_
  refine j_irem (pc := 20) C (v := 52) d_Model_checked_20 (by decide) (by decide) ?_
  refine j_istore_n (pc := 21) C (lv' := [(2, .int 52), (3, .int 2), (0, .ref (ad 77)), (1, .int 5)]) d_Model_checked_21 rfl (by decide) rfl ?_
  refine j_iinc (pc := 22) C (v := 3) (lv' := [(3, .int 3), (2, .int 52), (0, .ref (ad 77)), (1, .int 5)]) d_Model_checked_22 1 rfl (by decide) (by decide) rfl ?_
  refine j_goto (pc := 25) C (tgt := 5) d_Model_checked_25 (by decide) ?_
  refine j_iload_n (pc := 5) C d_Model_checked_5 rfl 0 rfl ?_
  refine j_iload_n (pc := 6) C d_Model_checked_6 rfl 3 rfl ?_
  refine j_icmp_geF (pc := 7) C (tgt := 28) d_Model_checked_7 (by decide) (by decide) ?_
  refine j_iconst (pc := 10) C (v := 3) d_Model_checked_10 (by decide) ?_
  refine j_iload_n (pc := 11) C d_Model_checked_11 rfl 1 rfl ?_
  refine j_imul (pc := 12) C (v := 156) d_Model_checked_12 (by decide) ?_
  refine j_aload_n (pc := 13) C d_Model_checked_13 rfl 2 rfl ?_
  refine j_iload_n (pc := 14) C d_Model_checked_14 rfl 0 rfl ?_
  refine j_iald (pc := 15) C 0 rfl (v := 0) (vin (by decide)) rfl d_Model_checked_15 ?_
  refine j_iadd (pc := 16) C (v := 156) d_Model_checked_16 (by decide) ?_
  refine j_sipush (pc := 17) C (v := 251) d_Model_checked_17 (by decide) ?_
  refine j_irem (pc := 20) C (v := 156) d_Model_checked_20 (by decide) (by decide) ?_
  refine j_istore_n (pc := 21) C (lv' := [(2, .int 156), (3, .int 3), (0, .ref (ad 77)), (1, .int 5)]) d_Model_checked_21 rfl (by decide) rfl ?_
  refine j_iinc (pc := 22) C (v := 4) (lv' := [(3, .int 4), (2, .int 156), (0, .ref (ad 77)), (1, .int 5)]) d_Model_checked_22 1 rfl (by decide) (by decide) rfl ?_
  refine j_goto (pc := 25) C (tgt := 5) d_Model_checked_25 (by decide) ?_
  refine j_iload_n (pc := 5) C d_Model_checked_5 rfl 0 rfl ?_
  refine j_iload_n (pc := 6) C d_Model_checked_6 rfl 3 rfl ?_
  refine j_icmp_geF (pc := 7) C (tgt := 28) d_Model_checked_7 (by decide) (by decide) ?_
  refine j_iconst (pc := 10) C (v := 3) d_Model_checked_10 (by decide) ?_
  refine j_iload_n (pc := 11) C d_Model_checked_11 rfl 1 rfl ?_
  refine j_imul (pc := 12) C (v := 468) d_Model_checked_12 (by decide) ?_
  refine j_aload_n (pc := 13) C d_Model_checked_13 rfl 2 rfl ?_
  refine j_iload_n (pc := 14) C d_Model_checked_14 rfl 0 rfl ?_
  refine j_iald (pc := 15) C 0 rfl (v := 0) (vin (by decide)) rfl d_Model_checked_15 ?_
  refine j_iadd (pc := 16) C (v := 468) d_Model_checked_16 (by decide) ?_
  refine j_sipush (pc := 17) C (v := 251) d_Model_checked_17 (by decide) ?_
  refine j_irem (pc := 20) C (v := 217) d_Model_checked_20 (by decide) (by decide) ?_
  refine j_istore_n (pc := 21) C (lv' := [(2, .int 217), (3, .int 4), (0, .ref (ad 77)), (1, .int 5)]) d_Model_checked_21 rfl (by decide) rfl ?_
  refine j_iinc (pc := 22) C (v := 5) (lv' := [(3, .int 5), (2, .int 217), (0, .ref (ad 77)), (1, .int 5)]) d_Model_checked_22 1 rfl (by decide) (by decide) rfl ?_
  refine j_goto (pc := 25) C (tgt := 5) d_Model_checked_25 (by decide) ?_
  refine j_iload_n (pc := 5) C d_Model_checked_5 rfl 0 rfl ?_
  refine j_iload_n (pc := 6) C d_Model_checked_6 rfl 3 rfl ?_
  refine j_icmp_geT (pc := 7) C (tgt := 28) d_Model_checked_7 (by decide) (by decide) ?_
  refine j_iload_n (pc := 28) C d_Model_checked_28 rfl 1 rfl ?_
  exact j_iret (pc := 29) C hr rfl () rfl [0] rfl (by decide) (by decide) (by decide) d_Model_checked_29
theorem d_Model_image_0 : decode prog_13_method_122_code 0 = .ok (.aload_n 0, 1) := by decide +kernel
theorem d_Model_image_1 : decode prog_13_method_122_code 1 = .ok (.iconst 0, 1) := by decide +kernel
theorem d_Model_image_2 : decode prog_13_method_122_code 2 = .ok (.putfield 582, 3) := by decide +kernel
theorem d_Model_image_5 : decode prog_13_method_122_code 5 = .ok (.aload_n 0, 1) := by decide +kernel
theorem d_Model_image_6 : decode prog_13_method_122_code 6 = .ok (.aload_n 0, 1) := by decide +kernel
theorem d_Model_image_7 : decode prog_13_method_122_code 7 = .ok (.getfield 158, 3) := by decide +kernel
theorem d_Model_image_10 : decode prog_13_method_122_code 10 = .ok (.iconst 0, 1) := by decide +kernel
theorem d_Model_image_11 : decode prog_13_method_122_code 11 = .ok (.iaload, 1) := by decide +kernel
theorem d_Model_image_12 : decode prog_13_method_122_code 12 = .ok (.sipush 256, 3) := by decide +kernel
theorem d_Model_image_15 : decode prog_13_method_122_code 15 = .ok (.idiv, 1) := by decide +kernel
theorem d_Model_image_16 : decode prog_13_method_122_code 16 = .ok (.invokevirtual 585, 3) := by decide +kernel
theorem kw_Model_585 : KW "NineBoardsModel" 585 ⟨"NineBoardsModel", "writes", "(I)V"⟩ prog_13_method_120_code 2 none 1 := ⟨(mt_8 (List.mem_of_getElem? (i := 103) rfl) rfl), (mt_1 (List.mem_of_getElem? (i := 16) rfl) rfl), (mt_8 (List.mem_of_getElem? (i := 106) rfl) rfl), by decide +kernel⟩
theorem kv_Model_writes : Cond.instanceMethod ⟨"NineBoardsModel", "writes", "(I)V"⟩ ∈ TB ∧ Cond.selects "NineBoardsModel" ⟨"NineBoardsModel", "writes", "(I)V"⟩ ⟨"NineBoardsModel", "writes", "(I)V"⟩ ∈ TB := ⟨(mt_8 (List.mem_of_getElem? (i := 105) rfl) rfl), (ms_0 (List.mem_map.mpr ⟨(⟨"NineBoardsModel", "writes", "(I)V"⟩, 79), List.mem_of_getElem? (i := 132) (by decide +kernel), rfl⟩) rfl)⟩
theorem d_Model_image_19 : decode prog_13_method_122_code 19 = .ok (.aload_n 0, 1) := by decide +kernel
theorem d_Model_image_20 : decode prog_13_method_122_code 20 = .ok (.aload_n 0, 1) := by decide +kernel
theorem d_Model_image_21 : decode prog_13_method_122_code 21 = .ok (.getfield 158, 3) := by decide +kernel
theorem d_Model_image_24 : decode prog_13_method_122_code 24 = .ok (.iconst 0, 1) := by decide +kernel
theorem d_Model_image_25 : decode prog_13_method_122_code 25 = .ok (.iaload, 1) := by decide +kernel
theorem d_Model_image_26 : decode prog_13_method_122_code 26 = .ok (.sipush 256, 3) := by decide +kernel
theorem d_Model_image_29 : decode prog_13_method_122_code 29 = .ok (.irem, 1) := by decide +kernel
theorem d_Model_image_30 : decode prog_13_method_122_code 30 = .ok (.invokevirtual 585, 3) := by decide +kernel
theorem d_Model_image_33 : decode prog_13_method_122_code 33 = .ok (.aload_n 0, 1) := by decide +kernel
theorem d_Model_image_34 : decode prog_13_method_122_code 34 = .ok (.aload_n 0, 1) := by decide +kernel
theorem d_Model_image_35 : decode prog_13_method_122_code 35 = .ok (.getfield 158, 3) := by decide +kernel
theorem d_Model_image_38 : decode prog_13_method_122_code 38 = .ok (.iconst 1, 1) := by decide +kernel
theorem d_Model_image_39 : decode prog_13_method_122_code 39 = .ok (.iaload, 1) := by decide +kernel
theorem d_Model_image_40 : decode prog_13_method_122_code 40 = .ok (.sipush 256, 3) := by decide +kernel
theorem d_Model_image_43 : decode prog_13_method_122_code 43 = .ok (.idiv, 1) := by decide +kernel
theorem d_Model_image_44 : decode prog_13_method_122_code 44 = .ok (.invokevirtual 585, 3) := by decide +kernel
theorem d_Model_image_47 : decode prog_13_method_122_code 47 = .ok (.aload_n 0, 1) := by decide +kernel
theorem d_Model_image_48 : decode prog_13_method_122_code 48 = .ok (.aload_n 0, 1) := by decide +kernel
theorem d_Model_image_49 : decode prog_13_method_122_code 49 = .ok (.getfield 158, 3) := by decide +kernel
theorem d_Model_image_52 : decode prog_13_method_122_code 52 = .ok (.iconst 1, 1) := by decide +kernel
theorem d_Model_image_53 : decode prog_13_method_122_code 53 = .ok (.iaload, 1) := by decide +kernel
theorem d_Model_image_54 : decode prog_13_method_122_code 54 = .ok (.sipush 256, 3) := by decide +kernel
theorem d_Model_image_57 : decode prog_13_method_122_code 57 = .ok (.irem, 1) := by decide +kernel
theorem d_Model_image_58 : decode prog_13_method_122_code 58 = .ok (.invokevirtual 585, 3) := by decide +kernel
theorem d_Model_image_61 : decode prog_13_method_122_code 61 = .ok (.aload_n 0, 1) := by decide +kernel
theorem d_Model_image_62 : decode prog_13_method_122_code 62 = .ok (.aload_n 0, 1) := by decide +kernel
theorem d_Model_image_63 : decode prog_13_method_122_code 63 = .ok (.getfield 158, 3) := by decide +kernel
theorem d_Model_image_66 : decode prog_13_method_122_code 66 = .ok (.iconst 2, 1) := by decide +kernel
theorem d_Model_image_67 : decode prog_13_method_122_code 67 = .ok (.iaload, 1) := by decide +kernel
theorem d_Model_image_68 : decode prog_13_method_122_code 68 = .ok (.invokevirtual 585, 3) := by decide +kernel
theorem d_Model_image_71 : decode prog_13_method_122_code 71 = .ok (.iconst 0, 1) := by decide +kernel
theorem d_Model_image_72 : decode prog_13_method_122_code 72 = .ok (.istore_n 1, 1) := by decide +kernel
theorem d_Model_image_73 : decode prog_13_method_122_code 73 = .ok (.iload_n 1, 1) := by decide +kernel
theorem d_Model_image_74 : decode prog_13_method_122_code 74 = .ok (.aload_n 0, 1) := by decide +kernel
theorem d_Model_image_75 : decode prog_13_method_122_code 75 = .ok (.invokevirtual 341, 3) := by decide +kernel
theorem d_Model_image_78 : decode prog_13_method_122_code 78 = .ok (.if_icmp .ge 18, 3) := by decide +kernel
theorem d_Model_image_96 : decode prog_13_method_122_code 96 = .ok (.aload_n 0, 1) := by decide +kernel
theorem d_Model_image_97 : decode prog_13_method_122_code 97 = .ok (.aload_n 0, 1) := by decide +kernel
theorem d_Model_image_98 : decode prog_13_method_122_code 98 = .ok (.getfield 195, 3) := by decide +kernel
theorem d_Model_image_101 : decode prog_13_method_122_code 101 = .ok (.aload_n 0, 1) := by decide +kernel
theorem d_Model_image_102 : decode prog_13_method_122_code 102 = .ok (.getfield 582, 3) := by decide +kernel
theorem d_Model_image_105 : decode prog_13_method_122_code 105 = .ok (.invokestatic 588, 3) := by decide +kernel
theorem kw_Model_588 : KW "NineBoardsModel" 588 ⟨"NineBoardsModel", "checked", "([II)I"⟩ prog_13_method_121_code 4 (some .int) 2 := ⟨(mt_8 (List.mem_of_getElem? (i := 107) rfl) rfl), (mt_1 (List.mem_of_getElem? (i := 16) rfl) rfl), (mt_8 (List.mem_of_getElem? (i := 109) rfl) rfl), by decide +kernel⟩
theorem ks_Model_checked : Cond.static ⟨"NineBoardsModel", "checked", "([II)I"⟩ ∈ TB := (mt_8 (List.mem_of_getElem? (i := 108) rfl) rfl)
theorem d_Model_image_108 : decode prog_13_method_122_code 108 = .ok (.invokevirtual 585, 3) := by decide +kernel
theorem d_Model_image_111 : decode prog_13_method_122_code 111 = .ok (.aload_n 0, 1) := by decide +kernel
theorem d_Model_image_112 : decode prog_13_method_122_code 112 = .ok (.getfield 582, 3) := by decide +kernel
theorem d_Model_image_115 : decode prog_13_method_122_code 115 = .ok (.ireturn, 1) := by decide +kernel
set_option maxHeartbeats 4000000 in
set_option maxRecDepth 100000 in
theorem c_M_image (l : Launch) (D : va_G) (y : Nat → ClassId) (mo : Nat) (ad : Nat → Nat)  : CT l D y ⟨"NineBoardsModel", "image", "()I"⟩ prog_13_method_122_code 2 (some .int) ({ frames := 1, cells := 0, slots := 0, locals := 23 } : Room) [.ref mo] [MB mo ad 0 0 0 0 0 0 0 (-1) 0 0 0 0 0 0 0 0 0 0 1 0, (ad 43, .inl (y 0, 8, .inl (fun _ => 0))), (ad 62, .inl (y 0, 63, .inl (dayF 0))), (ad 77, .inl (y 0, 15, .inl (fun _ => 0)))] (QI D [MB mo ad 0 0 0 0 0 0 0 (-1) 0 0 0 0 0 0 0 0 0 0 1 0, (ad 43, .inl (y 0, 8, .inl (fun _ => 0))), (ad 62, .inl (y 0, 63, .inl (dayF 0))), (ad 77, .inl (y 0, 15, .inl (fun _ => 0)))] (fun (r : Int32) (_ : Unit) => r = 6) (fun _ => [])) := by
  refine CT.of (by decide) (nb rfl) ?_
  intro p e s m args below meth c C hr
  refine j_lv (lv' := [(0, .ref mo)]) rfl ?_
  refine j_aload_n (pc := 0) C d_Model_image_0 rfl 0 rfl ?_
  refine j_iconst (pc := 1) C (v := 0) d_Model_image_1 (by decide) ?_
  refine j_put (pc := 2) C pf_Model_582 0 (ws' := [MB mo ad 0 0 0 0 0 0 0 (-1) 0 0 0 0 0 0 0 0 0 0 1 0, (ad 43, .inl (y 0, 8, .inl (fun _ => 0))), (ad 62, .inl (y 0, 63, .inl (dayF 0))), (ad 77, .inl (y 0, 15, .inl (fun _ => 0)))]) rfl rfl rfl (nl rfl) rfl d_Model_image_2 ?_
  refine j_aload_n (pc := 5) C d_Model_image_5 rfl 0 rfl ?_
  refine j_aload_n (pc := 6) C d_Model_image_6 rfl 0 rfl ?_
  refine j_get (pc := 7) C gf_Model_158 0 rfl rfl d_Model_image_7 ?_
  refine j_iconst (pc := 10) C (v := 0) d_Model_image_10 (by decide) ?_
  refine j_iald (pc := 11) C 2 rfl (v := 0) (vin (by decide)) rfl d_Model_image_11 ?_
  refine j_sipush (pc := 12) C (v := 256) d_Model_image_12 (by decide) ?_
  refine j_idiv (pc := 15) C (v := 0) d_Model_image_15 (by decide) (by decide) ?_
  refine j_callVv (pc := 16) C (c_M_writes_0 l D y mo ad) kw_Model_585 kv_Model_writes 0 10 rfl rfl ⟨by decide, by decide⟩ ⟨by decide, by decide⟩ (wr := [(ad 43, .inl (y 0, 8, .inl (fun _ => 0))), (ad 62, .inl (y 0, 63, .inl (dayF 0)))]) [0, 3] [1, 2] rfl rfl (by decide) (by decide) (by decide) (As := [.int 0]) (rest := []) rfl (nb rfl) rfl d_Model_image_16 (fun _ _ => ?_)
  refine j_ws (ws' := [(ad 43, .inl (y 0, 8, .inl (fun _ => 0))), (ad 62, .inl (y 0, 63, .inl (dayF 0))), MB mo ad 0 0 0 0 0 0 0 (-1) 0 0 0 0 0 0 0 0 0 0 1 1, (ad 77, .inl (y 0, 15, .inl (fun _ => 0)))]) rfl ?_
  refine j_aload_n (pc := 19) C d_Model_image_19 rfl 0 rfl ?_
  refine j_aload_n (pc := 20) C d_Model_image_20 rfl 0 rfl ?_
  refine j_get (pc := 21) C gf_Model_158 2 rfl rfl d_Model_image_21 ?_
  refine j_iconst (pc := 24) C (v := 0) d_Model_image_24 (by decide) ?_
  refine j_iald (pc := 25) C 1 rfl (v := 0) (vin (by decide)) rfl d_Model_image_25 ?_
  refine j_sipush (pc := 26) C (v := 256) d_Model_image_26 (by decide) ?_
  refine j_irem (pc := 29) C (v := 0) d_Model_image_29 (by decide) (by decide) ?_
  refine j_callVv (pc := 30) C (c_M_writes_1 l D y mo ad) kw_Model_585 kv_Model_writes 0 10 rfl rfl ⟨by decide, by decide⟩ ⟨by decide, by decide⟩ (wr := [(ad 43, .inl (y 0, 8, .inl (fun _ => 0))), (ad 62, .inl (y 0, 63, .inl (dayF 0)))]) [2, 3] [0, 1] rfl rfl (by decide) (by decide) (by decide) (As := [.int 0]) (rest := []) rfl (nb rfl) rfl d_Model_image_30 (fun _ _ => ?_)
  refine j_ws (ws' := [(ad 43, .inl (y 0, 8, .inl (fun _ => 0))), (ad 62, .inl (y 0, 63, .inl (dayF 0))), MB mo ad 0 0 0 0 0 0 0 (-1) 0 0 0 0 0 0 0 0 0 0 1 2, (ad 77, .inl (y 0, 15, .inl (fun _ => 0)))]) rfl ?_
  refine j_aload_n (pc := 33) C d_Model_image_33 rfl 0 rfl ?_
  refine j_aload_n (pc := 34) C d_Model_image_34 rfl 0 rfl ?_
  refine j_get (pc := 35) C gf_Model_158 2 rfl rfl d_Model_image_35 ?_
  refine j_iconst (pc := 38) C (v := 1) d_Model_image_38 (by decide) ?_
  refine j_iald (pc := 39) C 1 rfl (v := 0) (vin (by decide)) rfl d_Model_image_39 ?_
  refine j_sipush (pc := 40) C (v := 256) d_Model_image_40 (by decide) ?_
  refine j_idiv (pc := 43) C (v := 0) d_Model_image_43 (by decide) (by decide) ?_
  refine j_callVv (pc := 44) C (c_M_writes_2 l D y mo ad) kw_Model_585 kv_Model_writes 0 10 rfl rfl ⟨by decide, by decide⟩ ⟨by decide, by decide⟩ (wr := [(ad 43, .inl (y 0, 8, .inl (fun _ => 0))), (ad 62, .inl (y 0, 63, .inl (dayF 0)))]) [2, 3] [0, 1] rfl rfl (by decide) (by decide) (by decide) (As := [.int 0]) (rest := []) rfl (nb rfl) rfl d_Model_image_44 (fun _ _ => ?_)
  refine j_ws (ws' := [(ad 43, .inl (y 0, 8, .inl (fun _ => 0))), (ad 62, .inl (y 0, 63, .inl (dayF 0))), MB mo ad 0 0 0 0 0 0 0 (-1) 0 0 0 0 0 0 0 0 0 0 1 3, (ad 77, .inl (y 0, 15, .inl (fun _ => 0)))]) rfl ?_
  refine j_aload_n (pc := 47) C d_Model_image_47 rfl 0 rfl ?_
  refine j_aload_n (pc := 48) C d_Model_image_48 rfl 0 rfl ?_
  refine j_get (pc := 49) C gf_Model_158 2 rfl rfl d_Model_image_49 ?_
  refine j_iconst (pc := 52) C (v := 1) d_Model_image_52 (by decide) ?_
  refine j_iald (pc := 53) C 1 rfl (v := 0) (vin (by decide)) rfl d_Model_image_53 ?_
  refine j_sipush (pc := 54) C (v := 256) d_Model_image_54 (by decide) ?_
  refine j_irem (pc := 57) C (v := 0) d_Model_image_57 (by decide) (by decide) ?_
  refine j_callVv (pc := 58) C (c_M_writes_3 l D y mo ad) kw_Model_585 kv_Model_writes 0 10 rfl rfl ⟨by decide, by decide⟩ ⟨by decide, by decide⟩ (wr := [(ad 43, .inl (y 0, 8, .inl (fun _ => 0))), (ad 62, .inl (y 0, 63, .inl (dayF 0)))]) [2, 3] [0, 1] rfl rfl (by decide) (by decide) (by decide) (As := [.int 0]) (rest := []) rfl (nb rfl) rfl d_Model_image_58 (fun _ _ => ?_)
  refine j_ws (ws' := [(ad 43, .inl (y 0, 8, .inl (fun _ => 0))), (ad 62, .inl (y 0, 63, .inl (dayF 0))), MB mo ad 0 0 0 0 0 0 0 (-1) 0 0 0 0 0 0 0 0 0 0 1 4, (ad 77, .inl (y 0, 15, .inl (fun _ => 0)))]) rfl ?_
  refine j_aload_n (pc := 61) C d_Model_image_61 rfl 0 rfl ?_
  refine j_aload_n (pc := 62) C d_Model_image_62 rfl 0 rfl ?_
  refine j_get (pc := 63) C gf_Model_158 2 rfl rfl d_Model_image_63 ?_
  refine j_iconst (pc := 66) C (v := 2) d_Model_image_66 (by decide) ?_
  refine j_iald (pc := 67) C 1 rfl (v := 0) (vin (by decide)) rfl d_Model_image_67 ?_
  refine j_callVv (pc := 68) C (c_M_writes_4 l D y mo ad) kw_Model_585 kv_Model_writes 0 10 rfl rfl ⟨by decide, by decide⟩ ⟨by decide, by decide⟩ (wr := [(ad 43, .inl (y 0, 8, .inl (fun _ => 0))), (ad 62, .inl (y 0, 63, .inl (dayF 0)))]) [2, 3] [0, 1] rfl rfl (by decide) (by decide) (by decide) (As := [.int 0]) (rest := []) rfl (nb rfl) rfl d_Model_image_68 (fun _ _ => ?_)
  refine j_ws (ws' := [(ad 43, .inl (y 0, 8, .inl (fun _ => 0))), (ad 62, .inl (y 0, 63, .inl (dayF 0))), MB mo ad 0 0 0 0 0 0 0 (-1) 0 0 0 0 0 0 0 0 0 0 1 5, (ad 77, .inl (y 0, 15, .inl (fun _ => 0)))]) rfl ?_
  refine j_iconst (pc := 71) C (v := 0) d_Model_image_71 (by decide) ?_
  refine j_istore_n (pc := 72) C (lv' := [(1, .int 0), (0, .ref mo)]) d_Model_image_72 rfl (by decide) rfl ?_
  refine j_iload_n (pc := 73) C d_Model_image_73 rfl 0 rfl ?_
  refine j_aload_n (pc := 74) C d_Model_image_74 rfl 1 rfl ?_
  refine j_callVi (pc := 75) C (c_M_gateMany_5 l D y mo ad) kw_Model_341 kv_Model_gateMany 0 10 rfl rfl ⟨by decide, by decide⟩ ⟨by decide, by decide⟩ (wr := [(ad 62, .inl (y 0, 63, .inl (dayF 0))), (ad 77, .inl (y 0, 15, .inl (fun _ => 0)))]) [2, 0] [1, 3] rfl rfl (by decide) (by decide) (by decide) (As := []) (rest := [.int 0]) rfl (nb rfl) rfl d_Model_image_75 (fun r1 _ hr1 => ?_)
  subst hr1
  refine j_ws (ws' := [(ad 62, .inl (y 0, 63, .inl (dayF 0))), (ad 77, .inl (y 0, 15, .inl (fun _ => 0))), MB mo ad 0 0 0 0 0 0 0 (-1) 0 0 0 0 0 0 0 0 0 0 1 5, (ad 43, .inl (y 0, 8, .inl (fun _ => 0)))]) rfl ?_
  refine j_st (st' := [.int 0, .int 0]) rfl ?_
  refine j_icmp_geT (pc := 78) C (tgt := 96) d_Model_image_78 (by decide) (by decide) ?_
  refine j_aload_n (pc := 96) C d_Model_image_96 rfl 1 rfl ?_
  refine j_aload_n (pc := 97) C d_Model_image_97 rfl 1 rfl ?_
  refine j_get (pc := 98) C gf_Model_195 2 rfl rfl d_Model_image_98 ?_
  refine j_aload_n (pc := 101) C d_Model_image_101 rfl 1 rfl ?_
  refine j_get (pc := 102) C gf_Model_582 2 rfl rfl d_Model_image_102 ?_
  refine j_callSi (pc := 105) C (c_M_checked l D y ad) kw_Model_588 ks_Model_checked ⟨by decide, by decide⟩ ⟨by decide, by decide⟩ (wr := [(ad 62, .inl (y 0, 63, .inl (dayF 0))), MB mo ad 0 0 0 0 0 0 0 (-1) 0 0 0 0 0 0 0 0 0 0 1 5, (ad 43, .inl (y 0, 8, .inl (fun _ => 0)))]) [1] [0, 2, 3] rfl rfl (by decide) (by decide) (by decide) (As := [.ref (ad 77), .int 5]) (rest := [.ref mo]) rfl (nb rfl) rfl d_Model_image_105 (fun r2 _ hr2 => ?_)
  subst hr2
  refine j_ws (ws' := [(ad 62, .inl (y 0, 63, .inl (dayF 0))), MB mo ad 0 0 0 0 0 0 0 (-1) 0 0 0 0 0 0 0 0 0 0 1 5, (ad 43, .inl (y 0, 8, .inl (fun _ => 0))), (ad 77, .inl (y 0, 15, .inl (fun _ => 0)))]) rfl ?_
  refine j_st (st' := [.int 217, .ref mo]) rfl ?_
  refine j_callVv (pc := 108) C (c_M_writes_5 l D y mo ad) kw_Model_585 kv_Model_writes 0 10 rfl rfl ⟨by decide, by decide⟩ ⟨by decide, by decide⟩ (wr := [(ad 62, .inl (y 0, 63, .inl (dayF 0))), (ad 43, .inl (y 0, 8, .inl (fun _ => 0)))]) [1, 3] [0, 2] rfl rfl (by decide) (by decide) (by decide) (As := [.int 217]) (rest := []) rfl (nb rfl) rfl d_Model_image_108 (fun _ _ => ?_)
  refine j_ws (ws' := [(ad 62, .inl (y 0, 63, .inl (dayF 0))), (ad 43, .inl (y 0, 8, .inl (fun _ => 0))), MB mo ad 0 0 0 0 0 0 0 (-1) 0 0 0 0 0 0 0 0 0 0 1 6]) rfl ?_
  refine j_aload_n (pc := 111) C d_Model_image_111 rfl 1 rfl ?_
  refine j_get (pc := 112) C gf_Model_582 2 rfl rfl d_Model_image_112 ?_
  exact j_iret (pc := 115) C hr rfl () rfl [] rfl (by decide) (by decide) (by decide) d_Model_image_115
theorem d_Model_isTold_0 : decode prog_13_method_124_code 0 = .ok (.iload_n 1, 1) := by decide +kernel
theorem d_Model_isTold_1 : decode prog_13_method_124_code 1 = .ok (.bipush 6, 2) := by decide +kernel
theorem d_Model_isTold_3 : decode prog_13_method_124_code 3 = .ok (.aload_n 0, 1) := by decide +kernel
theorem d_Model_isTold_4 : decode prog_13_method_124_code 4 = .ok (.invokevirtual 341, 3) := by decide +kernel
theorem d_Model_isTold_7 : decode prog_13_method_124_code 7 = .ok (.iadd, 1) := by decide +kernel
theorem d_Model_isTold_8 : decode prog_13_method_124_code 8 = .ok (.if_icmp .ne 24, 3) := by decide +kernel
theorem d_Model_isTold_32 : decode prog_13_method_124_code 32 = .ok (.iconst 0, 1) := by decide +kernel
theorem d_Model_isTold_33 : decode prog_13_method_124_code 33 = .ok (.ireturn, 1) := by decide +kernel
set_option maxHeartbeats 4000000 in
set_option maxRecDepth 100000 in
theorem c_M_isTold (l : Launch) (D : va_G) (y : Nat → ClassId) (mo : Nat) (ad : Nat → Nat)  : CT l D y ⟨"NineBoardsModel", "isTold", "(I)Z"⟩ prog_13_method_124_code 3 (some .boolean) ({ frames := 1, cells := 0, slots := 0, locals := 20 } : Room) [.ref mo, .int 0] [MB mo ad 0 0 0 0 0 0 0 (-1) 0 0 0 0 0 0 0 0 0 0 1 0, (ad 43, .inl (y 0, 8, .inl (fun _ => 0)))] (QI D [MB mo ad 0 0 0 0 0 0 0 (-1) 0 0 0 0 0 0 0 0 0 0 1 0, (ad 43, .inl (y 0, 8, .inl (fun _ => 0)))] (fun (r : Int32) (_ : Unit) => r = 0) (fun _ => [MB mo ad 0 0 0 0 0 0 0 (-1) 0 0 0 0 0 0 0 0 0 0 1 0])) := by
  refine CT.of (by decide) (nb rfl) ?_
  intro p e s m args below meth c C hr
  refine j_lv (lv' := [(0, .ref mo), (1, .int 0)]) rfl ?_
  refine j_iload_n (pc := 0) C d_Model_isTold_0 rfl 1 rfl ?_
  refine j_bipush (pc := 1) C (v := 6) d_Model_isTold_1 (by decide) ?_
  refine j_aload_n (pc := 3) C d_Model_isTold_3 rfl 0 rfl ?_
  refine j_callVi (pc := 4) C (c_M_gateMany l D y mo ad 0 0 1) kw_Model_341 kv_Model_gateMany 0 10 rfl rfl ⟨by decide, by decide⟩ ⟨by decide, by decide⟩ (wr := []) [0, 1] [] rfl rfl (by decide) (by decide) (by decide) (As := []) (rest := [.int 6, .int 0]) rfl (nb rfl) rfl d_Model_isTold_4 (fun r1 _ hr1 => ?_)
  subst hr1
  refine j_ws (ws' := [MB mo ad 0 0 0 0 0 0 0 (-1) 0 0 0 0 0 0 0 0 0 0 1 0, (ad 43, .inl (y 0, 8, .inl (fun _ => 0)))]) rfl ?_
  refine j_st (st' := [.int 0, .int 6, .int 0]) rfl ?_
  refine j_iadd (pc := 7) C (v := 6) d_Model_isTold_7 (by decide) ?_
  refine j_icmp_neT (pc := 8) C (tgt := 32) d_Model_isTold_8 (by decide) (by decide) ?_
  refine j_iconst (pc := 32) C (v := 0) d_Model_isTold_32 (by decide) ?_
  exact j_iret (pc := 33) C hr (by decide) () rfl [0] rfl (by decide) (by decide) (by decide) d_Model_isTold_33
theorem d_Model_on_0 : decode prog_13_method_125_code 0 = .ok (.aload_n 0, 1) := by decide +kernel
theorem d_Model_on_1 : decode prog_13_method_125_code 1 = .ok (.getfield 198, 3) := by decide +kernel
theorem d_Model_on_4 : decode prog_13_method_125_code 4 = .ok (.istore_n 1, 1) := by decide +kernel
theorem d_Model_on_5 : decode prog_13_method_125_code 5 = .ok (.aload_n 0, 1) := by decide +kernel
theorem d_Model_on_6 : decode prog_13_method_125_code 6 = .ok (.iconst 0, 1) := by decide +kernel
theorem d_Model_on_7 : decode prog_13_method_125_code 7 = .ok (.putfield 198, 3) := by decide +kernel
theorem d_Model_on_10 : decode prog_13_method_125_code 10 = .ok (.aload_n 0, 1) := by decide +kernel
theorem d_Model_on_11 : decode prog_13_method_125_code 11 = .ok (.iload_n 1, 1) := by decide +kernel
theorem d_Model_on_12 : decode prog_13_method_125_code 12 = .ok (.invokevirtual 592, 3) := by decide +kernel
theorem kw_Model_592 : KW "NineBoardsModel" 592 ⟨"NineBoardsModel", "isTold", "(I)Z"⟩ prog_13_method_124_code 3 (some .boolean) 1 := ⟨(mt_8 (List.mem_of_getElem? (i := 118) rfl) rfl), (mt_1 (List.mem_of_getElem? (i := 16) rfl) rfl), (mt_8 (List.mem_of_getElem? (i := 121) rfl) rfl), by decide +kernel⟩
theorem kv_Model_isTold : Cond.instanceMethod ⟨"NineBoardsModel", "isTold", "(I)Z"⟩ ∈ TB ∧ Cond.selects "NineBoardsModel" ⟨"NineBoardsModel", "isTold", "(I)Z"⟩ ⟨"NineBoardsModel", "isTold", "(I)Z"⟩ ∈ TB := ⟨(mt_8 (List.mem_of_getElem? (i := 120) rfl) rfl), (ms_0 (List.mem_map.mpr ⟨(⟨"NineBoardsModel", "isTold", "(I)Z"⟩, 79), List.mem_of_getElem? (i := 133) (by decide +kernel), rfl⟩) rfl)⟩
theorem d_Model_on_15 : decode prog_13_method_125_code 15 = .ok (.ifCond .ne 5, 3) := by decide +kernel
theorem d_Model_on_18 : decode prog_13_method_125_code 18 = .ok (.iconst 0, 1) := by decide +kernel
theorem d_Model_on_19 : decode prog_13_method_125_code 19 = .ok (.ireturn, 1) := by decide +kernel
set_option maxHeartbeats 4000000 in
set_option maxRecDepth 100000 in
theorem c_M_on (l : Launch) (D : va_G) (y : Nat → ClassId) (mo : Nat) (ad : Nat → Nat)  : CT l D y ⟨"NineBoardsModel", "on", "()Z"⟩ prog_13_method_125_code 3 (some .boolean) ({ frames := 2, cells := 0, slots := 0, locals := 42 } : Room) [.ref mo] [MB mo ad 0 0 0 0 0 0 0 (-1) 0 0 0 0 0 0 0 0 0 0 1 0, (ad 43, .inl (y 0, 8, .inl (fun _ => 0)))] (QI D [MB mo ad 0 0 0 0 0 0 0 (-1) 0 0 0 0 0 0 0 0 0 0 1 0, (ad 43, .inl (y 0, 8, .inl (fun _ => 0)))] (fun (r : Int32) (_ : Unit) => r = 0) (fun _ => [])) := by
  refine CT.of (by decide) (nb rfl) ?_
  intro p e s m args below meth c C hr
  refine j_lv (lv' := [(0, .ref mo)]) rfl ?_
  refine j_aload_n (pc := 0) C d_Model_on_0 rfl 0 rfl ?_
  refine j_get (pc := 1) C gf_Model_198 0 rfl rfl d_Model_on_1 ?_
  refine j_istore_n (pc := 4) C (lv' := [(1, .int 0), (0, .ref mo)]) d_Model_on_4 rfl (by decide) rfl ?_
  refine j_aload_n (pc := 5) C d_Model_on_5 rfl 1 rfl ?_
  refine j_iconst (pc := 6) C (v := 0) d_Model_on_6 (by decide) ?_
  refine j_put (pc := 7) C pf_Model_198 0 (ws' := [MB mo ad 0 0 0 0 0 0 0 (-1) 0 0 0 0 0 0 0 0 0 0 1 0, (ad 43, .inl (y 0, 8, .inl (fun _ => 0)))]) rfl rfl rfl (nl rfl) rfl d_Model_on_7 ?_
  refine j_aload_n (pc := 10) C d_Model_on_10 rfl 1 rfl ?_
  refine j_iload_n (pc := 11) C d_Model_on_11 rfl 0 rfl ?_
  refine j_callVi (pc := 12) C (c_M_isTold l D y mo ad) kw_Model_592 kv_Model_isTold 0 10 rfl rfl ⟨by decide, by decide⟩ ⟨by decide, by decide⟩ (wr := []) [0, 1] [] rfl rfl (by decide) (by decide) (by decide) (As := [.int 0]) (rest := []) rfl (nb rfl) rfl d_Model_on_12 (fun r1 _ hr1 => ?_)
  subst hr1
  refine j_ws (ws' := [MB mo ad 0 0 0 0 0 0 0 (-1) 0 0 0 0 0 0 0 0 0 0 1 0]) rfl ?_
  refine j_st (st' := [.int 0]) rfl ?_
  refine j_if_neF (pc := 15) C (tgt := 20) d_Model_on_15 (by decide) (by decide) ?_
  refine j_iconst (pc := 18) C (v := 0) d_Model_on_18 (by decide) ?_
  exact j_iret (pc := 19) C hr (by decide) () rfl [] rfl (by decide) (by decide) (by decide) d_Model_on_19
theorem d_Model_look_0 : decode prog_13_method_8_code 0 = .ok (.aload_n 0, 1) := by decide +kernel
theorem d_Model_look_1 : decode prog_13_method_8_code 1 = .ok (.getfield 207, 3) := by decide +kernel
theorem gf_Model_207 : GF "NineBoardsModel" 207 10 2 := ⟨_, _, _, rfl, ci_Model, by decide, (mt_5 (List.mem_of_getElem? (i := 90) rfl) rfl)⟩
theorem d_Model_look_4 : decode prog_13_method_8_code 4 = .ok (.aload_n 0, 1) := by decide +kernel
theorem d_Model_look_5 : decode prog_13_method_8_code 5 = .ok (.getfield 210, 3) := by decide +kernel
theorem gf_Model_210 : GF "NineBoardsModel" 210 10 3 := ⟨_, _, _, rfl, ci_Model, by decide, (mt_5 (List.mem_of_getElem? (i := 91) rfl) rfl)⟩
theorem d_Model_look_8 : decode prog_13_method_8_code 8 = .ok (.if_icmp .ge 44, 3) := by decide +kernel
theorem d_Model_look_52 : decode prog_13_method_8_code 52 = .ok (.aload_n 0, 1) := by decide +kernel
theorem d_Model_look_53 : decode prog_13_method_8_code 53 = .ok (.getfield 207, 3) := by decide +kernel
theorem d_Model_look_56 : decode prog_13_method_8_code 56 = .ok (.aload_n 0, 1) := by decide +kernel
theorem d_Model_look_57 : decode prog_13_method_8_code 57 = .ok (.getfield 210, 3) := by decide +kernel
theorem d_Model_look_60 : decode prog_13_method_8_code 60 = .ok (.if_icmp .ge 15, 3) := by decide +kernel
theorem d_Model_look_75 : decode prog_13_method_8_code 75 = .ok (.iconst (-1), 1) := by decide +kernel
theorem d_Model_look_76 : decode prog_13_method_8_code 76 = .ok (.ireturn, 1) := by decide +kernel
set_option maxHeartbeats 4000000 in
set_option maxRecDepth 100000 in
theorem c_M_look (l : Launch) (D : va_G) (y : Nat → ClassId) (mo : Nat) (ad : Nat → Nat)  : CT l D y ⟨"NineBoardsModel", "look", "()I"⟩ prog_13_method_8_code 1 (some .int) ({ frames := 0, cells := 0, slots := 0, locals := 0 } : Room) [.ref mo] [MB mo ad 0 0 0 (-1) 0 (-1) 0 (-1) 0 0 0 0 0 0 0 0 0 0 1 0] (QI D [MB mo ad 0 0 0 (-1) 0 (-1) 0 (-1) 0 0 0 0 0 0 0 0 0 0 1 0] (fun (r : Int32) (_ : Unit) => r = (-1)) (fun _ => [MB mo ad 0 0 0 (-1) 0 (-1) 0 (-1) 0 0 0 0 0 0 0 0 0 0 1 0])) := by
  refine CT.of (by decide) (nb rfl) ?_
  intro p e s m args below meth c C hr
  refine j_lv (lv' := [(0, .ref mo)]) rfl ?_
  refine j_aload_n (pc := 0) C d_Model_look_0 rfl 0 rfl ?_
  refine j_get (pc := 1) C gf_Model_207 0 rfl rfl d_Model_look_1 ?_
  refine j_aload_n (pc := 4) C d_Model_look_4 rfl 0 rfl ?_
  refine j_get (pc := 5) C gf_Model_210 0 rfl rfl d_Model_look_5 ?_
  refine j_icmp_geT (pc := 8) C (tgt := 52) d_Model_look_8 (by decide) (by decide) ?_
  refine j_aload_n (pc := 52) C d_Model_look_52 rfl 0 rfl ?_
  refine j_get (pc := 53) C gf_Model_207 0 rfl rfl d_Model_look_53 ?_
  refine j_aload_n (pc := 56) C d_Model_look_56 rfl 0 rfl ?_
  refine j_get (pc := 57) C gf_Model_210 0 rfl rfl d_Model_look_57 ?_
  refine j_icmp_geT (pc := 60) C (tgt := 75) d_Model_look_60 (by decide) (by decide) ?_
  refine j_iconst (pc := 75) C (v := (-1)) d_Model_look_75 (by decide) ?_
  exact j_iret (pc := 76) C hr rfl () rfl [0] rfl (by decide) (by decide) (by decide) d_Model_look_76
theorem d_Model_isLetter_0 : decode prog_13_method_6_code 0 = .ok (.iload_n 0, 1) := by decide +kernel
theorem d_Model_isLetter_1 : decode prog_13_method_6_code 1 = .ok (.bipush 97, 2) := by decide +kernel
theorem d_Model_isLetter_3 : decode prog_13_method_6_code 3 = .ok (.if_icmp .lt 13, 3) := by decide +kernel
theorem d_Model_isLetter_16 : decode prog_13_method_6_code 16 = .ok (.iconst 0, 1) := by decide +kernel
theorem d_Model_isLetter_17 : decode prog_13_method_6_code 17 = .ok (.ireturn, 1) := by decide +kernel
set_option maxHeartbeats 4000000 in
set_option maxRecDepth 100000 in
theorem c_M_isLetter (l : Launch) (D : va_G) (y : Nat → ClassId)   : CT l D y ⟨"NineBoardsModel", "isLetter", "(I)Z"⟩ prog_13_method_6_code 1 (some .boolean) ({ frames := 0, cells := 0, slots := 0, locals := 0 } : Room) [.int (-1)] [] (QI D [] (fun (r : Int32) (_ : Unit) => r = 0) (fun _ => [])) := by
  refine CT.of (by decide) (nb rfl) ?_
  intro p e s m args below meth c C hr
  refine j_lv (lv' := [(0, .int (-1))]) rfl ?_
  refine j_iload_n (pc := 0) C d_Model_isLetter_0 rfl 0 rfl ?_
  refine j_bipush (pc := 1) C (v := 97) d_Model_isLetter_1 (by decide) ?_
  refine j_icmp_ltT (pc := 3) C (tgt := 16) d_Model_isLetter_3 (by decide) (by decide) ?_
  refine j_iconst (pc := 16) C (v := 0) d_Model_isLetter_16 (by decide) ?_
  exact j_iret (pc := 17) C hr (by decide) () rfl [] rfl (by decide) (by decide) (by decide) d_Model_isLetter_17
theorem d_Model_isHere_0 : decode prog_13_method_9_code 0 = .ok (.aload_n 0, 1) := by decide +kernel
theorem d_Model_isHere_1 : decode prog_13_method_9_code 1 = .ok (.getfield 201, 3) := by decide +kernel
theorem gf_Model_201 : GF "NineBoardsModel" 201 10 5 := ⟨_, _, _, rfl, ci_Model, by decide, (mt_5 (List.mem_of_getElem? (i := 93) rfl) rfl)⟩
theorem d_Model_isHere_4 : decode prog_13_method_9_code 4 = .ok (.ifCond .ne 24, 3) := by decide +kernel
theorem d_Model_isHere_7 : decode prog_13_method_9_code 7 = .ok (.aload_n 0, 1) := by decide +kernel
theorem d_Model_isHere_8 : decode prog_13_method_9_code 8 = .ok (.invokevirtual 213, 3) := by decide +kernel
theorem kw_Model_213 : KW "NineBoardsModel" 213 ⟨"NineBoardsModel", "look", "()I"⟩ prog_13_method_8_code 1 (some .int) 0 := ⟨(mt_6 (List.mem_of_getElem? (i := 116) rfl) rfl), (mt_1 (List.mem_of_getElem? (i := 16) rfl) rfl), (mt_6 (List.mem_of_getElem? (i := 119) rfl) rfl), by decide +kernel⟩
theorem kv_Model_look : Cond.instanceMethod ⟨"NineBoardsModel", "look", "()I"⟩ ∈ TB ∧ Cond.selects "NineBoardsModel" ⟨"NineBoardsModel", "look", "()I"⟩ ⟨"NineBoardsModel", "look", "()I"⟩ ∈ TB := ⟨(mt_6 (List.mem_of_getElem? (i := 118) rfl) rfl), (ms_0 (List.mem_map.mpr ⟨(⟨"NineBoardsModel", "look", "()I"⟩, 79), List.mem_of_getElem? (i := 53) (by decide +kernel), rfl⟩) rfl)⟩
theorem d_Model_isHere_11 : decode prog_13_method_9_code 11 = .ok (.invokestatic 217, 3) := by decide +kernel
theorem kw_Model_217 : KW "NineBoardsModel" 217 ⟨"NineBoardsModel", "isLetter", "(I)Z"⟩ prog_13_method_6_code 1 (some .boolean) 1 := ⟨(mt_6 (List.mem_of_getElem? (i := 120) rfl) rfl), (mt_1 (List.mem_of_getElem? (i := 16) rfl) rfl), (mt_6 (List.mem_of_getElem? (i := 122) rfl) rfl), by decide +kernel⟩
theorem ks_Model_isLetter : Cond.static ⟨"NineBoardsModel", "isLetter", "(I)Z"⟩ ∈ TB := (mt_6 (List.mem_of_getElem? (i := 121) rfl) rfl)
theorem d_Model_isHere_14 : decode prog_13_method_9_code 14 = .ok (.ifCond .eq 14, 3) := by decide +kernel
theorem d_Model_isHere_28 : decode prog_13_method_9_code 28 = .ok (.iconst 0, 1) := by decide +kernel
theorem d_Model_isHere_29 : decode prog_13_method_9_code 29 = .ok (.ireturn, 1) := by decide +kernel
set_option maxHeartbeats 4000000 in
set_option maxRecDepth 100000 in
theorem c_M_isHere (l : Launch) (D : va_G) (y : Nat → ClassId) (mo : Nat) (ad : Nat → Nat) (w : Nat)  : CT l D y ⟨"NineBoardsModel", "isHere", "([C)Z"⟩ prog_13_method_9_code 4 (some .boolean) ({ frames := 1, cells := 0, slots := 0, locals := 20 } : Room) [.ref mo, .ref w] [MB mo ad 0 0 0 (-1) 0 (-1) 0 (-1) 0 0 0 0 0 0 0 0 0 0 1 0] (QI D [MB mo ad 0 0 0 (-1) 0 (-1) 0 (-1) 0 0 0 0 0 0 0 0 0 0 1 0] (fun (r : Int32) (_ : Unit) => r = 0) (fun _ => [MB mo ad 0 0 0 (-1) 0 (-1) 0 (-1) 0 0 0 0 0 0 0 0 0 0 1 0])) := by
  refine CT.of (by decide) (nb rfl) ?_
  intro p e s m args below meth c C hr
  refine j_lv (lv' := [(0, .ref mo), (1, .ref w)]) rfl ?_
  refine j_aload_n (pc := 0) C d_Model_isHere_0 rfl 0 rfl ?_
  refine j_get (pc := 1) C gf_Model_201 0 rfl rfl d_Model_isHere_1 ?_
  refine j_if_neF (pc := 4) C (tgt := 28) d_Model_isHere_4 (by decide) (by decide) ?_
  refine j_aload_n (pc := 7) C d_Model_isHere_7 rfl 0 rfl ?_
  refine j_callVi (pc := 8) C (c_M_look l D y mo ad) kw_Model_213 kv_Model_look 0 10 rfl rfl ⟨by decide, by decide⟩ ⟨by decide, by decide⟩ (wr := []) [0] [] rfl rfl (by decide) (by decide) (by decide) (As := []) (rest := []) rfl (nb rfl) rfl d_Model_isHere_8 (fun r1 _ hr1 => ?_)
  subst hr1
  refine j_ws (ws' := [MB mo ad 0 0 0 (-1) 0 (-1) 0 (-1) 0 0 0 0 0 0 0 0 0 0 1 0]) rfl ?_
  refine j_st (st' := [.int (-1)]) rfl ?_
  refine j_callSi (pc := 11) C (c_M_isLetter l D y ) kw_Model_217 ks_Model_isLetter ⟨by decide, by decide⟩ ⟨by decide, by decide⟩ (wr := [MB mo ad 0 0 0 (-1) 0 (-1) 0 (-1) 0 0 0 0 0 0 0 0 0 0 1 0]) [] [0] rfl rfl (by decide) (by decide) (by decide) (As := [.int (-1)]) (rest := []) rfl (nb rfl) rfl d_Model_isHere_11 (fun r2 _ hr2 => ?_)
  subst hr2
  refine j_ws (ws' := [MB mo ad 0 0 0 (-1) 0 (-1) 0 (-1) 0 0 0 0 0 0 0 0 0 0 1 0]) rfl ?_
  refine j_st (st' := [.int 0]) rfl ?_
  refine j_if_eqT (pc := 14) C (tgt := 28) d_Model_isHere_14 (by decide) (by decide) ?_
  refine j_iconst (pc := 28) C (v := 0) d_Model_isHere_28 (by decide) ?_
  exact j_iret (pc := 29) C hr (by decide) () rfl [0] rfl (by decide) (by decide) (by decide) d_Model_isHere_29
theorem d_Model_takes_0 : decode prog_13_method_10_code 0 = .ok (.aload_n 0, 1) := by decide +kernel
theorem d_Model_takes_1 : decode prog_13_method_10_code 1 = .ok (.aload_n 1, 1) := by decide +kernel
theorem d_Model_takes_2 : decode prog_13_method_10_code 2 = .ok (.invokevirtual 224, 3) := by decide +kernel
theorem kw_Model_224 : KW "NineBoardsModel" 224 ⟨"NineBoardsModel", "isHere", "([C)Z"⟩ prog_13_method_9_code 4 (some .boolean) 1 := ⟨(mt_6 (List.mem_of_getElem? (i := 112) rfl) rfl), (mt_1 (List.mem_of_getElem? (i := 16) rfl) rfl), (mt_6 (List.mem_of_getElem? (i := 115) rfl) rfl), by decide +kernel⟩
theorem kv_Model_isHere : Cond.instanceMethod ⟨"NineBoardsModel", "isHere", "([C)Z"⟩ ∈ TB ∧ Cond.selects "NineBoardsModel" ⟨"NineBoardsModel", "isHere", "([C)Z"⟩ ⟨"NineBoardsModel", "isHere", "([C)Z"⟩ ∈ TB := ⟨(mt_6 (List.mem_of_getElem? (i := 114) rfl) rfl), (ms_0 (List.mem_map.mpr ⟨(⟨"NineBoardsModel", "isHere", "([C)Z"⟩, 79), List.mem_of_getElem? (i := 52) (by decide +kernel), rfl⟩) rfl)⟩
theorem d_Model_takes_5 : decode prog_13_method_10_code 5 = .ok (.ifCond .ne 5, 3) := by decide +kernel
theorem d_Model_takes_8 : decode prog_13_method_10_code 8 = .ok (.iconst 0, 1) := by decide +kernel
theorem d_Model_takes_9 : decode prog_13_method_10_code 9 = .ok (.ireturn, 1) := by decide +kernel
set_option maxHeartbeats 4000000 in
set_option maxRecDepth 100000 in
theorem c_M_takes (l : Launch) (D : va_G) (y : Nat → ClassId) (mo : Nat) (ad : Nat → Nat) (w : Nat)  : CT l D y ⟨"NineBoardsModel", "takes", "([C)Z"⟩ prog_13_method_10_code 2 (some .boolean) ({ frames := 2, cells := 0, slots := 0, locals := 43 } : Room) [.ref mo, .ref w] [MB mo ad 0 0 0 (-1) 0 (-1) 0 (-1) 0 0 0 0 0 0 0 0 0 0 1 0] (QI D [MB mo ad 0 0 0 (-1) 0 (-1) 0 (-1) 0 0 0 0 0 0 0 0 0 0 1 0] (fun (r : Int32) (_ : Unit) => r = 0) (fun _ => [MB mo ad 0 0 0 (-1) 0 (-1) 0 (-1) 0 0 0 0 0 0 0 0 0 0 1 0])) := by
  refine CT.of (by decide) (nb rfl) ?_
  intro p e s m args below meth c C hr
  refine j_lv (lv' := [(0, .ref mo), (1, .ref w)]) rfl ?_
  refine j_aload_n (pc := 0) C d_Model_takes_0 rfl 0 rfl ?_
  refine j_aload_n (pc := 1) C d_Model_takes_1 rfl 1 rfl ?_
  refine j_callVi (pc := 2) C (c_M_isHere l D y mo ad w) kw_Model_224 kv_Model_isHere 0 10 rfl rfl ⟨by decide, by decide⟩ ⟨by decide, by decide⟩ (wr := []) [0] [] rfl rfl (by decide) (by decide) (by decide) (As := [.ref w]) (rest := []) rfl (nb rfl) rfl d_Model_takes_2 (fun r1 _ hr1 => ?_)
  subst hr1
  refine j_ws (ws' := [MB mo ad 0 0 0 (-1) 0 (-1) 0 (-1) 0 0 0 0 0 0 0 0 0 0 1 0]) rfl ?_
  refine j_st (st' := [.int 0]) rfl ?_
  refine j_if_neF (pc := 5) C (tgt := 10) d_Model_takes_5 (by decide) (by decide) ?_
  refine j_iconst (pc := 8) C (v := 0) d_Model_takes_8 (by decide) ?_
  exact j_iret (pc := 9) C hr (by decide) () rfl [0] rfl (by decide) (by decide) (by decide) d_Model_takes_9
theorem d_Model_fail_0 : decode prog_13_method_5_code 0 = .ok (.aload_n 0, 1) := by decide +kernel
theorem d_Model_fail_1 : decode prog_13_method_5_code 1 = .ok (.getfield 201, 3) := by decide +kernel
theorem d_Model_fail_4 : decode prog_13_method_5_code 4 = .ok (.ifCond .eq 4, 3) := by decide +kernel
theorem d_Model_fail_8 : decode prog_13_method_5_code 8 = .ok (.aload_n 0, 1) := by decide +kernel
theorem d_Model_fail_9 : decode prog_13_method_5_code 9 = .ok (.iload_n 1, 1) := by decide +kernel
theorem d_Model_fail_10 : decode prog_13_method_5_code 10 = .ok (.putfield 201, 3) := by decide +kernel
theorem pf_Model_201 : PF "NineBoardsModel" 201 10 5 (.int) false := ⟨_, _, _, ct_Model, rfl, ci_Model, by decide, (mt_5 (List.mem_of_getElem? (i := 93) rfl) rfl), cp_Model, cn_Model, rfl, by decide +kernel, (fun h => by cases h)⟩
theorem d_Model_fail_13 : decode prog_13_method_5_code 13 = .ok (.aload_n 0, 1) := by decide +kernel
theorem d_Model_fail_14 : decode prog_13_method_5_code 14 = .ok (.iload_n 2, 1) := by decide +kernel
theorem d_Model_fail_15 : decode prog_13_method_5_code 15 = .ok (.putfield 204, 3) := by decide +kernel
theorem pf_Model_204 : PF "NineBoardsModel" 204 10 6 (.int) false := ⟨_, _, _, ct_Model, rfl, ci_Model, by decide, (mt_5 (List.mem_of_getElem? (i := 94) rfl) rfl), cp_Model, cn_Model, rfl, by decide +kernel, (fun h => by cases h)⟩
theorem d_Model_fail_18 : decode prog_13_method_5_code 18 = .ok (.return_, 1) := by decide +kernel
set_option maxHeartbeats 4000000 in
set_option maxRecDepth 100000 in
theorem c_M_fail (l : Launch) (D : va_G) (y : Nat → ClassId) (mo : Nat) (ad : Nat → Nat)  : CT l D y ⟨"NineBoardsModel", "fail", "(II)V"⟩ prog_13_method_5_code 3 none ({ frames := 0, cells := 0, slots := 0, locals := 0 } : Room) [.ref mo, .int 1, .int 0] [MB mo ad 0 0 0 (-1) 0 (-1) 0 (-1) 0 0 0 0 0 0 0 0 0 0 1 0] (QV D [MB mo ad 0 0 0 (-1) 0 (-1) 0 (-1) 0 0 0 0 0 0 0 0 0 0 1 0] (fun (_ : Unit) => True) (fun _ => [MB mo ad 0 0 0 (-1) 1 0 0 (-1) 0 0 0 0 0 0 0 0 0 0 1 0])) := by
  refine CT.of (by decide) (nb rfl) ?_
  intro p e s m args below meth c C hr
  refine j_lv (lv' := [(0, .ref mo), (1, .int 1), (2, .int 0)]) rfl ?_
  refine j_aload_n (pc := 0) C d_Model_fail_0 rfl 0 rfl ?_
  refine j_get (pc := 1) C gf_Model_201 0 rfl rfl d_Model_fail_1 ?_
  refine j_if_eqT (pc := 4) C (tgt := 8) d_Model_fail_4 (by decide) (by decide) ?_
  refine j_aload_n (pc := 8) C d_Model_fail_8 rfl 0 rfl ?_
  refine j_iload_n (pc := 9) C d_Model_fail_9 rfl 1 rfl ?_
  refine j_put (pc := 10) C pf_Model_201 0 (ws' := [MB mo ad 0 0 0 (-1) 1 (-1) 0 (-1) 0 0 0 0 0 0 0 0 0 0 1 0]) rfl rfl rfl (nl rfl) rfl d_Model_fail_10 ?_
  refine j_aload_n (pc := 13) C d_Model_fail_13 rfl 0 rfl ?_
  refine j_iload_n (pc := 14) C d_Model_fail_14 rfl 2 rfl ?_
  refine j_put (pc := 15) C pf_Model_204 0 (ws' := [MB mo ad 0 0 0 (-1) 1 0 0 (-1) 0 0 0 0 0 0 0 0 0 0 1 0]) rfl rfl rfl (nl rfl) rfl d_Model_fail_15 ?_
  exact j_vret (pc := 18) C hr () trivial [0] rfl (by decide) (by decide) (by decide) d_Model_fail_18
theorem d_Model_asks_0 : decode prog_13_method_11_code 0 = .ok (.aload_n 0, 1) := by decide +kernel
theorem d_Model_asks_1 : decode prog_13_method_11_code 1 = .ok (.getfield 201, 3) := by decide +kernel
theorem d_Model_asks_4 : decode prog_13_method_11_code 4 = .ok (.ifCond .ne 20, 3) := by decide +kernel
theorem d_Model_asks_7 : decode prog_13_method_11_code 7 = .ok (.aload_n 0, 1) := by decide +kernel
theorem d_Model_asks_8 : decode prog_13_method_11_code 8 = .ok (.aload_n 1, 1) := by decide +kernel
theorem d_Model_asks_9 : decode prog_13_method_11_code 9 = .ok (.invokevirtual 228, 3) := by decide +kernel
theorem kw_Model_228 : KW "NineBoardsModel" 228 ⟨"NineBoardsModel", "takes", "([C)Z"⟩ prog_13_method_10_code 2 (some .boolean) 1 := ⟨(mt_6 (List.mem_of_getElem? (i := 108) rfl) rfl), (mt_1 (List.mem_of_getElem? (i := 16) rfl) rfl), (mt_6 (List.mem_of_getElem? (i := 111) rfl) rfl), by decide +kernel⟩
theorem kv_Model_takes : Cond.instanceMethod ⟨"NineBoardsModel", "takes", "([C)Z"⟩ ∈ TB ∧ Cond.selects "NineBoardsModel" ⟨"NineBoardsModel", "takes", "([C)Z"⟩ ⟨"NineBoardsModel", "takes", "([C)Z"⟩ ∈ TB := ⟨(mt_6 (List.mem_of_getElem? (i := 110) rfl) rfl), (ms_0 (List.mem_map.mpr ⟨(⟨"NineBoardsModel", "takes", "([C)Z"⟩, 79), List.mem_of_getElem? (i := 51) (by decide +kernel), rfl⟩) rfl)⟩
theorem d_Model_asks_12 : decode prog_13_method_11_code 12 = .ok (.ifCond .ne 12, 3) := by decide +kernel
theorem d_Model_asks_15 : decode prog_13_method_11_code 15 = .ok (.aload_n 0, 1) := by decide +kernel
theorem d_Model_asks_16 : decode prog_13_method_11_code 16 = .ok (.iconst 1, 1) := by decide +kernel
theorem d_Model_asks_17 : decode prog_13_method_11_code 17 = .ok (.aload_n 0, 1) := by decide +kernel
theorem d_Model_asks_18 : decode prog_13_method_11_code 18 = .ok (.getfield 207, 3) := by decide +kernel
theorem d_Model_asks_21 : decode prog_13_method_11_code 21 = .ok (.invokevirtual 230, 3) := by decide +kernel
theorem kw_Model_230 : KW "NineBoardsModel" 230 ⟨"NineBoardsModel", "fail", "(II)V"⟩ prog_13_method_5_code 3 none 2 := ⟨(mt_6 (List.mem_of_getElem? (i := 123) rfl) rfl), (mt_1 (List.mem_of_getElem? (i := 16) rfl) rfl), (mt_6 (List.mem_of_getElem? (i := 126) rfl) rfl), by decide +kernel⟩
theorem kv_Model_fail : Cond.instanceMethod ⟨"NineBoardsModel", "fail", "(II)V"⟩ ∈ TB ∧ Cond.selects "NineBoardsModel" ⟨"NineBoardsModel", "fail", "(II)V"⟩ ⟨"NineBoardsModel", "fail", "(II)V"⟩ ∈ TB := ⟨(mt_6 (List.mem_of_getElem? (i := 125) rfl) rfl), (ms_0 (List.mem_map.mpr ⟨(⟨"NineBoardsModel", "fail", "(II)V"⟩, 79), List.mem_of_getElem? (i := 54) (by decide +kernel), rfl⟩) rfl)⟩
theorem d_Model_asks_24 : decode prog_13_method_11_code 24 = .ok (.return_, 1) := by decide +kernel
set_option maxHeartbeats 4000000 in
set_option maxRecDepth 100000 in
theorem c_M_asks_0 (l : Launch) (D : va_G) (y : Nat → ClassId) (mo : Nat) (ad : Nat → Nat) (w : Nat)  : CT l D y ⟨"NineBoardsModel", "asks", "([C)V"⟩ prog_13_method_11_code 2 none ({ frames := 3, cells := 0, slots := 0, locals := 64 } : Room) [.ref mo, .ref w] [MB mo ad 0 0 0 (-1) 0 (-1) 0 (-1) 0 0 0 0 0 0 0 0 0 0 1 0] (QV D [MB mo ad 0 0 0 (-1) 0 (-1) 0 (-1) 0 0 0 0 0 0 0 0 0 0 1 0] (fun (_ : Unit) => True) (fun _ => [MB mo ad 0 0 0 (-1) 1 0 0 (-1) 0 0 0 0 0 0 0 0 0 0 1 0])) := by
  refine CT.of (by decide) (nb rfl) ?_
  intro p e s m args below meth c C hr
  refine j_lv (lv' := [(0, .ref mo), (1, .ref w)]) rfl ?_
  refine j_aload_n (pc := 0) C d_Model_asks_0 rfl 0 rfl ?_
  refine j_get (pc := 1) C gf_Model_201 0 rfl rfl d_Model_asks_1 ?_
  refine j_if_neF (pc := 4) C (tgt := 24) d_Model_asks_4 (by decide) (by decide) ?_
  refine j_aload_n (pc := 7) C d_Model_asks_7 rfl 0 rfl ?_
  refine j_aload_n (pc := 8) C d_Model_asks_8 rfl 1 rfl ?_
  refine j_callVi (pc := 9) C (c_M_takes l D y mo ad w) kw_Model_228 kv_Model_takes 0 10 rfl rfl ⟨by decide, by decide⟩ ⟨by decide, by decide⟩ (wr := []) [0] [] rfl rfl (by decide) (by decide) (by decide) (As := [.ref w]) (rest := []) rfl (nb rfl) rfl d_Model_asks_9 (fun r1 _ hr1 => ?_)
  subst hr1
  refine j_ws (ws' := [MB mo ad 0 0 0 (-1) 0 (-1) 0 (-1) 0 0 0 0 0 0 0 0 0 0 1 0]) rfl ?_
  refine j_st (st' := [.int 0]) rfl ?_
  refine j_if_neF (pc := 12) C (tgt := 24) d_Model_asks_12 (by decide) (by decide) ?_
  refine j_aload_n (pc := 15) C d_Model_asks_15 rfl 0 rfl ?_
  refine j_iconst (pc := 16) C (v := 1) d_Model_asks_16 (by decide) ?_
  refine j_aload_n (pc := 17) C d_Model_asks_17 rfl 0 rfl ?_
  refine j_get (pc := 18) C gf_Model_207 0 rfl rfl d_Model_asks_18 ?_
  refine j_callVv (pc := 21) C (c_M_fail l D y mo ad) kw_Model_230 kv_Model_fail 0 10 rfl rfl ⟨by decide, by decide⟩ ⟨by decide, by decide⟩ (wr := []) [0] [] rfl rfl (by decide) (by decide) (by decide) (As := [.int 1, .int 0]) (rest := []) rfl (nb rfl) rfl d_Model_asks_21 (fun _ _ => ?_)
  refine j_ws (ws' := [MB mo ad 0 0 0 (-1) 1 0 0 (-1) 0 0 0 0 0 0 0 0 0 0 1 0]) rfl ?_
  exact j_vret (pc := 24) C hr () trivial [0] rfl (by decide) (by decide) (by decide) d_Model_asks_24
set_option maxHeartbeats 4000000 in
set_option maxRecDepth 100000 in
theorem c_M_asks_1 (l : Launch) (D : va_G) (y : Nat → ClassId) (mo : Nat) (ad : Nat → Nat) (w : Nat)  : CT l D y ⟨"NineBoardsModel", "asks", "([C)V"⟩ prog_13_method_11_code 2 none ({ frames := 0, cells := 0, slots := 0, locals := 0 } : Room) [.ref mo, .ref w] [MB mo ad 0 0 0 (-1) 1 0 0 (-1) 0 0 0 0 0 0 0 0 0 0 1 0] (QV D [MB mo ad 0 0 0 (-1) 1 0 0 (-1) 0 0 0 0 0 0 0 0 0 0 1 0] (fun (_ : Unit) => True) (fun _ => [MB mo ad 0 0 0 (-1) 1 0 0 (-1) 0 0 0 0 0 0 0 0 0 0 1 0])) := by
  refine CT.of (by decide) (nb rfl) ?_
  intro p e s m args below meth c C hr
  refine j_lv (lv' := [(0, .ref mo), (1, .ref w)]) rfl ?_
  refine j_aload_n (pc := 0) C d_Model_asks_0 rfl 0 rfl ?_
  refine j_get (pc := 1) C gf_Model_201 0 rfl rfl d_Model_asks_1 ?_
  refine j_if_neT (pc := 4) C (tgt := 24) d_Model_asks_4 (by decide) (by decide) ?_
  exact j_vret (pc := 24) C hr () trivial [0] rfl (by decide) (by decide) (by decide) d_Model_asks_24
theorem d_Model_number_0 : decode prog_13_method_14_code 0 = .ok (.aload_n 0, 1) := by decide +kernel
theorem d_Model_number_1 : decode prog_13_method_14_code 1 = .ok (.getfield 201, 3) := by decide +kernel
theorem d_Model_number_4 : decode prog_13_method_14_code 4 = .ok (.ifCond .eq 5, 3) := by decide +kernel
theorem d_Model_number_7 : decode prog_13_method_14_code 7 = .ok (.iconst 0, 1) := by decide +kernel
theorem d_Model_number_8 : decode prog_13_method_14_code 8 = .ok (.ireturn, 1) := by decide +kernel
set_option maxHeartbeats 4000000 in
set_option maxRecDepth 100000 in
theorem c_M_number (l : Launch) (D : va_G) (y : Nat → ClassId) (mo : Nat) (ad : Nat → Nat) (va : Int32) (vb : Int32)  : CT l D y ⟨"NineBoardsModel", "number", "(II)I"⟩ prog_13_method_14_code 5 (some .int) ({ frames := 0, cells := 0, slots := 0, locals := 0 } : Room) [.ref mo, .int va, .int vb] [MB mo ad 0 0 0 (-1) 1 0 0 (-1) 0 0 0 0 0 0 0 0 0 0 1 0] (QI D [MB mo ad 0 0 0 (-1) 1 0 0 (-1) 0 0 0 0 0 0 0 0 0 0 1 0] (fun (r : Int32) (_ : Unit) => r = 0) (fun _ => [MB mo ad 0 0 0 (-1) 1 0 0 (-1) 0 0 0 0 0 0 0 0 0 0 1 0])) := by
  refine CT.of (by decide) (nb rfl) ?_
  intro p e s m args below meth c C hr
  refine j_lv (lv' := [(0, .ref mo), (1, .int va), (2, .int vb)]) rfl ?_
  refine j_aload_n (pc := 0) C d_Model_number_0 rfl 0 rfl ?_
  refine j_get (pc := 1) C gf_Model_201 0 rfl rfl d_Model_number_1 ?_
  refine j_if_eqF (pc := 4) C (tgt := 9) d_Model_number_4 (by decide) (by decide) ?_
  refine j_iconst (pc := 7) C (v := 0) d_Model_number_7 (by decide) ?_
  exact j_iret (pc := 8) C hr rfl () rfl [0] rfl (by decide) (by decide) (by decide) d_Model_number_8
theorem d_Model_asksSign_0 : decode prog_13_method_13_code 0 = .ok (.aload_n 0, 1) := by decide +kernel
theorem d_Model_asksSign_1 : decode prog_13_method_13_code 1 = .ok (.getfield 201, 3) := by decide +kernel
theorem d_Model_asksSign_4 : decode prog_13_method_13_code 4 = .ok (.ifCond .ne 20, 3) := by decide +kernel
theorem d_Model_asksSign_24 : decode prog_13_method_13_code 24 = .ok (.return_, 1) := by decide +kernel
set_option maxHeartbeats 4000000 in
set_option maxRecDepth 100000 in
theorem c_M_asksSign (l : Launch) (D : va_G) (y : Nat → ClassId) (mo : Nat) (ad : Nat → Nat) (va : Int32)  : CT l D y ⟨"NineBoardsModel", "asksSign", "(I)V"⟩ prog_13_method_13_code 2 none ({ frames := 0, cells := 0, slots := 0, locals := 0 } : Room) [.ref mo, .int va] [MB mo ad 0 0 0 (-1) 1 0 0 (-1) 0 0 0 0 0 0 0 0 0 0 1 0] (QV D [MB mo ad 0 0 0 (-1) 1 0 0 (-1) 0 0 0 0 0 0 0 0 0 0 1 0] (fun (_ : Unit) => True) (fun _ => [MB mo ad 0 0 0 (-1) 1 0 0 (-1) 0 0 0 0 0 0 0 0 0 0 1 0])) := by
  refine CT.of (by decide) (nb rfl) ?_
  intro p e s m args below meth c C hr
  refine j_lv (lv' := [(0, .ref mo), (1, .int va)]) rfl ?_
  refine j_aload_n (pc := 0) C d_Model_asksSign_0 rfl 0 rfl ?_
  refine j_get (pc := 1) C gf_Model_201 0 rfl rfl d_Model_asksSign_1 ?_
  refine j_if_neT (pc := 4) C (tgt := 24) d_Model_asksSign_4 (by decide) (by decide) ?_
  exact j_vret (pc := 24) C hr () trivial [0] rfl (by decide) (by decide) (by decide) d_Model_asksSign_24
theorem d_Model_lakeTold_0 : decode prog_13_method_21_code 0 = .ok (.aload_n 0, 1) := by decide +kernel
theorem d_Model_lakeTold_1 : decode prog_13_method_21_code 1 = .ok (.aload_n 0, 1) := by decide +kernel
theorem d_Model_lakeTold_2 : decode prog_13_method_21_code 2 = .ok (.getfield 17, 3) := by decide +kernel
theorem gf_Model_17 : GF "NineBoardsModel" 17 10 9 := ⟨_, _, _, rfl, ci_Model, by decide, (mt_5 (List.mem_of_getElem? (i := 97) rfl) rfl)⟩
theorem d_Model_lakeTold_5 : decode prog_13_method_21_code 5 = .ok (.invokevirtual 263, 3) := by decide +kernel
theorem kw_Model_263 : KW "NineBoardsModel" 263 ⟨"NineBoardsModel", "asks", "([C)V"⟩ prog_13_method_11_code 2 none 1 := ⟨(mt_6 (List.mem_of_getElem? (i := 104) rfl) rfl), (mt_1 (List.mem_of_getElem? (i := 16) rfl) rfl), (mt_6 (List.mem_of_getElem? (i := 107) rfl) rfl), by decide +kernel⟩
theorem kv_Model_asks : Cond.instanceMethod ⟨"NineBoardsModel", "asks", "([C)V"⟩ ∈ TB ∧ Cond.selects "NineBoardsModel" ⟨"NineBoardsModel", "asks", "([C)V"⟩ ⟨"NineBoardsModel", "asks", "([C)V"⟩ ∈ TB := ⟨(mt_6 (List.mem_of_getElem? (i := 106) rfl) rfl), (ms_0 (List.mem_map.mpr ⟨(⟨"NineBoardsModel", "asks", "([C)V"⟩, 79), List.mem_of_getElem? (i := 50) (by decide +kernel), rfl⟩) rfl)⟩
theorem d_Model_lakeTold_8 : decode prog_13_method_21_code 8 = .ok (.aload_n 0, 1) := by decide +kernel
theorem d_Model_lakeTold_9 : decode prog_13_method_21_code 9 = .ok (.aload_n 0, 1) := by decide +kernel
theorem d_Model_lakeTold_10 : decode prog_13_method_21_code 10 = .ok (.getfield 21, 3) := by decide +kernel
theorem gf_Model_21 : GF "NineBoardsModel" 21 10 10 := ⟨_, _, _, rfl, ci_Model, by decide, (mt_5 (List.mem_of_getElem? (i := 98) rfl) rfl)⟩
theorem d_Model_lakeTold_13 : decode prog_13_method_21_code 13 = .ok (.invokevirtual 263, 3) := by decide +kernel
theorem d_Model_lakeTold_16 : decode prog_13_method_21_code 16 = .ok (.aload_n 0, 1) := by decide +kernel
theorem d_Model_lakeTold_17 : decode prog_13_method_21_code 17 = .ok (.getfield 124, 3) := by decide +kernel
theorem d_Model_lakeTold_20 : decode prog_13_method_21_code 20 = .ok (.iconst 0, 1) := by decide +kernel
theorem d_Model_lakeTold_21 : decode prog_13_method_21_code 21 = .ok (.aload_n 0, 1) := by decide +kernel
theorem d_Model_lakeTold_22 : decode prog_13_method_21_code 22 = .ok (.iconst 1, 1) := by decide +kernel
theorem d_Model_lakeTold_23 : decode prog_13_method_21_code 23 = .ok (.sipush 999, 3) := by decide +kernel
theorem d_Model_lakeTold_26 : decode prog_13_method_21_code 26 = .ok (.invokevirtual 267, 3) := by decide +kernel
theorem kw_Model_267 : KW "NineBoardsModel" 267 ⟨"NineBoardsModel", "number", "(II)I"⟩ prog_13_method_14_code 5 (some .int) 2 := ⟨(mt_6 (List.mem_of_getElem? (i := 127) rfl) rfl), (mt_1 (List.mem_of_getElem? (i := 16) rfl) rfl), (mt_6 (List.mem_of_getElem? (i := 130) rfl) rfl), by decide +kernel⟩
theorem kv_Model_number : Cond.instanceMethod ⟨"NineBoardsModel", "number", "(II)I"⟩ ∈ TB ∧ Cond.selects "NineBoardsModel" ⟨"NineBoardsModel", "number", "(II)I"⟩ ⟨"NineBoardsModel", "number", "(II)I"⟩ ∈ TB := ⟨(mt_6 (List.mem_of_getElem? (i := 129) rfl) rfl), (ms_0 (List.mem_map.mpr ⟨(⟨"NineBoardsModel", "number", "(II)I"⟩, 79), List.mem_of_getElem? (i := 55) (by decide +kernel), rfl⟩) rfl)⟩
theorem d_Model_lakeTold_29 : decode prog_13_method_21_code 29 = .ok (.iastore, 1) := by decide +kernel
theorem d_Model_lakeTold_30 : decode prog_13_method_21_code 30 = .ok (.aload_n 0, 1) := by decide +kernel
theorem d_Model_lakeTold_31 : decode prog_13_method_21_code 31 = .ok (.aload_n 0, 1) := by decide +kernel
theorem d_Model_lakeTold_32 : decode prog_13_method_21_code 32 = .ok (.getfield 24, 3) := by decide +kernel
theorem gf_Model_24 : GF "NineBoardsModel" 24 10 11 := ⟨_, _, _, rfl, ci_Model, by decide, (mt_5 (List.mem_of_getElem? (i := 99) rfl) rfl)⟩
theorem d_Model_lakeTold_35 : decode prog_13_method_21_code 35 = .ok (.invokevirtual 263, 3) := by decide +kernel
theorem d_Model_lakeTold_38 : decode prog_13_method_21_code 38 = .ok (.aload_n 0, 1) := by decide +kernel
theorem d_Model_lakeTold_39 : decode prog_13_method_21_code 39 = .ok (.getfield 124, 3) := by decide +kernel
theorem d_Model_lakeTold_42 : decode prog_13_method_21_code 42 = .ok (.iconst 1, 1) := by decide +kernel
theorem d_Model_lakeTold_43 : decode prog_13_method_21_code 43 = .ok (.aload_n 0, 1) := by decide +kernel
theorem d_Model_lakeTold_44 : decode prog_13_method_21_code 44 = .ok (.iconst 1, 1) := by decide +kernel
theorem d_Model_lakeTold_45 : decode prog_13_method_21_code 45 = .ok (.sipush 9999, 3) := by decide +kernel
theorem d_Model_lakeTold_48 : decode prog_13_method_21_code 48 = .ok (.invokevirtual 267, 3) := by decide +kernel
theorem d_Model_lakeTold_51 : decode prog_13_method_21_code 51 = .ok (.iastore, 1) := by decide +kernel
theorem d_Model_lakeTold_52 : decode prog_13_method_21_code 52 = .ok (.aload_n 0, 1) := by decide +kernel
theorem d_Model_lakeTold_53 : decode prog_13_method_21_code 53 = .ok (.aload_n 0, 1) := by decide +kernel
theorem d_Model_lakeTold_54 : decode prog_13_method_21_code 54 = .ok (.getfield 27, 3) := by decide +kernel
theorem gf_Model_27 : GF "NineBoardsModel" 27 10 12 := ⟨_, _, _, rfl, ci_Model, by decide, (mt_5 (List.mem_of_getElem? (i := 100) rfl) rfl)⟩
theorem d_Model_lakeTold_57 : decode prog_13_method_21_code 57 = .ok (.invokevirtual 263, 3) := by decide +kernel
theorem d_Model_lakeTold_60 : decode prog_13_method_21_code 60 = .ok (.aload_n 0, 1) := by decide +kernel
theorem d_Model_lakeTold_61 : decode prog_13_method_21_code 61 = .ok (.getfield 124, 3) := by decide +kernel
theorem d_Model_lakeTold_64 : decode prog_13_method_21_code 64 = .ok (.iconst 2, 1) := by decide +kernel
theorem d_Model_lakeTold_65 : decode prog_13_method_21_code 65 = .ok (.aload_n 0, 1) := by decide +kernel
theorem d_Model_lakeTold_66 : decode prog_13_method_21_code 66 = .ok (.iconst 0, 1) := by decide +kernel
theorem d_Model_lakeTold_67 : decode prog_13_method_21_code 67 = .ok (.aload_n 0, 1) := by decide +kernel
theorem d_Model_lakeTold_68 : decode prog_13_method_21_code 68 = .ok (.getfield 201, 3) := by decide +kernel
theorem d_Model_lakeTold_71 : decode prog_13_method_21_code 71 = .ok (.ifCond .ne 12, 3) := by decide +kernel
theorem d_Model_lakeTold_83 : decode prog_13_method_21_code 83 = .ok (.iconst 0, 1) := by decide +kernel
theorem d_Model_lakeTold_84 : decode prog_13_method_21_code 84 = .ok (.invokevirtual 267, 3) := by decide +kernel
theorem d_Model_lakeTold_87 : decode prog_13_method_21_code 87 = .ok (.iastore, 1) := by decide +kernel
theorem d_Model_lakeTold_88 : decode prog_13_method_21_code 88 = .ok (.aload_n 0, 1) := by decide +kernel
theorem d_Model_lakeTold_89 : decode prog_13_method_21_code 89 = .ok (.getfield 124, 3) := by decide +kernel
theorem d_Model_lakeTold_92 : decode prog_13_method_21_code 92 = .ok (.iconst 3, 1) := by decide +kernel
theorem d_Model_lakeTold_93 : decode prog_13_method_21_code 93 = .ok (.iconst 0, 1) := by decide +kernel
theorem d_Model_lakeTold_94 : decode prog_13_method_21_code 94 = .ok (.iastore, 1) := by decide +kernel
theorem d_Model_lakeTold_95 : decode prog_13_method_21_code 95 = .ok (.aload_n 0, 1) := by decide +kernel
theorem d_Model_lakeTold_96 : decode prog_13_method_21_code 96 = .ok (.getfield 124, 3) := by decide +kernel
theorem d_Model_lakeTold_99 : decode prog_13_method_21_code 99 = .ok (.iconst 4, 1) := by decide +kernel
theorem d_Model_lakeTold_100 : decode prog_13_method_21_code 100 = .ok (.iconst 0, 1) := by decide +kernel
theorem d_Model_lakeTold_101 : decode prog_13_method_21_code 101 = .ok (.iastore, 1) := by decide +kernel
theorem d_Model_lakeTold_102 : decode prog_13_method_21_code 102 = .ok (.aload_n 0, 1) := by decide +kernel
theorem d_Model_lakeTold_103 : decode prog_13_method_21_code 103 = .ok (.getfield 124, 3) := by decide +kernel
theorem d_Model_lakeTold_106 : decode prog_13_method_21_code 106 = .ok (.iconst 5, 1) := by decide +kernel
theorem d_Model_lakeTold_107 : decode prog_13_method_21_code 107 = .ok (.sipush 9999, 3) := by decide +kernel
theorem d_Model_lakeTold_110 : decode prog_13_method_21_code 110 = .ok (.iastore, 1) := by decide +kernel
theorem d_Model_lakeTold_111 : decode prog_13_method_21_code 111 = .ok (.aload_n 0, 1) := by decide +kernel
theorem d_Model_lakeTold_112 : decode prog_13_method_21_code 112 = .ok (.getfield 124, 3) := by decide +kernel
theorem d_Model_lakeTold_115 : decode prog_13_method_21_code 115 = .ok (.bipush 6, 2) := by decide +kernel
theorem d_Model_lakeTold_117 : decode prog_13_method_21_code 117 = .ok (.iconst 0, 1) := by decide +kernel
theorem d_Model_lakeTold_118 : decode prog_13_method_21_code 118 = .ok (.iastore, 1) := by decide +kernel
theorem d_Model_lakeTold_119 : decode prog_13_method_21_code 119 = .ok (.aload_n 0, 1) := by decide +kernel
theorem d_Model_lakeTold_120 : decode prog_13_method_21_code 120 = .ok (.bipush 59, 2) := by decide +kernel
theorem d_Model_lakeTold_122 : decode prog_13_method_21_code 122 = .ok (.invokevirtual 271, 3) := by decide +kernel
theorem kw_Model_271 : KW "NineBoardsModel" 271 ⟨"NineBoardsModel", "asksSign", "(I)V"⟩ prog_13_method_13_code 2 none 1 := ⟨(mt_6 (List.mem_of_getElem? (i := 137) rfl) rfl), (mt_1 (List.mem_of_getElem? (i := 16) rfl) rfl), (mt_6 (List.mem_of_getElem? (i := 140) rfl) rfl), by decide +kernel⟩
theorem kv_Model_asksSign : Cond.instanceMethod ⟨"NineBoardsModel", "asksSign", "(I)V"⟩ ∈ TB ∧ Cond.selects "NineBoardsModel" ⟨"NineBoardsModel", "asksSign", "(I)V"⟩ ⟨"NineBoardsModel", "asksSign", "(I)V"⟩ ∈ TB := ⟨(mt_6 (List.mem_of_getElem? (i := 139) rfl) rfl), (ms_0 (List.mem_map.mpr ⟨(⟨"NineBoardsModel", "asksSign", "(I)V"⟩, 79), List.mem_of_getElem? (i := 56) (by decide +kernel), rfl⟩) rfl)⟩
theorem d_Model_lakeTold_125 : decode prog_13_method_21_code 125 = .ok (.aload_n 0, 1) := by decide +kernel
theorem d_Model_lakeTold_126 : decode prog_13_method_21_code 126 = .ok (.iconst 1, 1) := by decide +kernel
theorem d_Model_lakeTold_127 : decode prog_13_method_21_code 127 = .ok (.putfield 275, 3) := by decide +kernel
theorem pf_Model_275 : PF "NineBoardsModel" 275 10 49 (.int) false := ⟨_, _, _, ct_Model, rfl, ci_Model, by decide, (mt_5 (List.mem_of_getElem? (i := 137) rfl) rfl), cp_Model, cn_Model, rfl, by decide +kernel, (fun h => by cases h)⟩
theorem d_Model_lakeTold_130 : decode prog_13_method_21_code 130 = .ok (.return_, 1) := by decide +kernel
set_option maxHeartbeats 4000000 in
set_option maxRecDepth 100000 in
theorem c_M_lakeTold (l : Launch) (D : va_G) (y : Nat → ClassId) (mo : Nat) (ad : Nat → Nat)  : CT l D y ⟨"NineBoardsModel", "lakeTold", "()V"⟩ prog_13_method_21_code 1 none ({ frames := 4, cells := 0, slots := 0, locals := 85 } : Room) [.ref mo] [MB mo ad 0 0 0 (-1) 0 (-1) 0 (-1) 0 0 0 0 0 0 0 0 0 0 1 0, (ad 45, .inl (y 0, 14, .inl lakeF))] (QV D [MB mo ad 0 0 0 (-1) 0 (-1) 0 (-1) 0 0 0 0 0 0 0 0 0 0 1 0, (ad 45, .inl (y 0, 14, .inl lakeF))] (fun (_ : Unit) => True) (fun _ => [MB mo ad 0 0 0 (-1) 1 0 0 (-1) 0 1 0 0 0 0 0 0 0 0 1 0])) := by
  refine CT.of (by decide) (nb rfl) ?_
  intro p e s m args below meth c C hr
  refine j_lv (lv' := [(0, .ref mo)]) rfl ?_
  refine j_aload_n (pc := 0) C d_Model_lakeTold_0 rfl 0 rfl ?_
  refine j_aload_n (pc := 1) C d_Model_lakeTold_1 rfl 0 rfl ?_
  refine j_get (pc := 2) C gf_Model_17 0 rfl rfl d_Model_lakeTold_2 ?_
  refine j_callVv (pc := 5) C (c_M_asks_0 l D y mo ad (ad 9)) kw_Model_263 kv_Model_asks 0 10 rfl rfl ⟨by decide, by decide⟩ ⟨by decide, by decide⟩ (wr := [(ad 45, .inl (y 0, 14, .inl lakeF))]) [0] [1] rfl rfl (by decide) (by decide) (by decide) (As := [.ref (ad 9)]) (rest := []) rfl (nb rfl) rfl d_Model_lakeTold_5 (fun _ _ => ?_)
  refine j_ws (ws' := [(ad 45, .inl (y 0, 14, .inl lakeF)), MB mo ad 0 0 0 (-1) 1 0 0 (-1) 0 0 0 0 0 0 0 0 0 0 1 0]) rfl ?_
  refine j_aload_n (pc := 8) C d_Model_lakeTold_8 rfl 0 rfl ?_
  refine j_aload_n (pc := 9) C d_Model_lakeTold_9 rfl 0 rfl ?_
  refine j_get (pc := 10) C gf_Model_21 1 rfl rfl d_Model_lakeTold_10 ?_
  refine j_callVv (pc := 13) C (c_M_asks_1 l D y mo ad (ad 10)) kw_Model_263 kv_Model_asks 0 10 rfl rfl ⟨by decide, by decide⟩ ⟨by decide, by decide⟩ (wr := [(ad 45, .inl (y 0, 14, .inl lakeF))]) [1] [0] rfl rfl (by decide) (by decide) (by decide) (As := [.ref (ad 10)]) (rest := []) rfl (nb rfl) rfl d_Model_lakeTold_13 (fun _ _ => ?_)
  refine j_ws (ws' := [(ad 45, .inl (y 0, 14, .inl lakeF)), MB mo ad 0 0 0 (-1) 1 0 0 (-1) 0 0 0 0 0 0 0 0 0 0 1 0]) rfl ?_
  refine j_aload_n (pc := 16) C d_Model_lakeTold_16 rfl 0 rfl ?_
  refine j_get (pc := 17) C gf_Model_124 1 rfl rfl d_Model_lakeTold_17 ?_
  refine j_iconst (pc := 20) C (v := 0) d_Model_lakeTold_20 (by decide) ?_
  refine j_aload_n (pc := 21) C d_Model_lakeTold_21 rfl 0 rfl ?_
  refine j_iconst (pc := 22) C (v := 1) d_Model_lakeTold_22 (by decide) ?_
  refine j_sipush (pc := 23) C (v := 999) d_Model_lakeTold_23 (by decide) ?_
  refine j_callVi (pc := 26) C (c_M_number l D y mo ad 1 999) kw_Model_267 kv_Model_number 0 10 rfl rfl ⟨by decide, by decide⟩ ⟨by decide, by decide⟩ (wr := [(ad 45, .inl (y 0, 14, .inl lakeF))]) [1] [0] rfl rfl (by decide) (by decide) (by decide) (As := [.int 1, .int 999]) (rest := [.int 0, .ref (ad 45)]) rfl (nb rfl) rfl d_Model_lakeTold_26 (fun r1 _ hr1 => ?_)
  subst hr1
  refine j_ws (ws' := [(ad 45, .inl (y 0, 14, .inl lakeF)), MB mo ad 0 0 0 (-1) 1 0 0 (-1) 0 0 0 0 0 0 0 0 0 0 1 0]) rfl ?_
  refine j_st (st' := [.int 0, .int 0, .ref (ad 45)]) rfl ?_
  refine j_iast (pc := 29) C 0 rfl (ws' := [(ad 45, .inl (y 0, 14, .inl (upd lakeF 0 0))), MB mo ad 0 0 0 (-1) 1 0 0 (-1) 0 0 0 0 0 0 0 0 0 0 1 0]) (vin (by decide)) rfl d_Model_lakeTold_29 ?_
  refine j_aload_n (pc := 30) C d_Model_lakeTold_30 rfl 0 rfl ?_
  refine j_aload_n (pc := 31) C d_Model_lakeTold_31 rfl 0 rfl ?_
  refine j_get (pc := 32) C gf_Model_24 1 rfl rfl d_Model_lakeTold_32 ?_
  refine j_callVv (pc := 35) C (c_M_asks_1 l D y mo ad (ad 11)) kw_Model_263 kv_Model_asks 0 10 rfl rfl ⟨by decide, by decide⟩ ⟨by decide, by decide⟩ (wr := [(ad 45, .inl (y 0, 14, .inl (upd lakeF 0 0)))]) [1] [0] rfl rfl (by decide) (by decide) (by decide) (As := [.ref (ad 11)]) (rest := []) rfl (nb rfl) rfl d_Model_lakeTold_35 (fun _ _ => ?_)
  refine j_ws (ws' := [(ad 45, .inl (y 0, 14, .inl (upd lakeF 0 0))), MB mo ad 0 0 0 (-1) 1 0 0 (-1) 0 0 0 0 0 0 0 0 0 0 1 0]) rfl ?_
  refine j_aload_n (pc := 38) C d_Model_lakeTold_38 rfl 0 rfl ?_
  refine j_get (pc := 39) C gf_Model_124 1 rfl rfl d_Model_lakeTold_39 ?_
  refine j_iconst (pc := 42) C (v := 1) d_Model_lakeTold_42 (by decide) ?_
  refine j_aload_n (pc := 43) C d_Model_lakeTold_43 rfl 0 rfl ?_
  refine j_iconst (pc := 44) C (v := 1) d_Model_lakeTold_44 (by decide) ?_
  refine j_sipush (pc := 45) C (v := 9999) d_Model_lakeTold_45 (by decide) ?_
  refine j_callVi (pc := 48) C (c_M_number l D y mo ad 1 9999) kw_Model_267 kv_Model_number 0 10 rfl rfl ⟨by decide, by decide⟩ ⟨by decide, by decide⟩ (wr := [(ad 45, .inl (y 0, 14, .inl (upd lakeF 0 0)))]) [1] [0] rfl rfl (by decide) (by decide) (by decide) (As := [.int 1, .int 9999]) (rest := [.int 1, .ref (ad 45)]) rfl (nb rfl) rfl d_Model_lakeTold_48 (fun r2 _ hr2 => ?_)
  subst hr2
  refine j_ws (ws' := [(ad 45, .inl (y 0, 14, .inl (upd lakeF 0 0))), MB mo ad 0 0 0 (-1) 1 0 0 (-1) 0 0 0 0 0 0 0 0 0 0 1 0]) rfl ?_
  refine j_st (st' := [.int 0, .int 1, .ref (ad 45)]) rfl ?_
  refine j_iast (pc := 51) C 0 rfl (ws' := [(ad 45, .inl (y 0, 14, .inl (upd (upd lakeF 0 0) 1 0))), MB mo ad 0 0 0 (-1) 1 0 0 (-1) 0 0 0 0 0 0 0 0 0 0 1 0]) (vin (by decide)) rfl d_Model_lakeTold_51 ?_
  refine j_aload_n (pc := 52) C d_Model_lakeTold_52 rfl 0 rfl ?_
  refine j_aload_n (pc := 53) C d_Model_lakeTold_53 rfl 0 rfl ?_
  refine j_get (pc := 54) C gf_Model_27 1 rfl rfl d_Model_lakeTold_54 ?_
  refine j_callVv (pc := 57) C (c_M_asks_1 l D y mo ad (ad 12)) kw_Model_263 kv_Model_asks 0 10 rfl rfl ⟨by decide, by decide⟩ ⟨by decide, by decide⟩ (wr := [(ad 45, .inl (y 0, 14, .inl (upd (upd lakeF 0 0) 1 0)))]) [1] [0] rfl rfl (by decide) (by decide) (by decide) (As := [.ref (ad 12)]) (rest := []) rfl (nb rfl) rfl d_Model_lakeTold_57 (fun _ _ => ?_)
  refine j_ws (ws' := [(ad 45, .inl (y 0, 14, .inl (upd (upd lakeF 0 0) 1 0))), MB mo ad 0 0 0 (-1) 1 0 0 (-1) 0 0 0 0 0 0 0 0 0 0 1 0]) rfl ?_
  refine j_aload_n (pc := 60) C d_Model_lakeTold_60 rfl 0 rfl ?_
  refine j_get (pc := 61) C gf_Model_124 1 rfl rfl d_Model_lakeTold_61 ?_
  refine j_iconst (pc := 64) C (v := 2) d_Model_lakeTold_64 (by decide) ?_
  refine j_aload_n (pc := 65) C d_Model_lakeTold_65 rfl 0 rfl ?_
  refine j_iconst (pc := 66) C (v := 0) d_Model_lakeTold_66 (by decide) ?_
  refine j_aload_n (pc := 67) C d_Model_lakeTold_67 rfl 0 rfl ?_
  refine j_get (pc := 68) C gf_Model_201 1 rfl rfl d_Model_lakeTold_68 ?_
  refine j_if_neT (pc := 71) C (tgt := 83) d_Model_lakeTold_71 (by decide) (by decide) ?_
  refine j_iconst (pc := 83) C (v := 0) d_Model_lakeTold_83 (by decide) ?_
  refine j_callVi (pc := 84) C (c_M_number l D y mo ad 0 0) kw_Model_267 kv_Model_number 0 10 rfl rfl ⟨by decide, by decide⟩ ⟨by decide, by decide⟩ (wr := [(ad 45, .inl (y 0, 14, .inl (upd (upd lakeF 0 0) 1 0)))]) [1] [0] rfl rfl (by decide) (by decide) (by decide) (As := [.int 0, .int 0]) (rest := [.int 2, .ref (ad 45)]) rfl (nb rfl) rfl d_Model_lakeTold_84 (fun r3 _ hr3 => ?_)
  subst hr3
  refine j_ws (ws' := [(ad 45, .inl (y 0, 14, .inl (upd (upd lakeF 0 0) 1 0))), MB mo ad 0 0 0 (-1) 1 0 0 (-1) 0 0 0 0 0 0 0 0 0 0 1 0]) rfl ?_
  refine j_st (st' := [.int 0, .int 2, .ref (ad 45)]) rfl ?_
  refine j_iast (pc := 87) C 0 rfl (ws' := [(ad 45, .inl (y 0, 14, .inl (upd (upd (upd lakeF 0 0) 1 0) 2 0))), MB mo ad 0 0 0 (-1) 1 0 0 (-1) 0 0 0 0 0 0 0 0 0 0 1 0]) (vin (by decide)) rfl d_Model_lakeTold_87 ?_
  refine j_aload_n (pc := 88) C d_Model_lakeTold_88 rfl 0 rfl ?_
  refine j_get (pc := 89) C gf_Model_124 1 rfl rfl d_Model_lakeTold_89 ?_
  refine j_iconst (pc := 92) C (v := 3) d_Model_lakeTold_92 (by decide) ?_
  refine j_iconst (pc := 93) C (v := 0) d_Model_lakeTold_93 (by decide) ?_
  refine j_iast (pc := 94) C 0 rfl (ws' := [(ad 45, .inl (y 0, 14, .inl (upd (upd (upd (upd lakeF 0 0) 1 0) 2 0) 3 0))), MB mo ad 0 0 0 (-1) 1 0 0 (-1) 0 0 0 0 0 0 0 0 0 0 1 0]) (vin (by decide)) rfl d_Model_lakeTold_94 ?_
  refine j_aload_n (pc := 95) C d_Model_lakeTold_95 rfl 0 rfl ?_
  refine j_get (pc := 96) C gf_Model_124 1 rfl rfl d_Model_lakeTold_96 ?_
  refine j_iconst (pc := 99) C (v := 4) d_Model_lakeTold_99 (by decide) ?_
  refine j_iconst (pc := 100) C (v := 0) d_Model_lakeTold_100 (by decide) ?_
  refine j_iast (pc := 101) C 0 rfl (ws' := [(ad 45, .inl (y 0, 14, .inl (upd (upd (upd (upd (upd lakeF 0 0) 1 0) 2 0) 3 0) 4 0))), MB mo ad 0 0 0 (-1) 1 0 0 (-1) 0 0 0 0 0 0 0 0 0 0 1 0]) (vin (by decide)) rfl d_Model_lakeTold_101 ?_
  refine j_aload_n (pc := 102) C d_Model_lakeTold_102 rfl 0 rfl ?_
  refine j_get (pc := 103) C gf_Model_124 1 rfl rfl d_Model_lakeTold_103 ?_
  refine j_iconst (pc := 106) C (v := 5) d_Model_lakeTold_106 (by decide) ?_
  refine j_sipush (pc := 107) C (v := 9999) d_Model_lakeTold_107 (by decide) ?_
  refine j_iast (pc := 110) C 0 rfl (ws' := [(ad 45, .inl (y 0, 14, .inl (upd (upd (upd (upd (upd (upd lakeF 0 0) 1 0) 2 0) 3 0) 4 0) 5 9999))), MB mo ad 0 0 0 (-1) 1 0 0 (-1) 0 0 0 0 0 0 0 0 0 0 1 0]) (vin (by decide)) rfl d_Model_lakeTold_110 ?_
  refine j_aload_n (pc := 111) C d_Model_lakeTold_111 rfl 0 rfl ?_
  refine j_get (pc := 112) C gf_Model_124 1 rfl rfl d_Model_lakeTold_112 ?_
  refine j_bipush (pc := 115) C (v := 6) d_Model_lakeTold_115 (by decide) ?_
  refine j_iconst (pc := 117) C (v := 0) d_Model_lakeTold_117 (by decide) ?_
  refine j_iast (pc := 118) C 0 rfl (ws' := [(ad 45, .inl (y 0, 14, .inl (upd (upd (upd (upd (upd (upd (upd lakeF 0 0) 1 0) 2 0) 3 0) 4 0) 5 9999) 6 0))), MB mo ad 0 0 0 (-1) 1 0 0 (-1) 0 0 0 0 0 0 0 0 0 0 1 0]) (vin (by decide)) rfl d_Model_lakeTold_118 ?_
  refine j_aload_n (pc := 119) C d_Model_lakeTold_119 rfl 0 rfl ?_
  refine j_bipush (pc := 120) C (v := 59) d_Model_lakeTold_120 (by decide) ?_
  refine j_callVv (pc := 122) C (c_M_asksSign l D y mo ad 59) kw_Model_271 kv_Model_asksSign 0 10 rfl rfl ⟨by decide, by decide⟩ ⟨by decide, by decide⟩ (wr := [(ad 45, .inl (y 0, 14, .inl (upd (upd (upd (upd (upd (upd (upd lakeF 0 0) 1 0) 2 0) 3 0) 4 0) 5 9999) 6 0)))]) [1] [0] rfl rfl (by decide) (by decide) (by decide) (As := [.int 59]) (rest := []) rfl (nb rfl) rfl d_Model_lakeTold_122 (fun _ _ => ?_)
  refine j_ws (ws' := [(ad 45, .inl (y 0, 14, .inl (upd (upd (upd (upd (upd (upd (upd lakeF 0 0) 1 0) 2 0) 3 0) 4 0) 5 9999) 6 0))), MB mo ad 0 0 0 (-1) 1 0 0 (-1) 0 0 0 0 0 0 0 0 0 0 1 0]) rfl ?_
  refine j_aload_n (pc := 125) C d_Model_lakeTold_125 rfl 0 rfl ?_
  refine j_iconst (pc := 126) C (v := 1) d_Model_lakeTold_126 (by decide) ?_
  refine j_put (pc := 127) C pf_Model_275 1 (ws' := [(ad 45, .inl (y 0, 14, .inl (upd (upd (upd (upd (upd (upd (upd lakeF 0 0) 1 0) 2 0) 3 0) 4 0) 5 9999) 6 0))), MB mo ad 0 0 0 (-1) 1 0 0 (-1) 0 1 0 0 0 0 0 0 0 0 1 0]) rfl rfl rfl (nl rfl) rfl d_Model_lakeTold_127 ?_
  exact j_vret (pc := 130) C hr () trivial [1] rfl (by decide) (by decide) (by decide) d_Model_lakeTold_130
theorem d_Model_lake_0 : decode prog_13_method_29_code 0 = .ok (.aload_n 0, 1) := by decide +kernel
theorem d_Model_lake_1 : decode prog_13_method_29_code 1 = .ok (.aload_n 0, 1) := by decide +kernel
theorem d_Model_lake_2 : decode prog_13_method_29_code 2 = .ok (.getfield 198, 3) := by decide +kernel
theorem d_Model_lake_5 : decode prog_13_method_29_code 5 = .ok (.putfield 210, 3) := by decide +kernel
theorem pf_Model_210 : PF "NineBoardsModel" 210 10 3 (.int) false := ⟨_, _, _, ct_Model, rfl, ci_Model, by decide, (mt_5 (List.mem_of_getElem? (i := 91) rfl) rfl), cp_Model, cn_Model, rfl, by decide +kernel, (fun h => by cases h)⟩
theorem d_Model_lake_8 : decode prog_13_method_29_code 8 = .ok (.aload_n 0, 1) := by decide +kernel
theorem d_Model_lake_9 : decode prog_13_method_29_code 9 = .ok (.iconst 0, 1) := by decide +kernel
theorem d_Model_lake_10 : decode prog_13_method_29_code 10 = .ok (.putfield 198, 3) := by decide +kernel
theorem d_Model_lake_13 : decode prog_13_method_29_code 13 = .ok (.aload_n 0, 1) := by decide +kernel
theorem d_Model_lake_14 : decode prog_13_method_29_code 14 = .ok (.iconst 0, 1) := by decide +kernel
theorem d_Model_lake_15 : decode prog_13_method_29_code 15 = .ok (.putfield 207, 3) := by decide +kernel
theorem pf_Model_207 : PF "NineBoardsModel" 207 10 2 (.int) false := ⟨_, _, _, ct_Model, rfl, ci_Model, by decide, (mt_5 (List.mem_of_getElem? (i := 90) rfl) rfl), cp_Model, cn_Model, rfl, by decide +kernel, (fun h => by cases h)⟩
theorem d_Model_lake_18 : decode prog_13_method_29_code 18 = .ok (.aload_n 0, 1) := by decide +kernel
theorem d_Model_lake_19 : decode prog_13_method_29_code 19 = .ok (.iconst (-1), 1) := by decide +kernel
theorem d_Model_lake_20 : decode prog_13_method_29_code 20 = .ok (.putfield 221, 3) := by decide +kernel
theorem pf_Model_221 : PF "NineBoardsModel" 221 10 4 (.int) false := ⟨_, _, _, ct_Model, rfl, ci_Model, by decide, (mt_5 (List.mem_of_getElem? (i := 92) rfl) rfl), cp_Model, cn_Model, rfl, by decide +kernel, (fun h => by cases h)⟩
theorem d_Model_lake_23 : decode prog_13_method_29_code 23 = .ok (.aload_n 0, 1) := by decide +kernel
theorem d_Model_lake_24 : decode prog_13_method_29_code 24 = .ok (.iconst 0, 1) := by decide +kernel
theorem d_Model_lake_25 : decode prog_13_method_29_code 25 = .ok (.putfield 201, 3) := by decide +kernel
theorem d_Model_lake_28 : decode prog_13_method_29_code 28 = .ok (.aload_n 0, 1) := by decide +kernel
theorem d_Model_lake_29 : decode prog_13_method_29_code 29 = .ok (.iconst (-1), 1) := by decide +kernel
theorem d_Model_lake_30 : decode prog_13_method_29_code 30 = .ok (.putfield 204, 3) := by decide +kernel
theorem d_Model_lake_33 : decode prog_13_method_29_code 33 = .ok (.aload_n 0, 1) := by decide +kernel
theorem d_Model_lake_34 : decode prog_13_method_29_code 34 = .ok (.iconst 0, 1) := by decide +kernel
theorem d_Model_lake_35 : decode prog_13_method_29_code 35 = .ok (.putfield 289, 3) := by decide +kernel
theorem pf_Model_289 : PF "NineBoardsModel" 289 10 51 (.int) false := ⟨_, _, _, ct_Model, rfl, ci_Model, by decide, (mt_5 (List.mem_of_getElem? (i := 139) rfl) rfl), cp_Model, cn_Model, rfl, by decide +kernel, (fun h => by cases h)⟩
theorem d_Model_lake_38 : decode prog_13_method_29_code 38 = .ok (.iconst 0, 1) := by decide +kernel
theorem d_Model_lake_39 : decode prog_13_method_29_code 39 = .ok (.istore_n 1, 1) := by decide +kernel
theorem d_Model_lake_40 : decode prog_13_method_29_code 40 = .ok (.iload_n 1, 1) := by decide +kernel
theorem d_Model_lake_41 : decode prog_13_method_29_code 41 = .ok (.iconst 4, 1) := by decide +kernel
theorem d_Model_lake_42 : decode prog_13_method_29_code 42 = .ok (.if_icmp .ge 16, 3) := by decide +kernel
theorem d_Model_lake_45 : decode prog_13_method_29_code 45 = .ok (.aload_n 0, 1) := by decide +kernel
theorem d_Model_lake_46 : decode prog_13_method_29_code 46 = .ok (.getfield 117, 3) := by decide +kernel
theorem d_Model_lake_49 : decode prog_13_method_29_code 49 = .ok (.iload_n 1, 1) := by decide +kernel
theorem d_Model_lake_50 : decode prog_13_method_29_code 50 = .ok (.iconst 0, 1) := by decide +kernel
theorem d_Model_lake_51 : decode prog_13_method_29_code 51 = .ok (.iastore, 1) := by decide +kernel
theorem d_Model_lake_52 : decode prog_13_method_29_code 52 = .ok (.iinc 1 1, 3) := by decide +kernel
theorem d_Model_lake_55 : decode prog_13_method_29_code 55 = .ok (.goto (-15), 3) := by decide +kernel
theorem d_Model_lake_58 : decode prog_13_method_29_code 58 = .ok (.aload_n 0, 1) := by decide +kernel
theorem d_Model_lake_59 : decode prog_13_method_29_code 59 = .ok (.invokevirtual 326, 3) := by decide +kernel
theorem kw_Model_326 : KW "NineBoardsModel" 326 ⟨"NineBoardsModel", "lakeTold", "()V"⟩ prog_13_method_21_code 1 none 0 := ⟨(mt_6 (List.mem_of_getElem? (i := 100) rfl) rfl), (mt_1 (List.mem_of_getElem? (i := 16) rfl) rfl), (mt_6 (List.mem_of_getElem? (i := 103) rfl) rfl), by decide +kernel⟩
theorem kv_Model_lakeTold : Cond.instanceMethod ⟨"NineBoardsModel", "lakeTold", "()V"⟩ ∈ TB ∧ Cond.selects "NineBoardsModel" ⟨"NineBoardsModel", "lakeTold", "()V"⟩ ⟨"NineBoardsModel", "lakeTold", "()V"⟩ ∈ TB := ⟨(mt_6 (List.mem_of_getElem? (i := 102) rfl) rfl), (ms_0 (List.mem_map.mpr ⟨(⟨"NineBoardsModel", "lakeTold", "()V"⟩, 79), List.mem_of_getElem? (i := 49) (by decide +kernel), rfl⟩) rfl)⟩
theorem d_Model_lake_62 : decode prog_13_method_29_code 62 = .ok (.aload_n 0, 1) := by decide +kernel
theorem d_Model_lake_63 : decode prog_13_method_29_code 63 = .ok (.getfield 201, 3) := by decide +kernel
theorem d_Model_lake_66 : decode prog_13_method_29_code 66 = .ok (.ifCond .ne 18, 3) := by decide +kernel
theorem d_Model_lake_84 : decode prog_13_method_29_code 84 = .ok (.aload_n 0, 1) := by decide +kernel
theorem d_Model_lake_85 : decode prog_13_method_29_code 85 = .ok (.aload_n 0, 1) := by decide +kernel
theorem d_Model_lake_86 : decode prog_13_method_29_code 86 = .ok (.getfield 201, 3) := by decide +kernel
theorem d_Model_lake_89 : decode prog_13_method_29_code 89 = .ok (.putfield 332, 3) := by decide +kernel
theorem pf_Model_332 : PF "NineBoardsModel" 332 10 7 (.int) false := ⟨_, _, _, ct_Model, rfl, ci_Model, by decide, (mt_5 (List.mem_of_getElem? (i := 95) rfl) rfl), cp_Model, cn_Model, rfl, by decide +kernel, (fun h => by cases h)⟩
theorem d_Model_lake_92 : decode prog_13_method_29_code 92 = .ok (.aload_n 0, 1) := by decide +kernel
theorem d_Model_lake_93 : decode prog_13_method_29_code 93 = .ok (.aload_n 0, 1) := by decide +kernel
theorem d_Model_lake_94 : decode prog_13_method_29_code 94 = .ok (.getfield 204, 3) := by decide +kernel
theorem gf_Model_204 : GF "NineBoardsModel" 204 10 6 := ⟨_, _, _, rfl, ci_Model, by decide, (mt_5 (List.mem_of_getElem? (i := 94) rfl) rfl)⟩
theorem d_Model_lake_97 : decode prog_13_method_29_code 97 = .ok (.putfield 13, 3) := by decide +kernel
theorem pf_Model_13 : PF "NineBoardsModel" 13 10 8 (.int) false := ⟨_, _, _, ct_Model, rfl, ci_Model, by decide, (mt_5 (List.mem_of_getElem? (i := 96) rfl) rfl), cp_Model, cn_Model, rfl, by decide +kernel, (fun h => by cases h)⟩
theorem d_Model_lake_100 : decode prog_13_method_29_code 100 = .ok (.aload_n 0, 1) := by decide +kernel
theorem d_Model_lake_101 : decode prog_13_method_29_code 101 = .ok (.getfield 201, 3) := by decide +kernel
theorem d_Model_lake_104 : decode prog_13_method_29_code 104 = .ok (.ifCond .eq 5, 3) := by decide +kernel
theorem d_Model_lake_107 : decode prog_13_method_29_code 107 = .ok (.iconst (-1), 1) := by decide +kernel
theorem d_Model_lake_108 : decode prog_13_method_29_code 108 = .ok (.ireturn, 1) := by decide +kernel
set_option maxHeartbeats 4000000 in
set_option maxRecDepth 100000 in
theorem c_M_lake (l : Launch) (D : va_G) (y : Nat → ClassId) (mo : Nat) (ad : Nat → Nat)  : CT l D y ⟨"NineBoardsModel", "lake", "()I"⟩ prog_13_method_29_code 2 (some .int) ({ frames := 5, cells := 0, slots := 0, locals := 105 } : Room) [.ref mo] [MB mo ad 0 0 0 0 0 0 0 (-1) 0 0 0 0 0 0 0 0 0 0 1 0, (ad 43, .inl (y 0, 8, .inl (fun _ => 0))), (ad 45, .inl (y 0, 14, .inl lakeF))] (QI D [MB mo ad 0 0 0 0 0 0 0 (-1) 0 0 0 0 0 0 0 0 0 0 1 0, (ad 43, .inl (y 0, 8, .inl (fun _ => 0))), (ad 45, .inl (y 0, 14, .inl lakeF))] (fun (r : Int32) (_ : Unit) => r = (-1)) (fun _ => [])) := by
  refine CT.of (by decide) (nb rfl) ?_
  intro p e s m args below meth c C hr
  refine j_lv (lv' := [(0, .ref mo)]) rfl ?_
  refine j_aload_n (pc := 0) C d_Model_lake_0 rfl 0 rfl ?_
  refine j_aload_n (pc := 1) C d_Model_lake_1 rfl 0 rfl ?_
  refine j_get (pc := 2) C gf_Model_198 0 rfl rfl d_Model_lake_2 ?_
  refine j_put (pc := 5) C pf_Model_210 0 (ws' := [MB mo ad 0 0 0 0 0 0 0 (-1) 0 0 0 0 0 0 0 0 0 0 1 0, (ad 43, .inl (y 0, 8, .inl (fun _ => 0))), (ad 45, .inl (y 0, 14, .inl lakeF))]) rfl rfl rfl (nl rfl) rfl d_Model_lake_5 ?_
  refine j_aload_n (pc := 8) C d_Model_lake_8 rfl 0 rfl ?_
  refine j_iconst (pc := 9) C (v := 0) d_Model_lake_9 (by decide) ?_
  refine j_put (pc := 10) C pf_Model_198 0 (ws' := [MB mo ad 0 0 0 0 0 0 0 (-1) 0 0 0 0 0 0 0 0 0 0 1 0, (ad 43, .inl (y 0, 8, .inl (fun _ => 0))), (ad 45, .inl (y 0, 14, .inl lakeF))]) rfl rfl rfl (nl rfl) rfl d_Model_lake_10 ?_
  refine j_aload_n (pc := 13) C d_Model_lake_13 rfl 0 rfl ?_
  refine j_iconst (pc := 14) C (v := 0) d_Model_lake_14 (by decide) ?_
  refine j_put (pc := 15) C pf_Model_207 0 (ws' := [MB mo ad 0 0 0 0 0 0 0 (-1) 0 0 0 0 0 0 0 0 0 0 1 0, (ad 43, .inl (y 0, 8, .inl (fun _ => 0))), (ad 45, .inl (y 0, 14, .inl lakeF))]) rfl rfl rfl (nl rfl) rfl d_Model_lake_15 ?_
  refine j_aload_n (pc := 18) C d_Model_lake_18 rfl 0 rfl ?_
  refine j_iconst (pc := 19) C (v := (-1)) d_Model_lake_19 (by decide) ?_
  refine j_put (pc := 20) C pf_Model_221 0 (ws' := [MB mo ad 0 0 0 (-1) 0 0 0 (-1) 0 0 0 0 0 0 0 0 0 0 1 0, (ad 43, .inl (y 0, 8, .inl (fun _ => 0))), (ad 45, .inl (y 0, 14, .inl lakeF))]) rfl rfl rfl (nl rfl) rfl d_Model_lake_20 ?_
  refine j_aload_n (pc := 23) C d_Model_lake_23 rfl 0 rfl ?_
  refine j_iconst (pc := 24) C (v := 0) d_Model_lake_24 (by decide) ?_
  refine j_put (pc := 25) C pf_Model_201 0 (ws' := [MB mo ad 0 0 0 (-1) 0 0 0 (-1) 0 0 0 0 0 0 0 0 0 0 1 0, (ad 43, .inl (y 0, 8, .inl (fun _ => 0))), (ad 45, .inl (y 0, 14, .inl lakeF))]) rfl rfl rfl (nl rfl) rfl d_Model_lake_25 ?_
  refine j_aload_n (pc := 28) C d_Model_lake_28 rfl 0 rfl ?_
  refine j_iconst (pc := 29) C (v := (-1)) d_Model_lake_29 (by decide) ?_
  refine j_put (pc := 30) C pf_Model_204 0 (ws' := [MB mo ad 0 0 0 (-1) 0 (-1) 0 (-1) 0 0 0 0 0 0 0 0 0 0 1 0, (ad 43, .inl (y 0, 8, .inl (fun _ => 0))), (ad 45, .inl (y 0, 14, .inl lakeF))]) rfl rfl rfl (nl rfl) rfl d_Model_lake_30 ?_
  refine j_aload_n (pc := 33) C d_Model_lake_33 rfl 0 rfl ?_
  refine j_iconst (pc := 34) C (v := 0) d_Model_lake_34 (by decide) ?_
  refine j_put (pc := 35) C pf_Model_289 0 (ws' := [MB mo ad 0 0 0 (-1) 0 (-1) 0 (-1) 0 0 0 0 0 0 0 0 0 0 1 0, (ad 43, .inl (y 0, 8, .inl (fun _ => 0))), (ad 45, .inl (y 0, 14, .inl lakeF))]) rfl rfl rfl (nl rfl) rfl d_Model_lake_35 ?_
  refine j_iconst (pc := 38) C (v := 0) d_Model_lake_38 (by decide) ?_
  refine j_istore_n (pc := 39) C (lv' := [(1, .int 0), (0, .ref mo)]) d_Model_lake_39 rfl (by decide) rfl ?_
  refine j_iload_n (pc := 40) C d_Model_lake_40 rfl 0 rfl ?_
  refine j_iconst (pc := 41) C (v := 4) d_Model_lake_41 (by decide) ?_
  refine j_icmp_geF (pc := 42) C (tgt := 58) d_Model_lake_42 (by decide) (by decide) ?_
  refine j_aload_n (pc := 45) C d_Model_lake_45 rfl 1 rfl ?_
  refine j_get (pc := 46) C gf_Model_117 0 rfl rfl d_Model_lake_46 ?_
  refine j_iload_n (pc := 49) C d_Model_lake_49 rfl 0 rfl ?_
  refine j_iconst (pc := 50) C (v := 0) d_Model_lake_50 (by decide) ?_
  refine j_iast (pc := 51) C 1 rfl (ws' := [MB mo ad 0 0 0 (-1) 0 (-1) 0 (-1) 0 0 0 0 0 0 0 0 0 0 1 0, (ad 43, .inl (y 0, 8, .inl (fun _ => 0))), (ad 45, .inl (y 0, 14, .inl lakeF))]) (vin (by decide)) (by rw [up_z0]; rfl) d_Model_lake_51 ?_
  refine j_iinc (pc := 52) C (v := 1) (lv' := [(1, .int 1), (0, .ref mo)]) d_Model_lake_52 0 rfl (by decide) (by decide) rfl ?_
  refine j_goto (pc := 55) C (tgt := 40) d_Model_lake_55 (by decide) ?_
  refine j_iload_n (pc := 40) C d_Model_lake_40 rfl 0 rfl ?_
  refine j_iconst (pc := 41) C (v := 4) d_Model_lake_41 (by decide) ?_
  refine j_icmp_geF (pc := 42) C (tgt := 58) d_Model_lake_42 (by decide) (by decide) ?_
  refine j_aload_n (pc := 45) C d_Model_lake_45 rfl 1 rfl ?_
  refine j_get (pc := 46) C gf_Model_117 0 rfl rfl d_Model_lake_46 ?_
  refine j_iload_n (pc := 49) C d_Model_lake_49 rfl 0 rfl ?_
  refine j_iconst (pc := 50) C (v := 0) d_Model_lake_50 (by decide) ?_
  refine j_iast (pc := 51) C 1 rfl (ws' := [MB mo ad 0 0 0 (-1) 0 (-1) 0 (-1) 0 0 0 0 0 0 0 0 0 0 1 0, (ad 43, .inl (y 0, 8, .inl (fun _ => 0))), (ad 45, .inl (y 0, 14, .inl lakeF))]) (vin (by decide)) (by rw [up_z0]; rfl) d_Model_lake_51 ?_
  refine j_iinc (pc := 52) C (v := 2) (lv' := [(1, .int 2), (0, .ref mo)]) d_Model_lake_52 0 rfl (by decide) (by decide) rfl ?_
  refine j_goto (pc := 55) C (tgt := 40) d_Model_lake_55 (by decide) ?_
  refine j_iload_n (pc := 40) C d_Model_lake_40 rfl 0 rfl ?_
  refine j_iconst (pc := 41) C (v := 4) d_Model_lake_41 (by decide) ?_
  refine j_icmp_geF (pc := 42) C (tgt := 58) d_Model_lake_42 (by decide) (by decide) ?_
  refine j_aload_n (pc := 45) C d_Model_lake_45 rfl 1 rfl ?_
  refine j_get (pc := 46) C gf_Model_117 0 rfl rfl d_Model_lake_46 ?_
  refine j_iload_n (pc := 49) C d_Model_lake_49 rfl 0 rfl ?_
  refine j_iconst (pc := 50) C (v := 0) d_Model_lake_50 (by decide) ?_
  refine j_iast (pc := 51) C 1 rfl (ws' := [MB mo ad 0 0 0 (-1) 0 (-1) 0 (-1) 0 0 0 0 0 0 0 0 0 0 1 0, (ad 43, .inl (y 0, 8, .inl (fun _ => 0))), (ad 45, .inl (y 0, 14, .inl lakeF))]) (vin (by decide)) (by rw [up_z0]; rfl) d_Model_lake_51 ?_
  refine j_iinc (pc := 52) C (v := 3) (lv' := [(1, .int 3), (0, .ref mo)]) d_Model_lake_52 0 rfl (by decide) (by decide) rfl ?_
  refine j_goto (pc := 55) C (tgt := 40) d_Model_lake_55 (by decide) ?_
  refine j_iload_n (pc := 40) C d_Model_lake_40 rfl 0 rfl ?_
  refine j_iconst (pc := 41) C (v := 4) d_Model_lake_41 (by decide) ?_
  refine j_icmp_geF (pc := 42) C (tgt := 58) d_Model_lake_42 (by decide) (by decide) ?_
  refine j_aload_n (pc := 45) C d_Model_lake_45 rfl 1 rfl ?_
  refine j_get (pc := 46) C gf_Model_117 0 rfl rfl d_Model_lake_46 ?_
  refine j_iload_n (pc := 49) C d_Model_lake_49 rfl 0 rfl ?_
  refine j_iconst (pc := 50) C (v := 0) d_Model_lake_50 (by decide) ?_
  refine j_iast (pc := 51) C 1 rfl (ws' := [MB mo ad 0 0 0 (-1) 0 (-1) 0 (-1) 0 0 0 0 0 0 0 0 0 0 1 0, (ad 43, .inl (y 0, 8, .inl (fun _ => 0))), (ad 45, .inl (y 0, 14, .inl lakeF))]) (vin (by decide)) (by rw [up_z0]; rfl) d_Model_lake_51 ?_
  refine j_iinc (pc := 52) C (v := 4) (lv' := [(1, .int 4), (0, .ref mo)]) d_Model_lake_52 0 rfl (by decide) (by decide) rfl ?_
  refine j_goto (pc := 55) C (tgt := 40) d_Model_lake_55 (by decide) ?_
  refine j_iload_n (pc := 40) C d_Model_lake_40 rfl 0 rfl ?_
  refine j_iconst (pc := 41) C (v := 4) d_Model_lake_41 (by decide) ?_
  refine j_icmp_geT (pc := 42) C (tgt := 58) d_Model_lake_42 (by decide) (by decide) ?_
  refine j_aload_n (pc := 58) C d_Model_lake_58 rfl 1 rfl ?_
  refine j_callVv (pc := 59) C (c_M_lakeTold l D y mo ad) kw_Model_326 kv_Model_lakeTold 0 10 rfl rfl ⟨by decide, by decide⟩ ⟨by decide, by decide⟩ (wr := [(ad 43, .inl (y 0, 8, .inl (fun _ => 0)))]) [0, 2] [1] rfl rfl (by decide) (by decide) (by decide) (As := []) (rest := []) rfl (nb rfl) rfl d_Model_lake_59 (fun _ _ => ?_)
  refine j_ws (ws' := [(ad 43, .inl (y 0, 8, .inl (fun _ => 0))), MB mo ad 0 0 0 (-1) 1 0 0 (-1) 0 1 0 0 0 0 0 0 0 0 1 0]) rfl ?_
  refine j_aload_n (pc := 62) C d_Model_lake_62 rfl 1 rfl ?_
  refine j_get (pc := 63) C gf_Model_201 1 rfl rfl d_Model_lake_63 ?_
  refine j_if_neT (pc := 66) C (tgt := 84) d_Model_lake_66 (by decide) (by decide) ?_
  refine j_aload_n (pc := 84) C d_Model_lake_84 rfl 1 rfl ?_
  refine j_aload_n (pc := 85) C d_Model_lake_85 rfl 1 rfl ?_
  refine j_get (pc := 86) C gf_Model_201 1 rfl rfl d_Model_lake_86 ?_
  refine j_put (pc := 89) C pf_Model_332 1 (ws' := [(ad 43, .inl (y 0, 8, .inl (fun _ => 0))), MB mo ad 0 0 0 (-1) 1 0 1 (-1) 0 1 0 0 0 0 0 0 0 0 1 0]) rfl rfl rfl (nl rfl) rfl d_Model_lake_89 ?_
  refine j_aload_n (pc := 92) C d_Model_lake_92 rfl 1 rfl ?_
  refine j_aload_n (pc := 93) C d_Model_lake_93 rfl 1 rfl ?_
  refine j_get (pc := 94) C gf_Model_204 1 rfl rfl d_Model_lake_94 ?_
  refine j_put (pc := 97) C pf_Model_13 1 (ws' := [(ad 43, .inl (y 0, 8, .inl (fun _ => 0))), MB mo ad 0 0 0 (-1) 1 0 1 0 0 1 0 0 0 0 0 0 0 0 1 0]) rfl rfl rfl (nl rfl) rfl d_Model_lake_97 ?_
  refine j_aload_n (pc := 100) C d_Model_lake_100 rfl 1 rfl ?_
  refine j_get (pc := 101) C gf_Model_201 1 rfl rfl d_Model_lake_101 ?_
  refine j_if_eqF (pc := 104) C (tgt := 109) d_Model_lake_104 (by decide) (by decide) ?_
  refine j_iconst (pc := 107) C (v := (-1)) d_Model_lake_107 (by decide) ?_
  exact j_iret (pc := 108) C hr rfl () rfl [] rfl (by decide) (by decide) (by decide) d_Model_lake_108
