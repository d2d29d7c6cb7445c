theorem d_L_law_850 : decode code 850 = .ok (.aload_n 1, 1) := by decide +kernel
theorem d_L_law_851 : decode code 851 = .ok (.aload_n 0, 1) := by decide +kernel
theorem d_L_law_852 : decode code 852 = .ok (.iload_n 3, 1) := by decide +kernel
theorem d_L_law_853 : decode code 853 = .ok (.iconst 1, 1) := by decide +kernel
theorem d_L_law_854 : decode code 854 = .ok (.iadd, 1) := by decide +kernel
theorem d_L_law_855 : decode code 855 = .ok (.iaload, 1) := by decide +kernel
theorem d_L_law_856 : decode code 856 = .ok (.aload_n 0, 1) := by decide +kernel
theorem d_L_law_857 : decode code 857 = .ok (.iload_n 3, 1) := by decide +kernel
theorem d_L_law_858 : decode code 858 = .ok (.iconst 2, 1) := by decide +kernel
theorem d_L_law_859 : decode code 859 = .ok (.iadd, 1) := by decide +kernel
theorem d_L_law_860 : decode code 860 = .ok (.iaload, 1) := by decide +kernel
theorem d_L_law_861 : decode code 861 = .ok (.invokevirtual 111, 3) := by decide +kernel
theorem kw_L_111 : KW "NineBoardsLaw" 111 ⟨"NineBoards", "common", "(II)I"⟩ prog_1_method_24_code 3 (some .int) 2 := ⟨(mt_4 (List.mem_of_getElem? (i := 215) rfl) rfl), (mt_1 (List.mem_of_getElem? (i := 1) rfl) rfl), (mt_4 (List.mem_of_getElem? (i := 218) rfl) rfl), by decide +kernel⟩
theorem kv_Nine_common : Cond.instanceMethod ⟨"NineBoards", "common", "(II)I"⟩ ∈ TB ∧ Cond.selects "NineBoards" ⟨"NineBoards", "common", "(II)I"⟩ ⟨"NineBoards", "common", "(II)I"⟩ ∈ TB := ⟨(mt_4 (List.mem_of_getElem? (i := 216) rfl) rfl), (mt_4 (List.mem_of_getElem? (i := 217) rfl) rfl)⟩
theorem d_L_law_864 : decode code 864 = .ok (.aload_n 2, 1) := by decide +kernel
theorem d_L_law_865 : decode code 865 = .ok (.aload_n 0, 1) := by decide +kernel
theorem d_L_law_866 : decode code 866 = .ok (.iload_n 3, 1) := by decide +kernel
theorem d_L_law_867 : decode code 867 = .ok (.iconst 1, 1) := by decide +kernel
theorem d_L_law_868 : decode code 868 = .ok (.iadd, 1) := by decide +kernel
theorem d_L_law_869 : decode code 869 = .ok (.iaload, 1) := by decide +kernel
theorem d_L_law_870 : decode code 870 = .ok (.aload_n 0, 1) := by decide +kernel
theorem d_L_law_871 : decode code 871 = .ok (.iload_n 3, 1) := by decide +kernel
theorem d_L_law_872 : decode code 872 = .ok (.iconst 2, 1) := by decide +kernel
theorem d_L_law_873 : decode code 873 = .ok (.iadd, 1) := by decide +kernel
theorem d_L_law_874 : decode code 874 = .ok (.iaload, 1) := by decide +kernel
theorem d_L_law_875 : decode code 875 = .ok (.invokevirtual 114, 3) := by decide +kernel
theorem kw_L_114 : KW "NineBoardsLaw" 114 ⟨"NineBoardsModel", "common", "(II)I"⟩ prog_13_method_95_code 3 (some .int) 2 := ⟨(mt_7 (List.mem_of_getElem? (i := 226) rfl) rfl), (mt_1 (List.mem_of_getElem? (i := 16) rfl) rfl), (mt_7 (List.mem_of_getElem? (i := 229) rfl) rfl), by decide +kernel⟩
theorem kv_Model_common : Cond.instanceMethod ⟨"NineBoardsModel", "common", "(II)I"⟩ ∈ TB ∧ Cond.selects "NineBoardsModel" ⟨"NineBoardsModel", "common", "(II)I"⟩ ⟨"NineBoardsModel", "common", "(II)I"⟩ ∈ TB := ⟨(mt_7 (List.mem_of_getElem? (i := 227) rfl) rfl), (mt_7 (List.mem_of_getElem? (i := 228) rfl) rfl)⟩
theorem d_L_law_878 : decode code 878 = .ok (.if_icmp .eq 246, 3) := by decide +kernel
set_option maxHeartbeats 4000000 in
set_option maxRecDepth 100000 in
theorem lc_22 {p : Program} {l : Launch} {e : Env} {s : State} {m : MethodId} {below : List Frame} {meth : Method} {c : Code} {Q : State → Prop} {D : va_G} {y : Nat → ClassId} {nm : String} {b : Nat} {xs : Nat → Int32} (C : Cx p s m #[Value.ref b] meth c D y (LA s) code 4 "NineBoardsLaw" nm) (hX : va_X b 6 xs s s.heap) (hbl : b < s.heap.size) (x : Nat) (mo : Nat) (u1 : Nat → Nat) (r1 : Nat → Nat) (r2 : Nat → Nat → Nat) (h1 : Nat → Nat) (a1 : Nat → Nat → Nat) (g1 : Nat → Nat) (c1 : Nat → Nat) (v1 : Nat → Nat) (kx : J p l e room_1 s m #[Value.ref b] below meth c Q D (LA s) 4 [] [(3, .int 0), (0, .ref b)] 451 27020 1124 []) : J p l e room_1 s m #[Value.ref b] below meth c Q D (LA s) 4 (LW y x mo u1 r1 r2 h1 a1 g1 c1 v1) [(3, .int 0), (2, .ref mo), (1, .ref x), (0, .ref b)] 451 27020 850 [] := by
  refine j_aload_n (pc := 850) C d_L_law_850 rfl 2 rfl ?_
  refine j_aload_n (pc := 851) C d_L_law_851 rfl 3 rfl ?_
  refine j_iload_n (pc := 852) C d_L_law_852 rfl 0 rfl ?_
  refine j_iconst (pc := 853) C (v := 1) d_L_law_853 (by decide) ?_
  refine j_iadd (pc := 854) C (v := 1) d_L_law_854 (by decide) ?_
  refine j_sld (pc := 855) C hX hbl (v := xs 1) (vin (by decide)) rfl d_L_law_855 ?_
  refine j_aload_n (pc := 856) C d_L_law_856 rfl 3 rfl ?_
  refine j_iload_n (pc := 857) C d_L_law_857 rfl 0 rfl ?_
  refine j_iconst (pc := 858) C (v := 2) d_L_law_858 (by decide) ?_
  refine j_iadd (pc := 859) C (v := 2) d_L_law_859 (by decide) ?_
  refine j_sld (pc := 860) C hX hbl (v := xs 2) (vin (by decide)) rfl d_L_law_860 ?_
  refine j_sl (ws' := (([(x, .inr (9, [.ref (u1 0), .ref (u1 1), .ref (u1 2), .ref (u1 3), .ref (u1 4), .ref (u1 5), .ref (u1 6), .ref (u1 7), .ref (u1 8), .int 1])), (u1 0, .inr (0, [.ref (u1 9), .int 0])), (u1 9, .inl (y 0, 1600, .inl (fun _ => 0))), (u1 1, .inr (0, [.ref (u1 10), .int 0])), (u1 10, .inl (y 0, 15, .inl (fun _ => 0))), (u1 2, .inr (7, [.int 0, .int 0, .int 0, .ref (u1 11), .ref (u1 12), .ref (u1 13), .ref (u1 14), .ref (u1 15), .ref (u1 16), .ref (u1 17)])), (u1 11, .inl (y 0, 9, .inl (fun _ => 0))), (u1 12, .inl (y 0, 9, .inl (fun _ => 0))), (u1 13, .inl (y 1, 9, .inr (.inl (fun _ => 0)))), (u1 14, .inl (y 0, 6, .inl (fun _ => 0))), (u1 15, .inl (y 0, 6, .inl (fun _ => 0))), (u1 16, .inl (y 0, 16, .inl (fun _ => 0))), (u1 17, .inl (y 1, 5, .inr (.inl (fun _ => 0)))), (u1 3, .inr (7, [.int 0, .int 0, .int 0, .ref (u1 18), .ref (u1 19), .ref (u1 20), .ref (u1 21), .ref (u1 22), .ref (u1 23), .ref (u1 24)])), (u1 18, .inl (y 0, 9, .inl (fun _ => 0))), (u1 19, .inl (y 0, 9, .inl (fun _ => 0))), (u1 20, .inl (y 1, 9, .inr (.inl (fun _ => 0)))), (u1 21, .inl (y 0, 6, .inl (fun _ => 0))), (u1 22, .inl (y 0, 6, .inl (fun _ => 0))), (u1 23, .inl (y 0, 16, .inl (fun _ => 0))), (u1 24, .inl (y 1, 5, .inr (.inl (fun _ => 0)))), (u1 4, .inr (3, [.int 0, .int 0, .ref (u1 25)])), (u1 25, .inl (y 4, 30, .inr (.inr (.inr (.inr (fun j => some (r1 j))))))), (u1 5, .inr (2, [.int 0, .int 1, .int 1, .int 0, .ref (u1 26), .int 0, .ref (u1 27), .ref (u1 28), .ref (u1 29), .ref (u1 30), .int 0, .int 0, .int 9999, .int 0])), (u1 26, .inr (1, [.int 0, .ref (u1 31), .ref (u1 32), .ref (u1 33), .ref (u1 34), .ref (u1 35), .ref (u1 36), .ref (u1 37)])), (u1 29, .inr (8, [.int 0, .ref (u1 38), .ref (u1 39), .ref (u1 40), .ref (u1 41), .ref (u1 42), .ref (u1 43), .ref (u1 44)])), (u1 30, .inr (6, [.int 0, .int 0, .ref (u1 45), .ref (u1 46), .ref (u1 47), .ref (u1 48), .ref (u1 49), .ref (u1 50)])), (u1 6, .inr (2, [.int 0, .int 1, .int 1, .int 0, .ref (u1 51), .int 0, .ref (u1 52), .ref (u1 53), .ref (u1 54), .ref (u1 55), .int 0, .int 0, .int 9999, .int 0])), (u1 51, .inr (1, [.int 0, .ref (u1 56), .ref (u1 57), .ref (u1 58), .ref (u1 59), .ref (u1 60), .ref (u1 61), .ref (u1 62)])), (u1 54, .inr (8, [.int 0, .ref (u1 63), .ref (u1 64), .ref (u1 65), .ref (u1 66), .ref (u1 67), .ref (u1 68), .ref (u1 69)])), (u1 55, .inr (6, [.int 0, .int 0, .ref (u1 70), .ref (u1 71), .ref (u1 72), .ref (u1 73), .ref (u1 74), .ref (u1 75)])), (u1 7, .inr (5, [.int 0, .int (-1), .ref (u1 76), .ref (u1 0), .ref (u1 6), .int 0, .int 0, .int 0, .long 0, .int 0, .int 0, .int 0])), (u1 8, .inr (4, [.ref (u1 77), .ref (u1 78), .ref (u1 79), .ref (u1 5), .int 0, .int 0])), (u1 77, .inl (y 4, 7, .inr (.inr (.inr (.inr (fun j => some (h1 j))))))), (u1 78, .inl (y 5, 7, .inr (.inr (.inr (.inr (fun j => some (g1 j))))))), (u1 79, .inl (y 5, 7, .inr (.inr (.inr (.inr (fun j => some (c1 j))))))), MB mo v1 0 0 0 0 0 0 0 (-1) 0 0 0 0 0 0 0 0 0 0 1 0, (v1 0, .inl (y 0, 1600, .inl (fun _ => 0))), (v1 43, .inl (y 0, 8, .inl (fun _ => 0))), (v1 45, .inl (y 0, 14, .inl lakeF)), (v1 62, .inl (y 0, 63, .inl (dayF 0))), (v1 65, .inl (y 0, 1890, .inl (fun _ => 0))), (v1 68, .inl (y 0, 63, .inl (fun _ => 0))), (v1 70, .inl (y 0, 6558, .inl (fun _ => 0))), (v1 71, .inl (y 0, 1093, .inl (fun _ => 0))), (v1 72, .inl (y 0, 7, .inl powF)), (v1 74, .inl (y 0, 13, .inl (fun _ => 0))), (v1 75, .inl (y 0, 13, .inl (fun _ => 0))), (v1 77, .inl (y 0, 15, .inl (fun _ => 0)))] : va_W) ++ FG (PW y h1 a1 (fun _ => 0) g1 c1) (List.range 7))) (List.Sublist.append (List.Sublist.refl _) (List.sublist_append_left _ _)) ?_
  refine j_subT (X' := [(x, .inr (9, [.ref (u1 0), .ref (u1 1), .ref (u1 2), .ref (u1 3), .ref (u1 4), .ref (u1 5), .ref (u1 6), .ref (u1 7), .ref (u1 8), .int 1])), (u1 5, .inr (2, [.int 0, .int 1, .int 1, .int 0, .ref (u1 26), .int 0, .ref (u1 27), .ref (u1 28), .ref (u1 29), .ref (u1 30), .int 0, .int 0, .int 9999, .int 0])), (u1 26, .inr (1, [.int 0, .ref (u1 31), .ref (u1 32), .ref (u1 33), .ref (u1 34), .ref (u1 35), .ref (u1 36), .ref (u1 37)])), (u1 29, .inr (8, [.int 0, .ref (u1 38), .ref (u1 39), .ref (u1 40), .ref (u1 41), .ref (u1 42), .ref (u1 43), .ref (u1 44)])), (u1 30, .inr (6, [.int 0, .int 0, .ref (u1 45), .ref (u1 46), .ref (u1 47), .ref (u1 48), .ref (u1 49), .ref (u1 50)])), (u1 2, .inr (7, [.int 0, .int 0, .int 0, .ref (u1 11), .ref (u1 12), .ref (u1 13), .ref (u1 14), .ref (u1 15), .ref (u1 16), .ref (u1 17)])), (u1 11, .inl (y 0, 9, .inl (fun _ => 0))), (u1 12, .inl (y 0, 9, .inl (fun _ => 0))), (u1 13, .inl (y 1, 9, .inr (.inl (fun _ => 0)))), (u1 14, .inl (y 0, 6, .inl (fun _ => 0))), (u1 15, .inl (y 0, 6, .inl (fun _ => 0))), (u1 16, .inl (y 0, 16, .inl (fun _ => 0))), (u1 17, .inl (y 1, 5, .inr (.inl (fun _ => 0)))), (u1 8, .inr (4, [.ref (u1 77), .ref (u1 78), .ref (u1 79), .ref (u1 5), .int 0, .int 0])), (u1 77, .inl (y 4, 7, .inr (.inr (.inr (.inr (fun j => some (h1 j))))))), (u1 78, .inl (y 5, 7, .inr (.inr (.inr (.inr (fun j => some (g1 j))))))), (u1 79, .inl (y 5, 7, .inr (.inr (.inr (.inr (fun j => some (c1 j))))))), MB mo v1 0 0 0 0 0 0 0 (-1) 0 0 0 0 0 0 0 0 0 0 1 0, (v1 0, .inl (y 0, 1600, .inl (fun _ => 0))), (v1 43, .inl (y 0, 8, .inl (fun _ => 0))), (v1 45, .inl (y 0, 14, .inl lakeF)), (v1 62, .inl (y 0, 63, .inl (dayF 0))), (v1 65, .inl (y 0, 1890, .inl (fun _ => 0))), (v1 68, .inl (y 0, 63, .inl (fun _ => 0))), (v1 70, .inl (y 0, 6558, .inl (fun _ => 0))), (v1 71, .inl (y 0, 1093, .inl (fun _ => 0))), (v1 72, .inl (y 0, 7, .inl powF)), (v1 74, .inl (y 0, 13, .inl (fun _ => 0))), (v1 75, .inl (y 0, 13, .inl (fun _ => 0))), (v1 77, .inl (y 0, 15, .inl (fun _ => 0)))]) [0, 23, 24, 25, 26, 5, 6, 7, 8, 9, 10, 11, 12, 32, 33, 34, 35, 36, 37, 38, 39, 40, 41, 42, 43, 44, 45, 46, 47, 48] rfl (by decide) ?_
  refine j_callViP (pc := 861) (ws' := fun (_ : Unit) => ([] : va_W)) (T' := fun (_ : Unit) => ([] : va_W)) C (c_N_common l D y x (u1 0) (u1 1) (u1 2) (u1 3) (u1 4) (u1 5) (u1 6) (u1 7) (u1 8) (u1 26) (u1 27) (u1 28) (u1 29) (u1 30) (u1 31) (u1 32) (u1 33) (u1 34) (u1 35) (u1 36) (u1 37) (u1 38) (u1 39) (u1 40) (u1 41) (u1 42) (u1 43) (u1 44) (u1 45) (u1 46) (u1 47) (u1 48) (u1 49) (u1 50) (u1 11) (u1 12) (u1 13) (u1 14) (u1 15) (u1 16) (u1 17) (u1 77) (u1 78) (u1 79) h1 g1 c1 (xs 1) (xs 2) a1 (fun _ => 0)) kw_L_111 kv_Nine_common 0 9 rfl rfl ⟨by decide, by decide⟩ ⟨by decide, by decide⟩ (wr := [MB mo v1 0 0 0 0 0 0 0 (-1) 0 0 0 0 0 0 0 0 0 0 1 0, (v1 0, .inl (y 0, 1600, .inl (fun _ => 0))), (v1 43, .inl (y 0, 8, .inl (fun _ => 0))), (v1 45, .inl (y 0, 14, .inl lakeF)), (v1 62, .inl (y 0, 63, .inl (dayF 0))), (v1 65, .inl (y 0, 1890, .inl (fun _ => 0))), (v1 68, .inl (y 0, 63, .inl (fun _ => 0))), (v1 70, .inl (y 0, 6558, .inl (fun _ => 0))), (v1 71, .inl (y 0, 1093, .inl (fun _ => 0))), (v1 72, .inl (y 0, 7, .inl powF)), (v1 74, .inl (y 0, 13, .inl (fun _ => 0))), (v1 75, .inl (y 0, 13, .inl (fun _ => 0))), (v1 77, .inl (y 0, 15, .inl (fun _ => 0)))]) [0, 1, 2, 3, 4, 5, 6, 7, 8, 9, 10, 11, 12, 13, 14, 15, 16] [17, 18, 19, 20, 21, 22, 23, 24, 25, 26, 27, 28, 29] rfl rfl (by decide) (by decide) (by decide) (As := [.int (xs 1), .int (xs 2)]) (rest := []) rfl (nb rfl) rfl d_L_law_861 (fun r1 _ hr1 => ?_)
  subst hr1
  refine j_ws (ws' := [MB mo v1 0 0 0 0 0 0 0 (-1) 0 0 0 0 0 0 0 0 0 0 1 0, (v1 0, .inl (y 0, 1600, .inl (fun _ => 0))), (v1 43, .inl (y 0, 8, .inl (fun _ => 0))), (v1 45, .inl (y 0, 14, .inl lakeF)), (v1 62, .inl (y 0, 63, .inl (dayF 0))), (v1 65, .inl (y 0, 1890, .inl (fun _ => 0))), (v1 68, .inl (y 0, 63, .inl (fun _ => 0))), (v1 70, .inl (y 0, 6558, .inl (fun _ => 0))), (v1 71, .inl (y 0, 1093, .inl (fun _ => 0))), (v1 72, .inl (y 0, 7, .inl powF)), (v1 74, .inl (y 0, 13, .inl (fun _ => 0))), (v1 75, .inl (y 0, 13, .inl (fun _ => 0))), (v1 77, .inl (y 0, 15, .inl (fun _ => 0)))]) rfl ?_
  refine j_st (st' := [.int (if 1 ≤ (xs 1).toInt ∧ (xs 1).toInt ≤ 6 ∧ ((0 ≤ (xs 2).toInt ∧ (xs 2).toInt < (xs 1).toInt) ∨ (xs 2).toInt = 9) then 0 else -1000000000)]) rfl ?_
  refine j_aload_n (pc := 864) C d_L_law_864 rfl 1 rfl ?_
  refine j_aload_n (pc := 865) C d_L_law_865 rfl 3 rfl ?_
  refine j_iload_n (pc := 866) C d_L_law_866 rfl 0 rfl ?_
  refine j_iconst (pc := 867) C (v := 1) d_L_law_867 (by decide) ?_
  refine j_iadd (pc := 868) C (v := 1) d_L_law_868 (by decide) ?_
  refine j_sld (pc := 869) C hX hbl (v := xs 1) (vin (by decide)) rfl d_L_law_869 ?_
  refine j_aload_n (pc := 870) C d_L_law_870 rfl 3 rfl ?_
  refine j_iload_n (pc := 871) C d_L_law_871 rfl 0 rfl ?_
  refine j_iconst (pc := 872) C (v := 2) d_L_law_872 (by decide) ?_
  refine j_iadd (pc := 873) C (v := 2) d_L_law_873 (by decide) ?_
  refine j_sld (pc := 874) C hX hbl (v := xs 2) (vin (by decide)) rfl d_L_law_874 ?_
  refine j_sub (ws' := [MB mo v1 0 0 0 0 0 0 0 (-1) 0 0 0 0 0 0 0 0 0 0 1 0, (v1 43, .inl (y 0, 8, .inl (fun _ => 0))), (v1 62, .inl (y 0, 63, .inl (dayF 0))), (v1 45, .inl (y 0, 14, .inl lakeF)), (v1 68, .inl (y 0, 63, .inl (fun _ => 0))), (v1 72, .inl (y 0, 7, .inl powF)), (v1 71, .inl (y 0, 1093, .inl (fun _ => 0))), (v1 70, .inl (y 0, 6558, .inl (fun _ => 0)))]) [0, 2, 4, 3, 6, 9, 8, 7] rfl (by decide) ?_
  refine j_callVi (pc := 875) C (c_M_common l D y mo v1 (xs 1) (xs 2) (fun _ => 0)) kw_L_114 kv_Model_common 0 10 rfl rfl ⟨by decide, by decide⟩ ⟨by decide, by decide⟩ (wr := []) [0, 1, 2, 3, 4, 5, 6, 7] [] rfl rfl (by decide) (by decide) (by decide) (As := [.int (xs 1), .int (xs 2)]) (rest := [.int (if 1 ≤ (xs 1).toInt ∧ (xs 1).toInt ≤ 6 ∧ ((0 ≤ (xs 2).toInt ∧ (xs 2).toInt < (xs 1).toInt) ∨ (xs 2).toInt = 9) then 0 else -1000000000)]) rfl (nb rfl) rfl d_L_law_875 (fun r2 _ hr2 => ?_)
  subst hr2
  refine j_ws (ws' := []) rfl ?_
  refine j_st (st' := [.int (if 1 ≤ (xs 1).toInt ∧ (xs 1).toInt ≤ 6 ∧ ((0 ≤ (xs 2).toInt ∧ (xs 2).toInt < (xs 1).toInt) ∨ (xs 2).toInt = 9) then 0 else -1000000000), .int (if 1 ≤ (xs 1).toInt ∧ (xs 1).toInt ≤ 6 ∧ ((0 ≤ (xs 2).toInt ∧ (xs 2).toInt < (xs 1).toInt) ∨ (xs 2).toInt = 9) then 0 else -1000000000)]) rfl ?_
  refine j_icmp_eqT (pc := 878) C (tgt := 1124) d_L_law_878 (by decide) rfl ?_
  refine j_sub (ws' := []) [] rfl (by decide) ?_
  refine j_locs (lv' := [(3, .int 0), (0, .ref b)]) [0, 3] rfl ?_
  exact kx
theorem d_L_law_883 : decode code 883 = .ok (.aload_n 1, 1) := by decide +kernel
theorem d_L_law_884 : decode code 884 = .ok (.aload_n 0, 1) := by decide +kernel
theorem d_L_law_885 : decode code 885 = .ok (.iload_n 3, 1) := by decide +kernel
theorem d_L_law_886 : decode code 886 = .ok (.iconst 1, 1) := by decide +kernel
theorem d_L_law_887 : decode code 887 = .ok (.iadd, 1) := by decide +kernel
theorem d_L_law_888 : decode code 888 = .ok (.iaload, 1) := by decide +kernel
theorem d_L_law_889 : decode code 889 = .ok (.aload_n 0, 1) := by decide +kernel
theorem d_L_law_890 : decode code 890 = .ok (.iload_n 3, 1) := by decide +kernel
theorem d_L_law_891 : decode code 891 = .ok (.iconst 2, 1) := by decide +kernel
theorem d_L_law_892 : decode code 892 = .ok (.iadd, 1) := by decide +kernel
theorem d_L_law_893 : decode code 893 = .ok (.iaload, 1) := by decide +kernel
theorem d_L_law_894 : decode code 894 = .ok (.invokevirtual 115, 3) := by decide +kernel
theorem kw_L_115 : KW "NineBoardsLaw" 115 ⟨"NineBoards", "share", "(II)I"⟩ prog_1_method_25_code 7 (some .int) 2 := ⟨(mt_4 (List.mem_of_getElem? (i := 223) rfl) rfl), (mt_1 (List.mem_of_getElem? (i := 1) rfl) rfl), (mt_4 (List.mem_of_getElem? (i := 226) rfl) rfl), by decide +kernel⟩
theorem kv_Nine_share : Cond.instanceMethod ⟨"NineBoards", "share", "(II)I"⟩ ∈ TB ∧ Cond.selects "NineBoards" ⟨"NineBoards", "share", "(II)I"⟩ ⟨"NineBoards", "share", "(II)I"⟩ ∈ TB := ⟨(mt_4 (List.mem_of_getElem? (i := 224) rfl) rfl), (mt_4 (List.mem_of_getElem? (i := 225) rfl) rfl)⟩
theorem d_L_law_897 : decode code 897 = .ok (.aload_n 2, 1) := by decide +kernel
theorem d_L_law_898 : decode code 898 = .ok (.aload_n 0, 1) := by decide +kernel
theorem d_L_law_899 : decode code 899 = .ok (.iload_n 3, 1) := by decide +kernel
theorem d_L_law_900 : decode code 900 = .ok (.iconst 1, 1) := by decide +kernel
theorem d_L_law_901 : decode code 901 = .ok (.iadd, 1) := by decide +kernel
theorem d_L_law_902 : decode code 902 = .ok (.iaload, 1) := by decide +kernel
theorem d_L_law_903 : decode code 903 = .ok (.aload_n 0, 1) := by decide +kernel
theorem d_L_law_904 : decode code 904 = .ok (.iload_n 3, 1) := by decide +kernel
theorem d_L_law_905 : decode code 905 = .ok (.iconst 2, 1) := by decide +kernel
theorem d_L_law_906 : decode code 906 = .ok (.iadd, 1) := by decide +kernel
theorem d_L_law_907 : decode code 907 = .ok (.iaload, 1) := by decide +kernel
theorem d_L_law_908 : decode code 908 = .ok (.invokevirtual 118, 3) := by decide +kernel
theorem kw_L_118 : KW "NineBoardsLaw" 118 ⟨"NineBoardsModel", "share", "(II)I"⟩ prog_13_method_96_code 4 (some .int) 2 := ⟨(mt_7 (List.mem_of_getElem? (i := 234) rfl) rfl), (mt_1 (List.mem_of_getElem? (i := 16) rfl) rfl), (mt_7 (List.mem_of_getElem? (i := 237) rfl) rfl), by decide +kernel⟩
theorem kv_Model_share : Cond.instanceMethod ⟨"NineBoardsModel", "share", "(II)I"⟩ ∈ TB ∧ Cond.selects "NineBoardsModel" ⟨"NineBoardsModel", "share", "(II)I"⟩ ⟨"NineBoardsModel", "share", "(II)I"⟩ ∈ TB := ⟨(mt_7 (List.mem_of_getElem? (i := 235) rfl) rfl), (mt_7 (List.mem_of_getElem? (i := 236) rfl) rfl)⟩
theorem d_L_law_911 : decode code 911 = .ok (.if_icmp .eq 213, 3) := by decide +kernel
set_option maxHeartbeats 4000000 in
set_option maxRecDepth 100000 in
theorem lc_23 {p : Program} {l : Launch} {e : Env} {s : State} {m : MethodId} {below : List Frame} {meth : Method} {c : Code} {Q : State → Prop} {D : va_G} {y : Nat → ClassId} {nm : String} {b : Nat} {xs : Nat → Int32} (C : Cx p s m #[Value.ref b] meth c D y (LA s) code 4 "NineBoardsLaw" nm) (hX : va_X b 6 xs s s.heap) (hbl : b < s.heap.size) (x : Nat) (mo : Nat) (u1 : Nat → Nat) (r1 : Nat → Nat) (r2 : Nat → Nat → Nat) (h1 : Nat → Nat) (a1 : Nat → Nat → Nat) (g1 : Nat → Nat) (c1 : Nat → Nat) (v1 : Nat → Nat) (kx : J p l e room_1 s m #[Value.ref b] below meth c Q D (LA s) 4 [] [(3, .int 0), (0, .ref b)] 451 27020 1124 []) : J p l e room_1 s m #[Value.ref b] below meth c Q D (LA s) 4 (LW y x mo u1 r1 r2 h1 a1 g1 c1 v1) [(3, .int 0), (2, .ref mo), (1, .ref x), (0, .ref b)] 451 27020 883 [] := by
  refine j_aload_n (pc := 883) C d_L_law_883 rfl 2 rfl ?_
  refine j_aload_n (pc := 884) C d_L_law_884 rfl 3 rfl ?_
  refine j_iload_n (pc := 885) C d_L_law_885 rfl 0 rfl ?_
  refine j_iconst (pc := 886) C (v := 1) d_L_law_886 (by decide) ?_
  refine j_iadd (pc := 887) C (v := 1) d_L_law_887 (by decide) ?_
  refine j_sld (pc := 888) C hX hbl (v := xs 1) (vin (by decide)) rfl d_L_law_888 ?_
  refine j_aload_n (pc := 889) C d_L_law_889 rfl 3 rfl ?_
  refine j_iload_n (pc := 890) C d_L_law_890 rfl 0 rfl ?_
  refine j_iconst (pc := 891) C (v := 2) d_L_law_891 (by decide) ?_
  refine j_iadd (pc := 892) C (v := 2) d_L_law_892 (by decide) ?_
  refine j_sld (pc := 893) C hX hbl (v := xs 2) (vin (by decide)) rfl d_L_law_893 ?_
  refine j_drop ?_
  refine j_sub (ws' := [(x, .inr (9, [.ref (u1 0), .ref (u1 1), .ref (u1 2), .ref (u1 3), .ref (u1 4), .ref (u1 5), .ref (u1 6), .ref (u1 7), .ref (u1 8), .int 1])), (u1 5, .inr (2, [.int 0, .int 1, .int 1, .int 0, .ref (u1 26), .int 0, .ref (u1 27), .ref (u1 28), .ref (u1 29), .ref (u1 30), .int 0, .int 0, .int 9999, .int 0])), (u1 2, .inr (7, [.int 0, .int 0, .int 0, .ref (u1 11), .ref (u1 12), .ref (u1 13), .ref (u1 14), .ref (u1 15), .ref (u1 16), .ref (u1 17)])), MB mo v1 0 0 0 0 0 0 0 (-1) 0 0 0 0 0 0 0 0 0 0 1 0, (v1 0, .inl (y 0, 1600, .inl (fun _ => 0))), (v1 43, .inl (y 0, 8, .inl (fun _ => 0))), (v1 45, .inl (y 0, 14, .inl lakeF)), (v1 62, .inl (y 0, 63, .inl (dayF 0))), (v1 65, .inl (y 0, 1890, .inl (fun _ => 0))), (v1 68, .inl (y 0, 63, .inl (fun _ => 0))), (v1 70, .inl (y 0, 6558, .inl (fun _ => 0))), (v1 71, .inl (y 0, 1093, .inl (fun _ => 0))), (v1 72, .inl (y 0, 7, .inl powF)), (v1 74, .inl (y 0, 13, .inl (fun _ => 0))), (v1 75, .inl (y 0, 13, .inl (fun _ => 0))), (v1 77, .inl (y 0, 15, .inl (fun _ => 0)))]) [0, 23, 5, 36, 37, 38, 39, 40, 41, 42, 43, 44, 45, 46, 47, 48] rfl (by decide) ?_
  refine j_callVi (pc := 894) C (c_N_share l D y x (u1 0) (u1 1) (u1 2) (u1 3) (u1 4) (u1 5) (u1 6) (u1 7) (u1 8) (u1 26) (u1 27) (u1 28) (u1 29) (u1 30) (u1 11) (u1 12) (u1 13) (u1 14) (u1 15) (u1 16) (u1 17) (xs 1) (xs 2)) kw_L_115 kv_Nine_share 0 9 rfl rfl ⟨by decide, by decide⟩ ⟨by decide, by decide⟩ (wr := [MB mo v1 0 0 0 0 0 0 0 (-1) 0 0 0 0 0 0 0 0 0 0 1 0, (v1 0, .inl (y 0, 1600, .inl (fun _ => 0))), (v1 43, .inl (y 0, 8, .inl (fun _ => 0))), (v1 45, .inl (y 0, 14, .inl lakeF)), (v1 62, .inl (y 0, 63, .inl (dayF 0))), (v1 65, .inl (y 0, 1890, .inl (fun _ => 0))), (v1 68, .inl (y 0, 63, .inl (fun _ => 0))), (v1 70, .inl (y 0, 6558, .inl (fun _ => 0))), (v1 71, .inl (y 0, 1093, .inl (fun _ => 0))), (v1 72, .inl (y 0, 7, .inl powF)), (v1 74, .inl (y 0, 13, .inl (fun _ => 0))), (v1 75, .inl (y 0, 13, .inl (fun _ => 0))), (v1 77, .inl (y 0, 15, .inl (fun _ => 0)))]) [0, 1, 2] [3, 4, 5, 6, 7, 8, 9, 10, 11, 12, 13, 14, 15] rfl rfl (by decide) (by decide) (by decide) (As := [.int (xs 1), .int (xs 2)]) (rest := []) rfl (nb rfl) rfl d_L_law_894 (fun r1 _ hr1 => ?_)
  subst hr1
  refine j_ws (ws' := [MB mo v1 0 0 0 0 0 0 0 (-1) 0 0 0 0 0 0 0 0 0 0 1 0, (v1 0, .inl (y 0, 1600, .inl (fun _ => 0))), (v1 43, .inl (y 0, 8, .inl (fun _ => 0))), (v1 45, .inl (y 0, 14, .inl lakeF)), (v1 62, .inl (y 0, 63, .inl (dayF 0))), (v1 65, .inl (y 0, 1890, .inl (fun _ => 0))), (v1 68, .inl (y 0, 63, .inl (fun _ => 0))), (v1 70, .inl (y 0, 6558, .inl (fun _ => 0))), (v1 71, .inl (y 0, 1093, .inl (fun _ => 0))), (v1 72, .inl (y 0, 7, .inl powF)), (v1 74, .inl (y 0, 13, .inl (fun _ => 0))), (v1 75, .inl (y 0, 13, .inl (fun _ => 0))), (v1 77, .inl (y 0, 15, .inl (fun _ => 0)))]) rfl ?_
  refine j_st (st' := [.int (-1000000000)]) rfl ?_
  refine j_aload_n (pc := 897) C d_L_law_897 rfl 1 rfl ?_
  refine j_aload_n (pc := 898) C d_L_law_898 rfl 3 rfl ?_
  refine j_iload_n (pc := 899) C d_L_law_899 rfl 0 rfl ?_
  refine j_iconst (pc := 900) C (v := 1) d_L_law_900 (by decide) ?_
  refine j_iadd (pc := 901) C (v := 1) d_L_law_901 (by decide) ?_
  refine j_sld (pc := 902) C hX hbl (v := xs 1) (vin (by decide)) rfl d_L_law_902 ?_
  refine j_aload_n (pc := 903) C d_L_law_903 rfl 3 rfl ?_
  refine j_iload_n (pc := 904) C d_L_law_904 rfl 0 rfl ?_
  refine j_iconst (pc := 905) C (v := 2) d_L_law_905 (by decide) ?_
  refine j_iadd (pc := 906) C (v := 2) d_L_law_906 (by decide) ?_
  refine j_sld (pc := 907) C hX hbl (v := xs 2) (vin (by decide)) rfl d_L_law_907 ?_
  refine j_sub (ws' := [MB mo v1 0 0 0 0 0 0 0 (-1) 0 0 0 0 0 0 0 0 0 0 1 0, (v1 43, .inl (y 0, 8, .inl (fun _ => 0))), (v1 62, .inl (y 0, 63, .inl (dayF 0)))]) [0, 2, 4] rfl (by decide) ?_
  refine j_callVi (pc := 908) C (c_M_share l D y mo v1 (xs 1) (xs 2)) kw_L_118 kv_Model_share 0 10 rfl rfl ⟨by decide, by decide⟩ ⟨by decide, by decide⟩ (wr := []) [0, 1, 2] [] rfl rfl (by decide) (by decide) (by decide) (As := [.int (xs 1), .int (xs 2)]) (rest := [.int (-1000000000)]) rfl (nb rfl) rfl d_L_law_908 (fun r2 _ hr2 => ?_)
  subst hr2
  refine j_ws (ws' := []) rfl ?_
  refine j_st (st' := [.int (-1000000000), .int (-1000000000)]) rfl ?_
  refine j_icmp_eqT (pc := 911) C (tgt := 1124) d_L_law_911 (by decide) (by decide) ?_
  refine j_sub (ws' := []) [] rfl (by decide) ?_
  refine j_locs (lv' := [(3, .int 0), (0, .ref b)]) [0, 3] rfl ?_
  exact kx
theorem d_L_law_916 : decode code 916 = .ok (.aload_n 1, 1) := by decide +kernel
theorem d_L_law_917 : decode code 917 = .ok (.aload_n 0, 1) := by decide +kernel
theorem d_L_law_918 : decode code 918 = .ok (.iload_n 3, 1) := by decide +kernel
theorem d_L_law_919 : decode code 919 = .ok (.iconst 1, 1) := by decide +kernel
theorem d_L_law_920 : decode code 920 = .ok (.iadd, 1) := by decide +kernel
theorem d_L_law_921 : decode code 921 = .ok (.iaload, 1) := by decide +kernel
theorem d_L_law_922 : decode code 922 = .ok (.aload_n 0, 1) := by decide +kernel
theorem d_L_law_923 : decode code 923 = .ok (.iload_n 3, 1) := by decide +kernel
theorem d_L_law_924 : decode code 924 = .ok (.iconst 2, 1) := by decide +kernel
theorem d_L_law_925 : decode code 925 = .ok (.iadd, 1) := by decide +kernel
theorem d_L_law_926 : decode code 926 = .ok (.iaload, 1) := by decide +kernel
theorem d_L_law_927 : decode code 927 = .ok (.invokevirtual 119, 3) := by decide +kernel
theorem kw_L_119 : KW "NineBoardsLaw" 119 ⟨"NineBoards", "first", "(II)I"⟩ prog_1_method_26_code 8 (some .int) 2 := ⟨(mt_4 (List.mem_of_getElem? (i := 229) rfl) rfl), (mt_1 (List.mem_of_getElem? (i := 1) rfl) rfl), (mt_4 (List.mem_of_getElem? (i := 232) rfl) rfl), by decide +kernel⟩
theorem kv_Nine_first : Cond.instanceMethod ⟨"NineBoards", "first", "(II)I"⟩ ∈ TB ∧ Cond.selects "NineBoards" ⟨"NineBoards", "first", "(II)I"⟩ ⟨"NineBoards", "first", "(II)I"⟩ ∈ TB := ⟨(mt_4 (List.mem_of_getElem? (i := 230) rfl) rfl), (mt_4 (List.mem_of_getElem? (i := 231) rfl) rfl)⟩
theorem d_L_law_930 : decode code 930 = .ok (.aload_n 2, 1) := by decide +kernel
theorem d_L_law_931 : decode code 931 = .ok (.aload_n 0, 1) := by decide +kernel
theorem d_L_law_932 : decode code 932 = .ok (.iload_n 3, 1) := by decide +kernel
theorem d_L_law_933 : decode code 933 = .ok (.iconst 1, 1) := by decide +kernel
theorem d_L_law_934 : decode code 934 = .ok (.iadd, 1) := by decide +kernel
theorem d_L_law_935 : decode code 935 = .ok (.iaload, 1) := by decide +kernel
theorem d_L_law_936 : decode code 936 = .ok (.aload_n 0, 1) := by decide +kernel
theorem d_L_law_937 : decode code 937 = .ok (.iload_n 3, 1) := by decide +kernel
theorem d_L_law_938 : decode code 938 = .ok (.iconst 2, 1) := by decide +kernel
theorem d_L_law_939 : decode code 939 = .ok (.iadd, 1) := by decide +kernel
theorem d_L_law_940 : decode code 940 = .ok (.iaload, 1) := by decide +kernel
theorem d_L_law_941 : decode code 941 = .ok (.invokevirtual 122, 3) := by decide +kernel
theorem kw_L_122 : KW "NineBoardsLaw" 122 ⟨"NineBoardsModel", "first", "(II)I"⟩ prog_13_method_98_code 7 (some .int) 2 := ⟨(mt_7 (List.mem_of_getElem? (i := 238) rfl) rfl), (mt_1 (List.mem_of_getElem? (i := 16) rfl) rfl), (mt_8 (List.mem_of_getElem? (i := 1) rfl) rfl), by decide +kernel⟩
theorem kv_Model_first : Cond.instanceMethod ⟨"NineBoardsModel", "first", "(II)I"⟩ ∈ TB ∧ Cond.selects "NineBoardsModel" ⟨"NineBoardsModel", "first", "(II)I"⟩ ⟨"NineBoardsModel", "first", "(II)I"⟩ ∈ TB := ⟨(mt_7 (List.mem_of_getElem? (i := 239) rfl) rfl), (mt_8 (List.mem_of_getElem? (i := 0) rfl) rfl)⟩
theorem d_L_law_944 : decode code 944 = .ok (.if_icmp .eq 180, 3) := by decide +kernel
set_option maxHeartbeats 4000000 in
set_option maxRecDepth 100000 in
theorem lc_24 {p : Program} {l : Launch} {e : Env} {s : State} {m : MethodId} {below : List Frame} {meth : Method} {c : Code} {Q : State → Prop} {D : va_G} {y : Nat → ClassId} {nm : String} {b : Nat} {xs : Nat → Int32} (C : Cx p s m #[Value.ref b] meth c D y (LA s) code 4 "NineBoardsLaw" nm) (hX : va_X b 6 xs s s.heap) (hbl : b < s.heap.size) (x : Nat) (mo : Nat) (u1 : Nat → Nat) (r1 : Nat → Nat) (r2 : Nat → Nat → Nat) (h1 : Nat → Nat) (a1 : Nat → Nat → Nat) (g1 : Nat → Nat) (c1 : Nat → Nat) (v1 : Nat → Nat) (kx : J p l e room_1 s m #[Value.ref b] below meth c Q D (LA s) 4 [] [(3, .int 0), (0, .ref b)] 451 27020 1124 []) : J p l e room_1 s m #[Value.ref b] below meth c Q D (LA s) 4 (LW y x mo u1 r1 r2 h1 a1 g1 c1 v1) [(3, .int 0), (2, .ref mo), (1, .ref x), (0, .ref b)] 451 27020 916 [] := by
  refine j_aload_n (pc := 916) C d_L_law_916 rfl 2 rfl ?_
  refine j_aload_n (pc := 917) C d_L_law_917 rfl 3 rfl ?_
  refine j_iload_n (pc := 918) C d_L_law_918 rfl 0 rfl ?_
  refine j_iconst (pc := 919) C (v := 1) d_L_law_919 (by decide) ?_
  refine j_iadd (pc := 920) C (v := 1) d_L_law_920 (by decide) ?_
  refine j_sld (pc := 921) C hX hbl (v := xs 1) (vin (by decide)) rfl d_L_law_921 ?_
  refine j_aload_n (pc := 922) C d_L_law_922 rfl 3 rfl ?_
  refine j_iload_n (pc := 923) C d_L_law_923 rfl 0 rfl ?_
  refine j_iconst (pc := 924) C (v := 2) d_L_law_924 (by decide) ?_
  refine j_iadd (pc := 925) C (v := 2) d_L_law_925 (by decide) ?_
  refine j_sld (pc := 926) C hX hbl (v := xs 2) (vin (by decide)) rfl d_L_law_926 ?_
  refine j_drop ?_
  refine j_sub (ws' := [(x, .inr (9, [.ref (u1 0), .ref (u1 1), .ref (u1 2), .ref (u1 3), .ref (u1 4), .ref (u1 5), .ref (u1 6), .ref (u1 7), .ref (u1 8), .int 1])), (u1 5, .inr (2, [.int 0, .int 1, .int 1, .int 0, .ref (u1 26), .int 0, .ref (u1 27), .ref (u1 28), .ref (u1 29), .ref (u1 30), .int 0, .int 0, .int 9999, .int 0])), (u1 26, .inr (1, [.int 0, .ref (u1 31), .ref (u1 32), .ref (u1 33), .ref (u1 34), .ref (u1 35), .ref (u1 36), .ref (u1 37)])), (u1 2, .inr (7, [.int 0, .int 0, .int 0, .ref (u1 11), .ref (u1 12), .ref (u1 13), .ref (u1 14), .ref (u1 15), .ref (u1 16), .ref (u1 17)])), MB mo v1 0 0 0 0 0 0 0 (-1) 0 0 0 0 0 0 0 0 0 0 1 0, (v1 0, .inl (y 0, 1600, .inl (fun _ => 0))), (v1 43, .inl (y 0, 8, .inl (fun _ => 0))), (v1 45, .inl (y 0, 14, .inl lakeF)), (v1 62, .inl (y 0, 63, .inl (dayF 0))), (v1 65, .inl (y 0, 1890, .inl (fun _ => 0))), (v1 68, .inl (y 0, 63, .inl (fun _ => 0))), (v1 70, .inl (y 0, 6558, .inl (fun _ => 0))), (v1 71, .inl (y 0, 1093, .inl (fun _ => 0))), (v1 72, .inl (y 0, 7, .inl powF)), (v1 74, .inl (y 0, 13, .inl (fun _ => 0))), (v1 75, .inl (y 0, 13, .inl (fun _ => 0))), (v1 77, .inl (y 0, 15, .inl (fun _ => 0)))]) [0, 23, 24, 5, 36, 37, 38, 39, 40, 41, 42, 43, 44, 45, 46, 47, 48] rfl (by decide) ?_
  refine j_callVi (pc := 927) C (c_N_first l D y x (u1 0) (u1 1) (u1 2) (u1 3) (u1 4) (u1 5) (u1 6) (u1 7) (u1 8) (u1 26) (u1 27) (u1 28) (u1 29) (u1 30) (u1 31) (u1 32) (u1 33) (u1 34) (u1 35) (u1 36) (u1 37) (u1 11) (u1 12) (u1 13) (u1 14) (u1 15) (u1 16) (u1 17) (xs 1) (xs 2)) kw_L_119 kv_Nine_first 0 9 rfl rfl ⟨by decide, by decide⟩ ⟨by decide, by decide⟩ (wr := [MB mo v1 0 0 0 0 0 0 0 (-1) 0 0 0 0 0 0 0 0 0 0 1 0, (v1 0, .inl (y 0, 1600, .inl (fun _ => 0))), (v1 43, .inl (y 0, 8, .inl (fun _ => 0))), (v1 45, .inl (y 0, 14, .inl lakeF)), (v1 62, .inl (y 0, 63, .inl (dayF 0))), (v1 65, .inl (y 0, 1890, .inl (fun _ => 0))), (v1 68, .inl (y 0, 63, .inl (fun _ => 0))), (v1 70, .inl (y 0, 6558, .inl (fun _ => 0))), (v1 71, .inl (y 0, 1093, .inl (fun _ => 0))), (v1 72, .inl (y 0, 7, .inl powF)), (v1 74, .inl (y 0, 13, .inl (fun _ => 0))), (v1 75, .inl (y 0, 13, .inl (fun _ => 0))), (v1 77, .inl (y 0, 15, .inl (fun _ => 0)))]) [0, 1, 2, 3] [4, 5, 6, 7, 8, 9, 10, 11, 12, 13, 14, 15, 16] rfl rfl (by decide) (by decide) (by decide) (As := [.int (xs 1), .int (xs 2)]) (rest := []) rfl (nb rfl) rfl d_L_law_927 (fun r1 _ hr1 => ?_)
  subst hr1
  refine j_ws (ws' := [MB mo v1 0 0 0 0 0 0 0 (-1) 0 0 0 0 0 0 0 0 0 0 1 0, (v1 0, .inl (y 0, 1600, .inl (fun _ => 0))), (v1 43, .inl (y 0, 8, .inl (fun _ => 0))), (v1 45, .inl (y 0, 14, .inl lakeF)), (v1 62, .inl (y 0, 63, .inl (dayF 0))), (v1 65, .inl (y 0, 1890, .inl (fun _ => 0))), (v1 68, .inl (y 0, 63, .inl (fun _ => 0))), (v1 70, .inl (y 0, 6558, .inl (fun _ => 0))), (v1 71, .inl (y 0, 1093, .inl (fun _ => 0))), (v1 72, .inl (y 0, 7, .inl powF)), (v1 74, .inl (y 0, 13, .inl (fun _ => 0))), (v1 75, .inl (y 0, 13, .inl (fun _ => 0))), (v1 77, .inl (y 0, 15, .inl (fun _ => 0)))]) rfl ?_
  refine j_st (st' := [.int (-1)]) rfl ?_
  refine j_aload_n (pc := 930) C d_L_law_930 rfl 1 rfl ?_
  refine j_aload_n (pc := 931) C d_L_law_931 rfl 3 rfl ?_
  refine j_iload_n (pc := 932) C d_L_law_932 rfl 0 rfl ?_
  refine j_iconst (pc := 933) C (v := 1) d_L_law_933 (by decide) ?_
  refine j_iadd (pc := 934) C (v := 1) d_L_law_934 (by decide) ?_
  refine j_sld (pc := 935) C hX hbl (v := xs 1) (vin (by decide)) rfl d_L_law_935 ?_
  refine j_aload_n (pc := 936) C d_L_law_936 rfl 3 rfl ?_
  refine j_iload_n (pc := 937) C d_L_law_937 rfl 0 rfl ?_
  refine j_iconst (pc := 938) C (v := 2) d_L_law_938 (by decide) ?_
  refine j_iadd (pc := 939) C (v := 2) d_L_law_939 (by decide) ?_
  refine j_sld (pc := 940) C hX hbl (v := xs 2) (vin (by decide)) rfl d_L_law_940 ?_
  refine j_sub (ws' := [MB mo v1 0 0 0 0 0 0 0 (-1) 0 0 0 0 0 0 0 0 0 0 1 0, (v1 43, .inl (y 0, 8, .inl (fun _ => 0))), (v1 62, .inl (y 0, 63, .inl (dayF 0)))]) [0, 2, 4] rfl (by decide) ?_
  refine j_callVi (pc := 941) C (c_M_first l D y mo v1 (xs 1) (xs 2)) kw_L_122 kv_Model_first 0 10 rfl rfl ⟨by decide, by decide⟩ ⟨by decide, by decide⟩ (wr := []) [0, 1, 2] [] rfl rfl (by decide) (by decide) (by decide) (As := [.int (xs 1), .int (xs 2)]) (rest := [.int (-1)]) rfl (nb rfl) rfl d_L_law_941 (fun r2 _ hr2 => ?_)
  subst hr2
  refine j_ws (ws' := []) rfl ?_
  refine j_st (st' := [.int (-1), .int (-1)]) rfl ?_
  refine j_icmp_eqT (pc := 944) C (tgt := 1124) d_L_law_944 (by decide) (by decide) ?_
  refine j_sub (ws' := []) [] rfl (by decide) ?_
  refine j_locs (lv' := [(3, .int 0), (0, .ref b)]) [0, 3] rfl ?_
  exact kx
theorem d_L_law_949 : decode code 949 = .ok (.aload_n 1, 1) := by decide +kernel
theorem d_L_law_950 : decode code 950 = .ok (.aload_n 0, 1) := by decide +kernel
theorem d_L_law_951 : decode code 951 = .ok (.iload_n 3, 1) := by decide +kernel
theorem d_L_law_952 : decode code 952 = .ok (.iconst 1, 1) := by decide +kernel
theorem d_L_law_953 : decode code 953 = .ok (.iadd, 1) := by decide +kernel
theorem d_L_law_954 : decode code 954 = .ok (.iaload, 1) := by decide +kernel
theorem d_L_law_955 : decode code 955 = .ok (.invokevirtual 123, 3) := by decide +kernel
theorem kw_L_123 : KW "NineBoardsLaw" 123 ⟨"NineBoards", "steal", "(I)I"⟩ prog_1_method_27_code 2 (some .int) 1 := ⟨(mt_5 (List.mem_of_getElem? (i := 3) rfl) rfl), (mt_1 (List.mem_of_getElem? (i := 1) rfl) rfl), (mt_5 (List.mem_of_getElem? (i := 6) rfl) rfl), by decide +kernel⟩
theorem kv_Nine_steal : Cond.instanceMethod ⟨"NineBoards", "steal", "(I)I"⟩ ∈ TB ∧ Cond.selects "NineBoards" ⟨"NineBoards", "steal", "(I)I"⟩ ⟨"NineBoards", "steal", "(I)I"⟩ ∈ TB := ⟨(mt_5 (List.mem_of_getElem? (i := 4) rfl) rfl), (mt_5 (List.mem_of_getElem? (i := 5) rfl) rfl)⟩
theorem d_L_law_958 : decode code 958 = .ok (.aload_n 2, 1) := by decide +kernel
theorem d_L_law_959 : decode code 959 = .ok (.aload_n 0, 1) := by decide +kernel
theorem d_L_law_960 : decode code 960 = .ok (.iload_n 3, 1) := by decide +kernel
theorem d_L_law_961 : decode code 961 = .ok (.iconst 1, 1) := by decide +kernel
theorem d_L_law_962 : decode code 962 = .ok (.iadd, 1) := by decide +kernel
theorem d_L_law_963 : decode code 963 = .ok (.iaload, 1) := by decide +kernel
theorem d_L_law_964 : decode code 964 = .ok (.invokevirtual 126, 3) := by decide +kernel
theorem kw_L_126 : KW "NineBoardsLaw" 126 ⟨"NineBoardsModel", "steal", "(I)I"⟩ prog_13_method_111_code 2 (some .int) 1 := ⟨(mt_8 (List.mem_of_getElem? (i := 57) rfl) rfl), (mt_1 (List.mem_of_getElem? (i := 16) rfl) rfl), (mt_8 (List.mem_of_getElem? (i := 60) rfl) rfl), by decide +kernel⟩
theorem kv_Model_steal : Cond.instanceMethod ⟨"NineBoardsModel", "steal", "(I)I"⟩ ∈ TB ∧ Cond.selects "NineBoardsModel" ⟨"NineBoardsModel", "steal", "(I)I"⟩ ⟨"NineBoardsModel", "steal", "(I)I"⟩ ∈ TB := ⟨(mt_8 (List.mem_of_getElem? (i := 58) rfl) rfl), (mt_8 (List.mem_of_getElem? (i := 59) rfl) rfl)⟩
theorem d_L_law_967 : decode code 967 = .ok (.if_icmp .eq 157, 3) := by decide +kernel
set_option maxHeartbeats 4000000 in
set_option maxRecDepth 100000 in
theorem lc_25 {p : Program} {l : Launch} {e : Env} {s : State} {m : MethodId} {below : List Frame} {meth : Method} {c : Code} {Q : State → Prop} {D : va_G} {y : Nat → ClassId} {nm : String} {b : Nat} {xs : Nat → Int32} (C : Cx p s m #[Value.ref b] meth c D y (LA s) code 4 "NineBoardsLaw" nm) (hX : va_X b 6 xs s s.heap) (hbl : b < s.heap.size) (x : Nat) (mo : Nat) (u1 : Nat → Nat) (r1 : Nat → Nat) (r2 : Nat → Nat → Nat) (h1 : Nat → Nat) (a1 : Nat → Nat → Nat) (g1 : Nat → Nat) (c1 : Nat → Nat) (v1 : Nat → Nat) (kx : J p l e room_1 s m #[Value.ref b] below meth c Q D (LA s) 4 [] [(3, .int 0), (0, .ref b)] 451 27020 1124 []) : J p l e room_1 s m #[Value.ref b] below meth c Q D (LA s) 4 (LW y x mo u1 r1 r2 h1 a1 g1 c1 v1) [(3, .int 0), (2, .ref mo), (1, .ref x), (0, .ref b)] 451 27020 949 [] := by
  refine j_aload_n (pc := 949) C d_L_law_949 rfl 2 rfl ?_
  refine j_aload_n (pc := 950) C d_L_law_950 rfl 3 rfl ?_
  refine j_iload_n (pc := 951) C d_L_law_951 rfl 0 rfl ?_
  refine j_iconst (pc := 952) C (v := 1) d_L_law_952 (by decide) ?_
  refine j_iadd (pc := 953) C (v := 1) d_L_law_953 (by decide) ?_
  refine j_sld (pc := 954) C hX hbl (v := xs 1) (vin (by decide)) rfl d_L_law_954 ?_
  refine j_drop ?_
  refine j_sub (ws' := [(x, .inr (9, [.ref (u1 0), .ref (u1 1), .ref (u1 2), .ref (u1 3), .ref (u1 4), .ref (u1 5), .ref (u1 6), .ref (u1 7), .ref (u1 8), .int 1])), (u1 5, .inr (2, [.int 0, .int 1, .int 1, .int 0, .ref (u1 26), .int 0, .ref (u1 27), .ref (u1 28), .ref (u1 29), .ref (u1 30), .int 0, .int 0, .int 9999, .int 0])), (u1 26, .inr (1, [.int 0, .ref (u1 31), .ref (u1 32), .ref (u1 33), .ref (u1 34), .ref (u1 35), .ref (u1 36), .ref (u1 37)])), MB mo v1 0 0 0 0 0 0 0 (-1) 0 0 0 0 0 0 0 0 0 0 1 0, (v1 0, .inl (y 0, 1600, .inl (fun _ => 0))), (v1 43, .inl (y 0, 8, .inl (fun _ => 0))), (v1 45, .inl (y 0, 14, .inl lakeF)), (v1 62, .inl (y 0, 63, .inl (dayF 0))), (v1 65, .inl (y 0, 1890, .inl (fun _ => 0))), (v1 68, .inl (y 0, 63, .inl (fun _ => 0))), (v1 70, .inl (y 0, 6558, .inl (fun _ => 0))), (v1 71, .inl (y 0, 1093, .inl (fun _ => 0))), (v1 72, .inl (y 0, 7, .inl powF)), (v1 74, .inl (y 0, 13, .inl (fun _ => 0))), (v1 75, .inl (y 0, 13, .inl (fun _ => 0))), (v1 77, .inl (y 0, 15, .inl (fun _ => 0)))]) [0, 23, 24, 36, 37, 38, 39, 40, 41, 42, 43, 44, 45, 46, 47, 48] rfl (by decide) ?_
  refine j_callVi (pc := 955) C (c_N_steal l D y x (u1 0) (u1 1) (u1 2) (u1 3) (u1 4) (u1 5) (u1 6) (u1 7) (u1 8) (u1 26) (u1 27) (u1 28) (u1 29) (u1 30) (u1 31) (u1 32) (u1 33) (u1 34) (u1 35) (u1 36) (u1 37) (xs 1)) kw_L_123 kv_Nine_steal 0 9 rfl rfl ⟨by decide, by decide⟩ ⟨by decide, by decide⟩ (wr := [MB mo v1 0 0 0 0 0 0 0 (-1) 0 0 0 0 0 0 0 0 0 0 1 0, (v1 0, .inl (y 0, 1600, .inl (fun _ => 0))), (v1 43, .inl (y 0, 8, .inl (fun _ => 0))), (v1 45, .inl (y 0, 14, .inl lakeF)), (v1 62, .inl (y 0, 63, .inl (dayF 0))), (v1 65, .inl (y 0, 1890, .inl (fun _ => 0))), (v1 68, .inl (y 0, 63, .inl (fun _ => 0))), (v1 70, .inl (y 0, 6558, .inl (fun _ => 0))), (v1 71, .inl (y 0, 1093, .inl (fun _ => 0))), (v1 72, .inl (y 0, 7, .inl powF)), (v1 74, .inl (y 0, 13, .inl (fun _ => 0))), (v1 75, .inl (y 0, 13, .inl (fun _ => 0))), (v1 77, .inl (y 0, 15, .inl (fun _ => 0)))]) [0, 1, 2] [3, 4, 5, 6, 7, 8, 9, 10, 11, 12, 13, 14, 15] rfl rfl (by decide) (by decide) (by decide) (As := [.int (xs 1)]) (rest := []) rfl (nb rfl) rfl d_L_law_955 (fun r1 _ hr1 => ?_)
  subst hr1
  refine j_ws (ws' := [MB mo v1 0 0 0 0 0 0 0 (-1) 0 0 0 0 0 0 0 0 0 0 1 0, (v1 0, .inl (y 0, 1600, .inl (fun _ => 0))), (v1 43, .inl (y 0, 8, .inl (fun _ => 0))), (v1 45, .inl (y 0, 14, .inl lakeF)), (v1 62, .inl (y 0, 63, .inl (dayF 0))), (v1 65, .inl (y 0, 1890, .inl (fun _ => 0))), (v1 68, .inl (y 0, 63, .inl (fun _ => 0))), (v1 70, .inl (y 0, 6558, .inl (fun _ => 0))), (v1 71, .inl (y 0, 1093, .inl (fun _ => 0))), (v1 72, .inl (y 0, 7, .inl powF)), (v1 74, .inl (y 0, 13, .inl (fun _ => 0))), (v1 75, .inl (y 0, 13, .inl (fun _ => 0))), (v1 77, .inl (y 0, 15, .inl (fun _ => 0)))]) rfl ?_
  refine j_st (st' := [.int (-1)]) rfl ?_
  refine j_aload_n (pc := 958) C d_L_law_958 rfl 1 rfl ?_
  refine j_aload_n (pc := 959) C d_L_law_959 rfl 3 rfl ?_
  refine j_iload_n (pc := 960) C d_L_law_960 rfl 0 rfl ?_
  refine j_iconst (pc := 961) C (v := 1) d_L_law_961 (by decide) ?_
  refine j_iadd (pc := 962) C (v := 1) d_L_law_962 (by decide) ?_
  refine j_sld (pc := 963) C hX hbl (v := xs 1) (vin (by decide)) rfl d_L_law_963 ?_
  refine j_sub (ws' := [MB mo v1 0 0 0 0 0 0 0 (-1) 0 0 0 0 0 0 0 0 0 0 1 0, (v1 43, .inl (y 0, 8, .inl (fun _ => 0)))]) [0, 2] rfl (by decide) ?_
  refine j_callVi (pc := 964) C (c_M_steal l D y mo v1 (xs 1)) kw_L_126 kv_Model_steal 0 10 rfl rfl ⟨by decide, by decide⟩ ⟨by decide, by decide⟩ (wr := []) [0, 1] [] rfl rfl (by decide) (by decide) (by decide) (As := [.int (xs 1)]) (rest := [.int (-1)]) rfl (nb rfl) rfl d_L_law_964 (fun r2 _ hr2 => ?_)
  subst hr2
  refine j_ws (ws' := []) rfl ?_
  refine j_st (st' := [.int (-1), .int (-1)]) rfl ?_
  refine j_icmp_eqT (pc := 967) C (tgt := 1124) d_L_law_967 (by decide) (by decide) ?_
  refine j_sub (ws' := []) [] rfl (by decide) ?_
  refine j_locs (lv' := [(3, .int 0), (0, .ref b)]) [0, 3] rfl ?_
  exact kx
theorem d_L_law_972 : decode code 972 = .ok (.aload_n 1, 1) := by decide +kernel
theorem d_L_law_973 : decode code 973 = .ok (.invokevirtual 127, 3) := by decide +kernel
theorem kw_L_127 : KW "NineBoardsLaw" 127 ⟨"NineBoards", "thief", "()I"⟩ prog_1_method_28_code 2 (some .int) 0 := ⟨(mt_5 (List.mem_of_getElem? (i := 7) rfl) rfl), (mt_1 (List.mem_of_getElem? (i := 1) rfl) rfl), (mt_5 (List.mem_of_getElem? (i := 10) rfl) rfl), by decide +kernel⟩
theorem kv_Nine_thief : Cond.instanceMethod ⟨"NineBoards", "thief", "()I"⟩ ∈ TB ∧ Cond.selects "NineBoards" ⟨"NineBoards", "thief", "()I"⟩ ⟨"NineBoards", "thief", "()I"⟩ ∈ TB := ⟨(mt_5 (List.mem_of_getElem? (i := 8) rfl) rfl), (mt_5 (List.mem_of_getElem? (i := 9) rfl) rfl)⟩
theorem d_L_law_976 : decode code 976 = .ok (.aload_n 2, 1) := by decide +kernel
theorem d_L_law_977 : decode code 977 = .ok (.invokevirtual 130, 3) := by decide +kernel
theorem kw_L_130 : KW "NineBoardsLaw" 130 ⟨"NineBoardsModel", "thief", "()I"⟩ prog_13_method_115_code 3 (some .int) 0 := ⟨(mt_8 (List.mem_of_getElem? (i := 61) rfl) rfl), (mt_1 (List.mem_of_getElem? (i := 16) rfl) rfl), (mt_8 (List.mem_of_getElem? (i := 64) rfl) rfl), by decide +kernel⟩
theorem kv_Model_thief : Cond.instanceMethod ⟨"NineBoardsModel", "thief", "()I"⟩ ∈ TB ∧ Cond.selects "NineBoardsModel" ⟨"NineBoardsModel", "thief", "()I"⟩ ⟨"NineBoardsModel", "thief", "()I"⟩ ∈ TB := ⟨(mt_8 (List.mem_of_getElem? (i := 62) rfl) rfl), (mt_8 (List.mem_of_getElem? (i := 63) rfl) rfl)⟩
theorem d_L_law_980 : decode code 980 = .ok (.if_icmp .eq 144, 3) := by decide +kernel
set_option maxHeartbeats 4000000 in
set_option maxRecDepth 100000 in
theorem lc_26 {p : Program} {l : Launch} {e : Env} {s : State} {m : MethodId} {below : List Frame} {meth : Method} {c : Code} {Q : State → Prop} {D : va_G} {y : Nat → ClassId} {nm : String} {b : Nat} {xs : Nat → Int32} (C : Cx p s m #[Value.ref b] meth c D y (LA s) code 4 "NineBoardsLaw" nm) (hX : va_X b 6 xs s s.heap) (hbl : b < s.heap.size) (x : Nat) (mo : Nat) (u1 : Nat → Nat) (r1 : Nat → Nat) (r2 : Nat → Nat → Nat) (h1 : Nat → Nat) (a1 : Nat → Nat → Nat) (g1 : Nat → Nat) (c1 : Nat → Nat) (v1 : Nat → Nat) (kx : J p l e room_1 s m #[Value.ref b] below meth c Q D (LA s) 4 [] [(3, .int 0), (0, .ref b)] 451 27020 1124 []) : J p l e room_1 s m #[Value.ref b] below meth c Q D (LA s) 4 (LW y x mo u1 r1 r2 h1 a1 g1 c1 v1) [(3, .int 0), (2, .ref mo), (1, .ref x), (0, .ref b)] 451 27020 972 [] := by
  refine j_aload_n (pc := 972) C d_L_law_972 rfl 2 rfl ?_
  refine j_drop ?_
  refine j_sub (ws' := [(x, .inr (9, [.ref (u1 0), .ref (u1 1), .ref (u1 2), .ref (u1 3), .ref (u1 4), .ref (u1 5), .ref (u1 6), .ref (u1 7), .ref (u1 8), .int 1])), (u1 5, .inr (2, [.int 0, .int 1, .int 1, .int 0, .ref (u1 26), .int 0, .ref (u1 27), .ref (u1 28), .ref (u1 29), .ref (u1 30), .int 0, .int 0, .int 9999, .int 0])), (u1 26, .inr (1, [.int 0, .ref (u1 31), .ref (u1 32), .ref (u1 33), .ref (u1 34), .ref (u1 35), .ref (u1 36), .ref (u1 37)])), (u1 3, .inr (7, [.int 0, .int 0, .int 0, .ref (u1 18), .ref (u1 19), .ref (u1 20), .ref (u1 21), .ref (u1 22), .ref (u1 23), .ref (u1 24)])), (u1 18, .inl (y 0, 9, .inl (fun _ => 0))), (u1 19, .inl (y 0, 9, .inl (fun _ => 0))), (u1 20, .inl (y 1, 9, .inr (.inl (fun _ => 0)))), (u1 21, .inl (y 0, 6, .inl (fun _ => 0))), (u1 22, .inl (y 0, 6, .inl (fun _ => 0))), (u1 23, .inl (y 0, 16, .inl (fun _ => 0))), (u1 24, .inl (y 1, 5, .inr (.inl (fun _ => 0)))), (u1 2, .inr (7, [.int 0, .int 0, .int 0, .ref (u1 11), .ref (u1 12), .ref (u1 13), .ref (u1 14), .ref (u1 15), .ref (u1 16), .ref (u1 17)])), (u1 11, .inl (y 0, 9, .inl (fun _ => 0))), (u1 12, .inl (y 0, 9, .inl (fun _ => 0))), (u1 13, .inl (y 1, 9, .inr (.inl (fun _ => 0)))), (u1 14, .inl (y 0, 6, .inl (fun _ => 0))), (u1 15, .inl (y 0, 6, .inl (fun _ => 0))), (u1 16, .inl (y 0, 16, .inl (fun _ => 0))), (u1 17, .inl (y 1, 5, .inr (.inl (fun _ => 0)))), (u1 0, .inr (0, [.ref (u1 9), .int 0])), MB mo v1 0 0 0 0 0 0 0 (-1) 0 0 0 0 0 0 0 0 0 0 1 0, (v1 0, .inl (y 0, 1600, .inl (fun _ => 0))), (v1 43, .inl (y 0, 8, .inl (fun _ => 0))), (v1 45, .inl (y 0, 14, .inl lakeF)), (v1 62, .inl (y 0, 63, .inl (dayF 0))), (v1 65, .inl (y 0, 1890, .inl (fun _ => 0))), (v1 68, .inl (y 0, 63, .inl (fun _ => 0))), (v1 70, .inl (y 0, 6558, .inl (fun _ => 0))), (v1 71, .inl (y 0, 1093, .inl (fun _ => 0))), (v1 72, .inl (y 0, 7, .inl powF)), (v1 74, .inl (y 0, 13, .inl (fun _ => 0))), (v1 75, .inl (y 0, 13, .inl (fun _ => 0))), (v1 77, .inl (y 0, 15, .inl (fun _ => 0)))]) [0, 23, 24, 13, 14, 15, 16, 17, 18, 19, 20, 5, 6, 7, 8, 9, 10, 11, 12, 1, 36, 37, 38, 39, 40, 41, 42, 43, 44, 45, 46, 47, 48] rfl (by decide) ?_
  refine j_callVi (pc := 973) C (c_N_thief l D y x (u1 0) (u1 1) (u1 2) (u1 3) (u1 4) (u1 5) (u1 6) (u1 7) (u1 8) (u1 26) (u1 27) (u1 28) (u1 29) (u1 30) (u1 31) (u1 32) (u1 33) (u1 34) (u1 35) (u1 36) (u1 37) 0 (u1 18) (u1 19) (u1 20) (u1 21) (u1 22) (u1 23) (u1 24) (u1 11) (u1 12) (u1 13) (u1 14) (u1 15) (u1 16) (u1 17) (u1 9)) kw_L_127 kv_Nine_thief 0 9 rfl rfl ⟨by decide, by decide⟩ ⟨by decide, by decide⟩ (wr := [MB mo v1 0 0 0 0 0 0 0 (-1) 0 0 0 0 0 0 0 0 0 0 1 0, (v1 0, .inl (y 0, 1600, .inl (fun _ => 0))), (v1 43, .inl (y 0, 8, .inl (fun _ => 0))), (v1 45, .inl (y 0, 14, .inl lakeF)), (v1 62, .inl (y 0, 63, .inl (dayF 0))), (v1 65, .inl (y 0, 1890, .inl (fun _ => 0))), (v1 68, .inl (y 0, 63, .inl (fun _ => 0))), (v1 70, .inl (y 0, 6558, .inl (fun _ => 0))), (v1 71, .inl (y 0, 1093, .inl (fun _ => 0))), (v1 72, .inl (y 0, 7, .inl powF)), (v1 74, .inl (y 0, 13, .inl (fun _ => 0))), (v1 75, .inl (y 0, 13, .inl (fun _ => 0))), (v1 77, .inl (y 0, 15, .inl (fun _ => 0)))]) [0, 1, 2, 3, 4, 5, 6, 7, 8, 9, 10, 11, 12, 13, 14, 15, 16, 17, 18, 19] [20, 21, 22, 23, 24, 25, 26, 27, 28, 29, 30, 31, 32] rfl rfl (by decide) (by decide) (by decide) (As := []) (rest := []) rfl (nb rfl) rfl d_L_law_973 (fun r1 _ hr1 => ?_)
  subst hr1
  refine j_ws (ws' := [MB mo v1 0 0 0 0 0 0 0 (-1) 0 0 0 0 0 0 0 0 0 0 1 0, (v1 0, .inl (y 0, 1600, .inl (fun _ => 0))), (v1 43, .inl (y 0, 8, .inl (fun _ => 0))), (v1 45, .inl (y 0, 14, .inl lakeF)), (v1 62, .inl (y 0, 63, .inl (dayF 0))), (v1 65, .inl (y 0, 1890, .inl (fun _ => 0))), (v1 68, .inl (y 0, 63, .inl (fun _ => 0))), (v1 70, .inl (y 0, 6558, .inl (fun _ => 0))), (v1 71, .inl (y 0, 1093, .inl (fun _ => 0))), (v1 72, .inl (y 0, 7, .inl powF)), (v1 74, .inl (y 0, 13, .inl (fun _ => 0))), (v1 75, .inl (y 0, 13, .inl (fun _ => 0))), (v1 77, .inl (y 0, 15, .inl (fun _ => 0)))]) rfl ?_
  refine j_st (st' := [.int 512]) rfl ?_
  refine j_aload_n (pc := 976) C d_L_law_976 rfl 1 rfl ?_
  refine j_sub (ws' := [MB mo v1 0 0 0 0 0 0 0 (-1) 0 0 0 0 0 0 0 0 0 0 1 0, (v1 43, .inl (y 0, 8, .inl (fun _ => 0))), (v1 62, .inl (y 0, 63, .inl (dayF 0))), (v1 45, .inl (y 0, 14, .inl lakeF))]) [0, 2, 4, 3] rfl (by decide) ?_
  refine j_callVi (pc := 977) C (c_M_thief l D y mo v1) kw_L_130 kv_Model_thief 0 10 rfl rfl ⟨by decide, by decide⟩ ⟨by decide, by decide⟩ (wr := []) [0, 1, 2, 3] [] rfl rfl (by decide) (by decide) (by decide) (As := []) (rest := [.int 512]) rfl (nb rfl) rfl d_L_law_977 (fun r2 _ hr2 => ?_)
  subst hr2
  refine j_ws (ws' := []) rfl ?_
  refine j_st (st' := [.int 512, .int 512]) rfl ?_
  refine j_icmp_eqT (pc := 980) C (tgt := 1124) d_L_law_980 (by decide) (by decide) ?_
  refine j_sub (ws' := []) [] rfl (by decide) ?_
  refine j_locs (lv' := [(3, .int 0), (0, .ref b)]) [0, 3] rfl ?_
  exact kx
theorem d_L_law_985 : decode code 985 = .ok (.aload_n 1, 1) := by decide +kernel
theorem d_L_law_986 : decode code 986 = .ok (.invokevirtual 131, 3) := by decide +kernel
theorem kw_L_131 : KW "NineBoardsLaw" 131 ⟨"NineBoards", "beaver", "()I"⟩ prog_1_method_29_code 2 (some .int) 0 := ⟨(mt_5 (List.mem_of_getElem? (i := 31) rfl) rfl), (mt_1 (List.mem_of_getElem? (i := 1) rfl) rfl), (mt_5 (List.mem_of_getElem? (i := 34) rfl) rfl), by decide +kernel⟩
theorem kv_Nine_beaver : Cond.instanceMethod ⟨"NineBoards", "beaver", "()I"⟩ ∈ TB ∧ Cond.selects "NineBoards" ⟨"NineBoards", "beaver", "()I"⟩ ⟨"NineBoards", "beaver", "()I"⟩ ∈ TB := ⟨(mt_5 (List.mem_of_getElem? (i := 32) rfl) rfl), (mt_5 (List.mem_of_getElem? (i := 33) rfl) rfl)⟩
theorem d_L_law_989 : decode code 989 = .ok (.aload_n 2, 1) := by decide +kernel
theorem d_L_law_990 : decode code 990 = .ok (.invokevirtual 134, 3) := by decide +kernel
theorem kw_L_134 : KW "NineBoardsLaw" 134 ⟨"NineBoardsModel", "beaver", "()I"⟩ prog_13_method_116_code 4 (some .int) 0 := ⟨(mt_8 (List.mem_of_getElem? (i := 77) rfl) rfl), (mt_1 (List.mem_of_getElem? (i := 16) rfl) rfl), (mt_8 (List.mem_of_getElem? (i := 80) rfl) rfl), by decide +kernel⟩
theorem kv_Model_beaver : Cond.instanceMethod ⟨"NineBoardsModel", "beaver", "()I"⟩ ∈ TB ∧ Cond.selects "NineBoardsModel" ⟨"NineBoardsModel", "beaver", "()I"⟩ ⟨"NineBoardsModel", "beaver", "()I"⟩ ∈ TB := ⟨(mt_8 (List.mem_of_getElem? (i := 78) rfl) rfl), (mt_8 (List.mem_of_getElem? (i := 79) rfl) rfl)⟩
theorem d_L_law_993 : decode code 993 = .ok (.if_icmp .eq 131, 3) := by decide +kernel
set_option maxHeartbeats 4000000 in
set_option maxRecDepth 100000 in
theorem lc_27 {p : Program} {l : Launch} {e : Env} {s : State} {m : MethodId} {below : List Frame} {meth : Method} {c : Code} {Q : State → Prop} {D : va_G} {y : Nat → ClassId} {nm : String} {b : Nat} {xs : Nat → Int32} (C : Cx p s m #[Value.ref b] meth c D y (LA s) code 4 "NineBoardsLaw" nm) (hX : va_X b 6 xs s s.heap) (hbl : b < s.heap.size) (x : Nat) (mo : Nat) (u1 : Nat → Nat) (r1 : Nat → Nat) (r2 : Nat → Nat → Nat) (h1 : Nat → Nat) (a1 : Nat → Nat → Nat) (g1 : Nat → Nat) (c1 : Nat → Nat) (v1 : Nat → Nat) (kx : J p l e room_1 s m #[Value.ref b] below meth c Q D (LA s) 4 [] [(3, .int 0), (0, .ref b)] 451 27020 1124 []) : J p l e room_1 s m #[Value.ref b] below meth c Q D (LA s) 4 (LW y x mo u1 r1 r2 h1 a1 g1 c1 v1) [(3, .int 0), (2, .ref mo), (1, .ref x), (0, .ref b)] 451 27020 985 [] := by
  refine j_aload_n (pc := 985) C d_L_law_985 rfl 2 rfl ?_
  refine j_drop ?_
  refine j_sub (ws' := [(x, .inr (9, [.ref (u1 0), .ref (u1 1), .ref (u1 2), .ref (u1 3), .ref (u1 4), .ref (u1 5), .ref (u1 6), .ref (u1 7), .ref (u1 8), .int 1])), (u1 5, .inr (2, [.int 0, .int 1, .int 1, .int 0, .ref (u1 26), .int 0, .ref (u1 27), .ref (u1 28), .ref (u1 29), .ref (u1 30), .int 0, .int 0, .int 9999, .int 0])), (u1 26, .inr (1, [.int 0, .ref (u1 31), .ref (u1 32), .ref (u1 33), .ref (u1 34), .ref (u1 35), .ref (u1 36), .ref (u1 37)])), (u1 3, .inr (7, [.int 0, .int 0, .int 0, .ref (u1 18), .ref (u1 19), .ref (u1 20), .ref (u1 21), .ref (u1 22), .ref (u1 23), .ref (u1 24)])), (u1 18, .inl (y 0, 9, .inl (fun _ => 0))), (u1 19, .inl (y 0, 9, .inl (fun _ => 0))), (u1 20, .inl (y 1, 9, .inr (.inl (fun _ => 0)))), (u1 21, .inl (y 0, 6, .inl (fun _ => 0))), (u1 22, .inl (y 0, 6, .inl (fun _ => 0))), (u1 23, .inl (y 0, 16, .inl (fun _ => 0))), (u1 24, .inl (y 1, 5, .inr (.inl (fun _ => 0)))), (u1 2, .inr (7, [.int 0, .int 0, .int 0, .ref (u1 11), .ref (u1 12), .ref (u1 13), .ref (u1 14), .ref (u1 15), .ref (u1 16), .ref (u1 17)])), (u1 11, .inl (y 0, 9, .inl (fun _ => 0))), (u1 12, .inl (y 0, 9, .inl (fun _ => 0))), (u1 13, .inl (y 1, 9, .inr (.inl (fun _ => 0)))), (u1 14, .inl (y 0, 6, .inl (fun _ => 0))), (u1 15, .inl (y 0, 6, .inl (fun _ => 0))), (u1 16, .inl (y 0, 16, .inl (fun _ => 0))), (u1 17, .inl (y 1, 5, .inr (.inl (fun _ => 0)))), (u1 0, .inr (0, [.ref (u1 9), .int 0])), MB mo v1 0 0 0 0 0 0 0 (-1) 0 0 0 0 0 0 0 0 0 0 1 0, (v1 0, .inl (y 0, 1600, .inl (fun _ => 0))), (v1 43, .inl (y 0, 8, .inl (fun _ => 0))), (v1 45, .inl (y 0, 14, .inl lakeF)), (v1 62, .inl (y 0, 63, .inl (dayF 0))), (v1 65, .inl (y 0, 1890, .inl (fun _ => 0))), (v1 68, .inl (y 0, 63, .inl (fun _ => 0))), (v1 70, .inl (y 0, 6558, .inl (fun _ => 0))), (v1 71, .inl (y 0, 1093, .inl (fun _ => 0))), (v1 72, .inl (y 0, 7, .inl powF)), (v1 74, .inl (y 0, 13, .inl (fun _ => 0))), (v1 75, .inl (y 0, 13, .inl (fun _ => 0))), (v1 77, .inl (y 0, 15, .inl (fun _ => 0)))]) [0, 23, 24, 13, 14, 15, 16, 17, 18, 19, 20, 5, 6, 7, 8, 9, 10, 11, 12, 1, 36, 37, 38, 39, 40, 41, 42, 43, 44, 45, 46, 47, 48] rfl (by decide) ?_
  refine j_callVi (pc := 986) C (c_N_beaver l D y x (u1 0) (u1 1) (u1 2) (u1 3) (u1 4) (u1 5) (u1 6) (u1 7) (u1 8) (u1 26) (u1 27) (u1 28) (u1 29) (u1 30) (u1 31) (u1 32) (u1 33) (u1 34) (u1 35) (u1 36) (u1 37) 0 (u1 18) (u1 19) (u1 20) (u1 21) (u1 22) (u1 23) (u1 24) (u1 11) (u1 12) (u1 13) (u1 14) (u1 15) (u1 16) (u1 17) (u1 9)) kw_L_131 kv_Nine_beaver 0 9 rfl rfl ⟨by decide, by decide⟩ ⟨by decide, by decide⟩ (wr := [MB mo v1 0 0 0 0 0 0 0 (-1) 0 0 0 0 0 0 0 0 0 0 1 0, (v1 0, .inl (y 0, 1600, .inl (fun _ => 0))), (v1 43, .inl (y 0, 8, .inl (fun _ => 0))), (v1 45, .inl (y 0, 14, .inl lakeF)), (v1 62, .inl (y 0, 63, .inl (dayF 0))), (v1 65, .inl (y 0, 1890, .inl (fun _ => 0))), (v1 68, .inl (y 0, 63, .inl (fun _ => 0))), (v1 70, .inl (y 0, 6558, .inl (fun _ => 0))), (v1 71, .inl (y 0, 1093, .inl (fun _ => 0))), (v1 72, .inl (y 0, 7, .inl powF)), (v1 74, .inl (y 0, 13, .inl (fun _ => 0))), (v1 75, .inl (y 0, 13, .inl (fun _ => 0))), (v1 77, .inl (y 0, 15, .inl (fun _ => 0)))]) [0, 1, 2, 3, 4, 5, 6, 7, 8, 9, 10, 11, 12, 13, 14, 15, 16, 17, 18, 19] [20, 21, 22, 23, 24, 25, 26, 27, 28, 29, 30, 31, 32] rfl rfl (by decide) (by decide) (by decide) (As := []) (rest := []) rfl (nb rfl) rfl d_L_law_986 (fun r1 _ hr1 => ?_)
  subst hr1
  refine j_ws (ws' := [MB mo v1 0 0 0 0 0 0 0 (-1) 0 0 0 0 0 0 0 0 0 0 1 0, (v1 0, .inl (y 0, 1600, .inl (fun _ => 0))), (v1 43, .inl (y 0, 8, .inl (fun _ => 0))), (v1 45, .inl (y 0, 14, .inl lakeF)), (v1 62, .inl (y 0, 63, .inl (dayF 0))), (v1 65, .inl (y 0, 1890, .inl (fun _ => 0))), (v1 68, .inl (y 0, 63, .inl (fun _ => 0))), (v1 70, .inl (y 0, 6558, .inl (fun _ => 0))), (v1 71, .inl (y 0, 1093, .inl (fun _ => 0))), (v1 72, .inl (y 0, 7, .inl powF)), (v1 74, .inl (y 0, 13, .inl (fun _ => 0))), (v1 75, .inl (y 0, 13, .inl (fun _ => 0))), (v1 77, .inl (y 0, 15, .inl (fun _ => 0)))]) rfl ?_
  refine j_st (st' := [.int (-1)]) rfl ?_
  refine j_aload_n (pc := 989) C d_L_law_989 rfl 1 rfl ?_
  refine j_sub (ws' := [MB mo v1 0 0 0 0 0 0 0 (-1) 0 0 0 0 0 0 0 0 0 0 1 0, (v1 43, .inl (y 0, 8, .inl (fun _ => 0))), (v1 62, .inl (y 0, 63, .inl (dayF 0))), (v1 45, .inl (y 0, 14, .inl lakeF))]) [0, 2, 4, 3] rfl (by decide) ?_
  refine j_callVi (pc := 990) C (c_M_beaver l D y mo v1) kw_L_134 kv_Model_beaver 0 10 rfl rfl ⟨by decide, by decide⟩ ⟨by decide, by decide⟩ (wr := []) [0, 1, 2, 3] [] rfl rfl (by decide) (by decide) (by decide) (As := []) (rest := [.int (-1)]) rfl (nb rfl) rfl d_L_law_990 (fun r2 _ hr2 => ?_)
  subst hr2
  refine j_ws (ws' := []) rfl ?_
  refine j_st (st' := [.int (-1), .int (-1)]) rfl ?_
  refine j_icmp_eqT (pc := 993) C (tgt := 1124) d_L_law_993 (by decide) (by decide) ?_
  refine j_sub (ws' := []) [] rfl (by decide) ?_
  refine j_locs (lv' := [(3, .int 0), (0, .ref b)]) [0, 3] rfl ?_
  exact kx
theorem d_L_law_998 : decode code 998 = .ok (.aload_n 1, 1) := by decide +kernel
theorem d_L_law_999 : decode code 999 = .ok (.aload_n 0, 1) := by decide +kernel
theorem d_L_law_1000 : decode code 1000 = .ok (.iload_n 3, 1) := by decide +kernel
theorem d_L_law_1001 : decode code 1001 = .ok (.iconst 1, 1) := by decide +kernel
theorem d_L_law_1002 : decode code 1002 = .ok (.iadd, 1) := by decide +kernel
theorem d_L_law_1003 : decode code 1003 = .ok (.iaload, 1) := by decide +kernel
theorem d_L_law_1004 : decode code 1004 = .ok (.invokevirtual 135, 3) := by decide +kernel
theorem kw_L_135 : KW "NineBoardsLaw" 135 ⟨"NineBoards", "seed", "(I)Z"⟩ prog_1_method_30_code 2 (some .boolean) 1 := ⟨(mt_5 (List.mem_of_getElem? (i := 39) rfl) rfl), (mt_1 (List.mem_of_getElem? (i := 1) rfl) rfl), (mt_5 (List.mem_of_getElem? (i := 42) rfl) rfl), by decide +kernel⟩
theorem kv_Nine_seed : Cond.instanceMethod ⟨"NineBoards", "seed", "(I)Z"⟩ ∈ TB ∧ Cond.selects "NineBoards" ⟨"NineBoards", "seed", "(I)Z"⟩ ⟨"NineBoards", "seed", "(I)Z"⟩ ∈ TB := ⟨(mt_5 (List.mem_of_getElem? (i := 40) rfl) rfl), (mt_5 (List.mem_of_getElem? (i := 41) rfl) rfl)⟩
theorem d_L_law_1007 : decode code 1007 = .ok (.aload_n 2, 1) := by decide +kernel
theorem d_L_law_1008 : decode code 1008 = .ok (.aload_n 0, 1) := by decide +kernel
theorem d_L_law_1009 : decode code 1009 = .ok (.iload_n 3, 1) := by decide +kernel
theorem d_L_law_1010 : decode code 1010 = .ok (.iconst 1, 1) := by decide +kernel
theorem d_L_law_1011 : decode code 1011 = .ok (.iadd, 1) := by decide +kernel
theorem d_L_law_1012 : decode code 1012 = .ok (.iaload, 1) := by decide +kernel
theorem d_L_law_1013 : decode code 1013 = .ok (.invokevirtual 138, 3) := by decide +kernel
theorem kw_L_138 : KW "NineBoardsLaw" 138 ⟨"NineBoardsModel", "seed", "(I)Z"⟩ prog_13_method_117_code 2 (some .boolean) 1 := ⟨(mt_8 (List.mem_of_getElem? (i := 81) rfl) rfl), (mt_1 (List.mem_of_getElem? (i := 16) rfl) rfl), (mt_8 (List.mem_of_getElem? (i := 84) rfl) rfl), by decide +kernel⟩
theorem kv_Model_seed : Cond.instanceMethod ⟨"NineBoardsModel", "seed", "(I)Z"⟩ ∈ TB ∧ Cond.selects "NineBoardsModel" ⟨"NineBoardsModel", "seed", "(I)Z"⟩ ⟨"NineBoardsModel", "seed", "(I)Z"⟩ ∈ TB := ⟨(mt_8 (List.mem_of_getElem? (i := 82) rfl) rfl), (mt_8 (List.mem_of_getElem? (i := 83) rfl) rfl)⟩
theorem d_L_law_1016 : decode code 1016 = .ok (.if_icmp .eq 108, 3) := by decide +kernel
set_option maxHeartbeats 4000000 in
set_option maxRecDepth 100000 in
theorem lc_28 {p : Program} {l : Launch} {e : Env} {s : State} {m : MethodId} {below : List Frame} {meth : Method} {c : Code} {Q : State → Prop} {D : va_G} {y : Nat → ClassId} {nm : String} {b : Nat} {xs : Nat → Int32} (C : Cx p s m #[Value.ref b] meth c D y (LA s) code 4 "NineBoardsLaw" nm) (hX : va_X b 6 xs s s.heap) (hbl : b < s.heap.size) (x : Nat) (mo : Nat) (u1 : Nat → Nat) (r1 : Nat → Nat) (r2 : Nat → Nat → Nat) (h1 : Nat → Nat) (a1 : Nat → Nat → Nat) (g1 : Nat → Nat) (c1 : Nat → Nat) (v1 : Nat → Nat) (kx : J p l e room_1 s m #[Value.ref b] below meth c Q D (LA s) 4 [] [(3, .int 0), (0, .ref b)] 451 27020 1124 []) : J p l e room_1 s m #[Value.ref b] below meth c Q D (LA s) 4 (LW y x mo u1 r1 r2 h1 a1 g1 c1 v1) [(3, .int 0), (2, .ref mo), (1, .ref x), (0, .ref b)] 451 27020 998 [] := by
  refine j_aload_n (pc := 998) C d_L_law_998 rfl 2 rfl ?_
  refine j_aload_n (pc := 999) C d_L_law_999 rfl 3 rfl ?_
  refine j_iload_n (pc := 1000) C d_L_law_1000 rfl 0 rfl ?_
  refine j_iconst (pc := 1001) C (v := 1) d_L_law_1001 (by decide) ?_
  refine j_iadd (pc := 1002) C (v := 1) d_L_law_1002 (by decide) ?_
  refine j_sld (pc := 1003) C hX hbl (v := xs 1) (vin (by decide)) rfl d_L_law_1003 ?_
  refine j_drop ?_
  refine j_sub (ws' := [(x, .inr (9, [.ref (u1 0), .ref (u1 1), .ref (u1 2), .ref (u1 3), .ref (u1 4), .ref (u1 5), .ref (u1 6), .ref (u1 7), .ref (u1 8), .int 1])), MB mo v1 0 0 0 0 0 0 0 (-1) 0 0 0 0 0 0 0 0 0 0 1 0, (v1 0, .inl (y 0, 1600, .inl (fun _ => 0))), (v1 43, .inl (y 0, 8, .inl (fun _ => 0))), (v1 45, .inl (y 0, 14, .inl lakeF)), (v1 62, .inl (y 0, 63, .inl (dayF 0))), (v1 65, .inl (y 0, 1890, .inl (fun _ => 0))), (v1 68, .inl (y 0, 63, .inl (fun _ => 0))), (v1 70, .inl (y 0, 6558, .inl (fun _ => 0))), (v1 71, .inl (y 0, 1093, .inl (fun _ => 0))), (v1 72, .inl (y 0, 7, .inl powF)), (v1 74, .inl (y 0, 13, .inl (fun _ => 0))), (v1 75, .inl (y 0, 13, .inl (fun _ => 0))), (v1 77, .inl (y 0, 15, .inl (fun _ => 0)))]) [0, 36, 37, 38, 39, 40, 41, 42, 43, 44, 45, 46, 47, 48] rfl (by decide) ?_
  refine j_callVi (pc := 1004) C (c_N_seed l D y x (u1 0) (u1 1) (u1 2) (u1 3) (u1 4) (u1 5) (u1 6) (u1 7) (u1 8) (xs 1)) kw_L_135 kv_Nine_seed 0 9 rfl rfl ⟨by decide, by decide⟩ ⟨by decide, by decide⟩ (wr := [MB mo v1 0 0 0 0 0 0 0 (-1) 0 0 0 0 0 0 0 0 0 0 1 0, (v1 0, .inl (y 0, 1600, .inl (fun _ => 0))), (v1 43, .inl (y 0, 8, .inl (fun _ => 0))), (v1 45, .inl (y 0, 14, .inl lakeF)), (v1 62, .inl (y 0, 63, .inl (dayF 0))), (v1 65, .inl (y 0, 1890, .inl (fun _ => 0))), (v1 68, .inl (y 0, 63, .inl (fun _ => 0))), (v1 70, .inl (y 0, 6558, .inl (fun _ => 0))), (v1 71, .inl (y 0, 1093, .inl (fun _ => 0))), (v1 72, .inl (y 0, 7, .inl powF)), (v1 74, .inl (y 0, 13, .inl (fun _ => 0))), (v1 75, .inl (y 0, 13, .inl (fun _ => 0))), (v1 77, .inl (y 0, 15, .inl (fun _ => 0)))]) [0] [1, 2, 3, 4, 5, 6, 7, 8, 9, 10, 11, 12, 13] rfl rfl (by decide) (by decide) (by decide) (As := [.int (xs 1)]) (rest := []) rfl (nb rfl) rfl d_L_law_1004 (fun r1 _ hr1 => ?_)
  subst hr1
  refine j_ws (ws' := [MB mo v1 0 0 0 0 0 0 0 (-1) 0 0 0 0 0 0 0 0 0 0 1 0, (v1 0, .inl (y 0, 1600, .inl (fun _ => 0))), (v1 43, .inl (y 0, 8, .inl (fun _ => 0))), (v1 45, .inl (y 0, 14, .inl lakeF)), (v1 62, .inl (y 0, 63, .inl (dayF 0))), (v1 65, .inl (y 0, 1890, .inl (fun _ => 0))), (v1 68, .inl (y 0, 63, .inl (fun _ => 0))), (v1 70, .inl (y 0, 6558, .inl (fun _ => 0))), (v1 71, .inl (y 0, 1093, .inl (fun _ => 0))), (v1 72, .inl (y 0, 7, .inl powF)), (v1 74, .inl (y 0, 13, .inl (fun _ => 0))), (v1 75, .inl (y 0, 13, .inl (fun _ => 0))), (v1 77, .inl (y 0, 15, .inl (fun _ => 0)))]) rfl ?_
  refine j_st (st' := [.int (if (xs 1).toInt < 0 then 0 else 1)]) rfl ?_
  refine j_aload_n (pc := 1007) C d_L_law_1007 rfl 1 rfl ?_
  refine j_aload_n (pc := 1008) C d_L_law_1008 rfl 3 rfl ?_
  refine j_iload_n (pc := 1009) C d_L_law_1009 rfl 0 rfl ?_
  refine j_iconst (pc := 1010) C (v := 1) d_L_law_1010 (by decide) ?_
  refine j_iadd (pc := 1011) C (v := 1) d_L_law_1011 (by decide) ?_
  refine j_sld (pc := 1012) C hX hbl (v := xs 1) (vin (by decide)) rfl d_L_law_1012 ?_
  refine j_sub (ws' := [MB mo v1 0 0 0 0 0 0 0 (-1) 0 0 0 0 0 0 0 0 0 0 1 0]) [0] rfl (by decide) ?_
  refine j_callVi (pc := 1013) C (c_M_seed l D y mo v1 (xs 1)) kw_L_138 kv_Model_seed 0 10 rfl rfl ⟨by decide, by decide⟩ ⟨by decide, by decide⟩ (wr := []) [0] [] rfl rfl (by decide) (by decide) (by decide) (As := [.int (xs 1)]) (rest := [.int (if (xs 1).toInt < 0 then 0 else 1)]) rfl (nb rfl) rfl d_L_law_1013 (fun r2 _ hr2 => ?_)
  subst hr2
  refine j_ws (ws' := []) rfl ?_
  refine j_st (st' := [.int (if (xs 1).toInt < 0 then 0 else 1), .int (if (xs 1).toInt < 0 then 0 else 1)]) rfl ?_
  refine j_icmp_eqT (pc := 1016) C (tgt := 1124) d_L_law_1016 (by decide) rfl ?_
  refine j_sub (ws' := []) [] rfl (by decide) ?_
  refine j_locs (lv' := [(3, .int 0), (0, .ref b)]) [0, 3] rfl ?_
  exact kx
theorem d_L_law_1021 : decode code 1021 = .ok (.aload_n 1, 1) := by decide +kernel
theorem d_L_law_1022 : decode code 1022 = .ok (.aload_n 0, 1) := by decide +kernel
theorem d_L_law_1023 : decode code 1023 = .ok (.iload_n 3, 1) := by decide +kernel
theorem d_L_law_1024 : decode code 1024 = .ok (.iconst 1, 1) := by decide +kernel
theorem d_L_law_1025 : decode code 1025 = .ok (.iadd, 1) := by decide +kernel
theorem d_L_law_1026 : decode code 1026 = .ok (.iaload, 1) := by decide +kernel
theorem d_L_law_1027 : decode code 1027 = .ok (.aload_n 0, 1) := by decide +kernel
theorem d_L_law_1028 : decode code 1028 = .ok (.iload_n 3, 1) := by decide +kernel
theorem d_L_law_1029 : decode code 1029 = .ok (.iconst 2, 1) := by decide +kernel
theorem d_L_law_1030 : decode code 1030 = .ok (.iadd, 1) := by decide +kernel
theorem d_L_law_1031 : decode code 1031 = .ok (.iaload, 1) := by decide +kernel
theorem d_L_law_1032 : decode code 1032 = .ok (.aload_n 0, 1) := by decide +kernel
theorem d_L_law_1033 : decode code 1033 = .ok (.iload_n 3, 1) := by decide +kernel
theorem d_L_law_1034 : decode code 1034 = .ok (.iconst 3, 1) := by decide +kernel
theorem d_L_law_1035 : decode code 1035 = .ok (.iadd, 1) := by decide +kernel
theorem d_L_law_1036 : decode code 1036 = .ok (.iaload, 1) := by decide +kernel
theorem d_L_law_1037 : decode code 1037 = .ok (.aload_n 0, 1) := by decide +kernel
theorem d_L_law_1038 : decode code 1038 = .ok (.iload_n 3, 1) := by decide +kernel
theorem d_L_law_1039 : decode code 1039 = .ok (.iconst 4, 1) := by decide +kernel
theorem d_L_law_1040 : decode code 1040 = .ok (.iadd, 1) := by decide +kernel
theorem d_L_law_1041 : decode code 1041 = .ok (.iaload, 1) := by decide +kernel
theorem d_L_law_1042 : decode code 1042 = .ok (.invokevirtual 139, 3) := by decide +kernel
theorem kw_L_139 : KW "NineBoardsLaw" 139 ⟨"NineBoards", "years", "(IIII)J"⟩ prog_1_method_31_code 10 (some .long) 4 := ⟨(mt_5 (List.mem_of_getElem? (i := 43) rfl) rfl), (mt_1 (List.mem_of_getElem? (i := 1) rfl) rfl), (mt_5 (List.mem_of_getElem? (i := 46) rfl) rfl), by decide +kernel⟩
theorem kv_Nine_years : Cond.instanceMethod ⟨"NineBoards", "years", "(IIII)J"⟩ ∈ TB ∧ Cond.selects "NineBoards" ⟨"NineBoards", "years", "(IIII)J"⟩ ⟨"NineBoards", "years", "(IIII)J"⟩ ∈ TB := ⟨(mt_5 (List.mem_of_getElem? (i := 44) rfl) rfl), (mt_5 (List.mem_of_getElem? (i := 45) rfl) rfl)⟩
theorem d_L_law_1045 : decode code 1045 = .ok (.aload_n 2, 1) := by decide +kernel
theorem d_L_law_1046 : decode code 1046 = .ok (.aload_n 0, 1) := by decide +kernel
theorem d_L_law_1047 : decode code 1047 = .ok (.iload_n 3, 1) := by decide +kernel
theorem d_L_law_1048 : decode code 1048 = .ok (.iconst 1, 1) := by decide +kernel
theorem d_L_law_1049 : decode code 1049 = .ok (.iadd, 1) := by decide +kernel
theorem d_L_law_1050 : decode code 1050 = .ok (.iaload, 1) := by decide +kernel
theorem d_L_law_1051 : decode code 1051 = .ok (.aload_n 0, 1) := by decide +kernel
theorem d_L_law_1052 : decode code 1052 = .ok (.iload_n 3, 1) := by decide +kernel
theorem d_L_law_1053 : decode code 1053 = .ok (.iconst 2, 1) := by decide +kernel
theorem d_L_law_1054 : decode code 1054 = .ok (.iadd, 1) := by decide +kernel
theorem d_L_law_1055 : decode code 1055 = .ok (.iaload, 1) := by decide +kernel
theorem d_L_law_1056 : decode code 1056 = .ok (.aload_n 0, 1) := by decide +kernel
theorem d_L_law_1057 : decode code 1057 = .ok (.iload_n 3, 1) := by decide +kernel
theorem d_L_law_1058 : decode code 1058 = .ok (.iconst 3, 1) := by decide +kernel
theorem d_L_law_1059 : decode code 1059 = .ok (.iadd, 1) := by decide +kernel
theorem d_L_law_1060 : decode code 1060 = .ok (.iaload, 1) := by decide +kernel
theorem d_L_law_1061 : decode code 1061 = .ok (.aload_n 0, 1) := by decide +kernel
theorem d_L_law_1062 : decode code 1062 = .ok (.iload_n 3, 1) := by decide +kernel
theorem d_L_law_1063 : decode code 1063 = .ok (.iconst 4, 1) := by decide +kernel
theorem d_L_law_1064 : decode code 1064 = .ok (.iadd, 1) := by decide +kernel
theorem d_L_law_1065 : decode code 1065 = .ok (.iaload, 1) := by decide +kernel
theorem d_L_law_1066 : decode code 1066 = .ok (.invokevirtual 143, 3) := by decide +kernel
theorem kw_L_143 : KW "NineBoardsLaw" 143 ⟨"NineBoardsModel", "years", "(IIII)J"⟩ prog_13_method_119_code 13 (some .long) 4 := ⟨(mt_8 (List.mem_of_getElem? (i := 85) rfl) rfl), (mt_1 (List.mem_of_getElem? (i := 16) rfl) rfl), (mt_8 (List.mem_of_getElem? (i := 88) rfl) rfl), by decide +kernel⟩
theorem kv_Model_years : Cond.instanceMethod ⟨"NineBoardsModel", "years", "(IIII)J"⟩ ∈ TB ∧ Cond.selects "NineBoardsModel" ⟨"NineBoardsModel", "years", "(IIII)J"⟩ ⟨"NineBoardsModel", "years", "(IIII)J"⟩ ∈ TB := ⟨(mt_8 (List.mem_of_getElem? (i := 86) rfl) rfl), (mt_8 (List.mem_of_getElem? (i := 87) rfl) rfl)⟩
theorem d_L_law_1069 : decode code 1069 = .ok (.lcmp, 1) := by decide +kernel
theorem d_L_law_1070 : decode code 1070 = .ok (.ifCond .eq 54, 3) := by decide +kernel
set_option maxHeartbeats 4000000 in
set_option maxRecDepth 100000 in
theorem lc_29 {p : Program} {l : Launch} {e : Env} {s : State} {m : MethodId} {below : List Frame} {meth : Method} {c : Code} {Q : State → Prop} {D : va_G} {y : Nat → ClassId} {nm : String} {b : Nat} {xs : Nat → Int32} (C : Cx p s m #[Value.ref b] meth c D y (LA s) code 4 "NineBoardsLaw" nm) (hX : va_X b 6 xs s s.heap) (hbl : b < s.heap.size) (x : Nat) (mo : Nat) (u1 : Nat → Nat) (r1 : Nat → Nat) (r2 : Nat → Nat → Nat) (h1 : Nat → Nat) (a1 : Nat → Nat → Nat) (g1 : Nat → Nat) (c1 : Nat → Nat) (v1 : Nat → Nat) (kx : J p l e room_1 s m #[Value.ref b] below meth c Q D (LA s) 4 [] [(3, .int 0), (0, .ref b)] 451 27020 1124 []) : J p l e room_1 s m #[Value.ref b] below meth c Q D (LA s) 4 (LW y x mo u1 r1 r2 h1 a1 g1 c1 v1) [(3, .int 0), (2, .ref mo), (1, .ref x), (0, .ref b)] 451 27020 1021 [] := by
  refine j_aload_n (pc := 1021) C d_L_law_1021 rfl 2 rfl ?_
  refine j_aload_n (pc := 1022) C d_L_law_1022 rfl 3 rfl ?_
  refine j_iload_n (pc := 1023) C d_L_law_1023 rfl 0 rfl ?_
  refine j_iconst (pc := 1024) C (v := 1) d_L_law_1024 (by decide) ?_
  refine j_iadd (pc := 1025) C (v := 1) d_L_law_1025 (by decide) ?_
  refine j_sld (pc := 1026) C hX hbl (v := xs 1) (vin (by decide)) rfl d_L_law_1026 ?_
  refine j_aload_n (pc := 1027) C d_L_law_1027 rfl 3 rfl ?_
  refine j_iload_n (pc := 1028) C d_L_law_1028 rfl 0 rfl ?_
  refine j_iconst (pc := 1029) C (v := 2) d_L_law_1029 (by decide) ?_
  refine j_iadd (pc := 1030) C (v := 2) d_L_law_1030 (by decide) ?_
  refine j_sld (pc := 1031) C hX hbl (v := xs 2) (vin (by decide)) rfl d_L_law_1031 ?_
  refine j_aload_n (pc := 1032) C d_L_law_1032 rfl 3 rfl ?_
  refine j_iload_n (pc := 1033) C d_L_law_1033 rfl 0 rfl ?_
  refine j_iconst (pc := 1034) C (v := 3) d_L_law_1034 (by decide) ?_
  refine j_iadd (pc := 1035) C (v := 3) d_L_law_1035 (by decide) ?_
  refine j_sld (pc := 1036) C hX hbl (v := xs 3) (vin (by decide)) rfl d_L_law_1036 ?_
  refine j_aload_n (pc := 1037) C d_L_law_1037 rfl 3 rfl ?_
  refine j_iload_n (pc := 1038) C d_L_law_1038 rfl 0 rfl ?_
  refine j_iconst (pc := 1039) C (v := 4) d_L_law_1039 (by decide) ?_
  refine j_iadd (pc := 1040) C (v := 4) d_L_law_1040 (by decide) ?_
  refine j_sld (pc := 1041) C hX hbl (v := xs 4) (vin (by decide)) rfl d_L_law_1041 ?_
  refine j_drop ?_
  refine j_sub (ws' := [(x, .inr (9, [.ref (u1 0), .ref (u1 1), .ref (u1 2), .ref (u1 3), .ref (u1 4), .ref (u1 5), .ref (u1 6), .ref (u1 7), .ref (u1 8), .int 1])), (u1 5, .inr (2, [.int 0, .int 1, .int 1, .int 0, .ref (u1 26), .int 0, .ref (u1 27), .ref (u1 28), .ref (u1 29), .ref (u1 30), .int 0, .int 0, .int 9999, .int 0])), (u1 26, .inr (1, [.int 0, .ref (u1 31), .ref (u1 32), .ref (u1 33), .ref (u1 34), .ref (u1 35), .ref (u1 36), .ref (u1 37)])), (u1 29, .inr (8, [.int 0, .ref (u1 38), .ref (u1 39), .ref (u1 40), .ref (u1 41), .ref (u1 42), .ref (u1 43), .ref (u1 44)])), (u1 30, .inr (6, [.int 0, .int 0, .ref (u1 45), .ref (u1 46), .ref (u1 47), .ref (u1 48), .ref (u1 49), .ref (u1 50)])), (u1 3, .inr (7, [.int 0, .int 0, .int 0, .ref (u1 18), .ref (u1 19), .ref (u1 20), .ref (u1 21), .ref (u1 22), .ref (u1 23), .ref (u1 24)])), (u1 18, .inl (y 0, 9, .inl (fun _ => 0))), (u1 19, .inl (y 0, 9, .inl (fun _ => 0))), (u1 20, .inl (y 1, 9, .inr (.inl (fun _ => 0)))), (u1 21, .inl (y 0, 6, .inl (fun _ => 0))), (u1 22, .inl (y 0, 6, .inl (fun _ => 0))), (u1 23, .inl (y 0, 16, .inl (fun _ => 0))), (u1 24, .inl (y 1, 5, .inr (.inl (fun _ => 0)))), (u1 2, .inr (7, [.int 0, .int 0, .int 0, .ref (u1 11), .ref (u1 12), .ref (u1 13), .ref (u1 14), .ref (u1 15), .ref (u1 16), .ref (u1 17)])), (u1 11, .inl (y 0, 9, .inl (fun _ => 0))), (u1 12, .inl (y 0, 9, .inl (fun _ => 0))), (u1 13, .inl (y 1, 9, .inr (.inl (fun _ => 0)))), (u1 14, .inl (y 0, 6, .inl (fun _ => 0))), (u1 15, .inl (y 0, 6, .inl (fun _ => 0))), (u1 16, .inl (y 0, 16, .inl (fun _ => 0))), (u1 17, .inl (y 1, 5, .inr (.inl (fun _ => 0)))), MB mo v1 0 0 0 0 0 0 0 (-1) 0 0 0 0 0 0 0 0 0 0 1 0, (v1 0, .inl (y 0, 1600, .inl (fun _ => 0))), (v1 43, .inl (y 0, 8, .inl (fun _ => 0))), (v1 45, .inl (y 0, 14, .inl lakeF)), (v1 62, .inl (y 0, 63, .inl (dayF 0))), (v1 65, .inl (y 0, 1890, .inl (fun _ => 0))), (v1 68, .inl (y 0, 63, .inl (fun _ => 0))), (v1 70, .inl (y 0, 6558, .inl (fun _ => 0))), (v1 71, .inl (y 0, 1093, .inl (fun _ => 0))), (v1 72, .inl (y 0, 7, .inl powF)), (v1 74, .inl (y 0, 13, .inl (fun _ => 0))), (v1 75, .inl (y 0, 13, .inl (fun _ => 0))), (v1 77, .inl (y 0, 15, .inl (fun _ => 0)))]) [0, 23, 24, 25, 26, 13, 14, 15, 16, 17, 18, 19, 20, 5, 6, 7, 8, 9, 10, 11, 12, 36, 37, 38, 39, 40, 41, 42, 43, 44, 45, 46, 47, 48] rfl (by decide) ?_
  refine j_callVl (pc := 1042) C (c_N_years l D y x (u1 0) (u1 1) (u1 2) (u1 3) (u1 4) (u1 5) (u1 6) (u1 7) (u1 8) (u1 26) (u1 27) (u1 28) (u1 29) (u1 30) (u1 31) (u1 32) (u1 33) (u1 34) (u1 35) (u1 36) (u1 37) (u1 38) (u1 39) (u1 40) (u1 41) (u1 42) (u1 43) (u1 44) (u1 45) (u1 46) (u1 47) (u1 48) (u1 49) (u1 50) 0 (u1 18) (u1 19) (u1 20) (u1 21) (u1 22) (u1 23) (u1 24) (u1 11) (u1 12) (u1 13) (u1 14) (u1 15) (u1 16) (u1 17) (xs 1) (xs 2) (xs 3) (xs 4)) kw_L_139 kv_Nine_years 0 9 rfl rfl ⟨by decide, by decide⟩ ⟨by decide, by decide⟩ (wr := [MB mo v1 0 0 0 0 0 0 0 (-1) 0 0 0 0 0 0 0 0 0 0 1 0, (v1 0, .inl (y 0, 1600, .inl (fun _ => 0))), (v1 43, .inl (y 0, 8, .inl (fun _ => 0))), (v1 45, .inl (y 0, 14, .inl lakeF)), (v1 62, .inl (y 0, 63, .inl (dayF 0))), (v1 65, .inl (y 0, 1890, .inl (fun _ => 0))), (v1 68, .inl (y 0, 63, .inl (fun _ => 0))), (v1 70, .inl (y 0, 6558, .inl (fun _ => 0))), (v1 71, .inl (y 0, 1093, .inl (fun _ => 0))), (v1 72, .inl (y 0, 7, .inl powF)), (v1 74, .inl (y 0, 13, .inl (fun _ => 0))), (v1 75, .inl (y 0, 13, .inl (fun _ => 0))), (v1 77, .inl (y 0, 15, .inl (fun _ => 0)))]) [0, 1, 2, 3, 4, 5, 6, 7, 8, 9, 10, 11, 12, 13, 14, 15, 16, 17, 18, 19, 20] [21, 22, 23, 24, 25, 26, 27, 28, 29, 30, 31, 32, 33] rfl rfl (by decide) (by decide) (by decide) (As := [.int (xs 1), .int (xs 2), .int (xs 3), .int (xs 4)]) (rest := []) rfl (nb rfl) rfl d_L_law_1042 (fun r1 _ hr1 => ?_)
  subst hr1
  refine j_ws (ws' := [MB mo v1 0 0 0 0 0 0 0 (-1) 0 0 0 0 0 0 0 0 0 0 1 0, (v1 0, .inl (y 0, 1600, .inl (fun _ => 0))), (v1 43, .inl (y 0, 8, .inl (fun _ => 0))), (v1 45, .inl (y 0, 14, .inl lakeF)), (v1 62, .inl (y 0, 63, .inl (dayF 0))), (v1 65, .inl (y 0, 1890, .inl (fun _ => 0))), (v1 68, .inl (y 0, 63, .inl (fun _ => 0))), (v1 70, .inl (y 0, 6558, .inl (fun _ => 0))), (v1 71, .inl (y 0, 1093, .inl (fun _ => 0))), (v1 72, .inl (y 0, 7, .inl powF)), (v1 74, .inl (y 0, 13, .inl (fun _ => 0))), (v1 75, .inl (y 0, 13, .inl (fun _ => 0))), (v1 77, .inl (y 0, 15, .inl (fun _ => 0)))]) rfl ?_
  refine j_st (st' := [.long (if 0 ≤ (xs 1).toInt ∧ (xs 1).toInt ≤ 3 ∧ 0 ≤ (xs 4).toInt ∧ (xs 4).toInt ≤ 1 ∧ 1 ≤ (xs 2).toInt ∧ (xs 2).toInt ≤ 20 ∧ 1 ≤ (xs 3).toInt ∧ (xs 3).toInt ≤ 100 then 0 else -1000000000)]) rfl ?_
  refine j_aload_n (pc := 1045) C d_L_law_1045 rfl 1 rfl ?_
  refine j_aload_n (pc := 1046) C d_L_law_1046 rfl 3 rfl ?_
  refine j_iload_n (pc := 1047) C d_L_law_1047 rfl 0 rfl ?_
  refine j_iconst (pc := 1048) C (v := 1) d_L_law_1048 (by decide) ?_
  refine j_iadd (pc := 1049) C (v := 1) d_L_law_1049 (by decide) ?_
  refine j_sld (pc := 1050) C hX hbl (v := xs 1) (vin (by decide)) rfl d_L_law_1050 ?_
  refine j_aload_n (pc := 1051) C d_L_law_1051 rfl 3 rfl ?_
  refine j_iload_n (pc := 1052) C d_L_law_1052 rfl 0 rfl ?_
  refine j_iconst (pc := 1053) C (v := 2) d_L_law_1053 (by decide) ?_
  refine j_iadd (pc := 1054) C (v := 2) d_L_law_1054 (by decide) ?_
  refine j_sld (pc := 1055) C hX hbl (v := xs 2) (vin (by decide)) rfl d_L_law_1055 ?_
  refine j_aload_n (pc := 1056) C d_L_law_1056 rfl 3 rfl ?_
  refine j_iload_n (pc := 1057) C d_L_law_1057 rfl 0 rfl ?_
  refine j_iconst (pc := 1058) C (v := 3) d_L_law_1058 (by decide) ?_
  refine j_iadd (pc := 1059) C (v := 3) d_L_law_1059 (by decide) ?_
  refine j_sld (pc := 1060) C hX hbl (v := xs 3) (vin (by decide)) rfl d_L_law_1060 ?_
  refine j_aload_n (pc := 1061) C d_L_law_1061 rfl 3 rfl ?_
  refine j_iload_n (pc := 1062) C d_L_law_1062 rfl 0 rfl ?_
  refine j_iconst (pc := 1063) C (v := 4) d_L_law_1063 (by decide) ?_
  refine j_iadd (pc := 1064) C (v := 4) d_L_law_1064 (by decide) ?_
  refine j_sld (pc := 1065) C hX hbl (v := xs 4) (vin (by decide)) rfl d_L_law_1065 ?_
  refine j_sub (ws' := [MB mo v1 0 0 0 0 0 0 0 (-1) 0 0 0 0 0 0 0 0 0 0 1 0, (v1 43, .inl (y 0, 8, .inl (fun _ => 0))), (v1 62, .inl (y 0, 63, .inl (dayF 0))), (v1 45, .inl (y 0, 14, .inl lakeF)), (v1 68, .inl (y 0, 63, .inl (fun _ => 0)))]) [0, 2, 4, 3, 6] rfl (by decide) ?_
  refine j_callVl (pc := 1066) C (c_M_years l D y mo v1 (xs 1) (xs 2) (xs 3) (xs 4) (fun _ => 0)) kw_L_143 kv_Model_years 0 10 rfl rfl ⟨by decide, by decide⟩ ⟨by decide, by decide⟩ (wr := []) [0, 1, 2, 3, 4] [] rfl rfl (by decide) (by decide) (by decide) (As := [.int (xs 1), .int (xs 2), .int (xs 3), .int (xs 4)]) (rest := [.long (if 0 ≤ (xs 1).toInt ∧ (xs 1).toInt ≤ 3 ∧ 0 ≤ (xs 4).toInt ∧ (xs 4).toInt ≤ 1 ∧ 1 ≤ (xs 2).toInt ∧ (xs 2).toInt ≤ 20 ∧ 1 ≤ (xs 3).toInt ∧ (xs 3).toInt ≤ 100 then 0 else -1000000000)]) rfl (nb rfl) rfl d_L_law_1066 (fun r2 _ hr2 => ?_)
  subst hr2
  refine j_ws (ws' := []) rfl ?_
  refine j_st (st' := [.long (if 0 ≤ (xs 1).toInt ∧ (xs 1).toInt ≤ 3 ∧ 0 ≤ (xs 4).toInt ∧ (xs 4).toInt ≤ 1 ∧ 1 ≤ (xs 2).toInt ∧ (xs 2).toInt ≤ 20 ∧ 1 ≤ (xs 3).toInt ∧ (xs 3).toInt ≤ 100 then 0 else -1000000000), .long (if 0 ≤ (xs 1).toInt ∧ (xs 1).toInt ≤ 3 ∧ 0 ≤ (xs 4).toInt ∧ (xs 4).toInt ≤ 1 ∧ 1 ≤ (xs 2).toInt ∧ (xs 2).toInt ≤ 20 ∧ 1 ≤ (xs 3).toInt ∧ (xs 3).toInt ≤ 100 then 0 else -1000000000)]) rfl ?_
  refine j_lcmp (pc := 1069) C (v := 0) d_L_law_1069 (lg_self _) ?_
  refine j_if_eqT (pc := 1070) C (tgt := 1124) d_L_law_1070 (by decide) (by decide) ?_
  refine j_sub (ws' := []) [] rfl (by decide) ?_
  refine j_locs (lv' := [(3, .int 0), (0, .ref b)]) [0, 3] rfl ?_
  exact kx
theorem d_L_law_1075 : decode code 1075 = .ok (.aload_n 1, 1) := by decide +kernel
theorem d_L_law_1076 : decode code 1076 = .ok (.invokevirtual 144, 3) := by decide +kernel
theorem kw_L_144 : KW "NineBoardsLaw" 144 ⟨"NineBoards", "image", "()I"⟩ prog_1_method_32_code 2 (some .int) 0 := ⟨(mt_5 (List.mem_of_getElem? (i := 59) rfl) rfl), (mt_1 (List.mem_of_getElem? (i := 1) rfl) rfl), (mt_5 (List.mem_of_getElem? (i := 62) rfl) rfl), by decide +kernel⟩
theorem kv_Nine_image : Cond.instanceMethod ⟨"NineBoards", "image", "()I"⟩ ∈ TB ∧ Cond.selects "NineBoards" ⟨"NineBoards", "image", "()I"⟩ ⟨"NineBoards", "image", "()I"⟩ ∈ TB := ⟨(mt_5 (List.mem_of_getElem? (i := 60) rfl) rfl), (mt_5 (List.mem_of_getElem? (i := 61) rfl) rfl)⟩
theorem d_L_law_1079 : decode code 1079 = .ok (.aload_n 2, 1) := by decide +kernel
theorem d_L_law_1080 : decode code 1080 = .ok (.invokevirtual 147, 3) := by decide +kernel
theorem kw_L_147 : KW "NineBoardsLaw" 147 ⟨"NineBoardsModel", "image", "()I"⟩ prog_13_method_122_code 2 (some .int) 0 := ⟨(mt_8 (List.mem_of_getElem? (i := 99) rfl) rfl), (mt_1 (List.mem_of_getElem? (i := 16) rfl) rfl), (mt_8 (List.mem_of_getElem? (i := 102) rfl) rfl), by decide +kernel⟩
theorem kv_Model_image : Cond.instanceMethod ⟨"NineBoardsModel", "image", "()I"⟩ ∈ TB ∧ Cond.selects "NineBoardsModel" ⟨"NineBoardsModel", "image", "()I"⟩ ⟨"NineBoardsModel", "image", "()I"⟩ ∈ TB := ⟨(mt_8 (List.mem_of_getElem? (i := 100) rfl) rfl), (mt_8 (List.mem_of_getElem? (i := 101) rfl) rfl)⟩
theorem d_L_law_1083 : decode code 1083 = .ok (.if_icmp .eq 41, 3) := by decide +kernel
set_option maxHeartbeats 4000000 in
set_option maxRecDepth 100000 in
theorem lc_30 {p : Program} {l : Launch} {e : Env} {s : State} {m : MethodId} {below : List Frame} {meth : Method} {c : Code} {Q : State → Prop} {D : va_G} {y : Nat → ClassId} {nm : String} {b : Nat} {xs : Nat → Int32} (C : Cx p s m #[Value.ref b] meth c D y (LA s) code 4 "NineBoardsLaw" nm) (hX : va_X b 6 xs s s.heap) (hbl : b < s.heap.size) (x : Nat) (mo : Nat) (u1 : Nat → Nat) (r1 : Nat → Nat) (r2 : Nat → Nat → Nat) (h1 : Nat → Nat) (a1 : Nat → Nat → Nat) (g1 : Nat → Nat) (c1 : Nat → Nat) (v1 : Nat → Nat) (kx : J p l e room_1 s m #[Value.ref b] below meth c Q D (LA s) 4 [] [(3, .int 0), (0, .ref b)] 451 27020 1124 []) : J p l e room_1 s m #[Value.ref b] below meth c Q D (LA s) 4 (LW y x mo u1 r1 r2 h1 a1 g1 c1 v1) [(3, .int 0), (2, .ref mo), (1, .ref x), (0, .ref b)] 451 27020 1075 [] := by
  refine j_aload_n (pc := 1075) C d_L_law_1075 rfl 2 rfl ?_
  refine j_drop ?_
  refine j_sub (ws' := [(x, .inr (9, [.ref (u1 0), .ref (u1 1), .ref (u1 2), .ref (u1 3), .ref (u1 4), .ref (u1 5), .ref (u1 6), .ref (u1 7), .ref (u1 8), .int 1])), (u1 1, .inr (0, [.ref (u1 10), .int 0])), (u1 10, .inl (y 0, 15, .inl (fun _ => 0))), (u1 2, .inr (7, [.int 0, .int 0, .int 0, .ref (u1 11), .ref (u1 12), .ref (u1 13), .ref (u1 14), .ref (u1 15), .ref (u1 16), .ref (u1 17)])), (u1 5, .inr (2, [.int 0, .int 1, .int 1, .int 0, .ref (u1 26), .int 0, .ref (u1 27), .ref (u1 28), .ref (u1 29), .ref (u1 30), .int 0, .int 0, .int 9999, .int 0])), (u1 26, .inr (1, [.int 0, .ref (u1 31), .ref (u1 32), .ref (u1 33), .ref (u1 34), .ref (u1 35), .ref (u1 36), .ref (u1 37)])), MB mo v1 0 0 0 0 0 0 0 (-1) 0 0 0 0 0 0 0 0 0 0 1 0, (v1 0, .inl (y 0, 1600, .inl (fun _ => 0))), (v1 43, .inl (y 0, 8, .inl (fun _ => 0))), (v1 45, .inl (y 0, 14, .inl lakeF)), (v1 62, .inl (y 0, 63, .inl (dayF 0))), (v1 65, .inl (y 0, 1890, .inl (fun _ => 0))), (v1 68, .inl (y 0, 63, .inl (fun _ => 0))), (v1 70, .inl (y 0, 6558, .inl (fun _ => 0))), (v1 71, .inl (y 0, 1093, .inl (fun _ => 0))), (v1 72, .inl (y 0, 7, .inl powF)), (v1 74, .inl (y 0, 13, .inl (fun _ => 0))), (v1 75, .inl (y 0, 13, .inl (fun _ => 0))), (v1 77, .inl (y 0, 15, .inl (fun _ => 0)))]) [0, 3, 4, 5, 23, 24, 36, 37, 38, 39, 40, 41, 42, 43, 44, 45, 46, 47, 48] rfl (by decide) ?_
  refine j_callVi (pc := 1076) C (c_N_image l D y x (u1 0) (u1 1) (u1 2) (u1 3) (u1 4) (u1 5) (u1 6) (u1 7) (u1 8) (u1 10) (u1 11) (u1 12) (u1 13) (u1 14) (u1 15) (u1 16) (u1 17) (u1 26) (u1 27) (u1 28) (u1 29) (u1 30) (u1 31) (u1 32) (u1 33) (u1 34) (u1 35) (u1 36) (u1 37)) kw_L_144 kv_Nine_image 0 9 rfl rfl ⟨by decide, by decide⟩ ⟨by decide, by decide⟩ (wr := [MB mo v1 0 0 0 0 0 0 0 (-1) 0 0 0 0 0 0 0 0 0 0 1 0, (v1 0, .inl (y 0, 1600, .inl (fun _ => 0))), (v1 43, .inl (y 0, 8, .inl (fun _ => 0))), (v1 45, .inl (y 0, 14, .inl lakeF)), (v1 62, .inl (y 0, 63, .inl (dayF 0))), (v1 65, .inl (y 0, 1890, .inl (fun _ => 0))), (v1 68, .inl (y 0, 63, .inl (fun _ => 0))), (v1 70, .inl (y 0, 6558, .inl (fun _ => 0))), (v1 71, .inl (y 0, 1093, .inl (fun _ => 0))), (v1 72, .inl (y 0, 7, .inl powF)), (v1 74, .inl (y 0, 13, .inl (fun _ => 0))), (v1 75, .inl (y 0, 13, .inl (fun _ => 0))), (v1 77, .inl (y 0, 15, .inl (fun _ => 0)))]) [0, 1, 2, 3, 4, 5] [6, 7, 8, 9, 10, 11, 12, 13, 14, 15, 16, 17, 18] rfl rfl (by decide) (by decide) (by decide) (As := []) (rest := []) rfl (nb rfl) rfl d_L_law_1076 (fun r1 _ hr1 => ?_)
  subst hr1
  refine j_ws (ws' := [MB mo v1 0 0 0 0 0 0 0 (-1) 0 0 0 0 0 0 0 0 0 0 1 0, (v1 0, .inl (y 0, 1600, .inl (fun _ => 0))), (v1 43, .inl (y 0, 8, .inl (fun _ => 0))), (v1 45, .inl (y 0, 14, .inl lakeF)), (v1 62, .inl (y 0, 63, .inl (dayF 0))), (v1 65, .inl (y 0, 1890, .inl (fun _ => 0))), (v1 68, .inl (y 0, 63, .inl (fun _ => 0))), (v1 70, .inl (y 0, 6558, .inl (fun _ => 0))), (v1 71, .inl (y 0, 1093, .inl (fun _ => 0))), (v1 72, .inl (y 0, 7, .inl powF)), (v1 74, .inl (y 0, 13, .inl (fun _ => 0))), (v1 75, .inl (y 0, 13, .inl (fun _ => 0))), (v1 77, .inl (y 0, 15, .inl (fun _ => 0)))]) rfl ?_
  refine j_st (st' := [.int 6]) rfl ?_
  refine j_aload_n (pc := 1079) C d_L_law_1079 rfl 1 rfl ?_
  refine j_sub (ws' := [MB mo v1 0 0 0 0 0 0 0 (-1) 0 0 0 0 0 0 0 0 0 0 1 0, (v1 43, .inl (y 0, 8, .inl (fun _ => 0))), (v1 62, .inl (y 0, 63, .inl (dayF 0))), (v1 77, .inl (y 0, 15, .inl (fun _ => 0)))]) [0, 2, 4, 12] rfl (by decide) ?_
  refine j_callVi (pc := 1080) C (c_M_image l D y mo v1) kw_L_147 kv_Model_image 0 10 rfl rfl ⟨by decide, by decide⟩ ⟨by decide, by decide⟩ (wr := []) [0, 1, 2, 3] [] rfl rfl (by decide) (by decide) (by decide) (As := []) (rest := [.int 6]) rfl (nb rfl) rfl d_L_law_1080 (fun r2 _ hr2 => ?_)
  subst hr2
  refine j_ws (ws' := []) rfl ?_
  refine j_st (st' := [.int 6, .int 6]) rfl ?_
  refine j_icmp_eqT (pc := 1083) C (tgt := 1124) d_L_law_1083 (by decide) (by decide) ?_
  refine j_sub (ws' := []) [] rfl (by decide) ?_
  refine j_locs (lv' := [(3, .int 0), (0, .ref b)]) [0, 3] rfl ?_
  exact kx
theorem d_L_law_1088 : decode code 1088 = .ok (.aload_n 1, 1) := by decide +kernel
theorem d_L_law_1089 : decode code 1089 = .ok (.aload_n 0, 1) := by decide +kernel
theorem d_L_law_1090 : decode code 1090 = .ok (.iload_n 3, 1) := by decide +kernel
theorem d_L_law_1091 : decode code 1091 = .ok (.iconst 1, 1) := by decide +kernel
theorem d_L_law_1092 : decode code 1092 = .ok (.iadd, 1) := by decide +kernel
theorem d_L_law_1093 : decode code 1093 = .ok (.iaload, 1) := by decide +kernel
theorem d_L_law_1094 : decode code 1094 = .ok (.invokevirtual 148, 3) := by decide +kernel
theorem kw_L_148 : KW "NineBoardsLaw" 148 ⟨"NineBoards", "octet", "(I)I"⟩ prog_1_method_33_code 2 (some .int) 1 := ⟨(mt_5 (List.mem_of_getElem? (i := 69) rfl) rfl), (mt_1 (List.mem_of_getElem? (i := 1) rfl) rfl), (mt_5 (List.mem_of_getElem? (i := 72) rfl) rfl), by decide +kernel⟩
theorem kv_Nine_octet : Cond.instanceMethod ⟨"NineBoards", "octet", "(I)I"⟩ ∈ TB ∧ Cond.selects "NineBoards" ⟨"NineBoards", "octet", "(I)I"⟩ ⟨"NineBoards", "octet", "(I)I"⟩ ∈ TB := ⟨(mt_5 (List.mem_of_getElem? (i := 70) rfl) rfl), (mt_5 (List.mem_of_getElem? (i := 71) rfl) rfl)⟩
theorem d_L_law_1097 : decode code 1097 = .ok (.aload_n 2, 1) := by decide +kernel
theorem d_L_law_1098 : decode code 1098 = .ok (.aload_n 0, 1) := by decide +kernel
theorem d_L_law_1099 : decode code 1099 = .ok (.iload_n 3, 1) := by decide +kernel
theorem d_L_law_1100 : decode code 1100 = .ok (.iconst 1, 1) := by decide +kernel
theorem d_L_law_1101 : decode code 1101 = .ok (.iadd, 1) := by decide +kernel
theorem d_L_law_1102 : decode code 1102 = .ok (.iaload, 1) := by decide +kernel
theorem d_L_law_1103 : decode code 1103 = .ok (.invokevirtual 151, 3) := by decide +kernel
theorem kw_L_151 : KW "NineBoardsLaw" 151 ⟨"NineBoardsModel", "octet", "(I)I"⟩ prog_13_method_123_code 2 (some .int) 1 := ⟨(mt_8 (List.mem_of_getElem? (i := 110) rfl) rfl), (mt_1 (List.mem_of_getElem? (i := 16) rfl) rfl), (mt_8 (List.mem_of_getElem? (i := 113) rfl) rfl), by decide +kernel⟩
theorem kv_Model_octet : Cond.instanceMethod ⟨"NineBoardsModel", "octet", "(I)I"⟩ ∈ TB ∧ Cond.selects "NineBoardsModel" ⟨"NineBoardsModel", "octet", "(I)I"⟩ ⟨"NineBoardsModel", "octet", "(I)I"⟩ ∈ TB := ⟨(mt_8 (List.mem_of_getElem? (i := 111) rfl) rfl), (mt_8 (List.mem_of_getElem? (i := 112) rfl) rfl)⟩
theorem d_L_law_1106 : decode code 1106 = .ok (.if_icmp .eq 18, 3) := by decide +kernel
set_option maxHeartbeats 4000000 in
set_option maxRecDepth 100000 in
theorem lc_31 {p : Program} {l : Launch} {e : Env} {s : State} {m : MethodId} {below : List Frame} {meth : Method} {c : Code} {Q : State → Prop} {D : va_G} {y : Nat → ClassId} {nm : String} {b : Nat} {xs : Nat → Int32} (C : Cx p s m #[Value.ref b] meth c D y (LA s) code 4 "NineBoardsLaw" nm) (hX : va_X b 6 xs s s.heap) (hbl : b < s.heap.size) (x : Nat) (mo : Nat) (u1 : Nat → Nat) (r1 : Nat → Nat) (r2 : Nat → Nat → Nat) (h1 : Nat → Nat) (a1 : Nat → Nat → Nat) (g1 : Nat → Nat) (c1 : Nat → Nat) (v1 : Nat → Nat) (kx : J p l e room_1 s m #[Value.ref b] below meth c Q D (LA s) 4 [] [(3, .int 0), (0, .ref b)] 451 27020 1124 []) : J p l e room_1 s m #[Value.ref b] below meth c Q D (LA s) 4 (LW y x mo u1 r1 r2 h1 a1 g1 c1 v1) [(3, .int 0), (2, .ref mo), (1, .ref x), (0, .ref b)] 451 27020 1088 [] := by
  refine j_aload_n (pc := 1088) C d_L_law_1088 rfl 2 rfl ?_
  refine j_aload_n (pc := 1089) C d_L_law_1089 rfl 3 rfl ?_
  refine j_iload_n (pc := 1090) C d_L_law_1090 rfl 0 rfl ?_
  refine j_iconst (pc := 1091) C (v := 1) d_L_law_1091 (by decide) ?_
  refine j_iadd (pc := 1092) C (v := 1) d_L_law_1092 (by decide) ?_
  refine j_sld (pc := 1093) C hX hbl (v := xs 1) (vin (by decide)) rfl d_L_law_1093 ?_
  refine j_drop ?_
  refine j_sub (ws' := [(x, .inr (9, [.ref (u1 0), .ref (u1 1), .ref (u1 2), .ref (u1 3), .ref (u1 4), .ref (u1 5), .ref (u1 6), .ref (u1 7), .ref (u1 8), .int 1])), (u1 1, .inr (0, [.ref (u1 10), .int 0])), MB mo v1 0 0 0 0 0 0 0 (-1) 0 0 0 0 0 0 0 0 0 0 1 0, (v1 0, .inl (y 0, 1600, .inl (fun _ => 0))), (v1 43, .inl (y 0, 8, .inl (fun _ => 0))), (v1 45, .inl (y 0, 14, .inl lakeF)), (v1 62, .inl (y 0, 63, .inl (dayF 0))), (v1 65, .inl (y 0, 1890, .inl (fun _ => 0))), (v1 68, .inl (y 0, 63, .inl (fun _ => 0))), (v1 70, .inl (y 0, 6558, .inl (fun _ => 0))), (v1 71, .inl (y 0, 1093, .inl (fun _ => 0))), (v1 72, .inl (y 0, 7, .inl powF)), (v1 74, .inl (y 0, 13, .inl (fun _ => 0))), (v1 75, .inl (y 0, 13, .inl (fun _ => 0))), (v1 77, .inl (y 0, 15, .inl (fun _ => 0)))]) [0, 3, 36, 37, 38, 39, 40, 41, 42, 43, 44, 45, 46, 47, 48] rfl (by decide) ?_
  refine j_callVi (pc := 1094) C (c_N_octet l D y x (u1 0) (u1 1) (u1 2) (u1 3) (u1 4) (u1 5) (u1 6) (u1 7) (u1 8) (u1 10) (xs 1)) kw_L_148 kv_Nine_octet 0 9 rfl rfl ⟨by decide, by decide⟩ ⟨by decide, by decide⟩ (wr := [MB mo v1 0 0 0 0 0 0 0 (-1) 0 0 0 0 0 0 0 0 0 0 1 0, (v1 0, .inl (y 0, 1600, .inl (fun _ => 0))), (v1 43, .inl (y 0, 8, .inl (fun _ => 0))), (v1 45, .inl (y 0, 14, .inl lakeF)), (v1 62, .inl (y 0, 63, .inl (dayF 0))), (v1 65, .inl (y 0, 1890, .inl (fun _ => 0))), (v1 68, .inl (y 0, 63, .inl (fun _ => 0))), (v1 70, .inl (y 0, 6558, .inl (fun _ => 0))), (v1 71, .inl (y 0, 1093, .inl (fun _ => 0))), (v1 72, .inl (y 0, 7, .inl powF)), (v1 74, .inl (y 0, 13, .inl (fun _ => 0))), (v1 75, .inl (y 0, 13, .inl (fun _ => 0))), (v1 77, .inl (y 0, 15, .inl (fun _ => 0)))]) [0, 1] [2, 3, 4, 5, 6, 7, 8, 9, 10, 11, 12, 13, 14] rfl rfl (by decide) (by decide) (by decide) (As := [.int (xs 1)]) (rest := []) rfl (nb rfl) rfl d_L_law_1094 (fun r1 _ hr1 => ?_)
  subst hr1
  refine j_ws (ws' := [MB mo v1 0 0 0 0 0 0 0 (-1) 0 0 0 0 0 0 0 0 0 0 1 0, (v1 0, .inl (y 0, 1600, .inl (fun _ => 0))), (v1 43, .inl (y 0, 8, .inl (fun _ => 0))), (v1 45, .inl (y 0, 14, .inl lakeF)), (v1 62, .inl (y 0, 63, .inl (dayF 0))), (v1 65, .inl (y 0, 1890, .inl (fun _ => 0))), (v1 68, .inl (y 0, 63, .inl (fun _ => 0))), (v1 70, .inl (y 0, 6558, .inl (fun _ => 0))), (v1 71, .inl (y 0, 1093, .inl (fun _ => 0))), (v1 72, .inl (y 0, 7, .inl powF)), (v1 74, .inl (y 0, 13, .inl (fun _ => 0))), (v1 75, .inl (y 0, 13, .inl (fun _ => 0))), (v1 77, .inl (y 0, 15, .inl (fun _ => 0)))]) rfl ?_
  refine j_st (st' := [.int (-1)]) rfl ?_
  refine j_aload_n (pc := 1097) C d_L_law_1097 rfl 1 rfl ?_
  refine j_aload_n (pc := 1098) C d_L_law_1098 rfl 3 rfl ?_
  refine j_iload_n (pc := 1099) C d_L_law_1099 rfl 0 rfl ?_
  refine j_iconst (pc := 1100) C (v := 1) d_L_law_1100 (by decide) ?_
  refine j_iadd (pc := 1101) C (v := 1) d_L_law_1101 (by decide) ?_
  refine j_sld (pc := 1102) C hX hbl (v := xs 1) (vin (by decide)) rfl d_L_law_1102 ?_
  refine j_sub (ws' := [MB mo v1 0 0 0 0 0 0 0 (-1) 0 0 0 0 0 0 0 0 0 0 1 0]) [0] rfl (by decide) ?_
  refine j_callVi (pc := 1103) C (c_M_octet l D y mo v1 (xs 1)) kw_L_151 kv_Model_octet 0 10 rfl rfl ⟨by decide, by decide⟩ ⟨by decide, by decide⟩ (wr := []) [0] [] rfl rfl (by decide) (by decide) (by decide) (As := [.int (xs 1)]) (rest := [.int (-1)]) rfl (nb rfl) rfl d_L_law_1103 (fun r2 _ hr2 => ?_)
  subst hr2
  refine j_ws (ws' := []) rfl ?_
  refine j_st (st' := [.int (-1), .int (-1)]) rfl ?_
  refine j_icmp_eqT (pc := 1106) C (tgt := 1124) d_L_law_1106 (by decide) (by decide) ?_
  refine j_sub (ws' := []) [] rfl (by decide) ?_
  refine j_locs (lv' := [(3, .int 0), (0, .ref b)]) [0, 3] rfl ?_
  exact kx
theorem d_L_law_1111 : decode code 1111 = .ok (.aload_n 1, 1) := by decide +kernel
theorem d_L_law_1112 : decode code 1112 = .ok (.invokevirtual 152, 3) := by decide +kernel
theorem kw_L_152 : KW "NineBoardsLaw" 152 ⟨"NineBoards", "on", "()Z"⟩ prog_1_method_34_code 3 (some .boolean) 0 := ⟨(mt_5 (List.mem_of_getElem? (i := 74) rfl) rfl), (mt_1 (List.mem_of_getElem? (i := 1) rfl) rfl), (mt_5 (List.mem_of_getElem? (i := 77) rfl) rfl), by decide +kernel⟩
theorem kv_Nine_on : Cond.instanceMethod ⟨"NineBoards", "on", "()Z"⟩ ∈ TB ∧ Cond.selects "NineBoards" ⟨"NineBoards", "on", "()Z"⟩ ⟨"NineBoards", "on", "()Z"⟩ ∈ TB := ⟨(mt_5 (List.mem_of_getElem? (i := 75) rfl) rfl), (mt_5 (List.mem_of_getElem? (i := 76) rfl) rfl)⟩
theorem d_L_law_1115 : decode code 1115 = .ok (.aload_n 2, 1) := by decide +kernel
theorem d_L_law_1116 : decode code 1116 = .ok (.invokevirtual 155, 3) := by decide +kernel
theorem kw_L_155 : KW "NineBoardsLaw" 155 ⟨"NineBoardsModel", "on", "()Z"⟩ prog_13_method_125_code 3 (some .boolean) 0 := ⟨(mt_8 (List.mem_of_getElem? (i := 114) rfl) rfl), (mt_1 (List.mem_of_getElem? (i := 16) rfl) rfl), (mt_8 (List.mem_of_getElem? (i := 117) rfl) rfl), by decide +kernel⟩
theorem kv_Model_on : Cond.instanceMethod ⟨"NineBoardsModel", "on", "()Z"⟩ ∈ TB ∧ Cond.selects "NineBoardsModel" ⟨"NineBoardsModel", "on", "()Z"⟩ ⟨"NineBoardsModel", "on", "()Z"⟩ ∈ TB := ⟨(mt_8 (List.mem_of_getElem? (i := 115) rfl) rfl), (mt_8 (List.mem_of_getElem? (i := 116) rfl) rfl)⟩
theorem d_L_law_1119 : decode code 1119 = .ok (.if_icmp .eq 5, 3) := by decide +kernel
set_option maxHeartbeats 4000000 in
set_option maxRecDepth 100000 in
theorem lc_32 {p : Program} {l : Launch} {e : Env} {s : State} {m : MethodId} {below : List Frame} {meth : Method} {c : Code} {Q : State → Prop} {D : va_G} {y : Nat → ClassId} {nm : String} {b : Nat} {xs : Nat → Int32} (C : Cx p s m #[Value.ref b] meth c D y (LA s) code 4 "NineBoardsLaw" nm) (hX : va_X b 6 xs s s.heap) (hbl : b < s.heap.size) (x : Nat) (mo : Nat) (u1 : Nat → Nat) (r1 : Nat → Nat) (r2 : Nat → Nat → Nat) (h1 : Nat → Nat) (a1 : Nat → Nat → Nat) (g1 : Nat → Nat) (c1 : Nat → Nat) (v1 : Nat → Nat) (kx : J p l e room_1 s m #[Value.ref b] below meth c Q D (LA s) 4 [] [(3, .int 0), (0, .ref b)] 451 27020 1124 []) : J p l e room_1 s m #[Value.ref b] below meth c Q D (LA s) 4 (LW y x mo u1 r1 r2 h1 a1 g1 c1 v1) [(3, .int 0), (2, .ref mo), (1, .ref x), (0, .ref b)] 451 27020 1111 [] := by
  refine j_aload_n (pc := 1111) C d_L_law_1111 rfl 2 rfl ?_
  refine j_drop ?_
  refine j_sub (ws' := [(x, .inr (9, [.ref (u1 0), .ref (u1 1), .ref (u1 2), .ref (u1 3), .ref (u1 4), .ref (u1 5), .ref (u1 6), .ref (u1 7), .ref (u1 8), .int 1])), (u1 0, .inr (0, [.ref (u1 9), .int 0])), (u1 5, .inr (2, [.int 0, .int 1, .int 1, .int 0, .ref (u1 26), .int 0, .ref (u1 27), .ref (u1 28), .ref (u1 29), .ref (u1 30), .int 0, .int 0, .int 9999, .int 0])), (u1 26, .inr (1, [.int 0, .ref (u1 31), .ref (u1 32), .ref (u1 33), .ref (u1 34), .ref (u1 35), .ref (u1 36), .ref (u1 37)])), MB mo v1 0 0 0 0 0 0 0 (-1) 0 0 0 0 0 0 0 0 0 0 1 0, (v1 0, .inl (y 0, 1600, .inl (fun _ => 0))), (v1 43, .inl (y 0, 8, .inl (fun _ => 0))), (v1 45, .inl (y 0, 14, .inl lakeF)), (v1 62, .inl (y 0, 63, .inl (dayF 0))), (v1 65, .inl (y 0, 1890, .inl (fun _ => 0))), (v1 68, .inl (y 0, 63, .inl (fun _ => 0))), (v1 70, .inl (y 0, 6558, .inl (fun _ => 0))), (v1 71, .inl (y 0, 1093, .inl (fun _ => 0))), (v1 72, .inl (y 0, 7, .inl powF)), (v1 74, .inl (y 0, 13, .inl (fun _ => 0))), (v1 75, .inl (y 0, 13, .inl (fun _ => 0))), (v1 77, .inl (y 0, 15, .inl (fun _ => 0)))]) [0, 1, 23, 24, 36, 37, 38, 39, 40, 41, 42, 43, 44, 45, 46, 47, 48] rfl (by decide) ?_
  refine j_callVi (pc := 1112) C (c_N_on l D y x (u1 0) (u1 1) (u1 2) (u1 3) (u1 4) (u1 5) (u1 6) (u1 7) (u1 8) (u1 9) (u1 26) (u1 27) (u1 28) (u1 29) (u1 30) (u1 31) (u1 32) (u1 33) (u1 34) (u1 35) (u1 36) (u1 37)) kw_L_152 kv_Nine_on 0 9 rfl rfl ⟨by decide, by decide⟩ ⟨by decide, by decide⟩ (wr := [MB mo v1 0 0 0 0 0 0 0 (-1) 0 0 0 0 0 0 0 0 0 0 1 0, (v1 0, .inl (y 0, 1600, .inl (fun _ => 0))), (v1 43, .inl (y 0, 8, .inl (fun _ => 0))), (v1 45, .inl (y 0, 14, .inl lakeF)), (v1 62, .inl (y 0, 63, .inl (dayF 0))), (v1 65, .inl (y 0, 1890, .inl (fun _ => 0))), (v1 68, .inl (y 0, 63, .inl (fun _ => 0))), (v1 70, .inl (y 0, 6558, .inl (fun _ => 0))), (v1 71, .inl (y 0, 1093, .inl (fun _ => 0))), (v1 72, .inl (y 0, 7, .inl powF)), (v1 74, .inl (y 0, 13, .inl (fun _ => 0))), (v1 75, .inl (y 0, 13, .inl (fun _ => 0))), (v1 77, .inl (y 0, 15, .inl (fun _ => 0)))]) [0, 1, 2, 3] [4, 5, 6, 7, 8, 9, 10, 11, 12, 13, 14, 15, 16] rfl rfl (by decide) (by decide) (by decide) (As := []) (rest := []) rfl (nb rfl) rfl d_L_law_1112 (fun r1 _ hr1 => ?_)
  subst hr1
  refine j_ws (ws' := [MB mo v1 0 0 0 0 0 0 0 (-1) 0 0 0 0 0 0 0 0 0 0 1 0, (v1 0, .inl (y 0, 1600, .inl (fun _ => 0))), (v1 43, .inl (y 0, 8, .inl (fun _ => 0))), (v1 45, .inl (y 0, 14, .inl lakeF)), (v1 62, .inl (y 0, 63, .inl (dayF 0))), (v1 65, .inl (y 0, 1890, .inl (fun _ => 0))), (v1 68, .inl (y 0, 63, .inl (fun _ => 0))), (v1 70, .inl (y 0, 6558, .inl (fun _ => 0))), (v1 71, .inl (y 0, 1093, .inl (fun _ => 0))), (v1 72, .inl (y 0, 7, .inl powF)), (v1 74, .inl (y 0, 13, .inl (fun _ => 0))), (v1 75, .inl (y 0, 13, .inl (fun _ => 0))), (v1 77, .inl (y 0, 15, .inl (fun _ => 0)))]) rfl ?_
  refine j_st (st' := [.int 0]) rfl ?_
  refine j_aload_n (pc := 1115) C d_L_law_1115 rfl 1 rfl ?_
  refine j_sub (ws' := [MB mo v1 0 0 0 0 0 0 0 (-1) 0 0 0 0 0 0 0 0 0 0 1 0, (v1 43, .inl (y 0, 8, .inl (fun _ => 0)))]) [0, 2] rfl (by decide) ?_
  refine j_callVi (pc := 1116) C (c_M_on l D y mo v1) kw_L_155 kv_Model_on 0 10 rfl rfl ⟨by decide, by decide⟩ ⟨by decide, by decide⟩ (wr := []) [0, 1] [] rfl rfl (by decide) (by decide) (by decide) (As := []) (rest := [.int 0]) rfl (nb rfl) rfl d_L_law_1116 (fun r2 _ hr2 => ?_)
  subst hr2
  refine j_ws (ws' := []) rfl ?_
  refine j_st (st' := [.int 0, .int 0]) rfl ?_
  refine j_icmp_eqT (pc := 1119) C (tgt := 1124) d_L_law_1119 (by decide) (by decide) ?_
  refine j_sub (ws' := []) [] rfl (by decide) ?_
  refine j_locs (lv' := [(3, .int 0), (0, .ref b)]) [0, 3] rfl ?_
  exact kx
