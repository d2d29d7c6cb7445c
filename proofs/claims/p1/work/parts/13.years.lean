theorem d_Nine_draw_0 : decode prog_1_method_45_code 0 = .ok (.aload_n 0, 1) := by decide +kernel
theorem d_Nine_draw_1 : decode prog_1_method_45_code 1 = .ok (.ldc2_w 336, 3) := by decide +kernel
theorem d_Nine_draw_4 : decode prog_1_method_45_code 4 = .ok (.aload_n 0, 1) := by decide +kernel
theorem d_Nine_draw_5 : decode prog_1_method_45_code 5 = .ok (.getfield 66, 3) := by decide +kernel
theorem gf_Nine_66 : GF "NineBoards" 66 9 9 := ⟨_, _, _, rfl, ci_Nine, by decide, (mt_3 (List.mem_of_getElem? (i := 0) rfl) rfl)⟩
theorem d_Nine_draw_8 : decode prog_1_method_45_code 8 = .ok (.i2l, 1) := by decide +kernel
theorem d_Nine_draw_9 : decode prog_1_method_45_code 9 = .ok (.lmul, 1) := by decide +kernel
theorem d_Nine_draw_10 : decode prog_1_method_45_code 10 = .ok (.ldc2_w 338, 3) := by decide +kernel
theorem d_Nine_draw_13 : decode prog_1_method_45_code 13 = .ok (.ladd, 1) := by decide +kernel
theorem d_Nine_draw_14 : decode prog_1_method_45_code 14 = .ok (.ldc2_w 340, 3) := by decide +kernel
theorem d_Nine_draw_17 : decode prog_1_method_45_code 17 = .ok (.land, 1) := by decide +kernel
theorem d_Nine_draw_18 : decode prog_1_method_45_code 18 = .ok (.l2i, 1) := by decide +kernel
theorem d_Nine_draw_19 : decode prog_1_method_45_code 19 = .ok (.putfield 66, 3) := by decide +kernel
theorem d_Nine_draw_22 : decode prog_1_method_45_code 22 = .ok (.iload_n 1, 1) := by decide +kernel
theorem d_Nine_draw_23 : decode prog_1_method_45_code 23 = .ok (.ifCond .le 15, 3) := by decide +kernel
theorem d_Nine_draw_26 : decode prog_1_method_45_code 26 = .ok (.aload_n 0, 1) := by decide +kernel
theorem d_Nine_draw_27 : decode prog_1_method_45_code 27 = .ok (.getfield 66, 3) := by decide +kernel
theorem d_Nine_draw_30 : decode prog_1_method_45_code 30 = .ok (.bipush 64, 2) := by decide +kernel
theorem d_Nine_draw_32 : decode prog_1_method_45_code 32 = .ok (.idiv, 1) := by decide +kernel
theorem d_Nine_draw_33 : decode prog_1_method_45_code 33 = .ok (.iload_n 1, 1) := by decide +kernel
theorem d_Nine_draw_34 : decode prog_1_method_45_code 34 = .ok (.irem, 1) := by decide +kernel
theorem d_Nine_draw_35 : decode prog_1_method_45_code 35 = .ok (.goto 4, 3) := by decide +kernel
theorem d_Nine_draw_39 : decode prog_1_method_45_code 39 = .ok (.ireturn, 1) := by decide +kernel
set_option maxHeartbeats 4000000 in
set_option maxRecDepth 100000 in
theorem c_N_draw (l : Launch) (D : va_G) (y : Nat → ClassId) (x : Nat) (tp : Nat) (pi : Nat) (nw : Nat) (tr : Nat) (ps : Nat) (k : Nat) (k2 : Nat) (rd : Nat) (pl : Nat) (dr : Int32)  : CT l D y ⟨"NineBoards", "draw", "(I)I"⟩ prog_1_method_45_code 2 (some .int) ({ frames := 0, cells := 0, slots := 0, locals := 0 } : Room) [.ref x, .int 3] [(x, .inr (9, [.ref tp, .ref pi, .ref nw, .ref tr, .ref ps, .ref k, .ref k2, .ref rd, .ref pl, .int dr]))] (QI D [(x, .inr (9, [.ref tp, .ref pi, .ref nw, .ref tr, .ref ps, .ref k, .ref k2, .ref rd, .ref pl, .int dr]))] (fun (r : Int32) (u : Int32) => True) (fun u => [(x, .inr (9, [.ref tp, .ref pi, .ref nw, .ref tr, .ref ps, .ref k, .ref k2, .ref rd, .ref pl, .int u]))])) := by
  refine CT.of (by decide) (nb rfl) ?_
  intro p e s m args below meth c C hr
  refine j_lv (lv' := [(0, .ref x), (1, .int 3)]) rfl ?_
  refine j_aload_n (pc := 0) C d_Nine_draw_0 rfl 0 rfl ?_
  refine j_ldc2 (pc := 1) C (v := 1103515245) (mt_5 (List.mem_of_getElem? (i := 56) rfl) rfl) d_Nine_draw_1 ?_
  refine j_aload_n (pc := 4) C d_Nine_draw_4 rfl 0 rfl ?_
  refine j_get (pc := 5) C gf_Nine_66 0 rfl rfl d_Nine_draw_5 ?_
  refine j_i2l (pc := 8) C (v := dr.toInt64) d_Nine_draw_8 rfl ?_
  refine j_lmul (pc := 9) C (v := 1103515245 * dr.toInt64) d_Nine_draw_9 rfl ?_
  refine j_ldc2 (pc := 10) C (v := 12345) (mt_5 (List.mem_of_getElem? (i := 57) rfl) rfl) d_Nine_draw_10 ?_
  refine j_ladd (pc := 13) C (v := (1103515245 * dr.toInt64) + 12345) d_Nine_draw_13 rfl ?_
  refine j_ldc2 (pc := 14) C (v := 2147483647) (mt_5 (List.mem_of_getElem? (i := 58) rfl) rfl) d_Nine_draw_14 ?_
  refine j_land (pc := 17) C (v := ((1103515245 * dr.toInt64) + 12345) &&& 2147483647) d_Nine_draw_17 rfl ?_
  refine j_l2i (pc := 18) C (v := (((1103515245 * dr.toInt64) + 12345) &&& 2147483647).toInt32) d_Nine_draw_18 rfl ?_
  refine j_put (pc := 19) C pf_Nine_66 0 (ws' := [(x, .inr (9, [.ref tp, .ref pi, .ref nw, .ref tr, .ref ps, .ref k, .ref k2, .ref rd, .ref pl, .int ((((1103515245 * dr.toInt64) + 12345) &&& 2147483647).toInt32)]))]) rfl rfl rfl (nl rfl) rfl d_Nine_draw_19 ?_
  refine j_iload_n (pc := 22) C d_Nine_draw_22 rfl 1 rfl ?_
  refine j_if_leF (pc := 23) C (tgt := 38) d_Nine_draw_23 (by decide) (by decide) ?_
  refine j_aload_n (pc := 26) C d_Nine_draw_26 rfl 0 rfl ?_
  refine j_get (pc := 27) C gf_Nine_66 0 rfl rfl d_Nine_draw_27 ?_
  refine j_bipush (pc := 30) C (v := 64) d_Nine_draw_30 (by decide) ?_
  refine j_idiv (pc := 32) C (v := ((((1103515245 * dr.toInt64) + 12345) &&& 2147483647).toInt32) / 64) d_Nine_draw_32 (by decide) rfl ?_
  refine j_iload_n (pc := 33) C d_Nine_draw_33 rfl 1 rfl ?_
  refine j_irem (pc := 34) C (v := (((((1103515245 * dr.toInt64) + 12345) &&& 2147483647).toInt32) / 64) - (((((1103515245 * dr.toInt64) + 12345) &&& 2147483647).toInt32) / 64) / 3 * 3) d_Nine_draw_34 (by decide) rfl ?_
  refine j_goto (pc := 35) C (tgt := 39) d_Nine_draw_35 (by decide) ?_
  exact j_iret (pc := 39) C hr rfl ((((1103515245 * dr.toInt64) + 12345) &&& 2147483647).toInt32) trivial [0] rfl (by decide) (by decide) (by decide) d_Nine_draw_39
theorem d_Nine_goThroughYear_17 : decode prog_1_method_44_code 17 = .ok (.iload 6, 2) := by decide +kernel
theorem d_Nine_goThroughYear_19 : decode prog_1_method_44_code 19 = .ok (.iload_n 2, 1) := by decide +kernel
theorem d_Nine_goThroughYear_20 : decode prog_1_method_44_code 20 = .ok (.if_icmp .ge 118, 3) := by decide +kernel
theorem d_Nine_goThroughYear_23 : decode prog_1_method_44_code 23 = .ok (.aload_n 0, 1) := by decide +kernel
theorem d_Nine_goThroughYear_24 : decode prog_1_method_44_code 24 = .ok (.getfield 28, 3) := by decide +kernel
theorem d_Nine_goThroughYear_27 : decode prog_1_method_44_code 27 = .ok (.getfield 124, 3) := by decide +kernel
theorem d_Nine_goThroughYear_30 : decode prog_1_method_44_code 30 = .ok (.sipush 999, 3) := by decide +kernel
theorem d_Nine_goThroughYear_33 : decode prog_1_method_44_code 33 = .ok (.if_icmp .ge 105, 3) := by decide +kernel
theorem d_Nine_goThroughYear_36 : decode prog_1_method_44_code 36 = .ok (.aload_n 0, 1) := by decide +kernel
theorem d_Nine_goThroughYear_37 : decode prog_1_method_44_code 37 = .ok (.iconst 3, 1) := by decide +kernel
theorem d_Nine_goThroughYear_38 : decode prog_1_method_44_code 38 = .ok (.invokevirtual 333, 3) := by decide +kernel
theorem kw_Nine_333 : KW "NineBoards" 333 ⟨"NineBoards", "draw", "(I)I"⟩ prog_1_method_45_code 2 (some .int) 1 := ⟨(mt_5 (List.mem_of_getElem? (i := 52) rfl) rfl), (mt_1 (List.mem_of_getElem? (i := 1) rfl) rfl), (mt_5 (List.mem_of_getElem? (i := 55) rfl) rfl), by decide +kernel⟩
theorem kv_Nine_draw : Cond.instanceMethod ⟨"NineBoards", "draw", "(I)I"⟩ ∈ TB ∧ Cond.selects "NineBoards" ⟨"NineBoards", "draw", "(I)I"⟩ ⟨"NineBoards", "draw", "(I)I"⟩ ∈ TB := ⟨(mt_5 (List.mem_of_getElem? (i := 54) rfl) rfl), (ms_0 (List.mem_map.mpr ⟨(⟨"NineBoards", "draw", "(I)I"⟩, 10), List.mem_of_getElem? (i := 47) (by decide +kernel), rfl⟩) rfl)⟩
theorem d_Nine_goThroughYear_41 : decode prog_1_method_44_code 41 = .ok (.istore 7, 2) := by decide +kernel
theorem d_Nine_goThroughYear_43 : decode prog_1_method_44_code 43 = .ok (.aload_n 0, 1) := by decide +kernel
theorem d_Nine_goThroughYear_44 : decode prog_1_method_44_code 44 = .ok (.getfield 41, 3) := by decide +kernel
theorem d_Nine_goThroughYear_47 : decode prog_1_method_44_code 47 = .ok (.aload_n 0, 1) := by decide +kernel
theorem d_Nine_goThroughYear_48 : decode prog_1_method_44_code 48 = .ok (.getfield 28, 3) := by decide +kernel
theorem d_Nine_goThroughYear_51 : decode prog_1_method_44_code 51 = .ok (.aload_n 0, 1) := by decide +kernel
theorem d_Nine_goThroughYear_52 : decode prog_1_method_44_code 52 = .ok (.getfield 41, 3) := by decide +kernel
theorem d_Nine_goThroughYear_55 : decode prog_1_method_44_code 55 = .ok (.aload_n 0, 1) := by decide +kernel
theorem d_Nine_goThroughYear_56 : decode prog_1_method_44_code 56 = .ok (.getfield 28, 3) := by decide +kernel
theorem d_Nine_goThroughYear_59 : decode prog_1_method_44_code 59 = .ok (.getfield 124, 3) := by decide +kernel
theorem d_Nine_goThroughYear_62 : decode prog_1_method_44_code 62 = .ok (.invokevirtual 206, 3) := by decide +kernel
theorem d_Nine_goThroughYear_65 : decode prog_1_method_44_code 65 = .ok (.iload 7, 2) := by decide +kernel
theorem d_Nine_goThroughYear_67 : decode prog_1_method_44_code 67 = .ok (.iload_n 1, 1) := by decide +kernel
theorem d_Nine_goThroughYear_68 : decode prog_1_method_44_code 68 = .ok (.invokestatic 209, 3) := by decide +kernel
theorem d_Nine_goThroughYear_71 : decode prog_1_method_44_code 71 = .ok (.istore 8, 2) := by decide +kernel
theorem d_Nine_goThroughYear_73 : decode prog_1_method_44_code 73 = .ok (.aload_n 0, 1) := by decide +kernel
theorem d_Nine_goThroughYear_74 : decode prog_1_method_44_code 74 = .ok (.getfield 41, 3) := by decide +kernel
theorem d_Nine_goThroughYear_77 : decode prog_1_method_44_code 77 = .ok (.aload_n 0, 1) := by decide +kernel
theorem d_Nine_goThroughYear_78 : decode prog_1_method_44_code 78 = .ok (.getfield 28, 3) := by decide +kernel
theorem d_Nine_goThroughYear_81 : decode prog_1_method_44_code 81 = .ok (.iload 8, 2) := by decide +kernel
theorem d_Nine_goThroughYear_83 : decode prog_1_method_44_code 83 = .ok (.ifCond .eq 8, 3) := by decide +kernel
theorem d_Nine_goThroughYear_86 : decode prog_1_method_44_code 86 = .ok (.iload 7, 2) := by decide +kernel
theorem d_Nine_goThroughYear_88 : decode prog_1_method_44_code 88 = .ok (.goto 4, 3) := by decide +kernel
theorem d_Nine_goThroughYear_92 : decode prog_1_method_44_code 92 = .ok (.invokestatic 216, 3) := by decide +kernel
theorem d_Nine_goThroughYear_95 : decode prog_1_method_44_code 95 = .ok (.iconst 0, 1) := by decide +kernel
theorem d_Nine_goThroughYear_96 : decode prog_1_method_44_code 96 = .ok (.istore 9, 2) := by decide +kernel
theorem d_Nine_goThroughYear_98 : decode prog_1_method_44_code 98 = .ok (.iload 9, 2) := by decide +kernel
theorem d_Nine_goThroughYear_100 : decode prog_1_method_44_code 100 = .ok (.aload_n 0, 1) := by decide +kernel
theorem d_Nine_goThroughYear_101 : decode prog_1_method_44_code 101 = .ok (.getfield 41, 3) := by decide +kernel
theorem d_Nine_goThroughYear_104 : decode prog_1_method_44_code 104 = .ok (.getfield 107, 3) := by decide +kernel
theorem d_Nine_goThroughYear_107 : decode prog_1_method_44_code 107 = .ok (.if_icmp .ge 25, 3) := by decide +kernel
theorem d_Nine_goThroughYear_132 : decode prog_1_method_44_code 132 = .ok (.iinc 6 1, 3) := by decide +kernel
theorem d_Nine_goThroughYear_135 : decode prog_1_method_44_code 135 = .ok (.goto (-118), 3) := by decide +kernel
theorem d_Nine_goThroughYear_91 : decode prog_1_method_44_code 91 = .ok (.iconst 0, 1) := by decide +kernel
theorem d_Nine_goThroughYear_0 : decode prog_1_method_44_code 0 = .ok (.lconst 0, 1) := by decide +kernel
theorem d_Nine_goThroughYear_1 : decode prog_1_method_44_code 1 = .ok (.lstore 4, 2) := by decide +kernel
theorem d_Nine_goThroughYear_3 : decode prog_1_method_44_code 3 = .ok (.aload_n 0, 1) := by decide +kernel
theorem d_Nine_goThroughYear_4 : decode prog_1_method_44_code 4 = .ok (.getfield 28, 3) := by decide +kernel
theorem d_Nine_goThroughYear_7 : decode prog_1_method_44_code 7 = .ok (.aload_n 0, 1) := by decide +kernel
theorem d_Nine_goThroughYear_8 : decode prog_1_method_44_code 8 = .ok (.getfield 24, 3) := by decide +kernel
theorem d_Nine_goThroughYear_11 : decode prog_1_method_44_code 11 = .ok (.invokevirtual 160, 3) := by decide +kernel
theorem d_Nine_goThroughYear_14 : decode prog_1_method_44_code 14 = .ok (.iconst 0, 1) := by decide +kernel
theorem d_Nine_goThroughYear_15 : decode prog_1_method_44_code 15 = .ok (.istore 6, 2) := by decide +kernel
theorem d_Nine_goThroughYear_138 : decode prog_1_method_44_code 138 = .ok (.iload_n 3, 1) := by decide +kernel
theorem d_Nine_goThroughYear_139 : decode prog_1_method_44_code 139 = .ok (.ifCond .eq 8, 3) := by decide +kernel
theorem d_Nine_goThroughYear_147 : decode prog_1_method_44_code 147 = .ok (.aload_n 0, 1) := by decide +kernel
theorem d_Nine_goThroughYear_148 : decode prog_1_method_44_code 148 = .ok (.getfield 28, 3) := by decide +kernel
theorem d_Nine_goThroughYear_151 : decode prog_1_method_44_code 151 = .ok (.getfield 179, 3) := by decide +kernel
theorem d_Nine_goThroughYear_154 : decode prog_1_method_44_code 154 = .ok (.iconst 2, 1) := by decide +kernel
theorem d_Nine_goThroughYear_155 : decode prog_1_method_44_code 155 = .ok (.laload, 1) := by decide +kernel
theorem d_Nine_goThroughYear_156 : decode prog_1_method_44_code 156 = .ok (.aload_n 0, 1) := by decide +kernel
theorem d_Nine_goThroughYear_157 : decode prog_1_method_44_code 157 = .ok (.getfield 24, 3) := by decide +kernel
theorem d_Nine_goThroughYear_160 : decode prog_1_method_44_code 160 = .ok (.getfield 179, 3) := by decide +kernel
theorem d_Nine_goThroughYear_163 : decode prog_1_method_44_code 163 = .ok (.iconst 2, 1) := by decide +kernel
theorem d_Nine_goThroughYear_164 : decode prog_1_method_44_code 164 = .ok (.laload, 1) := by decide +kernel
theorem d_Nine_goThroughYear_165 : decode prog_1_method_44_code 165 = .ok (.lsub, 1) := by decide +kernel
theorem d_Nine_goThroughYear_166 : decode prog_1_method_44_code 166 = .ok (.lreturn, 1) := by decide +kernel
theorem d_Nine_goThroughYear_142 : decode prog_1_method_44_code 142 = .ok (.lload 4, 2) := by decide +kernel
theorem d_Nine_goThroughYear_144 : decode prog_1_method_44_code 144 = .ok (.goto 22, 3) := by decide +kernel
set_option maxHeartbeats 4000000 in
set_option maxRecDepth 100000 in
theorem lp_year {p : Program} {l : Launch} {e : Env} {s : State} {m : MethodId} {args : Array Value} {below : List Frame} {meth : Method} {c : Code} {Q : State → Prop} {D : va_G} {y : Nat → ClassId} {A : Nat → Prop} (C : Cx p s m args meth c D y A prog_1_method_44_code 10 "NineBoards" "goThroughYear") (x : Nat) (tp : Nat) (pi : Nat) (nw : Nat) (tr : Nat) (ps : Nat) (k : Nat) (k2 : Nat) (rd : Nat) (pl : Nat) (g : Nat) (vn : Nat) (vg : Nat) (t : Nat) (r : Nat) (g0 : Nat) (g1 : Nat) (g2 : Nat) (g3 : Nat) (g4 : Nat) (g5 : Nat) (g6 : Nat) (t0 : Nat) (t1 : Nat) (t2 : Nat) (t3 : Nat) (t4 : Nat) (t5 : Nat) (t6 : Nat) (r0 : Nat) (r1 : Nat) (r2 : Nat) (r3 : Nat) (r4 : Nat) (r5 : Nat) (m0 : Nat) (m1 : Nat) (m2 : Nat) (m3 : Nat) (m4 : Nat) (m5 : Nat) (m6 : Nat) (n0 : Nat) (n1 : Nat) (n2 : Nat) (n3 : Nat) (n4 : Nat) (n5 : Nat) (n6 : Nat) (va : Int32) (vc : Int32) (N : Nat) (hN : N ≤ 100) (kx : ∀ dr : Int32, J p l e ({ frames := 5, cells := 0, slots := 0, locals := 117 } : Room) s m args below meth c Q D A 10 [(x, .inr (9, [.ref tp, .ref pi, .ref nw, .ref tr, .ref ps, .ref k, .ref k2, .ref rd, .ref pl, .int dr])), (k, .inr (2, [.int 0, .int 1, .int 1, .int 0, .ref g, .int 0, .ref vn, .ref vg, .ref t, .ref r, .int 0, .int 0, .int 9999, .int 0])), (g, .inr (1, [.int 0, .ref g0, .ref g1, .ref g2, .ref g3, .ref g4, .ref g5, .ref g6])), (t, .inr (8, [.int 0, .ref t0, .ref t1, .ref t2, .ref t3, .ref t4, .ref t5, .ref t6])), (r, .inr (6, [.int 0, .int 0, .ref r0, .ref r1, .ref r2, .ref r3, .ref r4, .ref r5])), (tr, .inr (7, [.int (nI N), .int 0, .int 0, .ref m0, .ref m1, .ref m2, .ref m3, .ref m4, .ref m5, .ref m6])), (m0, .inl (y 0, 9, .inl (fun _ => 0))), (m1, .inl (y 0, 9, .inl (fun _ => 0))), (m2, .inl (y 1, 9, .inr (.inl (fun _ => 0)))), (m3, .inl (y 0, 6, .inl (fun _ => 0))), (m4, .inl (y 0, 6, .inl (fun _ => 0))), (m5, .inl (y 0, 16, .inl (fun _ => 0))), (m6, .inl (y 1, 5, .inr (.inl (fun _ => 0)))), (nw, .inr (7, [.int 0, .int 0, .int 0, .ref n0, .ref n1, .ref n2, .ref n3, .ref n4, .ref n5, .ref n6])), (n0, .inl (y 0, 9, .inl (fun _ => 0))), (n1, .inl (y 0, 9, .inl (fun _ => 0))), (n2, .inl (y 1, 9, .inr (.inl (fun _ => 0)))), (n3, .inl (y 0, 6, .inl (fun _ => 0))), (n4, .inl (y 0, 6, .inl (fun _ => 0))), (n5, .inl (y 0, 16, .inl (fun _ => 0))), (n6, .inl (y 1, 5, .inr (.inl (fun _ => 0))))] [(0, .ref x), (1, .int va), (2, .int (nI N)), (3, .int vc), (4, .long 0), (6, .int (nI N))] 0 0 138 []) : ∀ (n : Nat) (i : Nat) (dr : Int32), (i + n = N) → J p l e ({ frames := 5, cells := 0, slots := 0, locals := 117 } : Room) s m args below meth c Q D A 10 [(x, .inr (9, [.ref tp, .ref pi, .ref nw, .ref tr, .ref ps, .ref k, .ref k2, .ref rd, .ref pl, .int dr])), (k, .inr (2, [.int 0, .int 1, .int 1, .int 0, .ref g, .int 0, .ref vn, .ref vg, .ref t, .ref r, .int 0, .int 0, .int 9999, .int 0])), (g, .inr (1, [.int 0, .ref g0, .ref g1, .ref g2, .ref g3, .ref g4, .ref g5, .ref g6])), (t, .inr (8, [.int 0, .ref t0, .ref t1, .ref t2, .ref t3, .ref t4, .ref t5, .ref t6])), (r, .inr (6, [.int 0, .int 0, .ref r0, .ref r1, .ref r2, .ref r3, .ref r4, .ref r5])), (tr, .inr (7, [.int (nI i), .int 0, .int 0, .ref m0, .ref m1, .ref m2, .ref m3, .ref m4, .ref m5, .ref m6])), (m0, .inl (y 0, 9, .inl (fun _ => 0))), (m1, .inl (y 0, 9, .inl (fun _ => 0))), (m2, .inl (y 1, 9, .inr (.inl (fun _ => 0)))), (m3, .inl (y 0, 6, .inl (fun _ => 0))), (m4, .inl (y 0, 6, .inl (fun _ => 0))), (m5, .inl (y 0, 16, .inl (fun _ => 0))), (m6, .inl (y 1, 5, .inr (.inl (fun _ => 0)))), (nw, .inr (7, [.int 0, .int 0, .int 0, .ref n0, .ref n1, .ref n2, .ref n3, .ref n4, .ref n5, .ref n6])), (n0, .inl (y 0, 9, .inl (fun _ => 0))), (n1, .inl (y 0, 9, .inl (fun _ => 0))), (n2, .inl (y 1, 9, .inr (.inl (fun _ => 0)))), (n3, .inl (y 0, 6, .inl (fun _ => 0))), (n4, .inl (y 0, 6, .inl (fun _ => 0))), (n5, .inl (y 0, 16, .inl (fun _ => 0))), (n6, .inl (y 1, 5, .inr (.inl (fun _ => 0))))] [(0, .ref x), (1, .int va), (2, .int (nI N)), (3, .int vc), (4, .long 0), (6, .int (nI i))] 0 0 17 [] := by
  intro n
  induction n with
  | zero =>
    intro i dr hi
    obtain rfl : i = N := by omega
    refine j_iload (pc := 17) C d_Nine_goThroughYear_17 5 rfl ?_
    refine j_iload_n (pc := 19) C d_Nine_goThroughYear_19 rfl 2 rfl ?_
    refine j_icmp_geT (pc := 20) C (tgt := 138) d_Nine_goThroughYear_20 (by decide) (Int32.le_refl _) ?_
    exact kx dr
  | succ n ih =>
    intro i dr hi
    refine j_iload (pc := 17) C d_Nine_goThroughYear_17 5 rfl ?_
    refine j_iload_n (pc := 19) C d_Nine_goThroughYear_19 rfl 2 rfl ?_
    refine j_icmp_geF (pc := 20) C (tgt := 138) d_Nine_goThroughYear_20 (by decide) (nI_ge (by omega) (by omega)) ?_
    refine j_aload_n (pc := 23) C d_Nine_goThroughYear_23 rfl 0 rfl ?_
    refine j_get (pc := 24) C gf_Nine_28 0 rfl rfl d_Nine_goThroughYear_24 ?_
    refine j_get (pc := 27) C gf_Nine_124 5 rfl rfl d_Nine_goThroughYear_27 ?_
    refine j_sipush (pc := 30) C (v := 999) d_Nine_goThroughYear_30 (by decide) ?_
    refine j_icmp_geF (pc := 33) C (tgt := 138) d_Nine_goThroughYear_33 (by decide) (show ¬ nI 999 ≤ nI i from nI_ge (by omega) (by decide)) ?_
    refine j_aload_n (pc := 36) C d_Nine_goThroughYear_36 rfl 0 rfl ?_
    refine j_iconst (pc := 37) C (v := 3) d_Nine_goThroughYear_37 (by decide) ?_
    refine j_callVi (pc := 38) C (c_N_draw l D y x tp pi nw tr ps k k2 rd pl dr) kw_Nine_333 kv_Nine_draw 0 9 rfl rfl ⟨by decide, by decide⟩ ⟨by decide, by decide⟩ (wr := [(k, .inr (2, [.int 0, .int 1, .int 1, .int 0, .ref g, .int 0, .ref vn, .ref vg, .ref t, .ref r, .int 0, .int 0, .int 9999, .int 0])), (g, .inr (1, [.int 0, .ref g0, .ref g1, .ref g2, .ref g3, .ref g4, .ref g5, .ref g6])), (t, .inr (8, [.int 0, .ref t0, .ref t1, .ref t2, .ref t3, .ref t4, .ref t5, .ref t6])), (r, .inr (6, [.int 0, .int 0, .ref r0, .ref r1, .ref r2, .ref r3, .ref r4, .ref r5])), (tr, .inr (7, [.int (nI i), .int 0, .int 0, .ref m0, .ref m1, .ref m2, .ref m3, .ref m4, .ref m5, .ref m6])), (m0, .inl (y 0, 9, .inl (fun _ => 0))), (m1, .inl (y 0, 9, .inl (fun _ => 0))), (m2, .inl (y 1, 9, .inr (.inl (fun _ => 0)))), (m3, .inl (y 0, 6, .inl (fun _ => 0))), (m4, .inl (y 0, 6, .inl (fun _ => 0))), (m5, .inl (y 0, 16, .inl (fun _ => 0))), (m6, .inl (y 1, 5, .inr (.inl (fun _ => 0)))), (nw, .inr (7, [.int 0, .int 0, .int 0, .ref n0, .ref n1, .ref n2, .ref n3, .ref n4, .ref n5, .ref n6])), (n0, .inl (y 0, 9, .inl (fun _ => 0))), (n1, .inl (y 0, 9, .inl (fun _ => 0))), (n2, .inl (y 1, 9, .inr (.inl (fun _ => 0)))), (n3, .inl (y 0, 6, .inl (fun _ => 0))), (n4, .inl (y 0, 6, .inl (fun _ => 0))), (n5, .inl (y 0, 16, .inl (fun _ => 0))), (n6, .inl (y 1, 5, .inr (.inl (fun _ => 0))))]) [0] [1, 2, 3, 4, 5, 6, 7, 8, 9, 10, 11, 12, 13, 14, 15, 16, 17, 18, 19, 20] rfl rfl (by decide) (by decide) (by decide) (As := [.int 3]) (rest := []) rfl (nb rfl) rfl d_Nine_goThroughYear_38 (fun r6 u7 hr6 => ?_)
    refine j_ws (ws' := [(k, .inr (2, [.int 0, .int 1, .int 1, .int 0, .ref g, .int 0, .ref vn, .ref vg, .ref t, .ref r, .int 0, .int 0, .int 9999, .int 0])), (g, .inr (1, [.int 0, .ref g0, .ref g1, .ref g2, .ref g3, .ref g4, .ref g5, .ref g6])), (t, .inr (8, [.int 0, .ref t0, .ref t1, .ref t2, .ref t3, .ref t4, .ref t5, .ref t6])), (r, .inr (6, [.int 0, .int 0, .ref r0, .ref r1, .ref r2, .ref r3, .ref r4, .ref r5])), (tr, .inr (7, [.int (nI i), .int 0, .int 0, .ref m0, .ref m1, .ref m2, .ref m3, .ref m4, .ref m5, .ref m6])), (m0, .inl (y 0, 9, .inl (fun _ => 0))), (m1, .inl (y 0, 9, .inl (fun _ => 0))), (m2, .inl (y 1, 9, .inr (.inl (fun _ => 0)))), (m3, .inl (y 0, 6, .inl (fun _ => 0))), (m4, .inl (y 0, 6, .inl (fun _ => 0))), (m5, .inl (y 0, 16, .inl (fun _ => 0))), (m6, .inl (y 1, 5, .inr (.inl (fun _ => 0)))), (nw, .inr (7, [.int 0, .int 0, .int 0, .ref n0, .ref n1, .ref n2, .ref n3, .ref n4, .ref n5, .ref n6])), (n0, .inl (y 0, 9, .inl (fun _ => 0))), (n1, .inl (y 0, 9, .inl (fun _ => 0))), (n2, .inl (y 1, 9, .inr (.inl (fun _ => 0)))), (n3, .inl (y 0, 6, .inl (fun _ => 0))), (n4, .inl (y 0, 6, .inl (fun _ => 0))), (n5, .inl (y 0, 16, .inl (fun _ => 0))), (n6, .inl (y 1, 5, .inr (.inl (fun _ => 0)))), (x, .inr (9, [.ref tp, .ref pi, .ref nw, .ref tr, .ref ps, .ref k, .ref k2, .ref rd, .ref pl, .int u7]))]) rfl ?_
    refine j_istore (pc := 41) C (lv' := [(7, .int r6), (0, .ref x), (1, .int va), (2, .int (nI N)), (3, .int vc), (4, .long 0), (6, .int (nI i))]) d_Nine_goThroughYear_41 (by decide) rfl ?_
    refine j_aload_n (pc := 43) C d_Nine_goThroughYear_43 rfl 1 rfl ?_
    refine j_get (pc := 44) C gf_Nine_41 20 rfl rfl d_Nine_goThroughYear_44 ?_
    refine j_aload_n (pc := 47) C d_Nine_goThroughYear_47 rfl 1 rfl ?_
    refine j_get (pc := 48) C gf_Nine_28 20 rfl rfl d_Nine_goThroughYear_48 ?_
    refine j_aload_n (pc := 51) C d_Nine_goThroughYear_51 rfl 1 rfl ?_
    refine j_get (pc := 52) C gf_Nine_41 20 rfl rfl d_Nine_goThroughYear_52 ?_
    refine j_aload_n (pc := 55) C d_Nine_goThroughYear_55 rfl 1 rfl ?_
    refine j_get (pc := 56) C gf_Nine_28 20 rfl rfl d_Nine_goThroughYear_56 ?_
    refine j_get (pc := 59) C gf_Nine_124 4 rfl rfl d_Nine_goThroughYear_59 ?_
    refine j_callVi (pc := 62) C (c_villageOn l D y k g vn vg t r (nI i)) kw_Nine_206 kv_Lake_villageOn 0 2 rfl rfl ⟨by decide, by decide⟩ ⟨by decide, by decide⟩ (wr := [(g, .inr (1, [.int 0, .ref g0, .ref g1, .ref g2, .ref g3, .ref g4, .ref g5, .ref g6])), (t, .inr (8, [.int 0, .ref t0, .ref t1, .ref t2, .ref t3, .ref t4, .ref t5, .ref t6])), (r, .inr (6, [.int 0, .int 0, .ref r0, .ref r1, .ref r2, .ref r3, .ref r4, .ref r5])), (tr, .inr (7, [.int (nI i), .int 0, .int 0, .ref m0, .ref m1, .ref m2, .ref m3, .ref m4, .ref m5, .ref m6])), (m0, .inl (y 0, 9, .inl (fun _ => 0))), (m1, .inl (y 0, 9, .inl (fun _ => 0))), (m2, .inl (y 1, 9, .inr (.inl (fun _ => 0)))), (m3, .inl (y 0, 6, .inl (fun _ => 0))), (m4, .inl (y 0, 6, .inl (fun _ => 0))), (m5, .inl (y 0, 16, .inl (fun _ => 0))), (m6, .inl (y 1, 5, .inr (.inl (fun _ => 0)))), (nw, .inr (7, [.int 0, .int 0, .int 0, .ref n0, .ref n1, .ref n2, .ref n3, .ref n4, .ref n5, .ref n6])), (n0, .inl (y 0, 9, .inl (fun _ => 0))), (n1, .inl (y 0, 9, .inl (fun _ => 0))), (n2, .inl (y 1, 9, .inr (.inl (fun _ => 0)))), (n3, .inl (y 0, 6, .inl (fun _ => 0))), (n4, .inl (y 0, 6, .inl (fun _ => 0))), (n5, .inl (y 0, 16, .inl (fun _ => 0))), (n6, .inl (y 1, 5, .inr (.inl (fun _ => 0)))), (x, .inr (9, [.ref tp, .ref pi, .ref nw, .ref tr, .ref ps, .ref k, .ref k2, .ref rd, .ref pl, .int u7]))]) [0] [1, 2, 3, 4, 5, 6, 7, 8, 9, 10, 11, 12, 13, 14, 15, 16, 17, 18, 19, 20] rfl rfl (by decide) (by decide) (by decide) (As := [.int (nI i)]) (rest := [.ref tr, .ref k]) rfl (nb rfl) rfl d_Nine_goThroughYear_62 (fun r8 _ hr8 => ?_)
    subst hr8
    refine j_ws (ws' := [(g, .inr (1, [.int 0, .ref g0, .ref g1, .ref g2, .ref g3, .ref g4, .ref g5, .ref g6])), (t, .inr (8, [.int 0, .ref t0, .ref t1, .ref t2, .ref t3, .ref t4, .ref t5, .ref t6])), (r, .inr (6, [.int 0, .int 0, .ref r0, .ref r1, .ref r2, .ref r3, .ref r4, .ref r5])), (tr, .inr (7, [.int (nI i), .int 0, .int 0, .ref m0, .ref m1, .ref m2, .ref m3, .ref m4, .ref m5, .ref m6])), (m0, .inl (y 0, 9, .inl (fun _ => 0))), (m1, .inl (y 0, 9, .inl (fun _ => 0))), (m2, .inl (y 1, 9, .inr (.inl (fun _ => 0)))), (m3, .inl (y 0, 6, .inl (fun _ => 0))), (m4, .inl (y 0, 6, .inl (fun _ => 0))), (m5, .inl (y 0, 16, .inl (fun _ => 0))), (m6, .inl (y 1, 5, .inr (.inl (fun _ => 0)))), (nw, .inr (7, [.int 0, .int 0, .int 0, .ref n0, .ref n1, .ref n2, .ref n3, .ref n4, .ref n5, .ref n6])), (n0, .inl (y 0, 9, .inl (fun _ => 0))), (n1, .inl (y 0, 9, .inl (fun _ => 0))), (n2, .inl (y 1, 9, .inr (.inl (fun _ => 0)))), (n3, .inl (y 0, 6, .inl (fun _ => 0))), (n4, .inl (y 0, 6, .inl (fun _ => 0))), (n5, .inl (y 0, 16, .inl (fun _ => 0))), (n6, .inl (y 1, 5, .inr (.inl (fun _ => 0)))), (x, .inr (9, [.ref tp, .ref pi, .ref nw, .ref tr, .ref ps, .ref k, .ref k2, .ref rd, .ref pl, .int u7])), (k, .inr (2, [.int 0, .int 1, .int 1, .int 0, .ref g, .int 0, .ref vn, .ref vg, .ref t, .ref r, .int 0, .int 0, .int 9999, .int 0]))]) rfl ?_
    refine j_st (st' := [.int (-1), .ref tr, .ref k]) rfl ?_
    refine j_iload (pc := 65) C d_Nine_goThroughYear_65 0 rfl ?_
    refine j_iload_n (pc := 67) C d_Nine_goThroughYear_67 rfl 2 rfl ?_
    by_cases hz : r6 = 0
    · subst hz
      refine j_callSi (pc := 68) C (c_allows_0 l D y k tr (-1) va) kw_Nine_209 ks_Days_allows ⟨by decide, by decide⟩ ⟨by decide, by decide⟩ (wr := [(g, .inr (1, [.int 0, .ref g0, .ref g1, .ref g2, .ref g3, .ref g4, .ref g5, .ref g6])), (t, .inr (8, [.int 0, .ref t0, .ref t1, .ref t2, .ref t3, .ref t4, .ref t5, .ref t6])), (r, .inr (6, [.int 0, .int 0, .ref r0, .ref r1, .ref r2, .ref r3, .ref r4, .ref r5])), (tr, .inr (7, [.int (nI i), .int 0, .int 0, .ref m0, .ref m1, .ref m2, .ref m3, .ref m4, .ref m5, .ref m6])), (m0, .inl (y 0, 9, .inl (fun _ => 0))), (m1, .inl (y 0, 9, .inl (fun _ => 0))), (m2, .inl (y 1, 9, .inr (.inl (fun _ => 0)))), (m3, .inl (y 0, 6, .inl (fun _ => 0))), (m4, .inl (y 0, 6, .inl (fun _ => 0))), (m5, .inl (y 0, 16, .inl (fun _ => 0))), (m6, .inl (y 1, 5, .inr (.inl (fun _ => 0)))), (nw, .inr (7, [.int 0, .int 0, .int 0, .ref n0, .ref n1, .ref n2, .ref n3, .ref n4, .ref n5, .ref n6])), (n0, .inl (y 0, 9, .inl (fun _ => 0))), (n1, .inl (y 0, 9, .inl (fun _ => 0))), (n2, .inl (y 1, 9, .inr (.inl (fun _ => 0)))), (n3, .inl (y 0, 6, .inl (fun _ => 0))), (n4, .inl (y 0, 6, .inl (fun _ => 0))), (n5, .inl (y 0, 16, .inl (fun _ => 0))), (n6, .inl (y 1, 5, .inr (.inl (fun _ => 0)))), (x, .inr (9, [.ref tp, .ref pi, .ref nw, .ref tr, .ref ps, .ref k, .ref k2, .ref rd, .ref pl, .int u7])), (k, .inr (2, [.int 0, .int 1, .int 1, .int 0, .ref g, .int 0, .ref vn, .ref vg, .ref t, .ref r, .int 0, .int 0, .int 9999, .int 0]))]) [] [0, 1, 2, 3, 4, 5, 6, 7, 8, 9, 10, 11, 12, 13, 14, 15, 16, 17, 18, 19, 20] rfl rfl (by decide) (by decide) (by decide) (As := [.ref k, .ref tr, .int (-1), .int 0, .int va]) (rest := []) rfl (nb rfl) rfl d_Nine_goThroughYear_68 (fun r9 _ hr9 => ?_)
      subst hr9
      refine j_ws (ws' := [(g, .inr (1, [.int 0, .ref g0, .ref g1, .ref g2, .ref g3, .ref g4, .ref g5, .ref g6])), (t, .inr (8, [.int 0, .ref t0, .ref t1, .ref t2, .ref t3, .ref t4, .ref t5, .ref t6])), (r, .inr (6, [.int 0, .int 0, .ref r0, .ref r1, .ref r2, .ref r3, .ref r4, .ref r5])), (tr, .inr (7, [.int (nI i), .int 0, .int 0, .ref m0, .ref m1, .ref m2, .ref m3, .ref m4, .ref m5, .ref m6])), (m0, .inl (y 0, 9, .inl (fun _ => 0))), (m1, .inl (y 0, 9, .inl (fun _ => 0))), (m2, .inl (y 1, 9, .inr (.inl (fun _ => 0)))), (m3, .inl (y 0, 6, .inl (fun _ => 0))), (m4, .inl (y 0, 6, .inl (fun _ => 0))), (m5, .inl (y 0, 16, .inl (fun _ => 0))), (m6, .inl (y 1, 5, .inr (.inl (fun _ => 0)))), (nw, .inr (7, [.int 0, .int 0, .int 0, .ref n0, .ref n1, .ref n2, .ref n3, .ref n4, .ref n5, .ref n6])), (n0, .inl (y 0, 9, .inl (fun _ => 0))), (n1, .inl (y 0, 9, .inl (fun _ => 0))), (n2, .inl (y 1, 9, .inr (.inl (fun _ => 0)))), (n3, .inl (y 0, 6, .inl (fun _ => 0))), (n4, .inl (y 0, 6, .inl (fun _ => 0))), (n5, .inl (y 0, 16, .inl (fun _ => 0))), (n6, .inl (y 1, 5, .inr (.inl (fun _ => 0)))), (x, .inr (9, [.ref tp, .ref pi, .ref nw, .ref tr, .ref ps, .ref k, .ref k2, .ref rd, .ref pl, .int u7])), (k, .inr (2, [.int 0, .int 1, .int 1, .int 0, .ref g, .int 0, .ref vn, .ref vg, .ref t, .ref r, .int 0, .int 0, .int 9999, .int 0]))]) rfl ?_
      refine j_st (st' := [.int 1]) rfl ?_
      refine j_istore (pc := 71) C (lv' := [(8, .int 1), (7, .int 0), (0, .ref x), (1, .int va), (2, .int (nI N)), (3, .int vc), (4, .long 0), (6, .int (nI i))]) d_Nine_goThroughYear_71 (by decide) rfl ?_
      refine j_aload_n (pc := 73) C d_Nine_goThroughYear_73 rfl 2 rfl ?_
      refine j_get (pc := 74) C gf_Nine_41 19 rfl rfl d_Nine_goThroughYear_74 ?_
      refine j_aload_n (pc := 77) C d_Nine_goThroughYear_77 rfl 2 rfl ?_
      refine j_get (pc := 78) C gf_Nine_28 19 rfl rfl d_Nine_goThroughYear_78 ?_
      refine j_iload (pc := 81) C d_Nine_goThroughYear_81 0 rfl ?_
      refine j_if_eqF (pc := 83) C (tgt := 91) d_Nine_goThroughYear_83 (by decide) (by decide) ?_
      refine j_iload (pc := 86) C d_Nine_goThroughYear_86 1 rfl ?_
      refine j_goto (pc := 88) C (tgt := 92) d_Nine_goThroughYear_88 (by decide) ?_
      refine j_callSv (pc := 92) C (c_pass l D y k g vn vg t r g0 g1 g2 g3 g4 g5 g6 t0 t1 t2 t3 t4 t5 t6 r0 r1 r2 r3 r4 r5 tr m0 m1 m2 m3 m4 m5 m6 (nI i)) kw_Nine_216 ks_Days_pass ⟨by decide, by decide⟩ ⟨by decide, by decide⟩ (wr := [(m0, .inl (y 0, 9, .inl (fun _ => 0))), (m1, .inl (y 0, 9, .inl (fun _ => 0))), (m2, .inl (y 1, 9, .inr (.inl (fun _ => 0)))), (m3, .inl (y 0, 6, .inl (fun _ => 0))), (m4, .inl (y 0, 6, .inl (fun _ => 0))), (m5, .inl (y 0, 16, .inl (fun _ => 0))), (nw, .inr (7, [.int 0, .int 0, .int 0, .ref n0, .ref n1, .ref n2, .ref n3, .ref n4, .ref n5, .ref n6])), (n0, .inl (y 0, 9, .inl (fun _ => 0))), (n1, .inl (y 0, 9, .inl (fun _ => 0))), (n2, .inl (y 1, 9, .inr (.inl (fun _ => 0)))), (n3, .inl (y 0, 6, .inl (fun _ => 0))), (n4, .inl (y 0, 6, .inl (fun _ => 0))), (n5, .inl (y 0, 16, .inl (fun _ => 0))), (n6, .inl (y 1, 5, .inr (.inl (fun _ => 0)))), (x, .inr (9, [.ref tp, .ref pi, .ref nw, .ref tr, .ref ps, .ref k, .ref k2, .ref rd, .ref pl, .int u7]))]) [20, 0, 1, 2, 3, 10] [4, 5, 6, 7, 8, 9, 11, 12, 13, 14, 15, 16, 17, 18, 19] rfl rfl (by decide) (by decide) (by decide) (As := [.ref k, .ref tr, .int 0]) (rest := []) rfl (nb rfl) rfl d_Nine_goThroughYear_92 (fun _ _ => ?_)
      refine j_ws (ws' := [(m0, .inl (y 0, 9, .inl (fun _ => 0))), (m1, .inl (y 0, 9, .inl (fun _ => 0))), (m2, .inl (y 1, 9, .inr (.inl (fun _ => 0)))), (m3, .inl (y 0, 6, .inl (fun _ => 0))), (m4, .inl (y 0, 6, .inl (fun _ => 0))), (m5, .inl (y 0, 16, .inl (fun _ => 0))), (nw, .inr (7, [.int 0, .int 0, .int 0, .ref n0, .ref n1, .ref n2, .ref n3, .ref n4, .ref n5, .ref n6])), (n0, .inl (y 0, 9, .inl (fun _ => 0))), (n1, .inl (y 0, 9, .inl (fun _ => 0))), (n2, .inl (y 1, 9, .inr (.inl (fun _ => 0)))), (n3, .inl (y 0, 6, .inl (fun _ => 0))), (n4, .inl (y 0, 6, .inl (fun _ => 0))), (n5, .inl (y 0, 16, .inl (fun _ => 0))), (n6, .inl (y 1, 5, .inr (.inl (fun _ => 0)))), (x, .inr (9, [.ref tp, .ref pi, .ref nw, .ref tr, .ref ps, .ref k, .ref k2, .ref rd, .ref pl, .int u7])), (k, .inr (2, [.int 0, .int 1, .int 1, .int 0, .ref g, .int 0, .ref vn, .ref vg, .ref t, .ref r, .int 0, .int 0, .int 9999, .int 0])), (g, .inr (1, [.int 0, .ref g0, .ref g1, .ref g2, .ref g3, .ref g4, .ref g5, .ref g6])), (t, .inr (8, [.int 0, .ref t0, .ref t1, .ref t2, .ref t3, .ref t4, .ref t5, .ref t6])), (r, .inr (6, [.int 0, .int 0, .ref r0, .ref r1, .ref r2, .ref r3, .ref r4, .ref r5])), (tr, .inr (7, [.int ((nI i) + 1), .int 0, .int 0, .ref m0, .ref m1, .ref m2, .ref m3, .ref m4, .ref m5, .ref m6])), (m6, .inl (y 1, 5, .inr (.inl (fun _ => 0))))]) rfl ?_
      refine j_ws (ws' := [(m0, .inl (y 0, 9, .inl (fun _ => 0))), (m1, .inl (y 0, 9, .inl (fun _ => 0))), (m2, .inl (y 1, 9, .inr (.inl (fun _ => 0)))), (m3, .inl (y 0, 6, .inl (fun _ => 0))), (m4, .inl (y 0, 6, .inl (fun _ => 0))), (m5, .inl (y 0, 16, .inl (fun _ => 0))), (nw, .inr (7, [.int 0, .int 0, .int 0, .ref n0, .ref n1, .ref n2, .ref n3, .ref n4, .ref n5, .ref n6])), (n0, .inl (y 0, 9, .inl (fun _ => 0))), (n1, .inl (y 0, 9, .inl (fun _ => 0))), (n2, .inl (y 1, 9, .inr (.inl (fun _ => 0)))), (n3, .inl (y 0, 6, .inl (fun _ => 0))), (n4, .inl (y 0, 6, .inl (fun _ => 0))), (n5, .inl (y 0, 16, .inl (fun _ => 0))), (n6, .inl (y 1, 5, .inr (.inl (fun _ => 0)))), (x, .inr (9, [.ref tp, .ref pi, .ref nw, .ref tr, .ref ps, .ref k, .ref k2, .ref rd, .ref pl, .int u7])), (k, .inr (2, [.int 0, .int 1, .int 1, .int 0, .ref g, .int 0, .ref vn, .ref vg, .ref t, .ref r, .int 0, .int 0, .int 9999, .int 0])), (g, .inr (1, [.int 0, .ref g0, .ref g1, .ref g2, .ref g3, .ref g4, .ref g5, .ref g6])), (t, .inr (8, [.int 0, .ref t0, .ref t1, .ref t2, .ref t3, .ref t4, .ref t5, .ref t6])), (r, .inr (6, [.int 0, .int 0, .ref r0, .ref r1, .ref r2, .ref r3, .ref r4, .ref r5])), (tr, .inr (7, [.int (nI (i + 1)), .int 0, .int 0, .ref m0, .ref m1, .ref m2, .ref m3, .ref m4, .ref m5, .ref m6])), (m6, .inl (y 1, 5, .inr (.inl (fun _ => 0))))]) (by rw [nI_1]) ?_
      refine j_iconst (pc := 95) C (v := 0) d_Nine_goThroughYear_95 (by decide) ?_
      refine j_istore (pc := 96) C (lv' := [(9, .int 0), (8, .int 1), (7, .int 0), (0, .ref x), (1, .int va), (2, .int (nI N)), (3, .int vc), (4, .long 0), (6, .int (nI i))]) d_Nine_goThroughYear_96 (by decide) rfl ?_
      refine j_iload (pc := 98) C d_Nine_goThroughYear_98 0 rfl ?_
      refine j_aload_n (pc := 100) C d_Nine_goThroughYear_100 rfl 3 rfl ?_
      refine j_get (pc := 101) C gf_Nine_41 14 rfl rfl d_Nine_goThroughYear_101 ?_
      refine j_get (pc := 104) C gf_Nine_107 15 rfl rfl d_Nine_goThroughYear_104 ?_
      refine j_icmp_geT (pc := 107) C (tgt := 132) d_Nine_goThroughYear_107 (by decide) (by decide) ?_
      refine j_iinc (pc := 132) C (v := nI (i + 1)) (lv' := [(6, .int (nI (i + 1))), (9, .int 0), (8, .int 1), (7, .int 0), (0, .ref x), (1, .int va), (2, .int (nI N)), (3, .int vc), (4, .long 0)]) d_Nine_goThroughYear_132 8 rfl (nI_1 _) (by decide) rfl ?_
      refine j_goto (pc := 135) C (tgt := 17) d_Nine_goThroughYear_135 (by decide) ?_
      refine j_sub (ws' := [(x, .inr (9, [.ref tp, .ref pi, .ref nw, .ref tr, .ref ps, .ref k, .ref k2, .ref rd, .ref pl, .int u7])), (k, .inr (2, [.int 0, .int 1, .int 1, .int 0, .ref g, .int 0, .ref vn, .ref vg, .ref t, .ref r, .int 0, .int 0, .int 9999, .int 0])), (g, .inr (1, [.int 0, .ref g0, .ref g1, .ref g2, .ref g3, .ref g4, .ref g5, .ref g6])), (t, .inr (8, [.int 0, .ref t0, .ref t1, .ref t2, .ref t3, .ref t4, .ref t5, .ref t6])), (r, .inr (6, [.int 0, .int 0, .ref r0, .ref r1, .ref r2, .ref r3, .ref r4, .ref r5])), (tr, .inr (7, [.int (nI (i + 1)), .int 0, .int 0, .ref m0, .ref m1, .ref m2, .ref m3, .ref m4, .ref m5, .ref m6])), (m0, .inl (y 0, 9, .inl (fun _ => 0))), (m1, .inl (y 0, 9, .inl (fun _ => 0))), (m2, .inl (y 1, 9, .inr (.inl (fun _ => 0)))), (m3, .inl (y 0, 6, .inl (fun _ => 0))), (m4, .inl (y 0, 6, .inl (fun _ => 0))), (m5, .inl (y 0, 16, .inl (fun _ => 0))), (m6, .inl (y 1, 5, .inr (.inl (fun _ => 0)))), (nw, .inr (7, [.int 0, .int 0, .int 0, .ref n0, .ref n1, .ref n2, .ref n3, .ref n4, .ref n5, .ref n6])), (n0, .inl (y 0, 9, .inl (fun _ => 0))), (n1, .inl (y 0, 9, .inl (fun _ => 0))), (n2, .inl (y 1, 9, .inr (.inl (fun _ => 0)))), (n3, .inl (y 0, 6, .inl (fun _ => 0))), (n4, .inl (y 0, 6, .inl (fun _ => 0))), (n5, .inl (y 0, 16, .inl (fun _ => 0))), (n6, .inl (y 1, 5, .inr (.inl (fun _ => 0))))]) [14, 15, 16, 17, 18, 19, 0, 1, 2, 3, 4, 5, 20, 6, 7, 8, 9, 10, 11, 12, 13] rfl (by decide) ?_
      refine j_locs (lv' := [(0, .ref x), (1, .int va), (2, .int (nI N)), (3, .int vc), (4, .long 0), (6, .int (nI (i + 1)))]) [4, 5, 6, 7, 8, 0] rfl ?_
      exact ih (i + 1) u7 (by omega)
    · refine j_callSi (pc := 68) C (c_allows_n l D y k g vn vg t r tr (-1) r6 va hz) kw_Nine_209 ks_Days_allows ⟨by decide, by decide⟩ ⟨by decide, by decide⟩ (wr := [(g, .inr (1, [.int 0, .ref g0, .ref g1, .ref g2, .ref g3, .ref g4, .ref g5, .ref g6])), (t, .inr (8, [.int 0, .ref t0, .ref t1, .ref t2, .ref t3, .ref t4, .ref t5, .ref t6])), (r, .inr (6, [.int 0, .int 0, .ref r0, .ref r1, .ref r2, .ref r3, .ref r4, .ref r5])), (tr, .inr (7, [.int (nI i), .int 0, .int 0, .ref m0, .ref m1, .ref m2, .ref m3, .ref m4, .ref m5, .ref m6])), (m0, .inl (y 0, 9, .inl (fun _ => 0))), (m1, .inl (y 0, 9, .inl (fun _ => 0))), (m2, .inl (y 1, 9, .inr (.inl (fun _ => 0)))), (m3, .inl (y 0, 6, .inl (fun _ => 0))), (m4, .inl (y 0, 6, .inl (fun _ => 0))), (m5, .inl (y 0, 16, .inl (fun _ => 0))), (m6, .inl (y 1, 5, .inr (.inl (fun _ => 0)))), (nw, .inr (7, [.int 0, .int 0, .int 0, .ref n0, .ref n1, .ref n2, .ref n3, .ref n4, .ref n5, .ref n6])), (n0, .inl (y 0, 9, .inl (fun _ => 0))), (n1, .inl (y 0, 9, .inl (fun _ => 0))), (n2, .inl (y 1, 9, .inr (.inl (fun _ => 0)))), (n3, .inl (y 0, 6, .inl (fun _ => 0))), (n4, .inl (y 0, 6, .inl (fun _ => 0))), (n5, .inl (y 0, 16, .inl (fun _ => 0))), (n6, .inl (y 1, 5, .inr (.inl (fun _ => 0)))), (x, .inr (9, [.ref tp, .ref pi, .ref nw, .ref tr, .ref ps, .ref k, .ref k2, .ref rd, .ref pl, .int u7]))]) [20] [0, 1, 2, 3, 4, 5, 6, 7, 8, 9, 10, 11, 12, 13, 14, 15, 16, 17, 18, 19] rfl rfl (by decide) (by decide) (by decide) (As := [.ref k, .ref tr, .int (-1), .int r6, .int va]) (rest := []) rfl (nb rfl) rfl d_Nine_goThroughYear_68 (fun r10 _ hr10 => ?_)
      subst hr10
      refine j_ws (ws' := [(g, .inr (1, [.int 0, .ref g0, .ref g1, .ref g2, .ref g3, .ref g4, .ref g5, .ref g6])), (t, .inr (8, [.int 0, .ref t0, .ref t1, .ref t2, .ref t3, .ref t4, .ref t5, .ref t6])), (r, .inr (6, [.int 0, .int 0, .ref r0, .ref r1, .ref r2, .ref r3, .ref r4, .ref r5])), (tr, .inr (7, [.int (nI i), .int 0, .int 0, .ref m0, .ref m1, .ref m2, .ref m3, .ref m4, .ref m5, .ref m6])), (m0, .inl (y 0, 9, .inl (fun _ => 0))), (m1, .inl (y 0, 9, .inl (fun _ => 0))), (m2, .inl (y 1, 9, .inr (.inl (fun _ => 0)))), (m3, .inl (y 0, 6, .inl (fun _ => 0))), (m4, .inl (y 0, 6, .inl (fun _ => 0))), (m5, .inl (y 0, 16, .inl (fun _ => 0))), (m6, .inl (y 1, 5, .inr (.inl (fun _ => 0)))), (nw, .inr (7, [.int 0, .int 0, .int 0, .ref n0, .ref n1, .ref n2, .ref n3, .ref n4, .ref n5, .ref n6])), (n0, .inl (y 0, 9, .inl (fun _ => 0))), (n1, .inl (y 0, 9, .inl (fun _ => 0))), (n2, .inl (y 1, 9, .inr (.inl (fun _ => 0)))), (n3, .inl (y 0, 6, .inl (fun _ => 0))), (n4, .inl (y 0, 6, .inl (fun _ => 0))), (n5, .inl (y 0, 16, .inl (fun _ => 0))), (n6, .inl (y 1, 5, .inr (.inl (fun _ => 0)))), (x, .inr (9, [.ref tp, .ref pi, .ref nw, .ref tr, .ref ps, .ref k, .ref k2, .ref rd, .ref pl, .int u7])), (k, .inr (2, [.int 0, .int 1, .int 1, .int 0, .ref g, .int 0, .ref vn, .ref vg, .ref t, .ref r, .int 0, .int 0, .int 9999, .int 0]))]) rfl ?_
      refine j_st (st' := [.int 0]) rfl ?_
      refine j_istore (pc := 71) C (lv' := [(8, .int 0), (7, .int r6), (0, .ref x), (1, .int va), (2, .int (nI N)), (3, .int vc), (4, .long 0), (6, .int (nI i))]) d_Nine_goThroughYear_71 (by decide) rfl ?_
      refine j_aload_n (pc := 73) C d_Nine_goThroughYear_73 rfl 2 rfl ?_
      refine j_get (pc := 74) C gf_Nine_41 19 rfl rfl d_Nine_goThroughYear_74 ?_
      refine j_aload_n (pc := 77) C d_Nine_goThroughYear_77 rfl 2 rfl ?_
      refine j_get (pc := 78) C gf_Nine_28 19 rfl rfl d_Nine_goThroughYear_78 ?_
      refine j_iload (pc := 81) C d_Nine_goThroughYear_81 0 rfl ?_
      refine j_if_eqT (pc := 83) C (tgt := 91) d_Nine_goThroughYear_83 (by decide) (by decide) ?_
      refine j_iconst (pc := 91) C (v := 0) d_Nine_goThroughYear_91 (by decide) ?_
      refine j_callSv (pc := 92) C (c_pass l D y k g vn vg t r g0 g1 g2 g3 g4 g5 g6 t0 t1 t2 t3 t4 t5 t6 r0 r1 r2 r3 r4 r5 tr m0 m1 m2 m3 m4 m5 m6 (nI i)) kw_Nine_216 ks_Days_pass ⟨by decide, by decide⟩ ⟨by decide, by decide⟩ (wr := [(m0, .inl (y 0, 9, .inl (fun _ => 0))), (m1, .inl (y 0, 9, .inl (fun _ => 0))), (m2, .inl (y 1, 9, .inr (.inl (fun _ => 0)))), (m3, .inl (y 0, 6, .inl (fun _ => 0))), (m4, .inl (y 0, 6, .inl (fun _ => 0))), (m5, .inl (y 0, 16, .inl (fun _ => 0))), (nw, .inr (7, [.int 0, .int 0, .int 0, .ref n0, .ref n1, .ref n2, .ref n3, .ref n4, .ref n5, .ref n6])), (n0, .inl (y 0, 9, .inl (fun _ => 0))), (n1, .inl (y 0, 9, .inl (fun _ => 0))), (n2, .inl (y 1, 9, .inr (.inl (fun _ => 0)))), (n3, .inl (y 0, 6, .inl (fun _ => 0))), (n4, .inl (y 0, 6, .inl (fun _ => 0))), (n5, .inl (y 0, 16, .inl (fun _ => 0))), (n6, .inl (y 1, 5, .inr (.inl (fun _ => 0)))), (x, .inr (9, [.ref tp, .ref pi, .ref nw, .ref tr, .ref ps, .ref k, .ref k2, .ref rd, .ref pl, .int u7]))]) [20, 0, 1, 2, 3, 10] [4, 5, 6, 7, 8, 9, 11, 12, 13, 14, 15, 16, 17, 18, 19] rfl rfl (by decide) (by decide) (by decide) (As := [.ref k, .ref tr, .int 0]) (rest := []) rfl (nb rfl) rfl d_Nine_goThroughYear_92 (fun _ _ => ?_)
      refine j_ws (ws' := [(m0, .inl (y 0, 9, .inl (fun _ => 0))), (m1, .inl (y 0, 9, .inl (fun _ => 0))), (m2, .inl (y 1, 9, .inr (.inl (fun _ => 0)))), (m3, .inl (y 0, 6, .inl (fun _ => 0))), (m4, .inl (y 0, 6, .inl (fun _ => 0))), (m5, .inl (y 0, 16, .inl (fun _ => 0))), (nw, .inr (7, [.int 0, .int 0, .int 0, .ref n0, .ref n1, .ref n2, .ref n3, .ref n4, .ref n5, .ref n6])), (n0, .inl (y 0, 9, .inl (fun _ => 0))), (n1, .inl (y 0, 9, .inl (fun _ => 0))), (n2, .inl (y 1, 9, .inr (.inl (fun _ => 0)))), (n3, .inl (y 0, 6, .inl (fun _ => 0))), (n4, .inl (y 0, 6, .inl (fun _ => 0))), (n5, .inl (y 0, 16, .inl (fun _ => 0))), (n6, .inl (y 1, 5, .inr (.inl (fun _ => 0)))), (x, .inr (9, [.ref tp, .ref pi, .ref nw, .ref tr, .ref ps, .ref k, .ref k2, .ref rd, .ref pl, .int u7])), (k, .inr (2, [.int 0, .int 1, .int 1, .int 0, .ref g, .int 0, .ref vn, .ref vg, .ref t, .ref r, .int 0, .int 0, .int 9999, .int 0])), (g, .inr (1, [.int 0, .ref g0, .ref g1, .ref g2, .ref g3, .ref g4, .ref g5, .ref g6])), (t, .inr (8, [.int 0, .ref t0, .ref t1, .ref t2, .ref t3, .ref t4, .ref t5, .ref t6])), (r, .inr (6, [.int 0, .int 0, .ref r0, .ref r1, .ref r2, .ref r3, .ref r4, .ref r5])), (tr, .inr (7, [.int ((nI i) + 1), .int 0, .int 0, .ref m0, .ref m1, .ref m2, .ref m3, .ref m4, .ref m5, .ref m6])), (m6, .inl (y 1, 5, .inr (.inl (fun _ => 0))))]) rfl ?_
      refine j_ws (ws' := [(m0, .inl (y 0, 9, .inl (fun _ => 0))), (m1, .inl (y 0, 9, .inl (fun _ => 0))), (m2, .inl (y 1, 9, .inr (.inl (fun _ => 0)))), (m3, .inl (y 0, 6, .inl (fun _ => 0))), (m4, .inl (y 0, 6, .inl (fun _ => 0))), (m5, .inl (y 0, 16, .inl (fun _ => 0))), (nw, .inr (7, [.int 0, .int 0, .int 0, .ref n0, .ref n1, .ref n2, .ref n3, .ref n4, .ref n5, .ref n6])), (n0, .inl (y 0, 9, .inl (fun _ => 0))), (n1, .inl (y 0, 9, .inl (fun _ => 0))), (n2, .inl (y 1, 9, .inr (.inl (fun _ => 0)))), (n3, .inl (y 0, 6, .inl (fun _ => 0))), (n4, .inl (y 0, 6, .inl (fun _ => 0))), (n5, .inl (y 0, 16, .inl (fun _ => 0))), (n6, .inl (y 1, 5, .inr (.inl (fun _ => 0)))), (x, .inr (9, [.ref tp, .ref pi, .ref nw, .ref tr, .ref ps, .ref k, .ref k2, .ref rd, .ref pl, .int u7])), (k, .inr (2, [.int 0, .int 1, .int 1, .int 0, .ref g, .int 0, .ref vn, .ref vg, .ref t, .ref r, .int 0, .int 0, .int 9999, .int 0])), (g, .inr (1, [.int 0, .ref g0, .ref g1, .ref g2, .ref g3, .ref g4, .ref g5, .ref g6])), (t, .inr (8, [.int 0, .ref t0, .ref t1, .ref t2, .ref t3, .ref t4, .ref t5, .ref t6])), (r, .inr (6, [.int 0, .int 0, .ref r0, .ref r1, .ref r2, .ref r3, .ref r4, .ref r5])), (tr, .inr (7, [.int (nI (i + 1)), .int 0, .int 0, .ref m0, .ref m1, .ref m2, .ref m3, .ref m4, .ref m5, .ref m6])), (m6, .inl (y 1, 5, .inr (.inl (fun _ => 0))))]) (by rw [nI_1]) ?_
      refine j_iconst (pc := 95) C (v := 0) d_Nine_goThroughYear_95 (by decide) ?_
      refine j_istore (pc := 96) C (lv' := [(9, .int 0), (8, .int 0), (7, .int r6), (0, .ref x), (1, .int va), (2, .int (nI N)), (3, .int vc), (4, .long 0), (6, .int (nI i))]) d_Nine_goThroughYear_96 (by decide) rfl ?_
      refine j_iload (pc := 98) C d_Nine_goThroughYear_98 0 rfl ?_
      refine j_aload_n (pc := 100) C d_Nine_goThroughYear_100 rfl 3 rfl ?_
      refine j_get (pc := 101) C gf_Nine_41 14 rfl rfl d_Nine_goThroughYear_101 ?_
      refine j_get (pc := 104) C gf_Nine_107 15 rfl rfl d_Nine_goThroughYear_104 ?_
      refine j_icmp_geT (pc := 107) C (tgt := 132) d_Nine_goThroughYear_107 (by decide) (by decide) ?_
      refine j_iinc (pc := 132) C (v := nI (i + 1)) (lv' := [(6, .int (nI (i + 1))), (9, .int 0), (8, .int 0), (7, .int r6), (0, .ref x), (1, .int va), (2, .int (nI N)), (3, .int vc), (4, .long 0)]) d_Nine_goThroughYear_132 8 rfl (nI_1 _) (by decide) rfl ?_
      refine j_goto (pc := 135) C (tgt := 17) d_Nine_goThroughYear_135 (by decide) ?_
      refine j_sub (ws' := [(x, .inr (9, [.ref tp, .ref pi, .ref nw, .ref tr, .ref ps, .ref k, .ref k2, .ref rd, .ref pl, .int u7])), (k, .inr (2, [.int 0, .int 1, .int 1, .int 0, .ref g, .int 0, .ref vn, .ref vg, .ref t, .ref r, .int 0, .int 0, .int 9999, .int 0])), (g, .inr (1, [.int 0, .ref g0, .ref g1, .ref g2, .ref g3, .ref g4, .ref g5, .ref g6])), (t, .inr (8, [.int 0, .ref t0, .ref t1, .ref t2, .ref t3, .ref t4, .ref t5, .ref t6])), (r, .inr (6, [.int 0, .int 0, .ref r0, .ref r1, .ref r2, .ref r3, .ref r4, .ref r5])), (tr, .inr (7, [.int (nI (i + 1)), .int 0, .int 0, .ref m0, .ref m1, .ref m2, .ref m3, .ref m4, .ref m5, .ref m6])), (m0, .inl (y 0, 9, .inl (fun _ => 0))), (m1, .inl (y 0, 9, .inl (fun _ => 0))), (m2, .inl (y 1, 9, .inr (.inl (fun _ => 0)))), (m3, .inl (y 0, 6, .inl (fun _ => 0))), (m4, .inl (y 0, 6, .inl (fun _ => 0))), (m5, .inl (y 0, 16, .inl (fun _ => 0))), (m6, .inl (y 1, 5, .inr (.inl (fun _ => 0)))), (nw, .inr (7, [.int 0, .int 0, .int 0, .ref n0, .ref n1, .ref n2, .ref n3, .ref n4, .ref n5, .ref n6])), (n0, .inl (y 0, 9, .inl (fun _ => 0))), (n1, .inl (y 0, 9, .inl (fun _ => 0))), (n2, .inl (y 1, 9, .inr (.inl (fun _ => 0)))), (n3, .inl (y 0, 6, .inl (fun _ => 0))), (n4, .inl (y 0, 6, .inl (fun _ => 0))), (n5, .inl (y 0, 16, .inl (fun _ => 0))), (n6, .inl (y 1, 5, .inr (.inl (fun _ => 0))))]) [14, 15, 16, 17, 18, 19, 0, 1, 2, 3, 4, 5, 20, 6, 7, 8, 9, 10, 11, 12, 13] rfl (by decide) ?_
      refine j_locs (lv' := [(0, .ref x), (1, .int va), (2, .int (nI N)), (3, .int vc), (4, .long 0), (6, .int (nI (i + 1)))]) [4, 5, 6, 7, 8, 0] rfl ?_
      exact ih (i + 1) u7 (by omega)
set_option maxHeartbeats 4000000 in
set_option maxRecDepth 100000 in
theorem c_N_year (l : Launch) (D : va_G) (y : Nat → ClassId) (x : Nat) (tp : Nat) (pi : Nat) (nw : Nat) (tr : Nat) (ps : Nat) (k : Nat) (k2 : Nat) (rd : Nat) (pl : Nat) (dr : Int32) (g : Nat) (vn : Nat) (vg : Nat) (t : Nat) (r : Nat) (g0 : Nat) (g1 : Nat) (g2 : Nat) (g3 : Nat) (g4 : Nat) (g5 : Nat) (g6 : Nat) (t0 : Nat) (t1 : Nat) (t2 : Nat) (t3 : Nat) (t4 : Nat) (t5 : Nat) (t6 : Nat) (r0 : Nat) (r1 : Nat) (r2 : Nat) (r3 : Nat) (r4 : Nat) (r5 : Nat) (dt : Int32) (m0 : Nat) (m1 : Nat) (m2 : Nat) (m3 : Nat) (m4 : Nat) (m5 : Nat) (m6 : Nat) (n0 : Nat) (n1 : Nat) (n2 : Nat) (n3 : Nat) (n4 : Nat) (n5 : Nat) (n6 : Nat) (va : Int32) (N : Nat) (vc : Int32) (hN : N ≤ 100) : CT l D y ⟨"NineBoards", "goThroughYear", "(IIZ)J"⟩ prog_1_method_44_code 10 (some .long) ({ frames := 5, cells := 0, slots := 0, locals := 117 } : Room) [.ref x, .int va, .int (nI N), .int vc] [(x, .inr (9, [.ref tp, .ref pi, .ref nw, .ref tr, .ref ps, .ref k, .ref k2, .ref rd, .ref pl, .int dr])), (k, .inr (2, [.int 0, .int 1, .int 1, .int 0, .ref g, .int 0, .ref vn, .ref vg, .ref t, .ref r, .int 0, .int 0, .int 9999, .int 0])), (g, .inr (1, [.int 0, .ref g0, .ref g1, .ref g2, .ref g3, .ref g4, .ref g5, .ref g6])), (t, .inr (8, [.int 0, .ref t0, .ref t1, .ref t2, .ref t3, .ref t4, .ref t5, .ref t6])), (r, .inr (6, [.int 0, .int 0, .ref r0, .ref r1, .ref r2, .ref r3, .ref r4, .ref r5])), (tr, .inr (7, [.int dt, .int 0, .int 0, .ref m0, .ref m1, .ref m2, .ref m3, .ref m4, .ref m5, .ref m6])), (m0, .inl (y 0, 9, .inl (fun _ => 0))), (m1, .inl (y 0, 9, .inl (fun _ => 0))), (m2, .inl (y 1, 9, .inr (.inl (fun _ => 0)))), (m3, .inl (y 0, 6, .inl (fun _ => 0))), (m4, .inl (y 0, 6, .inl (fun _ => 0))), (m5, .inl (y 0, 16, .inl (fun _ => 0))), (m6, .inl (y 1, 5, .inr (.inl (fun _ => 0)))), (nw, .inr (7, [.int 0, .int 0, .int 0, .ref n0, .ref n1, .ref n2, .ref n3, .ref n4, .ref n5, .ref n6])), (n0, .inl (y 0, 9, .inl (fun _ => 0))), (n1, .inl (y 0, 9, .inl (fun _ => 0))), (n2, .inl (y 1, 9, .inr (.inl (fun _ => 0)))), (n3, .inl (y 0, 6, .inl (fun _ => 0))), (n4, .inl (y 0, 6, .inl (fun _ => 0))), (n5, .inl (y 0, 16, .inl (fun _ => 0))), (n6, .inl (y 1, 5, .inr (.inl (fun _ => 0))))] (QL D [(x, .inr (9, [.ref tp, .ref pi, .ref nw, .ref tr, .ref ps, .ref k, .ref k2, .ref rd, .ref pl, .int dr])), (k, .inr (2, [.int 0, .int 1, .int 1, .int 0, .ref g, .int 0, .ref vn, .ref vg, .ref t, .ref r, .int 0, .int 0, .int 9999, .int 0])), (g, .inr (1, [.int 0, .ref g0, .ref g1, .ref g2, .ref g3, .ref g4, .ref g5, .ref g6])), (t, .inr (8, [.int 0, .ref t0, .ref t1, .ref t2, .ref t3, .ref t4, .ref t5, .ref t6])), (r, .inr (6, [.int 0, .int 0, .ref r0, .ref r1, .ref r2, .ref r3, .ref r4, .ref r5])), (tr, .inr (7, [.int dt, .int 0, .int 0, .ref m0, .ref m1, .ref m2, .ref m3, .ref m4, .ref m5, .ref m6])), (m0, .inl (y 0, 9, .inl (fun _ => 0))), (m1, .inl (y 0, 9, .inl (fun _ => 0))), (m2, .inl (y 1, 9, .inr (.inl (fun _ => 0)))), (m3, .inl (y 0, 6, .inl (fun _ => 0))), (m4, .inl (y 0, 6, .inl (fun _ => 0))), (m5, .inl (y 0, 16, .inl (fun _ => 0))), (m6, .inl (y 1, 5, .inr (.inl (fun _ => 0)))), (nw, .inr (7, [.int 0, .int 0, .int 0, .ref n0, .ref n1, .ref n2, .ref n3, .ref n4, .ref n5, .ref n6])), (n0, .inl (y 0, 9, .inl (fun _ => 0))), (n1, .inl (y 0, 9, .inl (fun _ => 0))), (n2, .inl (y 1, 9, .inr (.inl (fun _ => 0)))), (n3, .inl (y 0, 6, .inl (fun _ => 0))), (n4, .inl (y 0, 6, .inl (fun _ => 0))), (n5, .inl (y 0, 16, .inl (fun _ => 0))), (n6, .inl (y 1, 5, .inr (.inl (fun _ => 0))))] (fun (r : Int64) (u : Int32 × Int32) => r = 0) (fun u => [(x, .inr (9, [.ref tp, .ref pi, .ref nw, .ref tr, .ref ps, .ref k, .ref k2, .ref rd, .ref pl, .int u.1])), (k, .inr (2, [.int 0, .int 1, .int 1, .int 0, .ref g, .int 0, .ref vn, .ref vg, .ref t, .ref r, .int 0, .int 0, .int 9999, .int 0])), (g, .inr (1, [.int 0, .ref g0, .ref g1, .ref g2, .ref g3, .ref g4, .ref g5, .ref g6])), (t, .inr (8, [.int 0, .ref t0, .ref t1, .ref t2, .ref t3, .ref t4, .ref t5, .ref t6])), (r, .inr (6, [.int 0, .int 0, .ref r0, .ref r1, .ref r2, .ref r3, .ref r4, .ref r5])), (tr, .inr (7, [.int u.2, .int 0, .int 0, .ref m0, .ref m1, .ref m2, .ref m3, .ref m4, .ref m5, .ref m6])), (m0, .inl (y 0, 9, .inl (fun _ => 0))), (m1, .inl (y 0, 9, .inl (fun _ => 0))), (m2, .inl (y 1, 9, .inr (.inl (fun _ => 0)))), (m3, .inl (y 0, 6, .inl (fun _ => 0))), (m4, .inl (y 0, 6, .inl (fun _ => 0))), (m5, .inl (y 0, 16, .inl (fun _ => 0))), (m6, .inl (y 1, 5, .inr (.inl (fun _ => 0)))), (nw, .inr (7, [.int 0, .int 0, .int 0, .ref n0, .ref n1, .ref n2, .ref n3, .ref n4, .ref n5, .ref n6])), (n0, .inl (y 0, 9, .inl (fun _ => 0))), (n1, .inl (y 0, 9, .inl (fun _ => 0))), (n2, .inl (y 1, 9, .inr (.inl (fun _ => 0)))), (n3, .inl (y 0, 6, .inl (fun _ => 0))), (n4, .inl (y 0, 6, .inl (fun _ => 0))), (n5, .inl (y 0, 16, .inl (fun _ => 0))), (n6, .inl (y 1, 5, .inr (.inl (fun _ => 0))))])) := by
  refine CT.of (by decide) (nb rfl) ?_
  intro p e s m args below meth c C hr
  refine j_lv (lv' := [(0, .ref x), (1, .int va), (2, .int (nI N)), (3, .int vc)]) rfl ?_
  refine j_lconst (pc := 0) C (v := 0) d_Nine_goThroughYear_0 (by decide) ?_
  refine j_lstore (pc := 1) C (lv' := [(4, .long 0), (0, .ref x), (1, .int va), (2, .int (nI N)), (3, .int vc)]) d_Nine_goThroughYear_1 (by decide) rfl ?_
  refine j_aload_n (pc := 3) C d_Nine_goThroughYear_3 rfl 1 rfl ?_
  refine j_get (pc := 4) C gf_Nine_28 0 rfl rfl d_Nine_goThroughYear_4 ?_
  refine j_aload_n (pc := 7) C d_Nine_goThroughYear_7 rfl 1 rfl ?_
  refine j_get (pc := 8) C gf_Nine_24 0 rfl rfl d_Nine_goThroughYear_8 ?_
  refine j_callVv (pc := 11) C (c_take l D y tr m0 m1 m2 m3 m4 m5 m6 dt nw n0 n1 n2 n3 n4 n5 n6 0) kw_Nine_160 kv_State_take 0 7 rfl rfl ⟨by decide, by decide⟩ ⟨by decide, by decide⟩ (wr := [(x, .inr (9, [.ref tp, .ref pi, .ref nw, .ref tr, .ref ps, .ref k, .ref k2, .ref rd, .ref pl, .int dr])), (k, .inr (2, [.int 0, .int 1, .int 1, .int 0, .ref g, .int 0, .ref vn, .ref vg, .ref t, .ref r, .int 0, .int 0, .int 9999, .int 0])), (g, .inr (1, [.int 0, .ref g0, .ref g1, .ref g2, .ref g3, .ref g4, .ref g5, .ref g6])), (t, .inr (8, [.int 0, .ref t0, .ref t1, .ref t2, .ref t3, .ref t4, .ref t5, .ref t6])), (r, .inr (6, [.int 0, .int 0, .ref r0, .ref r1, .ref r2, .ref r3, .ref r4, .ref r5]))]) [5, 6, 7, 8, 9, 10, 11, 12, 13, 14, 15, 16, 17, 18, 19, 20] [0, 1, 2, 3, 4] rfl rfl (by decide) (by decide) (by decide) (As := [.ref nw]) (rest := []) rfl (nb rfl) rfl d_Nine_goThroughYear_11 (fun _ _ => ?_)
  refine j_ws (ws' := [(x, .inr (9, [.ref tp, .ref pi, .ref nw, .ref tr, .ref ps, .ref k, .ref k2, .ref rd, .ref pl, .int dr])), (k, .inr (2, [.int 0, .int 1, .int 1, .int 0, .ref g, .int 0, .ref vn, .ref vg, .ref t, .ref r, .int 0, .int 0, .int 9999, .int 0])), (g, .inr (1, [.int 0, .ref g0, .ref g1, .ref g2, .ref g3, .ref g4, .ref g5, .ref g6])), (t, .inr (8, [.int 0, .ref t0, .ref t1, .ref t2, .ref t3, .ref t4, .ref t5, .ref t6])), (r, .inr (6, [.int 0, .int 0, .ref r0, .ref r1, .ref r2, .ref r3, .ref r4, .ref r5])), (tr, .inr (7, [.int 0, .int 0, .int 0, .ref m0, .ref m1, .ref m2, .ref m3, .ref m4, .ref m5, .ref m6])), (m0, .inl (y 0, 9, .inl (fun _ => 0))), (m1, .inl (y 0, 9, .inl (fun _ => 0))), (m2, .inl (y 1, 9, .inr (.inl (fun _ => 0)))), (m3, .inl (y 0, 6, .inl (fun _ => 0))), (m4, .inl (y 0, 6, .inl (fun _ => 0))), (m5, .inl (y 0, 16, .inl (fun _ => 0))), (m6, .inl (y 1, 5, .inr (.inl (fun _ => 0)))), (nw, .inr (7, [.int 0, .int 0, .int 0, .ref n0, .ref n1, .ref n2, .ref n3, .ref n4, .ref n5, .ref n6])), (n0, .inl (y 0, 9, .inl (fun _ => 0))), (n1, .inl (y 0, 9, .inl (fun _ => 0))), (n2, .inl (y 1, 9, .inr (.inl (fun _ => 0)))), (n3, .inl (y 0, 6, .inl (fun _ => 0))), (n4, .inl (y 0, 6, .inl (fun _ => 0))), (n5, .inl (y 0, 16, .inl (fun _ => 0))), (n6, .inl (y 1, 5, .inr (.inl (fun _ => 0))))]) rfl ?_
  refine j_iconst (pc := 14) C (v := 0) d_Nine_goThroughYear_14 (by decide) ?_
  refine j_istore (pc := 15) C (lv' := [(6, .int 0), (4, .long 0), (0, .ref x), (1, .int va), (2, .int (nI N)), (3, .int vc)]) d_Nine_goThroughYear_15 (by decide) rfl ?_
  refine j_locs (lv' := [(0, .ref x), (1, .int va), (2, .int (nI N)), (3, .int vc), (4, .long 0), (6, .int 0)]) [2, 3, 4, 5, 1, 0] rfl ?_
  refine lp_year C x tp pi nw tr ps k k2 rd pl g vn vg t r g0 g1 g2 g3 g4 g5 g6 t0 t1 t2 t3 t4 t5 t6 r0 r1 r2 r3 r4 r5 m0 m1 m2 m3 m4 m5 m6 n0 n1 n2 n3 n4 n5 n6 va vc N hN (fun dr => ?_) N 0 dr (by omega)
  refine j_iload_n (pc := 138) C d_Nine_goThroughYear_138 rfl 3 rfl ?_
  refine j_if_eq (pc := 139) C (tgt := 147) d_Nine_goThroughYear_139 (by decide) (fun c1 => ?_) (fun c1 => ?_)
  · refine j_aload_n (pc := 147) C d_Nine_goThroughYear_147 rfl 0 rfl ?_
    refine j_get (pc := 148) C gf_Nine_28 0 rfl rfl d_Nine_goThroughYear_148 ?_
    refine j_get (pc := 151) C gf_Nine_179 5 rfl rfl d_Nine_goThroughYear_151 ?_
    refine j_iconst (pc := 154) C (v := 2) d_Nine_goThroughYear_154 (by decide) ?_
    refine j_lald (pc := 155) C 12 rfl (v := 0) (vin (by decide)) rfl d_Nine_goThroughYear_155 ?_
    refine j_aload_n (pc := 156) C d_Nine_goThroughYear_156 rfl 0 rfl ?_
    refine j_get (pc := 157) C gf_Nine_24 0 rfl rfl d_Nine_goThroughYear_157 ?_
    refine j_get (pc := 160) C gf_Nine_179 13 rfl rfl d_Nine_goThroughYear_160 ?_
    refine j_iconst (pc := 163) C (v := 2) d_Nine_goThroughYear_163 (by decide) ?_
    refine j_lald (pc := 164) C 20 rfl (v := 0) (vin (by decide)) rfl d_Nine_goThroughYear_164 ?_
    refine j_lsub (pc := 165) C (v := 0) d_Nine_goThroughYear_165 (by decide) ?_
    exact j_lret (pc := 166) C hr (dr, nI N) rfl [0, 1, 2, 3, 4, 5, 6, 7, 8, 9, 10, 11, 12, 13, 14, 15, 16, 17, 18, 19, 20] rfl (by decide) (by decide) (by decide) d_Nine_goThroughYear_166
  · refine j_lload (pc := 142) C d_Nine_goThroughYear_142 4 rfl ?_
    refine j_goto (pc := 144) C (tgt := 166) d_Nine_goThroughYear_144 (by decide) ?_
    exact j_lret (pc := 166) C hr (dr, nI N) rfl [0, 1, 2, 3, 4, 5, 6, 7, 8, 9, 10, 11, 12, 13, 14, 15, 16, 17, 18, 19, 20] rfl (by decide) (by decide) (by decide) d_Nine_goThroughYear_166
theorem d_Nine_years_89 : decode prog_1_method_31_code 89 = .ok (.iload 9, 2) := by decide +kernel
theorem d_Nine_years_91 : decode prog_1_method_31_code 91 = .ok (.iload_n 2, 1) := by decide +kernel
theorem d_Nine_years_92 : decode prog_1_method_31_code 92 = .ok (.if_icmp .ge 30, 3) := by decide +kernel
theorem d_Nine_years_95 : decode prog_1_method_31_code 95 = .ok (.lload 7, 2) := by decide +kernel
theorem d_Nine_years_97 : decode prog_1_method_31_code 97 = .ok (.aload_n 0, 1) := by decide +kernel
theorem d_Nine_years_98 : decode prog_1_method_31_code 98 = .ok (.iload_n 1, 1) := by decide +kernel
theorem d_Nine_years_99 : decode prog_1_method_31_code 99 = .ok (.iload_n 3, 1) := by decide +kernel
theorem d_Nine_years_100 : decode prog_1_method_31_code 100 = .ok (.iload 4, 2) := by decide +kernel
theorem d_Nine_years_102 : decode prog_1_method_31_code 102 = .ok (.ifCond .ne 7, 3) := by decide +kernel
theorem d_Nine_years_109 : decode prog_1_method_31_code 109 = .ok (.iconst 0, 1) := by decide +kernel
theorem d_Nine_years_110 : decode prog_1_method_31_code 110 = .ok (.invokevirtual 301, 3) := by decide +kernel
theorem kw_Nine_301 : KW "NineBoards" 301 ⟨"NineBoards", "goThroughYear", "(IIZ)J"⟩ prog_1_method_44_code 10 (some .long) 3 := ⟨(mt_5 (List.mem_of_getElem? (i := 48) rfl) rfl), (mt_1 (List.mem_of_getElem? (i := 1) rfl) rfl), (mt_5 (List.mem_of_getElem? (i := 51) rfl) rfl), by decide +kernel⟩
theorem kv_Nine_goThroughYear : Cond.instanceMethod ⟨"NineBoards", "goThroughYear", "(IIZ)J"⟩ ∈ TB ∧ Cond.selects "NineBoards" ⟨"NineBoards", "goThroughYear", "(IIZ)J"⟩ ⟨"NineBoards", "goThroughYear", "(IIZ)J"⟩ ∈ TB := ⟨(mt_5 (List.mem_of_getElem? (i := 50) rfl) rfl), (ms_0 (List.mem_map.mpr ⟨(⟨"NineBoards", "goThroughYear", "(IIZ)J"⟩, 10), List.mem_of_getElem? (i := 46) (by decide +kernel), rfl⟩) rfl)⟩
theorem d_Nine_years_113 : decode prog_1_method_31_code 113 = .ok (.ladd, 1) := by decide +kernel
theorem d_Nine_years_114 : decode prog_1_method_31_code 114 = .ok (.lstore 7, 2) := by decide +kernel
theorem d_Nine_years_116 : decode prog_1_method_31_code 116 = .ok (.iinc 9 1, 3) := by decide +kernel
theorem d_Nine_years_119 : decode prog_1_method_31_code 119 = .ok (.goto (-30), 3) := by decide +kernel
theorem d_Nine_years_105 : decode prog_1_method_31_code 105 = .ok (.iconst 1, 1) := by decide +kernel
theorem d_Nine_years_106 : decode prog_1_method_31_code 106 = .ok (.goto 4, 3) := by decide +kernel
theorem d_Nine_years_0 : decode prog_1_method_31_code 0 = .ok (.iload_n 1, 1) := by decide +kernel
theorem d_Nine_years_1 : decode prog_1_method_31_code 1 = .ok (.ifCond .lt 23, 3) := by decide +kernel
theorem d_Nine_years_24 : decode prog_1_method_31_code 24 = .ok (.iconst 0, 1) := by decide +kernel
theorem d_Nine_years_25 : decode prog_1_method_31_code 25 = .ok (.istore 5, 2) := by decide +kernel
theorem d_Nine_years_27 : decode prog_1_method_31_code 27 = .ok (.iload_n 2, 1) := by decide +kernel
theorem d_Nine_years_28 : decode prog_1_method_31_code 28 = .ok (.iconst 1, 1) := by decide +kernel
theorem d_Nine_years_29 : decode prog_1_method_31_code 29 = .ok (.if_icmp .lt 24, 3) := by decide +kernel
theorem d_Nine_years_53 : decode prog_1_method_31_code 53 = .ok (.iconst 0, 1) := by decide +kernel
theorem d_Nine_years_54 : decode prog_1_method_31_code 54 = .ok (.istore 6, 2) := by decide +kernel
theorem d_Nine_years_56 : decode prog_1_method_31_code 56 = .ok (.iload 5, 2) := by decide +kernel
theorem d_Nine_years_58 : decode prog_1_method_31_code 58 = .ok (.ifCond .eq 21, 3) := by decide +kernel
theorem d_Nine_years_79 : decode prog_1_method_31_code 79 = .ok (.ldc2_w 299, 3) := by decide +kernel
theorem d_Nine_years_82 : decode prog_1_method_31_code 82 = .ok (.lreturn, 1) := by decide +kernel
theorem d_Nine_years_32 : decode prog_1_method_31_code 32 = .ok (.iload_n 2, 1) := by decide +kernel
theorem d_Nine_years_33 : decode prog_1_method_31_code 33 = .ok (.bipush 20, 2) := by decide +kernel
theorem d_Nine_years_35 : decode prog_1_method_31_code 35 = .ok (.if_icmp .gt 18, 3) := by decide +kernel
theorem d_Nine_years_38 : decode prog_1_method_31_code 38 = .ok (.iload_n 3, 1) := by decide +kernel
theorem d_Nine_years_39 : decode prog_1_method_31_code 39 = .ok (.iconst 1, 1) := by decide +kernel
theorem d_Nine_years_40 : decode prog_1_method_31_code 40 = .ok (.if_icmp .lt 13, 3) := by decide +kernel
theorem d_Nine_years_43 : decode prog_1_method_31_code 43 = .ok (.iload_n 3, 1) := by decide +kernel
theorem d_Nine_years_44 : decode prog_1_method_31_code 44 = .ok (.bipush 100, 2) := by decide +kernel
theorem d_Nine_years_46 : decode prog_1_method_31_code 46 = .ok (.if_icmp .gt 7, 3) := by decide +kernel
theorem d_Nine_years_49 : decode prog_1_method_31_code 49 = .ok (.iconst 1, 1) := by decide +kernel
theorem d_Nine_years_50 : decode prog_1_method_31_code 50 = .ok (.goto 4, 3) := by decide +kernel
theorem d_Nine_years_4 : decode prog_1_method_31_code 4 = .ok (.iload_n 1, 1) := by decide +kernel
theorem d_Nine_years_5 : decode prog_1_method_31_code 5 = .ok (.iconst 3, 1) := by decide +kernel
theorem d_Nine_years_6 : decode prog_1_method_31_code 6 = .ok (.if_icmp .gt 18, 3) := by decide +kernel
theorem d_Nine_years_9 : decode prog_1_method_31_code 9 = .ok (.iload 4, 2) := by decide +kernel
theorem d_Nine_years_11 : decode prog_1_method_31_code 11 = .ok (.ifCond .lt 13, 3) := by decide +kernel
theorem d_Nine_years_14 : decode prog_1_method_31_code 14 = .ok (.iload 4, 2) := by decide +kernel
theorem d_Nine_years_16 : decode prog_1_method_31_code 16 = .ok (.iconst 1, 1) := by decide +kernel
theorem d_Nine_years_17 : decode prog_1_method_31_code 17 = .ok (.if_icmp .gt 7, 3) := by decide +kernel
theorem d_Nine_years_20 : decode prog_1_method_31_code 20 = .ok (.iconst 1, 1) := by decide +kernel
theorem d_Nine_years_21 : decode prog_1_method_31_code 21 = .ok (.goto 4, 3) := by decide +kernel
theorem d_Nine_years_61 : decode prog_1_method_31_code 61 = .ok (.iload 6, 2) := by decide +kernel
theorem d_Nine_years_63 : decode prog_1_method_31_code 63 = .ok (.ifCond .eq 16, 3) := by decide +kernel
theorem d_Nine_years_66 : decode prog_1_method_31_code 66 = .ok (.aload_n 0, 1) := by decide +kernel
theorem d_Nine_years_67 : decode prog_1_method_31_code 67 = .ok (.getfield 24, 3) := by decide +kernel
theorem d_Nine_years_70 : decode prog_1_method_31_code 70 = .ok (.getfield 124, 3) := by decide +kernel
theorem d_Nine_years_73 : decode prog_1_method_31_code 73 = .ok (.sipush 999, 3) := by decide +kernel
theorem d_Nine_years_76 : decode prog_1_method_31_code 76 = .ok (.if_icmp .lt 7, 3) := by decide +kernel
theorem d_Nine_years_83 : decode prog_1_method_31_code 83 = .ok (.lconst 0, 1) := by decide +kernel
theorem d_Nine_years_84 : decode prog_1_method_31_code 84 = .ok (.lstore 7, 2) := by decide +kernel
theorem d_Nine_years_86 : decode prog_1_method_31_code 86 = .ok (.iconst 0, 1) := by decide +kernel
theorem d_Nine_years_87 : decode prog_1_method_31_code 87 = .ok (.istore 9, 2) := by decide +kernel
theorem d_Nine_years_122 : decode prog_1_method_31_code 122 = .ok (.lload 7, 2) := by decide +kernel
theorem d_Nine_years_124 : decode prog_1_method_31_code 124 = .ok (.lreturn, 1) := by decide +kernel
set_option maxHeartbeats 4000000 in
set_option maxRecDepth 100000 in
theorem lp_years {p : Program} {l : Launch} {e : Env} {s : State} {m : MethodId} {args : Array Value} {below : List Frame} {meth : Method} {c : Code} {Q : State → Prop} {D : va_G} {y : Nat → ClassId} {A : Nat → Prop} (C : Cx p s m args meth c D y A prog_1_method_31_code 10 "NineBoards" "years") (x : Nat) (tp : Nat) (pi : Nat) (nw : Nat) (tr : Nat) (ps : Nat) (k : Nat) (k2 : Nat) (rd : Nat) (pl : Nat) (g : Nat) (vn : Nat) (vg : Nat) (t : Nat) (r : Nat) (g0 : Nat) (g1 : Nat) (g2 : Nat) (g3 : Nat) (g4 : Nat) (g5 : Nat) (g6 : Nat) (t0 : Nat) (t1 : Nat) (t2 : Nat) (t3 : Nat) (t4 : Nat) (t5 : Nat) (t6 : Nat) (r0 : Nat) (r1 : Nat) (r2 : Nat) (r3 : Nat) (r4 : Nat) (r5 : Nat) (m0 : Nat) (m1 : Nat) (m2 : Nat) (m3 : Nat) (m4 : Nat) (m5 : Nat) (m6 : Nat) (n0 : Nat) (n1 : Nat) (n2 : Nat) (n3 : Nat) (n4 : Nat) (n5 : Nat) (n6 : Nat) (va : Int32) (vd : Int32) (N : Nat) (hN : N ≤ 100) (M : Nat) (hM : M ≤ 20) (kx : ∀ dr dt : Int32, J p l e ({ frames := 6, cells := 0, slots := 0, locals := 146 } : Room) s m args below meth c Q D A 10 [(x, .inr (9, [.ref tp, .ref pi, .ref nw, .ref tr, .ref ps, .ref k, .ref k2, .ref rd, .ref pl, .int dr])), (k, .inr (2, [.int 0, .int 1, .int 1, .int 0, .ref g, .int 0, .ref vn, .ref vg, .ref t, .ref r, .int 0, .int 0, .int 9999, .int 0])), (g, .inr (1, [.int 0, .ref g0, .ref g1, .ref g2, .ref g3, .ref g4, .ref g5, .ref g6])), (t, .inr (8, [.int 0, .ref t0, .ref t1, .ref t2, .ref t3, .ref t4, .ref t5, .ref t6])), (r, .inr (6, [.int 0, .int 0, .ref r0, .ref r1, .ref r2, .ref r3, .ref r4, .ref r5])), (tr, .inr (7, [.int dt, .int 0, .int 0, .ref m0, .ref m1, .ref m2, .ref m3, .ref m4, .ref m5, .ref m6])), (m0, .inl (y 0, 9, .inl (fun _ => 0))), (m1, .inl (y 0, 9, .inl (fun _ => 0))), (m2, .inl (y 1, 9, .inr (.inl (fun _ => 0)))), (m3, .inl (y 0, 6, .inl (fun _ => 0))), (m4, .inl (y 0, 6, .inl (fun _ => 0))), (m5, .inl (y 0, 16, .inl (fun _ => 0))), (m6, .inl (y 1, 5, .inr (.inl (fun _ => 0)))), (nw, .inr (7, [.int 0, .int 0, .int 0, .ref n0, .ref n1, .ref n2, .ref n3, .ref n4, .ref n5, .ref n6])), (n0, .inl (y 0, 9, .inl (fun _ => 0))), (n1, .inl (y 0, 9, .inl (fun _ => 0))), (n2, .inl (y 1, 9, .inr (.inl (fun _ => 0)))), (n3, .inl (y 0, 6, .inl (fun _ => 0))), (n4, .inl (y 0, 6, .inl (fun _ => 0))), (n5, .inl (y 0, 16, .inl (fun _ => 0))), (n6, .inl (y 1, 5, .inr (.inl (fun _ => 0))))] [(0, .ref x), (1, .int va), (2, .int (nI M)), (3, .int (nI N)), (4, .int vd), (7, .long 0), (9, .int (nI M))] 0 0 122 []) : ∀ (n : Nat) (i : Nat) (dr : Int32) (dt : Int32), (i + n = M) → J p l e ({ frames := 6, cells := 0, slots := 0, locals := 146 } : Room) s m args below meth c Q D A 10 [(x, .inr (9, [.ref tp, .ref pi, .ref nw, .ref tr, .ref ps, .ref k, .ref k2, .ref rd, .ref pl, .int dr])), (k, .inr (2, [.int 0, .int 1, .int 1, .int 0, .ref g, .int 0, .ref vn, .ref vg, .ref t, .ref r, .int 0, .int 0, .int 9999, .int 0])), (g, .inr (1, [.int 0, .ref g0, .ref g1, .ref g2, .ref g3, .ref g4, .ref g5, .ref g6])), (t, .inr (8, [.int 0, .ref t0, .ref t1, .ref t2, .ref t3, .ref t4, .ref t5, .ref t6])), (r, .inr (6, [.int 0, .int 0, .ref r0, .ref r1, .ref r2, .ref r3, .ref r4, .ref r5])), (tr, .inr (7, [.int dt, .int 0, .int 0, .ref m0, .ref m1, .ref m2, .ref m3, .ref m4, .ref m5, .ref m6])), (m0, .inl (y 0, 9, .inl (fun _ => 0))), (m1, .inl (y 0, 9, .inl (fun _ => 0))), (m2, .inl (y 1, 9, .inr (.inl (fun _ => 0)))), (m3, .inl (y 0, 6, .inl (fun _ => 0))), (m4, .inl (y 0, 6, .inl (fun _ => 0))), (m5, .inl (y 0, 16, .inl (fun _ => 0))), (m6, .inl (y 1, 5, .inr (.inl (fun _ => 0)))), (nw, .inr (7, [.int 0, .int 0, .int 0, .ref n0, .ref n1, .ref n2, .ref n3, .ref n4, .ref n5, .ref n6])), (n0, .inl (y 0, 9, .inl (fun _ => 0))), (n1, .inl (y 0, 9, .inl (fun _ => 0))), (n2, .inl (y 1, 9, .inr (.inl (fun _ => 0)))), (n3, .inl (y 0, 6, .inl (fun _ => 0))), (n4, .inl (y 0, 6, .inl (fun _ => 0))), (n5, .inl (y 0, 16, .inl (fun _ => 0))), (n6, .inl (y 1, 5, .inr (.inl (fun _ => 0))))] [(0, .ref x), (1, .int va), (2, .int (nI M)), (3, .int (nI N)), (4, .int vd), (7, .long 0), (9, .int (nI i))] 0 0 89 [] := by
  intro n
  induction n with
  | zero =>
    intro i dr dt hi
    obtain rfl : i = M := by omega
    refine j_iload (pc := 89) C d_Nine_years_89 6 rfl ?_
    refine j_iload_n (pc := 91) C d_Nine_years_91 rfl 2 rfl ?_
    refine j_icmp_geT (pc := 92) C (tgt := 122) d_Nine_years_92 (by decide) (Int32.le_refl _) ?_
    exact kx dr dt
  | succ n ih =>
    intro i dr dt hi
    refine j_iload (pc := 89) C d_Nine_years_89 6 rfl ?_
    refine j_iload_n (pc := 91) C d_Nine_years_91 rfl 2 rfl ?_
    refine j_icmp_geF (pc := 92) C (tgt := 122) d_Nine_years_92 (by decide) (nI_ge (by omega) (by omega)) ?_
    refine j_lload (pc := 95) C d_Nine_years_95 5 rfl ?_
    refine j_aload_n (pc := 97) C d_Nine_years_97 rfl 0 rfl ?_
    refine j_iload_n (pc := 98) C d_Nine_years_98 rfl 1 rfl ?_
    refine j_iload_n (pc := 99) C d_Nine_years_99 rfl 3 rfl ?_
    refine j_iload (pc := 100) C d_Nine_years_100 4 rfl ?_
    refine j_if_ne (pc := 102) C (tgt := 109) d_Nine_years_102 (by decide) (fun c1 => ?_) (fun c1 => ?_)
    · refine j_iconst (pc := 109) C (v := 0) d_Nine_years_109 (by decide) ?_
      refine j_callVl (pc := 110) C (c_N_year l D y x tp pi nw tr ps k k2 rd pl dr g vn vg t r g0 g1 g2 g3 g4 g5 g6 t0 t1 t2 t3 t4 t5 t6 r0 r1 r2 r3 r4 r5 dt m0 m1 m2 m3 m4 m5 m6 n0 n1 n2 n3 n4 n5 n6 va N 0 hN) kw_Nine_301 kv_Nine_goThroughYear 0 9 rfl rfl ⟨by decide, by decide⟩ ⟨by decide, by decide⟩ (wr := []) [0, 1, 2, 3, 4, 5, 6, 7, 8, 9, 10, 11, 12, 13, 14, 15, 16, 17, 18, 19, 20] [] rfl rfl (by decide) (by decide) (by decide) (As := [.int va, .int (nI N), .int 0]) (rest := [.long 0]) rfl (nb rfl) rfl d_Nine_years_110 (fun r6 u7 hr6 => ?_)
      subst hr6
      refine j_ws (ws' := [(x, .inr (9, [.ref tp, .ref pi, .ref nw, .ref tr, .ref ps, .ref k, .ref k2, .ref rd, .ref pl, .int u7.1])), (k, .inr (2, [.int 0, .int 1, .int 1, .int 0, .ref g, .int 0, .ref vn, .ref vg, .ref t, .ref r, .int 0, .int 0, .int 9999, .int 0])), (g, .inr (1, [.int 0, .ref g0, .ref g1, .ref g2, .ref g3, .ref g4, .ref g5, .ref g6])), (t, .inr (8, [.int 0, .ref t0, .ref t1, .ref t2, .ref t3, .ref t4, .ref t5, .ref t6])), (r, .inr (6, [.int 0, .int 0, .ref r0, .ref r1, .ref r2, .ref r3, .ref r4, .ref r5])), (tr, .inr (7, [.int u7.2, .int 0, .int 0, .ref m0, .ref m1, .ref m2, .ref m3, .ref m4, .ref m5, .ref m6])), (m0, .inl (y 0, 9, .inl (fun _ => 0))), (m1, .inl (y 0, 9, .inl (fun _ => 0))), (m2, .inl (y 1, 9, .inr (.inl (fun _ => 0)))), (m3, .inl (y 0, 6, .inl (fun _ => 0))), (m4, .inl (y 0, 6, .inl (fun _ => 0))), (m5, .inl (y 0, 16, .inl (fun _ => 0))), (m6, .inl (y 1, 5, .inr (.inl (fun _ => 0)))), (nw, .inr (7, [.int 0, .int 0, .int 0, .ref n0, .ref n1, .ref n2, .ref n3, .ref n4, .ref n5, .ref n6])), (n0, .inl (y 0, 9, .inl (fun _ => 0))), (n1, .inl (y 0, 9, .inl (fun _ => 0))), (n2, .inl (y 1, 9, .inr (.inl (fun _ => 0)))), (n3, .inl (y 0, 6, .inl (fun _ => 0))), (n4, .inl (y 0, 6, .inl (fun _ => 0))), (n5, .inl (y 0, 16, .inl (fun _ => 0))), (n6, .inl (y 1, 5, .inr (.inl (fun _ => 0))))]) rfl ?_
      refine j_ladd (pc := 113) C (v := 0) d_Nine_years_113 (by decide) ?_
      refine j_lstore (pc := 114) C (lv' := [(7, .long 0), (0, .ref x), (1, .int va), (2, .int (nI M)), (3, .int (nI N)), (4, .int vd), (9, .int (nI i))]) d_Nine_years_114 (by decide) rfl ?_
      refine j_iinc (pc := 116) C (v := nI (i + 1)) (lv' := [(9, .int (nI (i + 1))), (7, .long 0), (0, .ref x), (1, .int va), (2, .int (nI M)), (3, .int (nI N)), (4, .int vd)]) d_Nine_years_116 6 rfl (nI_1 _) (by decide) rfl ?_
      refine j_goto (pc := 119) C (tgt := 89) d_Nine_years_119 (by decide) ?_
      refine j_locs (lv' := [(0, .ref x), (1, .int va), (2, .int (nI M)), (3, .int (nI N)), (4, .int vd), (7, .long 0), (9, .int (nI (i + 1)))]) [2, 3, 4, 5, 6, 1, 0] rfl ?_
      exact ih (i + 1) u7.1 u7.2 (by omega)
    · refine j_iconst (pc := 105) C (v := 1) d_Nine_years_105 (by decide) ?_
      refine j_goto (pc := 106) C (tgt := 110) d_Nine_years_106 (by decide) ?_
      refine j_callVl (pc := 110) C (c_N_year l D y x tp pi nw tr ps k k2 rd pl dr g vn vg t r g0 g1 g2 g3 g4 g5 g6 t0 t1 t2 t3 t4 t5 t6 r0 r1 r2 r3 r4 r5 dt m0 m1 m2 m3 m4 m5 m6 n0 n1 n2 n3 n4 n5 n6 va N 1 hN) kw_Nine_301 kv_Nine_goThroughYear 0 9 rfl rfl ⟨by decide, by decide⟩ ⟨by decide, by decide⟩ (wr := []) [0, 1, 2, 3, 4, 5, 6, 7, 8, 9, 10, 11, 12, 13, 14, 15, 16, 17, 18, 19, 20] [] rfl rfl (by decide) (by decide) (by decide) (As := [.int va, .int (nI N), .int 1]) (rest := [.long 0]) rfl (nb rfl) rfl d_Nine_years_110 (fun r8 u9 hr8 => ?_)
      subst hr8
      refine j_ws (ws' := [(x, .inr (9, [.ref tp, .ref pi, .ref nw, .ref tr, .ref ps, .ref k, .ref k2, .ref rd, .ref pl, .int u9.1])), (k, .inr (2, [.int 0, .int 1, .int 1, .int 0, .ref g, .int 0, .ref vn, .ref vg, .ref t, .ref r, .int 0, .int 0, .int 9999, .int 0])), (g, .inr (1, [.int 0, .ref g0, .ref g1, .ref g2, .ref g3, .ref g4, .ref g5, .ref g6])), (t, .inr (8, [.int 0, .ref t0, .ref t1, .ref t2, .ref t3, .ref t4, .ref t5, .ref t6])), (r, .inr (6, [.int 0, .int 0, .ref r0, .ref r1, .ref r2, .ref r3, .ref r4, .ref r5])), (tr, .inr (7, [.int u9.2, .int 0, .int 0, .ref m0, .ref m1, .ref m2, .ref m3, .ref m4, .ref m5, .ref m6])), (m0, .inl (y 0, 9, .inl (fun _ => 0))), (m1, .inl (y 0, 9, .inl (fun _ => 0))), (m2, .inl (y 1, 9, .inr (.inl (fun _ => 0)))), (m3, .inl (y 0, 6, .inl (fun _ => 0))), (m4, .inl (y 0, 6, .inl (fun _ => 0))), (m5, .inl (y 0, 16, .inl (fun _ => 0))), (m6, .inl (y 1, 5, .inr (.inl (fun _ => 0)))), (nw, .inr (7, [.int 0, .int 0, .int 0, .ref n0, .ref n1, .ref n2, .ref n3, .ref n4, .ref n5, .ref n6])), (n0, .inl (y 0, 9, .inl (fun _ => 0))), (n1, .inl (y 0, 9, .inl (fun _ => 0))), (n2, .inl (y 1, 9, .inr (.inl (fun _ => 0)))), (n3, .inl (y 0, 6, .inl (fun _ => 0))), (n4, .inl (y 0, 6, .inl (fun _ => 0))), (n5, .inl (y 0, 16, .inl (fun _ => 0))), (n6, .inl (y 1, 5, .inr (.inl (fun _ => 0))))]) rfl ?_
      refine j_ladd (pc := 113) C (v := 0) d_Nine_years_113 (by decide) ?_
      refine j_lstore (pc := 114) C (lv' := [(7, .long 0), (0, .ref x), (1, .int va), (2, .int (nI M)), (3, .int (nI N)), (4, .int vd), (9, .int (nI i))]) d_Nine_years_114 (by decide) rfl ?_
      refine j_iinc (pc := 116) C (v := nI (i + 1)) (lv' := [(9, .int (nI (i + 1))), (7, .long 0), (0, .ref x), (1, .int va), (2, .int (nI M)), (3, .int (nI N)), (4, .int vd)]) d_Nine_years_116 6 rfl (nI_1 _) (by decide) rfl ?_
      refine j_goto (pc := 119) C (tgt := 89) d_Nine_years_119 (by decide) ?_
      refine j_locs (lv' := [(0, .ref x), (1, .int va), (2, .int (nI M)), (3, .int (nI N)), (4, .int vd), (7, .long 0), (9, .int (nI (i + 1)))]) [2, 3, 4, 5, 6, 1, 0] rfl ?_
      exact ih (i + 1) u9.1 u9.2 (by omega)
set_option maxHeartbeats 4000000 in
set_option maxRecDepth 100000 in
theorem c_N_years (l : Launch) (D : va_G) (y : Nat → ClassId) (x : Nat) (tp : Nat) (pi : Nat) (nw : Nat) (tr : Nat) (ps : Nat) (k : Nat) (k2 : Nat) (rd : Nat) (pl : Nat) (g : Nat) (vn : Nat) (vg : Nat) (t : Nat) (r : Nat) (g0 : Nat) (g1 : Nat) (g2 : Nat) (g3 : Nat) (g4 : Nat) (g5 : Nat) (g6 : Nat) (t0 : Nat) (t1 : Nat) (t2 : Nat) (t3 : Nat) (t4 : Nat) (t5 : Nat) (t6 : Nat) (r0 : Nat) (r1 : Nat) (r2 : Nat) (r3 : Nat) (r4 : Nat) (r5 : Nat) (dt : Int32) (m0 : Nat) (m1 : Nat) (m2 : Nat) (m3 : Nat) (m4 : Nat) (m5 : Nat) (m6 : Nat) (n0 : Nat) (n1 : Nat) (n2 : Nat) (n3 : Nat) (n4 : Nat) (n5 : Nat) (n6 : Nat) (va : Int32) (vb : Int32) (vc : Int32) (vd : Int32)  : CT l D y ⟨"NineBoards", "years", "(IIII)J"⟩ prog_1_method_31_code 10 (some .long) ({ frames := 6, cells := 0, slots := 0, locals := 146 } : Room) [.ref x, .int va, .int vb, .int vc, .int vd] [(x, .inr (9, [.ref tp, .ref pi, .ref nw, .ref tr, .ref ps, .ref k, .ref k2, .ref rd, .ref pl, .int 1])), (k, .inr (2, [.int 0, .int 1, .int 1, .int 0, .ref g, .int 0, .ref vn, .ref vg, .ref t, .ref r, .int 0, .int 0, .int 9999, .int 0])), (g, .inr (1, [.int 0, .ref g0, .ref g1, .ref g2, .ref g3, .ref g4, .ref g5, .ref g6])), (t, .inr (8, [.int 0, .ref t0, .ref t1, .ref t2, .ref t3, .ref t4, .ref t5, .ref t6])), (r, .inr (6, [.int 0, .int 0, .ref r0, .ref r1, .ref r2, .ref r3, .ref r4, .ref r5])), (tr, .inr (7, [.int dt, .int 0, .int 0, .ref m0, .ref m1, .ref m2, .ref m3, .ref m4, .ref m5, .ref m6])), (m0, .inl (y 0, 9, .inl (fun _ => 0))), (m1, .inl (y 0, 9, .inl (fun _ => 0))), (m2, .inl (y 1, 9, .inr (.inl (fun _ => 0)))), (m3, .inl (y 0, 6, .inl (fun _ => 0))), (m4, .inl (y 0, 6, .inl (fun _ => 0))), (m5, .inl (y 0, 16, .inl (fun _ => 0))), (m6, .inl (y 1, 5, .inr (.inl (fun _ => 0)))), (nw, .inr (7, [.int 0, .int 0, .int 0, .ref n0, .ref n1, .ref n2, .ref n3, .ref n4, .ref n5, .ref n6])), (n0, .inl (y 0, 9, .inl (fun _ => 0))), (n1, .inl (y 0, 9, .inl (fun _ => 0))), (n2, .inl (y 1, 9, .inr (.inl (fun _ => 0)))), (n3, .inl (y 0, 6, .inl (fun _ => 0))), (n4, .inl (y 0, 6, .inl (fun _ => 0))), (n5, .inl (y 0, 16, .inl (fun _ => 0))), (n6, .inl (y 1, 5, .inr (.inl (fun _ => 0))))] (QL D [(x, .inr (9, [.ref tp, .ref pi, .ref nw, .ref tr, .ref ps, .ref k, .ref k2, .ref rd, .ref pl, .int 1])), (k, .inr (2, [.int 0, .int 1, .int 1, .int 0, .ref g, .int 0, .ref vn, .ref vg, .ref t, .ref r, .int 0, .int 0, .int 9999, .int 0])), (g, .inr (1, [.int 0, .ref g0, .ref g1, .ref g2, .ref g3, .ref g4, .ref g5, .ref g6])), (t, .inr (8, [.int 0, .ref t0, .ref t1, .ref t2, .ref t3, .ref t4, .ref t5, .ref t6])), (r, .inr (6, [.int 0, .int 0, .ref r0, .ref r1, .ref r2, .ref r3, .ref r4, .ref r5])), (tr, .inr (7, [.int dt, .int 0, .int 0, .ref m0, .ref m1, .ref m2, .ref m3, .ref m4, .ref m5, .ref m6])), (m0, .inl (y 0, 9, .inl (fun _ => 0))), (m1, .inl (y 0, 9, .inl (fun _ => 0))), (m2, .inl (y 1, 9, .inr (.inl (fun _ => 0)))), (m3, .inl (y 0, 6, .inl (fun _ => 0))), (m4, .inl (y 0, 6, .inl (fun _ => 0))), (m5, .inl (y 0, 16, .inl (fun _ => 0))), (m6, .inl (y 1, 5, .inr (.inl (fun _ => 0)))), (nw, .inr (7, [.int 0, .int 0, .int 0, .ref n0, .ref n1, .ref n2, .ref n3, .ref n4, .ref n5, .ref n6])), (n0, .inl (y 0, 9, .inl (fun _ => 0))), (n1, .inl (y 0, 9, .inl (fun _ => 0))), (n2, .inl (y 1, 9, .inr (.inl (fun _ => 0)))), (n3, .inl (y 0, 6, .inl (fun _ => 0))), (n4, .inl (y 0, 6, .inl (fun _ => 0))), (n5, .inl (y 0, 16, .inl (fun _ => 0))), (n6, .inl (y 1, 5, .inr (.inl (fun _ => 0))))] (fun (r : Int64) (_ : Unit) => r = if 0 ≤ va.toInt ∧ va.toInt ≤ 3 ∧ 0 ≤ vd.toInt ∧ vd.toInt ≤ 1 ∧ 1 ≤ vb.toInt ∧ vb.toInt ≤ 20 ∧ 1 ≤ vc.toInt ∧ vc.toInt ≤ 100 then 0 else -1000000000) (fun _ => [])) := by
  refine CT.of (by decide) (nb rfl) ?_
  intro p e s m args below meth c C hr
  refine j_lv (lv' := [(0, .ref x), (1, .int va), (2, .int vb), (3, .int vc), (4, .int vd)]) rfl ?_
  refine j_iload_n (pc := 0) C d_Nine_years_0 rfl 1 rfl ?_
  refine j_if_lt (pc := 1) C (tgt := 24) d_Nine_years_1 (by decide) (fun c1 => ?_) (fun c1 => ?_)
  · refine j_iconst (pc := 24) C (v := 0) d_Nine_years_24 (by decide) ?_
    refine j_istore (pc := 25) C (lv' := [(5, .int 0), (0, .ref x), (1, .int va), (2, .int vb), (3, .int vc), (4, .int vd)]) d_Nine_years_25 (by decide) rfl ?_
    refine j_iload_n (pc := 27) C d_Nine_years_27 rfl 3 rfl ?_
    refine j_iconst (pc := 28) C (v := 1) d_Nine_years_28 (by decide) ?_
    refine j_icmp_lt (pc := 29) C (tgt := 53) d_Nine_years_29 (by decide) (fun c2 => ?_) (fun c2 => ?_)
    · refine j_iconst (pc := 53) C (v := 0) d_Nine_years_53 (by decide) ?_
      refine j_istore (pc := 54) C (lv' := [(6, .int 0), (5, .int 0), (0, .ref x), (1, .int va), (2, .int vb), (3, .int vc), (4, .int vd)]) d_Nine_years_54 (by decide) rfl ?_
      refine j_iload (pc := 56) C d_Nine_years_56 1 rfl ?_
      refine j_if_eqT (pc := 58) C (tgt := 79) d_Nine_years_58 (by decide) (by decide) ?_
      refine j_ldc2 (pc := 79) C (v := (-1000000000)) (mt_5 (List.mem_of_getElem? (i := 47) rfl) rfl) d_Nine_years_79 ?_
      exact j_lret (pc := 82) C hr () (by simp only [Int32.lt_iff_toInt_lt, Int32.le_iff_toInt_le, ← Int32.toInt_inj, (by decide : Int32.toInt 0 = 0), (by decide : Int32.toInt 1 = 1)] at c1 c2; (first | rw [if_pos (by omega)] | rw [if_neg (by omega)])) [] rfl (by decide) (by decide) (by decide) d_Nine_years_82
    · refine j_iload_n (pc := 32) C d_Nine_years_32 rfl 3 rfl ?_
      refine j_bipush (pc := 33) C (v := 20) d_Nine_years_33 (by decide) ?_
      refine j_icmp_gt (pc := 35) C (tgt := 53) d_Nine_years_35 (by decide) (fun c3 => ?_) (fun c3 => ?_)
      · refine j_iconst (pc := 53) C (v := 0) d_Nine_years_53 (by decide) ?_
        refine j_istore (pc := 54) C (lv' := [(6, .int 0), (5, .int 0), (0, .ref x), (1, .int va), (2, .int vb), (3, .int vc), (4, .int vd)]) d_Nine_years_54 (by decide) rfl ?_
        refine j_iload (pc := 56) C d_Nine_years_56 1 rfl ?_
        refine j_if_eqT (pc := 58) C (tgt := 79) d_Nine_years_58 (by decide) (by decide) ?_
        refine j_ldc2 (pc := 79) C (v := (-1000000000)) (mt_5 (List.mem_of_getElem? (i := 47) rfl) rfl) d_Nine_years_79 ?_
        exact j_lret (pc := 82) C hr () (by simp only [Int32.lt_iff_toInt_lt, Int32.le_iff_toInt_le, ← Int32.toInt_inj, (by decide : Int32.toInt 0 = 0), (by decide : Int32.toInt 1 = 1), (by decide : Int32.toInt 20 = 20)] at c1 c2 c3; (first | rw [if_pos (by omega)] | rw [if_neg (by omega)])) [] rfl (by decide) (by decide) (by decide) d_Nine_years_82
      · refine j_iload_n (pc := 38) C d_Nine_years_38 rfl 4 rfl ?_
        refine j_iconst (pc := 39) C (v := 1) d_Nine_years_39 (by decide) ?_
        refine j_icmp_lt (pc := 40) C (tgt := 53) d_Nine_years_40 (by decide) (fun c4 => ?_) (fun c4 => ?_)
        · refine j_iconst (pc := 53) C (v := 0) d_Nine_years_53 (by decide) ?_
          refine j_istore (pc := 54) C (lv' := [(6, .int 0), (5, .int 0), (0, .ref x), (1, .int va), (2, .int vb), (3, .int vc), (4, .int vd)]) d_Nine_years_54 (by decide) rfl ?_
          refine j_iload (pc := 56) C d_Nine_years_56 1 rfl ?_
          refine j_if_eqT (pc := 58) C (tgt := 79) d_Nine_years_58 (by decide) (by decide) ?_
          refine j_ldc2 (pc := 79) C (v := (-1000000000)) (mt_5 (List.mem_of_getElem? (i := 47) rfl) rfl) d_Nine_years_79 ?_
          exact j_lret (pc := 82) C hr () (by simp only [Int32.lt_iff_toInt_lt, Int32.le_iff_toInt_le, ← Int32.toInt_inj, (by decide : Int32.toInt 0 = 0), (by decide : Int32.toInt 1 = 1), (by decide : Int32.toInt 20 = 20)] at c1 c2 c3 c4; (first | rw [if_pos (by omega)] | rw [if_neg (by omega)])) [] rfl (by decide) (by decide) (by decide) d_Nine_years_82
        · refine j_iload_n (pc := 43) C d_Nine_years_43 rfl 4 rfl ?_
          refine j_bipush (pc := 44) C (v := 100) d_Nine_years_44 (by decide) ?_
          refine j_icmp_gt (pc := 46) C (tgt := 53) d_Nine_years_46 (by decide) (fun c5 => ?_) (fun c5 => ?_)
          · refine j_iconst (pc := 53) C (v := 0) d_Nine_years_53 (by decide) ?_
            refine j_istore (pc := 54) C (lv' := [(6, .int 0), (5, .int 0), (0, .ref x), (1, .int va), (2, .int vb), (3, .int vc), (4, .int vd)]) d_Nine_years_54 (by decide) rfl ?_
            refine j_iload (pc := 56) C d_Nine_years_56 1 rfl ?_
            refine j_if_eqT (pc := 58) C (tgt := 79) d_Nine_years_58 (by decide) (by decide) ?_
            refine j_ldc2 (pc := 79) C (v := (-1000000000)) (mt_5 (List.mem_of_getElem? (i := 47) rfl) rfl) d_Nine_years_79 ?_
            exact j_lret (pc := 82) C hr () (by simp only [Int32.lt_iff_toInt_lt, Int32.le_iff_toInt_le, ← Int32.toInt_inj, (by decide : Int32.toInt 0 = 0), (by decide : Int32.toInt 1 = 1), (by decide : Int32.toInt 20 = 20), (by decide : Int32.toInt 100 = 100)] at c1 c2 c3 c4 c5; (first | rw [if_pos (by omega)] | rw [if_neg (by omega)])) [] rfl (by decide) (by decide) (by decide) d_Nine_years_82
          · refine j_iconst (pc := 49) C (v := 1) d_Nine_years_49 (by decide) ?_
            refine j_goto (pc := 50) C (tgt := 54) d_Nine_years_50 (by decide) ?_
            refine j_istore (pc := 54) C (lv' := [(6, .int 1), (5, .int 0), (0, .ref x), (1, .int va), (2, .int vb), (3, .int vc), (4, .int vd)]) d_Nine_years_54 (by decide) rfl ?_
            refine j_iload (pc := 56) C d_Nine_years_56 1 rfl ?_
            refine j_if_eqT (pc := 58) C (tgt := 79) d_Nine_years_58 (by decide) (by decide) ?_
            refine j_ldc2 (pc := 79) C (v := (-1000000000)) (mt_5 (List.mem_of_getElem? (i := 47) rfl) rfl) d_Nine_years_79 ?_
            exact j_lret (pc := 82) C hr () (by simp only [Int32.lt_iff_toInt_lt, Int32.le_iff_toInt_le, ← Int32.toInt_inj, (by decide : Int32.toInt 0 = 0), (by decide : Int32.toInt 1 = 1), (by decide : Int32.toInt 20 = 20), (by decide : Int32.toInt 100 = 100)] at c1 c2 c3 c4 c5; (first | rw [if_pos (by omega)] | rw [if_neg (by omega)])) [] rfl (by decide) (by decide) (by decide) d_Nine_years_82
  · refine j_iload_n (pc := 4) C d_Nine_years_4 rfl 1 rfl ?_
    refine j_iconst (pc := 5) C (v := 3) d_Nine_years_5 (by decide) ?_
    refine j_icmp_gt (pc := 6) C (tgt := 24) d_Nine_years_6 (by decide) (fun c6 => ?_) (fun c6 => ?_)
    · refine j_iconst (pc := 24) C (v := 0) d_Nine_years_24 (by decide) ?_
      refine j_istore (pc := 25) C (lv' := [(5, .int 0), (0, .ref x), (1, .int va), (2, .int vb), (3, .int vc), (4, .int vd)]) d_Nine_years_25 (by decide) rfl ?_
      refine j_iload_n (pc := 27) C d_Nine_years_27 rfl 3 rfl ?_
      refine j_iconst (pc := 28) C (v := 1) d_Nine_years_28 (by decide) ?_
      refine j_icmp_lt (pc := 29) C (tgt := 53) d_Nine_years_29 (by decide) (fun c7 => ?_) (fun c7 => ?_)
      · refine j_iconst (pc := 53) C (v := 0) d_Nine_years_53 (by decide) ?_
        refine j_istore (pc := 54) C (lv' := [(6, .int 0), (5, .int 0), (0, .ref x), (1, .int va), (2, .int vb), (3, .int vc), (4, .int vd)]) d_Nine_years_54 (by decide) rfl ?_
        refine j_iload (pc := 56) C d_Nine_years_56 1 rfl ?_
        refine j_if_eqT (pc := 58) C (tgt := 79) d_Nine_years_58 (by decide) (by decide) ?_
        refine j_ldc2 (pc := 79) C (v := (-1000000000)) (mt_5 (List.mem_of_getElem? (i := 47) rfl) rfl) d_Nine_years_79 ?_
        exact j_lret (pc := 82) C hr () (by simp only [Int32.lt_iff_toInt_lt, Int32.le_iff_toInt_le, ← Int32.toInt_inj, (by decide : Int32.toInt 0 = 0), (by decide : Int32.toInt 1 = 1), (by decide : Int32.toInt 3 = 3)] at c1 c6 c7; (first | rw [if_pos (by omega)] | rw [if_neg (by omega)])) [] rfl (by decide) (by decide) (by decide) d_Nine_years_82
      · refine j_iload_n (pc := 32) C d_Nine_years_32 rfl 3 rfl ?_
        refine j_bipush (pc := 33) C (v := 20) d_Nine_years_33 (by decide) ?_
        refine j_icmp_gt (pc := 35) C (tgt := 53) d_Nine_years_35 (by decide) (fun c8 => ?_) (fun c8 => ?_)
        · refine j_iconst (pc := 53) C (v := 0) d_Nine_years_53 (by decide) ?_
          refine j_istore (pc := 54) C (lv' := [(6, .int 0), (5, .int 0), (0, .ref x), (1, .int va), (2, .int vb), (3, .int vc), (4, .int vd)]) d_Nine_years_54 (by decide) rfl ?_
          refine j_iload (pc := 56) C d_Nine_years_56 1 rfl ?_
          refine j_if_eqT (pc := 58) C (tgt := 79) d_Nine_years_58 (by decide) (by decide) ?_
          refine j_ldc2 (pc := 79) C (v := (-1000000000)) (mt_5 (List.mem_of_getElem? (i := 47) rfl) rfl) d_Nine_years_79 ?_
          exact j_lret (pc := 82) C hr () (by simp only [Int32.lt_iff_toInt_lt, Int32.le_iff_toInt_le, ← Int32.toInt_inj, (by decide : Int32.toInt 0 = 0), (by decide : Int32.toInt 1 = 1), (by decide : Int32.toInt 3 = 3), (by decide : Int32.toInt 20 = 20)] at c1 c6 c7 c8; (first | rw [if_pos (by omega)] | rw [if_neg (by omega)])) [] rfl (by decide) (by decide) (by decide) d_Nine_years_82
        · refine j_iload_n (pc := 38) C d_Nine_years_38 rfl 4 rfl ?_
          refine j_iconst (pc := 39) C (v := 1) d_Nine_years_39 (by decide) ?_
          refine j_icmp_lt (pc := 40) C (tgt := 53) d_Nine_years_40 (by decide) (fun c9 => ?_) (fun c9 => ?_)
          · refine j_iconst (pc := 53) C (v := 0) d_Nine_years_53 (by decide) ?_
            refine j_istore (pc := 54) C (lv' := [(6, .int 0), (5, .int 0), (0, .ref x), (1, .int va), (2, .int vb), (3, .int vc), (4, .int vd)]) d_Nine_years_54 (by decide) rfl ?_
            refine j_iload (pc := 56) C d_Nine_years_56 1 rfl ?_
            refine j_if_eqT (pc := 58) C (tgt := 79) d_Nine_years_58 (by decide) (by decide) ?_
            refine j_ldc2 (pc := 79) C (v := (-1000000000)) (mt_5 (List.mem_of_getElem? (i := 47) rfl) rfl) d_Nine_years_79 ?_
            exact j_lret (pc := 82) C hr () (by simp only [Int32.lt_iff_toInt_lt, Int32.le_iff_toInt_le, ← Int32.toInt_inj, (by decide : Int32.toInt 0 = 0), (by decide : Int32.toInt 1 = 1), (by decide : Int32.toInt 3 = 3), (by decide : Int32.toInt 20 = 20)] at c1 c6 c7 c8 c9; (first | rw [if_pos (by omega)] | rw [if_neg (by omega)])) [] rfl (by decide) (by decide) (by decide) d_Nine_years_82
          · refine j_iload_n (pc := 43) C d_Nine_years_43 rfl 4 rfl ?_
            refine j_bipush (pc := 44) C (v := 100) d_Nine_years_44 (by decide) ?_
            refine j_icmp_gt (pc := 46) C (tgt := 53) d_Nine_years_46 (by decide) (fun c10 => ?_) (fun c10 => ?_)
            · refine j_iconst (pc := 53) C (v := 0) d_Nine_years_53 (by decide) ?_
              refine j_istore (pc := 54) C (lv' := [(6, .int 0), (5, .int 0), (0, .ref x), (1, .int va), (2, .int vb), (3, .int vc), (4, .int vd)]) d_Nine_years_54 (by decide) rfl ?_
              refine j_iload (pc := 56) C d_Nine_years_56 1 rfl ?_
              refine j_if_eqT (pc := 58) C (tgt := 79) d_Nine_years_58 (by decide) (by decide) ?_
              refine j_ldc2 (pc := 79) C (v := (-1000000000)) (mt_5 (List.mem_of_getElem? (i := 47) rfl) rfl) d_Nine_years_79 ?_
              exact j_lret (pc := 82) C hr () (by simp only [Int32.lt_iff_toInt_lt, Int32.le_iff_toInt_le, ← Int32.toInt_inj, (by decide : Int32.toInt 0 = 0), (by decide : Int32.toInt 1 = 1), (by decide : Int32.toInt 3 = 3), (by decide : Int32.toInt 20 = 20), (by decide : Int32.toInt 100 = 100)] at c1 c6 c7 c8 c9 c10; (first | rw [if_pos (by omega)] | rw [if_neg (by omega)])) [] rfl (by decide) (by decide) (by decide) d_Nine_years_82
            · refine j_iconst (pc := 49) C (v := 1) d_Nine_years_49 (by decide) ?_
              refine j_goto (pc := 50) C (tgt := 54) d_Nine_years_50 (by decide) ?_
              refine j_istore (pc := 54) C (lv' := [(6, .int 1), (5, .int 0), (0, .ref x), (1, .int va), (2, .int vb), (3, .int vc), (4, .int vd)]) d_Nine_years_54 (by decide) rfl ?_
              refine j_iload (pc := 56) C d_Nine_years_56 1 rfl ?_
              refine j_if_eqT (pc := 58) C (tgt := 79) d_Nine_years_58 (by decide) (by decide) ?_
              refine j_ldc2 (pc := 79) C (v := (-1000000000)) (mt_5 (List.mem_of_getElem? (i := 47) rfl) rfl) d_Nine_years_79 ?_
              exact j_lret (pc := 82) C hr () (by simp only [Int32.lt_iff_toInt_lt, Int32.le_iff_toInt_le, ← Int32.toInt_inj, (by decide : Int32.toInt 0 = 0), (by decide : Int32.toInt 1 = 1), (by decide : Int32.toInt 3 = 3), (by decide : Int32.toInt 20 = 20), (by decide : Int32.toInt 100 = 100)] at c1 c6 c7 c8 c9 c10; (first | rw [if_pos (by omega)] | rw [if_neg (by omega)])) [] rfl (by decide) (by decide) (by decide) d_Nine_years_82
    · refine j_iload (pc := 9) C d_Nine_years_9 4 rfl ?_
      refine j_if_lt (pc := 11) C (tgt := 24) d_Nine_years_11 (by decide) (fun c11 => ?_) (fun c11 => ?_)
      · refine j_iconst (pc := 24) C (v := 0) d_Nine_years_24 (by decide) ?_
        refine j_istore (pc := 25) C (lv' := [(5, .int 0), (0, .ref x), (1, .int va), (2, .int vb), (3, .int vc), (4, .int vd)]) d_Nine_years_25 (by decide) rfl ?_
        refine j_iload_n (pc := 27) C d_Nine_years_27 rfl 3 rfl ?_
        refine j_iconst (pc := 28) C (v := 1) d_Nine_years_28 (by decide) ?_
        refine j_icmp_lt (pc := 29) C (tgt := 53) d_Nine_years_29 (by decide) (fun c12 => ?_) (fun c12 => ?_)
        · refine j_iconst (pc := 53) C (v := 0) d_Nine_years_53 (by decide) ?_
          refine j_istore (pc := 54) C (lv' := [(6, .int 0), (5, .int 0), (0, .ref x), (1, .int va), (2, .int vb), (3, .int vc), (4, .int vd)]) d_Nine_years_54 (by decide) rfl ?_
          refine j_iload (pc := 56) C d_Nine_years_56 1 rfl ?_
          refine j_if_eqT (pc := 58) C (tgt := 79) d_Nine_years_58 (by decide) (by decide) ?_
          refine j_ldc2 (pc := 79) C (v := (-1000000000)) (mt_5 (List.mem_of_getElem? (i := 47) rfl) rfl) d_Nine_years_79 ?_
          exact j_lret (pc := 82) C hr () (by simp only [Int32.lt_iff_toInt_lt, Int32.le_iff_toInt_le, ← Int32.toInt_inj, (by decide : Int32.toInt 0 = 0), (by decide : Int32.toInt 1 = 1), (by decide : Int32.toInt 3 = 3)] at c1 c6 c11 c12; (first | rw [if_pos (by omega)] | rw [if_neg (by omega)])) [] rfl (by decide) (by decide) (by decide) d_Nine_years_82
        · refine j_iload_n (pc := 32) C d_Nine_years_32 rfl 3 rfl ?_
          refine j_bipush (pc := 33) C (v := 20) d_Nine_years_33 (by decide) ?_
          refine j_icmp_gt (pc := 35) C (tgt := 53) d_Nine_years_35 (by decide) (fun c13 => ?_) (fun c13 => ?_)
          · refine j_iconst (pc := 53) C (v := 0) d_Nine_years_53 (by decide) ?_
            refine j_istore (pc := 54) C (lv' := [(6, .int 0), (5, .int 0), (0, .ref x), (1, .int va), (2, .int vb), (3, .int vc), (4, .int vd)]) d_Nine_years_54 (by decide) rfl ?_
            refine j_iload (pc := 56) C d_Nine_years_56 1 rfl ?_
            refine j_if_eqT (pc := 58) C (tgt := 79) d_Nine_years_58 (by decide) (by decide) ?_
            refine j_ldc2 (pc := 79) C (v := (-1000000000)) (mt_5 (List.mem_of_getElem? (i := 47) rfl) rfl) d_Nine_years_79 ?_
            exact j_lret (pc := 82) C hr () (by simp only [Int32.lt_iff_toInt_lt, Int32.le_iff_toInt_le, ← Int32.toInt_inj, (by decide : Int32.toInt 0 = 0), (by decide : Int32.toInt 1 = 1), (by decide : Int32.toInt 3 = 3), (by decide : Int32.toInt 20 = 20)] at c1 c6 c11 c12 c13; (first | rw [if_pos (by omega)] | rw [if_neg (by omega)])) [] rfl (by decide) (by decide) (by decide) d_Nine_years_82
          · refine j_iload_n (pc := 38) C d_Nine_years_38 rfl 4 rfl ?_
            refine j_iconst (pc := 39) C (v := 1) d_Nine_years_39 (by decide) ?_
            refine j_icmp_lt (pc := 40) C (tgt := 53) d_Nine_years_40 (by decide) (fun c14 => ?_) (fun c14 => ?_)
            · refine j_iconst (pc := 53) C (v := 0) d_Nine_years_53 (by decide) ?_
              refine j_istore (pc := 54) C (lv' := [(6, .int 0), (5, .int 0), (0, .ref x), (1, .int va), (2, .int vb), (3, .int vc), (4, .int vd)]) d_Nine_years_54 (by decide) rfl ?_
              refine j_iload (pc := 56) C d_Nine_years_56 1 rfl ?_
              refine j_if_eqT (pc := 58) C (tgt := 79) d_Nine_years_58 (by decide) (by decide) ?_
              refine j_ldc2 (pc := 79) C (v := (-1000000000)) (mt_5 (List.mem_of_getElem? (i := 47) rfl) rfl) d_Nine_years_79 ?_
              exact j_lret (pc := 82) C hr () (by simp only [Int32.lt_iff_toInt_lt, Int32.le_iff_toInt_le, ← Int32.toInt_inj, (by decide : Int32.toInt 0 = 0), (by decide : Int32.toInt 1 = 1), (by decide : Int32.toInt 3 = 3), (by decide : Int32.toInt 20 = 20)] at c1 c6 c11 c12 c13 c14; (first | rw [if_pos (by omega)] | rw [if_neg (by omega)])) [] rfl (by decide) (by decide) (by decide) d_Nine_years_82
            · refine j_iload_n (pc := 43) C d_Nine_years_43 rfl 4 rfl ?_
              refine j_bipush (pc := 44) C (v := 100) d_Nine_years_44 (by decide) ?_
              refine j_icmp_gt (pc := 46) C (tgt := 53) d_Nine_years_46 (by decide) (fun c15 => ?_) (fun c15 => ?_)
              · refine j_iconst (pc := 53) C (v := 0) d_Nine_years_53 (by decide) ?_
                refine j_istore (pc := 54) C (lv' := [(6, .int 0), (5, .int 0), (0, .ref x), (1, .int va), (2, .int vb), (3, .int vc), (4, .int vd)]) d_Nine_years_54 (by decide) rfl ?_
                refine j_iload (pc := 56) C d_Nine_years_56 1 rfl ?_
                refine j_if_eqT (pc := 58) C (tgt := 79) d_Nine_years_58 (by decide) (by decide) ?_
                refine j_ldc2 (pc := 79) C (v := (-1000000000)) (mt_5 (List.mem_of_getElem? (i := 47) rfl) rfl) d_Nine_years_79 ?_
                exact j_lret (pc := 82) C hr () (by simp only [Int32.lt_iff_toInt_lt, Int32.le_iff_toInt_le, ← Int32.toInt_inj, (by decide : Int32.toInt 0 = 0), (by decide : Int32.toInt 1 = 1), (by decide : Int32.toInt 3 = 3), (by decide : Int32.toInt 20 = 20), (by decide : Int32.toInt 100 = 100)] at c1 c6 c11 c12 c13 c14 c15; (first | rw [if_pos (by omega)] | rw [if_neg (by omega)])) [] rfl (by decide) (by decide) (by decide) d_Nine_years_82
              · refine j_iconst (pc := 49) C (v := 1) d_Nine_years_49 (by decide) ?_
                refine j_goto (pc := 50) C (tgt := 54) d_Nine_years_50 (by decide) ?_
                refine j_istore (pc := 54) C (lv' := [(6, .int 1), (5, .int 0), (0, .ref x), (1, .int va), (2, .int vb), (3, .int vc), (4, .int vd)]) d_Nine_years_54 (by decide) rfl ?_
                refine j_iload (pc := 56) C d_Nine_years_56 1 rfl ?_
                refine j_if_eqT (pc := 58) C (tgt := 79) d_Nine_years_58 (by decide) (by decide) ?_
                refine j_ldc2 (pc := 79) C (v := (-1000000000)) (mt_5 (List.mem_of_getElem? (i := 47) rfl) rfl) d_Nine_years_79 ?_
                exact j_lret (pc := 82) C hr () (by simp only [Int32.lt_iff_toInt_lt, Int32.le_iff_toInt_le, ← Int32.toInt_inj, (by decide : Int32.toInt 0 = 0), (by decide : Int32.toInt 1 = 1), (by decide : Int32.toInt 3 = 3), (by decide : Int32.toInt 20 = 20), (by decide : Int32.toInt 100 = 100)] at c1 c6 c11 c12 c13 c14 c15; (first | rw [if_pos (by omega)] | rw [if_neg (by omega)])) [] rfl (by decide) (by decide) (by decide) d_Nine_years_82
      · refine j_iload (pc := 14) C d_Nine_years_14 4 rfl ?_
        refine j_iconst (pc := 16) C (v := 1) d_Nine_years_16 (by decide) ?_
        refine j_icmp_gt (pc := 17) C (tgt := 24) d_Nine_years_17 (by decide) (fun c16 => ?_) (fun c16 => ?_)
        · refine j_iconst (pc := 24) C (v := 0) d_Nine_years_24 (by decide) ?_
          refine j_istore (pc := 25) C (lv' := [(5, .int 0), (0, .ref x), (1, .int va), (2, .int vb), (3, .int vc), (4, .int vd)]) d_Nine_years_25 (by decide) rfl ?_
          refine j_iload_n (pc := 27) C d_Nine_years_27 rfl 3 rfl ?_
          refine j_iconst (pc := 28) C (v := 1) d_Nine_years_28 (by decide) ?_
          refine j_icmp_lt (pc := 29) C (tgt := 53) d_Nine_years_29 (by decide) (fun c17 => ?_) (fun c17 => ?_)
          · refine j_iconst (pc := 53) C (v := 0) d_Nine_years_53 (by decide) ?_
            refine j_istore (pc := 54) C (lv' := [(6, .int 0), (5, .int 0), (0, .ref x), (1, .int va), (2, .int vb), (3, .int vc), (4, .int vd)]) d_Nine_years_54 (by decide) rfl ?_
            refine j_iload (pc := 56) C d_Nine_years_56 1 rfl ?_
            refine j_if_eqT (pc := 58) C (tgt := 79) d_Nine_years_58 (by decide) (by decide) ?_
            refine j_ldc2 (pc := 79) C (v := (-1000000000)) (mt_5 (List.mem_of_getElem? (i := 47) rfl) rfl) d_Nine_years_79 ?_
            exact j_lret (pc := 82) C hr () (by simp only [Int32.lt_iff_toInt_lt, Int32.le_iff_toInt_le, ← Int32.toInt_inj, (by decide : Int32.toInt 0 = 0), (by decide : Int32.toInt 1 = 1), (by decide : Int32.toInt 3 = 3)] at c1 c6 c11 c16 c17; (first | rw [if_pos (by omega)] | rw [if_neg (by omega)])) [] rfl (by decide) (by decide) (by decide) d_Nine_years_82
          · refine j_iload_n (pc := 32) C d_Nine_years_32 rfl 3 rfl ?_
            refine j_bipush (pc := 33) C (v := 20) d_Nine_years_33 (by decide) ?_
            refine j_icmp_gt (pc := 35) C (tgt := 53) d_Nine_years_35 (by decide) (fun c18 => ?_) (fun c18 => ?_)
            · refine j_iconst (pc := 53) C (v := 0) d_Nine_years_53 (by decide) ?_
              refine j_istore (pc := 54) C (lv' := [(6, .int 0), (5, .int 0), (0, .ref x), (1, .int va), (2, .int vb), (3, .int vc), (4, .int vd)]) d_Nine_years_54 (by decide) rfl ?_
              refine j_iload (pc := 56) C d_Nine_years_56 1 rfl ?_
              refine j_if_eqT (pc := 58) C (tgt := 79) d_Nine_years_58 (by decide) (by decide) ?_
              refine j_ldc2 (pc := 79) C (v := (-1000000000)) (mt_5 (List.mem_of_getElem? (i := 47) rfl) rfl) d_Nine_years_79 ?_
              exact j_lret (pc := 82) C hr () (by simp only [Int32.lt_iff_toInt_lt, Int32.le_iff_toInt_le, ← Int32.toInt_inj, (by decide : Int32.toInt 0 = 0), (by decide : Int32.toInt 1 = 1), (by decide : Int32.toInt 3 = 3), (by decide : Int32.toInt 20 = 20)] at c1 c6 c11 c16 c17 c18; (first | rw [if_pos (by omega)] | rw [if_neg (by omega)])) [] rfl (by decide) (by decide) (by decide) d_Nine_years_82
            · refine j_iload_n (pc := 38) C d_Nine_years_38 rfl 4 rfl ?_
              refine j_iconst (pc := 39) C (v := 1) d_Nine_years_39 (by decide) ?_
              refine j_icmp_lt (pc := 40) C (tgt := 53) d_Nine_years_40 (by decide) (fun c19 => ?_) (fun c19 => ?_)
              · refine j_iconst (pc := 53) C (v := 0) d_Nine_years_53 (by decide) ?_
                refine j_istore (pc := 54) C (lv' := [(6, .int 0), (5, .int 0), (0, .ref x), (1, .int va), (2, .int vb), (3, .int vc), (4, .int vd)]) d_Nine_years_54 (by decide) rfl ?_
                refine j_iload (pc := 56) C d_Nine_years_56 1 rfl ?_
                refine j_if_eqT (pc := 58) C (tgt := 79) d_Nine_years_58 (by decide) (by decide) ?_
                refine j_ldc2 (pc := 79) C (v := (-1000000000)) (mt_5 (List.mem_of_getElem? (i := 47) rfl) rfl) d_Nine_years_79 ?_
                exact j_lret (pc := 82) C hr () (by simp only [Int32.lt_iff_toInt_lt, Int32.le_iff_toInt_le, ← Int32.toInt_inj, (by decide : Int32.toInt 0 = 0), (by decide : Int32.toInt 1 = 1), (by decide : Int32.toInt 3 = 3), (by decide : Int32.toInt 20 = 20)] at c1 c6 c11 c16 c17 c18 c19; (first | rw [if_pos (by omega)] | rw [if_neg (by omega)])) [] rfl (by decide) (by decide) (by decide) d_Nine_years_82
              · refine j_iload_n (pc := 43) C d_Nine_years_43 rfl 4 rfl ?_
                refine j_bipush (pc := 44) C (v := 100) d_Nine_years_44 (by decide) ?_
                refine j_icmp_gt (pc := 46) C (tgt := 53) d_Nine_years_46 (by decide) (fun c20 => ?_) (fun c20 => ?_)
                · refine j_iconst (pc := 53) C (v := 0) d_Nine_years_53 (by decide) ?_
                  refine j_istore (pc := 54) C (lv' := [(6, .int 0), (5, .int 0), (0, .ref x), (1, .int va), (2, .int vb), (3, .int vc), (4, .int vd)]) d_Nine_years_54 (by decide) rfl ?_
                  refine j_iload (pc := 56) C d_Nine_years_56 1 rfl ?_
                  refine j_if_eqT (pc := 58) C (tgt := 79) d_Nine_years_58 (by decide) (by decide) ?_
                  refine j_ldc2 (pc := 79) C (v := (-1000000000)) (mt_5 (List.mem_of_getElem? (i := 47) rfl) rfl) d_Nine_years_79 ?_
                  exact j_lret (pc := 82) C hr () (by simp only [Int32.lt_iff_toInt_lt, Int32.le_iff_toInt_le, ← Int32.toInt_inj, (by decide : Int32.toInt 0 = 0), (by decide : Int32.toInt 1 = 1), (by decide : Int32.toInt 3 = 3), (by decide : Int32.toInt 20 = 20), (by decide : Int32.toInt 100 = 100)] at c1 c6 c11 c16 c17 c18 c19 c20; (first | rw [if_pos (by omega)] | rw [if_neg (by omega)])) [] rfl (by decide) (by decide) (by decide) d_Nine_years_82
                · refine j_iconst (pc := 49) C (v := 1) d_Nine_years_49 (by decide) ?_
                  refine j_goto (pc := 50) C (tgt := 54) d_Nine_years_50 (by decide) ?_
                  refine j_istore (pc := 54) C (lv' := [(6, .int 1), (5, .int 0), (0, .ref x), (1, .int va), (2, .int vb), (3, .int vc), (4, .int vd)]) d_Nine_years_54 (by decide) rfl ?_
                  refine j_iload (pc := 56) C d_Nine_years_56 1 rfl ?_
                  refine j_if_eqT (pc := 58) C (tgt := 79) d_Nine_years_58 (by decide) (by decide) ?_
                  refine j_ldc2 (pc := 79) C (v := (-1000000000)) (mt_5 (List.mem_of_getElem? (i := 47) rfl) rfl) d_Nine_years_79 ?_
                  exact j_lret (pc := 82) C hr () (by simp only [Int32.lt_iff_toInt_lt, Int32.le_iff_toInt_le, ← Int32.toInt_inj, (by decide : Int32.toInt 0 = 0), (by decide : Int32.toInt 1 = 1), (by decide : Int32.toInt 3 = 3), (by decide : Int32.toInt 20 = 20), (by decide : Int32.toInt 100 = 100)] at c1 c6 c11 c16 c17 c18 c19 c20; (first | rw [if_pos (by omega)] | rw [if_neg (by omega)])) [] rfl (by decide) (by decide) (by decide) d_Nine_years_82
        · refine j_iconst (pc := 20) C (v := 1) d_Nine_years_20 (by decide) ?_
          refine j_goto (pc := 21) C (tgt := 25) d_Nine_years_21 (by decide) ?_
          refine j_istore (pc := 25) C (lv' := [(5, .int 1), (0, .ref x), (1, .int va), (2, .int vb), (3, .int vc), (4, .int vd)]) d_Nine_years_25 (by decide) rfl ?_
          refine j_iload_n (pc := 27) C d_Nine_years_27 rfl 3 rfl ?_
          refine j_iconst (pc := 28) C (v := 1) d_Nine_years_28 (by decide) ?_
          refine j_icmp_lt (pc := 29) C (tgt := 53) d_Nine_years_29 (by decide) (fun c21 => ?_) (fun c21 => ?_)
          · refine j_iconst (pc := 53) C (v := 0) d_Nine_years_53 (by decide) ?_
            refine j_istore (pc := 54) C (lv' := [(6, .int 0), (5, .int 1), (0, .ref x), (1, .int va), (2, .int vb), (3, .int vc), (4, .int vd)]) d_Nine_years_54 (by decide) rfl ?_
            refine j_iload (pc := 56) C d_Nine_years_56 1 rfl ?_
            refine j_if_eqF (pc := 58) C (tgt := 79) d_Nine_years_58 (by decide) (by decide) ?_
            refine j_iload (pc := 61) C d_Nine_years_61 0 rfl ?_
            refine j_if_eqT (pc := 63) C (tgt := 79) d_Nine_years_63 (by decide) (by decide) ?_
            refine j_ldc2 (pc := 79) C (v := (-1000000000)) (mt_5 (List.mem_of_getElem? (i := 47) rfl) rfl) d_Nine_years_79 ?_
            exact j_lret (pc := 82) C hr () (by simp only [Int32.lt_iff_toInt_lt, Int32.le_iff_toInt_le, ← Int32.toInt_inj, (by decide : Int32.toInt 0 = 0), (by decide : Int32.toInt 1 = 1), (by decide : Int32.toInt 3 = 3)] at c1 c6 c11 c16 c21; (first | rw [if_pos (by omega)] | rw [if_neg (by omega)])) [] rfl (by decide) (by decide) (by decide) d_Nine_years_82
          · refine j_iload_n (pc := 32) C d_Nine_years_32 rfl 3 rfl ?_
            refine j_bipush (pc := 33) C (v := 20) d_Nine_years_33 (by decide) ?_
            refine j_icmp_gt (pc := 35) C (tgt := 53) d_Nine_years_35 (by decide) (fun c22 => ?_) (fun c22 => ?_)
            · refine j_iconst (pc := 53) C (v := 0) d_Nine_years_53 (by decide) ?_
              refine j_istore (pc := 54) C (lv' := [(6, .int 0), (5, .int 1), (0, .ref x), (1, .int va), (2, .int vb), (3, .int vc), (4, .int vd)]) d_Nine_years_54 (by decide) rfl ?_
              refine j_iload (pc := 56) C d_Nine_years_56 1 rfl ?_
              refine j_if_eqF (pc := 58) C (tgt := 79) d_Nine_years_58 (by decide) (by decide) ?_
              refine j_iload (pc := 61) C d_Nine_years_61 0 rfl ?_
              refine j_if_eqT (pc := 63) C (tgt := 79) d_Nine_years_63 (by decide) (by decide) ?_
              refine j_ldc2 (pc := 79) C (v := (-1000000000)) (mt_5 (List.mem_of_getElem? (i := 47) rfl) rfl) d_Nine_years_79 ?_
              exact j_lret (pc := 82) C hr () (by simp only [Int32.lt_iff_toInt_lt, Int32.le_iff_toInt_le, ← Int32.toInt_inj, (by decide : Int32.toInt 0 = 0), (by decide : Int32.toInt 1 = 1), (by decide : Int32.toInt 3 = 3), (by decide : Int32.toInt 20 = 20)] at c1 c6 c11 c16 c21 c22; (first | rw [if_pos (by omega)] | rw [if_neg (by omega)])) [] rfl (by decide) (by decide) (by decide) d_Nine_years_82
            · refine j_iload_n (pc := 38) C d_Nine_years_38 rfl 4 rfl ?_
              refine j_iconst (pc := 39) C (v := 1) d_Nine_years_39 (by decide) ?_
              refine j_icmp_lt (pc := 40) C (tgt := 53) d_Nine_years_40 (by decide) (fun c23 => ?_) (fun c23 => ?_)
              · refine j_iconst (pc := 53) C (v := 0) d_Nine_years_53 (by decide) ?_
                refine j_istore (pc := 54) C (lv' := [(6, .int 0), (5, .int 1), (0, .ref x), (1, .int va), (2, .int vb), (3, .int vc), (4, .int vd)]) d_Nine_years_54 (by decide) rfl ?_
                refine j_iload (pc := 56) C d_Nine_years_56 1 rfl ?_
                refine j_if_eqF (pc := 58) C (tgt := 79) d_Nine_years_58 (by decide) (by decide) ?_
                refine j_iload (pc := 61) C d_Nine_years_61 0 rfl ?_
                refine j_if_eqT (pc := 63) C (tgt := 79) d_Nine_years_63 (by decide) (by decide) ?_
                refine j_ldc2 (pc := 79) C (v := (-1000000000)) (mt_5 (List.mem_of_getElem? (i := 47) rfl) rfl) d_Nine_years_79 ?_
                exact j_lret (pc := 82) C hr () (by simp only [Int32.lt_iff_toInt_lt, Int32.le_iff_toInt_le, ← Int32.toInt_inj, (by decide : Int32.toInt 0 = 0), (by decide : Int32.toInt 1 = 1), (by decide : Int32.toInt 3 = 3), (by decide : Int32.toInt 20 = 20)] at c1 c6 c11 c16 c21 c22 c23; (first | rw [if_pos (by omega)] | rw [if_neg (by omega)])) [] rfl (by decide) (by decide) (by decide) d_Nine_years_82
              · refine j_iload_n (pc := 43) C d_Nine_years_43 rfl 4 rfl ?_
                refine j_bipush (pc := 44) C (v := 100) d_Nine_years_44 (by decide) ?_
                refine j_icmp_gt (pc := 46) C (tgt := 53) d_Nine_years_46 (by decide) (fun c24 => ?_) (fun c24 => ?_)
                · refine j_iconst (pc := 53) C (v := 0) d_Nine_years_53 (by decide) ?_
                  refine j_istore (pc := 54) C (lv' := [(6, .int 0), (5, .int 1), (0, .ref x), (1, .int va), (2, .int vb), (3, .int vc), (4, .int vd)]) d_Nine_years_54 (by decide) rfl ?_
                  refine j_iload (pc := 56) C d_Nine_years_56 1 rfl ?_
                  refine j_if_eqF (pc := 58) C (tgt := 79) d_Nine_years_58 (by decide) (by decide) ?_
                  refine j_iload (pc := 61) C d_Nine_years_61 0 rfl ?_
                  refine j_if_eqT (pc := 63) C (tgt := 79) d_Nine_years_63 (by decide) (by decide) ?_
                  refine j_ldc2 (pc := 79) C (v := (-1000000000)) (mt_5 (List.mem_of_getElem? (i := 47) rfl) rfl) d_Nine_years_79 ?_
                  exact j_lret (pc := 82) C hr () (by simp only [Int32.lt_iff_toInt_lt, Int32.le_iff_toInt_le, ← Int32.toInt_inj, (by decide : Int32.toInt 0 = 0), (by decide : Int32.toInt 1 = 1), (by decide : Int32.toInt 3 = 3), (by decide : Int32.toInt 20 = 20), (by decide : Int32.toInt 100 = 100)] at c1 c6 c11 c16 c21 c22 c23 c24; (first | rw [if_pos (by omega)] | rw [if_neg (by omega)])) [] rfl (by decide) (by decide) (by decide) d_Nine_years_82
                · refine j_iconst (pc := 49) C (v := 1) d_Nine_years_49 (by decide) ?_
                  refine j_goto (pc := 50) C (tgt := 54) d_Nine_years_50 (by decide) ?_
                  refine j_istore (pc := 54) C (lv' := [(6, .int 1), (5, .int 1), (0, .ref x), (1, .int va), (2, .int vb), (3, .int vc), (4, .int vd)]) d_Nine_years_54 (by decide) rfl ?_
                  refine j_iload (pc := 56) C d_Nine_years_56 1 rfl ?_
                  refine j_if_eqF (pc := 58) C (tgt := 79) d_Nine_years_58 (by decide) (by decide) ?_
                  refine j_iload (pc := 61) C d_Nine_years_61 0 rfl ?_
                  refine j_if_eqF (pc := 63) C (tgt := 79) d_Nine_years_63 (by decide) (by decide) ?_
                  refine j_aload_n (pc := 66) C d_Nine_years_66 rfl 2 rfl ?_
                  refine j_get (pc := 67) C gf_Nine_24 0 rfl rfl d_Nine_years_67 ?_
                  refine j_get (pc := 70) C gf_Nine_124 13 rfl rfl d_Nine_years_70 ?_
                  refine j_sipush (pc := 73) C (v := 999) d_Nine_years_73 (by decide) ?_
                  refine j_icmp_ltT (pc := 76) C (tgt := 83) d_Nine_years_76 (by decide) (by decide) ?_
                  refine j_lconst (pc := 83) C (v := 0) d_Nine_years_83 (by decide) ?_
                  refine j_lstore (pc := 84) C (lv' := [(7, .long 0), (6, .int 1), (5, .int 1), (0, .ref x), (1, .int va), (2, .int vb), (3, .int vc), (4, .int vd)]) d_Nine_years_84 (by decide) rfl ?_
                  refine j_iconst (pc := 86) C (v := 0) d_Nine_years_86 (by decide) ?_
                  refine j_istore (pc := 87) C (lv' := [(9, .int 0), (7, .long 0), (6, .int 1), (5, .int 1), (0, .ref x), (1, .int va), (2, .int vb), (3, .int vc), (4, .int vd)]) d_Nine_years_87 (by decide) rfl ?_
                  obtain ⟨M, hM, rfl⟩ := nI_of2 (M := 20) (n := 20) (by decide) (n_lt1 c21) (Int32.not_lt.mp c22)
                  obtain ⟨N, hN, rfl⟩ := nI_of2 (M := 100) (n := 100) (by decide) (n_lt1 c23) (Int32.not_lt.mp c24)
                  refine j_locs (lv' := [(0, .ref x), (1, .int va), (2, .int (nI M)), (3, .int (nI N)), (4, .int vd), (7, .long 0), (9, .int 0)]) [4, 5, 6, 7, 8, 1, 0] rfl ?_
                  refine lp_years C x tp pi nw tr ps k k2 rd pl g vn vg t r g0 g1 g2 g3 g4 g5 g6 t0 t1 t2 t3 t4 t5 t6 r0 r1 r2 r3 r4 r5 m0 m1 m2 m3 m4 m5 m6 n0 n1 n2 n3 n4 n5 n6 va vd N hN M hM (fun dr dt => ?_) M 0 1 dt (by omega)
                  refine j_lload (pc := 122) C d_Nine_years_122 5 rfl ?_
                  exact j_lret (pc := 124) C hr () (by simp only [Int32.lt_iff_toInt_lt, Int32.le_iff_toInt_le, ← Int32.toInt_inj, (by decide : Int32.toInt 0 = 0), (by decide : Int32.toInt 1 = 1), (by decide : Int32.toInt 3 = 3), (by decide : Int32.toInt 20 = 20), (by decide : Int32.toInt 100 = 100)] at c1 c6 c11 c16 c21 c22 c23 c24; (first | rw [if_pos (by omega)] | rw [if_neg (by omega)])) [] rfl (by decide) (by decide) (by decide) d_Nine_years_124
