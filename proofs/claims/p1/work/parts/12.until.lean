theorem d_Nine_until_13 : decode prog_1_method_20_code 13 = .ok (.iload_n 3, 1) := by decide +kernel
theorem d_Nine_until_14 : decode prog_1_method_20_code 14 = .ok (.bipush 99, 2) := by decide +kernel
theorem d_Nine_until_16 : decode prog_1_method_20_code 16 = .ok (.if_icmp .gt 79, 3) := by decide +kernel
theorem d_Nine_until_19 : decode prog_1_method_20_code 19 = .ok (.aload_n 0, 1) := by decide +kernel
theorem d_Nine_until_20 : decode prog_1_method_20_code 20 = .ok (.getfield 41, 3) := by decide +kernel
theorem d_Nine_until_23 : decode prog_1_method_20_code 23 = .ok (.aload_n 0, 1) := by decide +kernel
theorem d_Nine_until_24 : decode prog_1_method_20_code 24 = .ok (.getfield 28, 3) := by decide +kernel
theorem d_Nine_until_27 : decode prog_1_method_20_code 27 = .ok (.getfield 127, 3) := by decide +kernel
theorem d_Nine_until_30 : decode prog_1_method_20_code 30 = .ok (.invokevirtual 130, 3) := by decide +kernel
theorem d_Nine_until_33 : decode prog_1_method_20_code 33 = .ok (.istore 4, 2) := by decide +kernel
theorem d_Nine_until_35 : decode prog_1_method_20_code 35 = .ok (.iload_n 2, 1) := by decide +kernel
theorem d_Nine_until_36 : decode prog_1_method_20_code 36 = .ok (.ifCond .eq 12, 3) := by decide +kernel
theorem d_Nine_until_39 : decode prog_1_method_20_code 39 = .ok (.iload 4, 2) := by decide +kernel
theorem d_Nine_until_41 : decode prog_1_method_20_code 41 = .ok (.iload_n 1, 1) := by decide +kernel
theorem d_Nine_until_42 : decode prog_1_method_20_code 42 = .ok (.if_icmp .le 20, 3) := by decide +kernel
theorem d_Nine_until_62 : decode prog_1_method_20_code 62 = .ok (.aload_n 0, 1) := by decide +kernel
theorem d_Nine_until_63 : decode prog_1_method_20_code 63 = .ok (.getfield 28, 3) := by decide +kernel
theorem d_Nine_until_66 : decode prog_1_method_20_code 66 = .ok (.getfield 124, 3) := by decide +kernel
theorem d_Nine_until_69 : decode prog_1_method_20_code 69 = .ok (.sipush 999, 3) := by decide +kernel
theorem d_Nine_until_72 : decode prog_1_method_20_code 72 = .ok (.if_icmp .lt 5, 3) := by decide +kernel
theorem d_Nine_until_77 : decode prog_1_method_20_code 77 = .ok (.aload_n 0, 1) := by decide +kernel
theorem d_Nine_until_78 : decode prog_1_method_20_code 78 = .ok (.getfield 41, 3) := by decide +kernel
theorem d_Nine_until_81 : decode prog_1_method_20_code 81 = .ok (.aload_n 0, 1) := by decide +kernel
theorem d_Nine_until_82 : decode prog_1_method_20_code 82 = .ok (.getfield 28, 3) := by decide +kernel
theorem d_Nine_until_85 : decode prog_1_method_20_code 85 = .ok (.iconst 0, 1) := by decide +kernel
theorem d_Nine_until_86 : decode prog_1_method_20_code 86 = .ok (.invokestatic 216, 3) := by decide +kernel
theorem d_Nine_until_89 : decode prog_1_method_20_code 89 = .ok (.iinc 3 1, 3) := by decide +kernel
theorem d_Nine_until_92 : decode prog_1_method_20_code 92 = .ok (.goto (-79), 3) := by decide +kernel
theorem d_Nine_until_48 : decode prog_1_method_20_code 48 = .ok (.iload 4, 2) := by decide +kernel
theorem d_Nine_until_50 : decode prog_1_method_20_code 50 = .ok (.iload_n 1, 1) := by decide +kernel
theorem d_Nine_until_51 : decode prog_1_method_20_code 51 = .ok (.if_icmp .ge 11, 3) := by decide +kernel
theorem d_Nine_until_0 : decode prog_1_method_20_code 0 = .ok (.aload_n 0, 1) := by decide +kernel
theorem d_Nine_until_1 : decode prog_1_method_20_code 1 = .ok (.getfield 28, 3) := by decide +kernel
theorem d_Nine_until_4 : decode prog_1_method_20_code 4 = .ok (.aload_n 0, 1) := by decide +kernel
theorem d_Nine_until_5 : decode prog_1_method_20_code 5 = .ok (.getfield 24, 3) := by decide +kernel
theorem d_Nine_until_8 : decode prog_1_method_20_code 8 = .ok (.invokevirtual 160, 3) := by decide +kernel
theorem d_Nine_until_11 : decode prog_1_method_20_code 11 = .ok (.iconst 0, 1) := by decide +kernel
theorem d_Nine_until_12 : decode prog_1_method_20_code 12 = .ok (.istore_n 3, 1) := by decide +kernel
theorem d_Nine_until_95 : decode prog_1_method_20_code 95 = .ok (.iconst (-1), 1) := by decide +kernel
theorem d_Nine_until_96 : decode prog_1_method_20_code 96 = .ok (.ireturn, 1) := by decide +kernel
theorem d_Nine_until_54 : decode prog_1_method_20_code 54 = .ok (.aload_n 0, 1) := by decide +kernel
theorem d_Nine_until_55 : decode prog_1_method_20_code 55 = .ok (.getfield 28, 3) := by decide +kernel
theorem d_Nine_until_58 : decode prog_1_method_20_code 58 = .ok (.getfield 124, 3) := by decide +kernel
theorem d_Nine_until_61 : decode prog_1_method_20_code 61 = .ok (.ireturn, 1) := by decide +kernel
theorem d_Nine_until_45 : decode prog_1_method_20_code 45 = .ok (.goto 9, 3) := by decide +kernel
set_option maxHeartbeats 4000000 in
set_option maxRecDepth 100000 in
theorem lp_untilA {p : Program} {l : Launch} {e : Env} {s : State} {m : MethodId} {args : Array Value} {below : List Frame} {meth : Method} {c : Code} {Q : State → Prop} {D : va_G} {y : Nat → ClassId} {A : Nat → Prop} (C : Cx p s m args meth c D y A prog_1_method_20_code 5 "NineBoards" "until") (x : Nat) (tp : Nat) (pi : Nat) (nw : Nat) (tr : Nat) (ps : Nat) (k : Nat) (k2 : Nat) (rd : Nat) (pl : Nat) (g : Nat) (vn : Nat) (vg : Nat) (t : Nat) (r : Nat) (g0 : Nat) (g1 : Nat) (g2 : Nat) (g3 : Nat) (g4 : Nat) (g5 : Nat) (g6 : Nat) (t0 : Nat) (t1 : Nat) (t2 : Nat) (t3 : Nat) (t4 : Nat) (t5 : Nat) (t6 : Nat) (r0 : Nat) (r1 : Nat) (r2 : Nat) (r3 : Nat) (r4 : Nat) (r5 : Nat) (m0 : Nat) (m1 : Nat) (m2 : Nat) (m3 : Nat) (m4 : Nat) (m5 : Nat) (m6 : Nat) (va : Int32) (vb : Int32) (h1 : ¬ vb = 0) (h2 : 0 ≤ va) (kx : J p l e ({ frames := 5, cells := 0, slots := 0, locals := 117 } : Room) s m args below meth c Q D A 5 [(x, .inr (9, [.ref tp, .ref pi, .ref nw, .ref tr, .ref ps, .ref k, .ref k2, .ref rd, .ref pl, .int 1])), (k, .inr (2, [.int 0, .int 1, .int 1, .int 0, .ref g, .int 0, .ref vn, .ref vg, .ref t, .ref r, .int 0, .int 0, .int 9999, .int 0])), (g, .inr (1, [.int 0, .ref g0, .ref g1, .ref g2, .ref g3, .ref g4, .ref g5, .ref g6])), (t, .inr (8, [.int 0, .ref t0, .ref t1, .ref t2, .ref t3, .ref t4, .ref t5, .ref t6])), (r, .inr (6, [.int 0, .int 0, .ref r0, .ref r1, .ref r2, .ref r3, .ref r4, .ref r5])), (tr, .inr (7, [.int (nI 100), .int 0, .int 0, .ref m0, .ref m1, .ref m2, .ref m3, .ref m4, .ref m5, .ref m6])), (m6, .inl (y 1, 5, .inr (.inl (fun _ => 0))))] [(0, .ref x), (1, .int va), (2, .int vb), (3, .int (nI 100)), (4, .int 0)] 0 0 95 []) : ∀ (n : Nat) (i : Nat), (i + n = 100) → J p l e ({ frames := 5, cells := 0, slots := 0, locals := 117 } : Room) s m args below meth c Q D A 5 [(x, .inr (9, [.ref tp, .ref pi, .ref nw, .ref tr, .ref ps, .ref k, .ref k2, .ref rd, .ref pl, .int 1])), (k, .inr (2, [.int 0, .int 1, .int 1, .int 0, .ref g, .int 0, .ref vn, .ref vg, .ref t, .ref r, .int 0, .int 0, .int 9999, .int 0])), (g, .inr (1, [.int 0, .ref g0, .ref g1, .ref g2, .ref g3, .ref g4, .ref g5, .ref g6])), (t, .inr (8, [.int 0, .ref t0, .ref t1, .ref t2, .ref t3, .ref t4, .ref t5, .ref t6])), (r, .inr (6, [.int 0, .int 0, .ref r0, .ref r1, .ref r2, .ref r3, .ref r4, .ref r5])), (tr, .inr (7, [.int (nI i), .int 0, .int 0, .ref m0, .ref m1, .ref m2, .ref m3, .ref m4, .ref m5, .ref m6])), (m6, .inl (y 1, 5, .inr (.inl (fun _ => 0))))] [(0, .ref x), (1, .int va), (2, .int vb), (3, .int (nI i)), (4, .int 0)] 0 0 13 [] := by
  intro n
  induction n with
  | zero =>
    intro i hi
    obtain rfl : i = 100 := by omega
    refine j_iload_n (pc := 13) C d_Nine_until_13 rfl 3 rfl ?_
    refine j_bipush (pc := 14) C (v := 99) d_Nine_until_14 (by decide) ?_
    refine j_icmp_gtT (pc := 16) C (tgt := 95) d_Nine_until_16 (by decide) (by decide) ?_
    exact kx
  | succ n ih =>
    intro i hi
    refine j_iload_n (pc := 13) C d_Nine_until_13 rfl 3 rfl ?_
    refine j_bipush (pc := 14) C (v := 99) d_Nine_until_14 (by decide) ?_
    refine j_icmp_gtF (pc := 16) C (tgt := 95) d_Nine_until_16 (by decide) (show ¬ nI 99 < nI i from nI_nlt (by omega) (by decide)) ?_
    refine j_aload_n (pc := 19) C d_Nine_until_19 rfl 0 rfl ?_
    refine j_get (pc := 20) C gf_Nine_41 0 rfl rfl d_Nine_until_20 ?_
    refine j_aload_n (pc := 23) C d_Nine_until_23 rfl 0 rfl ?_
    refine j_get (pc := 24) C gf_Nine_28 0 rfl rfl d_Nine_until_24 ?_
    refine j_get (pc := 27) C gf_Nine_127 5 rfl rfl d_Nine_until_27 ?_
    refine j_callVi (pc := 30) C (c_levelAt_0 l D y k g vn vg t r) kw_Nine_130 kv_Lake_levelAt 0 2 rfl rfl ⟨by decide, by decide⟩ ⟨by decide, by decide⟩ (wr := [(x, .inr (9, [.ref tp, .ref pi, .ref nw, .ref tr, .ref ps, .ref k, .ref k2, .ref rd, .ref pl, .int 1])), (g, .inr (1, [.int 0, .ref g0, .ref g1, .ref g2, .ref g3, .ref g4, .ref g5, .ref g6])), (t, .inr (8, [.int 0, .ref t0, .ref t1, .ref t2, .ref t3, .ref t4, .ref t5, .ref t6])), (r, .inr (6, [.int 0, .int 0, .ref r0, .ref r1, .ref r2, .ref r3, .ref r4, .ref r5])), (tr, .inr (7, [.int (nI i), .int 0, .int 0, .ref m0, .ref m1, .ref m2, .ref m3, .ref m4, .ref m5, .ref m6])), (m6, .inl (y 1, 5, .inr (.inl (fun _ => 0))))]) [1] [0, 2, 3, 4, 5, 6] rfl rfl (by decide) (by decide) (by decide) (As := [.int 0]) (rest := []) rfl (nb rfl) rfl d_Nine_until_30 (fun r6 _ hr6 => ?_)
    subst hr6
    refine j_ws (ws' := [(x, .inr (9, [.ref tp, .ref pi, .ref nw, .ref tr, .ref ps, .ref k, .ref k2, .ref rd, .ref pl, .int 1])), (g, .inr (1, [.int 0, .ref g0, .ref g1, .ref g2, .ref g3, .ref g4, .ref g5, .ref g6])), (t, .inr (8, [.int 0, .ref t0, .ref t1, .ref t2, .ref t3, .ref t4, .ref t5, .ref t6])), (r, .inr (6, [.int 0, .int 0, .ref r0, .ref r1, .ref r2, .ref r3, .ref r4, .ref r5])), (tr, .inr (7, [.int (nI i), .int 0, .int 0, .ref m0, .ref m1, .ref m2, .ref m3, .ref m4, .ref m5, .ref m6])), (m6, .inl (y 1, 5, .inr (.inl (fun _ => 0)))), (k, .inr (2, [.int 0, .int 1, .int 1, .int 0, .ref g, .int 0, .ref vn, .ref vg, .ref t, .ref r, .int 0, .int 0, .int 9999, .int 0]))]) rfl ?_
    refine j_st (st' := [.int 0]) rfl ?_
    refine j_istore (pc := 33) C (lv' := [(4, .int 0), (0, .ref x), (1, .int va), (2, .int vb), (3, .int (nI i))]) d_Nine_until_33 (by decide) rfl ?_
    refine j_iload_n (pc := 35) C d_Nine_until_35 rfl 3 rfl ?_
    refine j_if_eqF (pc := 36) C (tgt := 48) d_Nine_until_36 (by decide) h1 ?_
    refine j_iload (pc := 39) C d_Nine_until_39 0 rfl ?_
    refine j_iload_n (pc := 41) C d_Nine_until_41 rfl 2 rfl ?_
    refine j_icmp_leT (pc := 42) C (tgt := 62) d_Nine_until_42 (by decide) h2 ?_
    refine j_aload_n (pc := 62) C d_Nine_until_62 rfl 1 rfl ?_
    refine j_get (pc := 63) C gf_Nine_28 0 rfl rfl d_Nine_until_63 ?_
    refine j_get (pc := 66) C gf_Nine_124 4 rfl rfl d_Nine_until_66 ?_
    refine j_sipush (pc := 69) C (v := 999) d_Nine_until_69 (by decide) ?_
    refine j_icmp_ltT (pc := 72) C (tgt := 77) d_Nine_until_72 (by decide) (show nI i < nI 999 from nI_lt (by omega) (by decide)) ?_
    refine j_aload_n (pc := 77) C d_Nine_until_77 rfl 1 rfl ?_
    refine j_get (pc := 78) C gf_Nine_41 0 rfl rfl d_Nine_until_78 ?_
    refine j_aload_n (pc := 81) C d_Nine_until_81 rfl 1 rfl ?_
    refine j_get (pc := 82) C gf_Nine_28 0 rfl rfl d_Nine_until_82 ?_
    refine j_iconst (pc := 85) C (v := 0) d_Nine_until_85 (by decide) ?_
    refine j_callSv (pc := 86) C (c_pass l D y k g vn vg t r g0 g1 g2 g3 g4 g5 g6 t0 t1 t2 t3 t4 t5 t6 r0 r1 r2 r3 r4 r5 tr m0 m1 m2 m3 m4 m5 m6 (nI i)) kw_Nine_216 ks_Days_pass ⟨by decide, by decide⟩ ⟨by decide, by decide⟩ (wr := [(x, .inr (9, [.ref tp, .ref pi, .ref nw, .ref tr, .ref ps, .ref k, .ref k2, .ref rd, .ref pl, .int 1]))]) [6, 1, 2, 3, 4, 5] [0] rfl rfl (by decide) (by decide) (by decide) (As := [.ref k, .ref tr, .int 0]) (rest := []) rfl (nb rfl) rfl d_Nine_until_86 (fun _ _ => ?_)
    refine j_ws (ws' := [(x, .inr (9, [.ref tp, .ref pi, .ref nw, .ref tr, .ref ps, .ref k, .ref k2, .ref rd, .ref pl, .int 1])), (k, .inr (2, [.int 0, .int 1, .int 1, .int 0, .ref g, .int 0, .ref vn, .ref vg, .ref t, .ref r, .int 0, .int 0, .int 9999, .int 0])), (g, .inr (1, [.int 0, .ref g0, .ref g1, .ref g2, .ref g3, .ref g4, .ref g5, .ref g6])), (t, .inr (8, [.int 0, .ref t0, .ref t1, .ref t2, .ref t3, .ref t4, .ref t5, .ref t6])), (r, .inr (6, [.int 0, .int 0, .ref r0, .ref r1, .ref r2, .ref r3, .ref r4, .ref r5])), (tr, .inr (7, [.int ((nI i) + 1), .int 0, .int 0, .ref m0, .ref m1, .ref m2, .ref m3, .ref m4, .ref m5, .ref m6])), (m6, .inl (y 1, 5, .inr (.inl (fun _ => 0))))]) rfl ?_
    refine j_ws (ws' := [(x, .inr (9, [.ref tp, .ref pi, .ref nw, .ref tr, .ref ps, .ref k, .ref k2, .ref rd, .ref pl, .int 1])), (k, .inr (2, [.int 0, .int 1, .int 1, .int 0, .ref g, .int 0, .ref vn, .ref vg, .ref t, .ref r, .int 0, .int 0, .int 9999, .int 0])), (g, .inr (1, [.int 0, .ref g0, .ref g1, .ref g2, .ref g3, .ref g4, .ref g5, .ref g6])), (t, .inr (8, [.int 0, .ref t0, .ref t1, .ref t2, .ref t3, .ref t4, .ref t5, .ref t6])), (r, .inr (6, [.int 0, .int 0, .ref r0, .ref r1, .ref r2, .ref r3, .ref r4, .ref r5])), (tr, .inr (7, [.int (nI (i + 1)), .int 0, .int 0, .ref m0, .ref m1, .ref m2, .ref m3, .ref m4, .ref m5, .ref m6])), (m6, .inl (y 1, 5, .inr (.inl (fun _ => 0))))]) (by rw [nI_1]) ?_
    refine j_iinc (pc := 89) C (v := nI (i + 1)) (lv' := [(3, .int (nI (i + 1))), (4, .int 0), (0, .ref x), (1, .int va), (2, .int vb)]) d_Nine_until_89 4 rfl (nI_1 _) (by decide) rfl ?_
    refine j_goto (pc := 92) C (tgt := 13) d_Nine_until_92 (by decide) ?_
    refine j_locs (lv' := [(0, .ref x), (1, .int va), (2, .int vb), (3, .int (nI (i + 1))), (4, .int 0)]) [2, 3, 4, 0, 1] rfl ?_
    exact ih (i + 1) (by omega)
set_option maxHeartbeats 4000000 in
set_option maxRecDepth 100000 in
theorem lp_untilB {p : Program} {l : Launch} {e : Env} {s : State} {m : MethodId} {args : Array Value} {below : List Frame} {meth : Method} {c : Code} {Q : State → Prop} {D : va_G} {y : Nat → ClassId} {A : Nat → Prop} (C : Cx p s m args meth c D y A prog_1_method_20_code 5 "NineBoards" "until") (x : Nat) (tp : Nat) (pi : Nat) (nw : Nat) (tr : Nat) (ps : Nat) (k : Nat) (k2 : Nat) (rd : Nat) (pl : Nat) (g : Nat) (vn : Nat) (vg : Nat) (t : Nat) (r : Nat) (g0 : Nat) (g1 : Nat) (g2 : Nat) (g3 : Nat) (g4 : Nat) (g5 : Nat) (g6 : Nat) (t0 : Nat) (t1 : Nat) (t2 : Nat) (t3 : Nat) (t4 : Nat) (t5 : Nat) (t6 : Nat) (r0 : Nat) (r1 : Nat) (r2 : Nat) (r3 : Nat) (r4 : Nat) (r5 : Nat) (m0 : Nat) (m1 : Nat) (m2 : Nat) (m3 : Nat) (m4 : Nat) (m5 : Nat) (m6 : Nat) (va : Int32) (vb : Int32) (h1 : vb = 0) (h2 : va ≤ 0) (kx : J p l e ({ frames := 5, cells := 0, slots := 0, locals := 117 } : Room) s m args below meth c Q D A 5 [(x, .inr (9, [.ref tp, .ref pi, .ref nw, .ref tr, .ref ps, .ref k, .ref k2, .ref rd, .ref pl, .int 1])), (k, .inr (2, [.int 0, .int 1, .int 1, .int 0, .ref g, .int 0, .ref vn, .ref vg, .ref t, .ref r, .int 0, .int 0, .int 9999, .int 0])), (g, .inr (1, [.int 0, .ref g0, .ref g1, .ref g2, .ref g3, .ref g4, .ref g5, .ref g6])), (t, .inr (8, [.int 0, .ref t0, .ref t1, .ref t2, .ref t3, .ref t4, .ref t5, .ref t6])), (r, .inr (6, [.int 0, .int 0, .ref r0, .ref r1, .ref r2, .ref r3, .ref r4, .ref r5])), (tr, .inr (7, [.int (nI 100), .int 0, .int 0, .ref m0, .ref m1, .ref m2, .ref m3, .ref m4, .ref m5, .ref m6])), (m6, .inl (y 1, 5, .inr (.inl (fun _ => 0))))] [(0, .ref x), (1, .int va), (2, .int vb), (3, .int (nI 100)), (4, .int 0)] 0 0 95 []) : ∀ (n : Nat) (i : Nat), (i + n = 100) → J p l e ({ frames := 5, cells := 0, slots := 0, locals := 117 } : Room) s m args below meth c Q D A 5 [(x, .inr (9, [.ref tp, .ref pi, .ref nw, .ref tr, .ref ps, .ref k, .ref k2, .ref rd, .ref pl, .int 1])), (k, .inr (2, [.int 0, .int 1, .int 1, .int 0, .ref g, .int 0, .ref vn, .ref vg, .ref t, .ref r, .int 0, .int 0, .int 9999, .int 0])), (g, .inr (1, [.int 0, .ref g0, .ref g1, .ref g2, .ref g3, .ref g4, .ref g5, .ref g6])), (t, .inr (8, [.int 0, .ref t0, .ref t1, .ref t2, .ref t3, .ref t4, .ref t5, .ref t6])), (r, .inr (6, [.int 0, .int 0, .ref r0, .ref r1, .ref r2, .ref r3, .ref r4, .ref r5])), (tr, .inr (7, [.int (nI i), .int 0, .int 0, .ref m0, .ref m1, .ref m2, .ref m3, .ref m4, .ref m5, .ref m6])), (m6, .inl (y 1, 5, .inr (.inl (fun _ => 0))))] [(0, .ref x), (1, .int va), (2, .int vb), (3, .int (nI i)), (4, .int 0)] 0 0 13 [] := by
  intro n
  induction n with
  | zero =>
    intro i hi
    obtain rfl : i = 100 := by omega
    refine j_iload_n (pc := 13) C d_Nine_until_13 rfl 3 rfl ?_
    refine j_bipush (pc := 14) C (v := 99) d_Nine_until_14 (by decide) ?_
    refine j_icmp_gtT (pc := 16) C (tgt := 95) d_Nine_until_16 (by decide) (by decide) ?_
    exact kx
  | succ n ih =>
    intro i hi
    refine j_iload_n (pc := 13) C d_Nine_until_13 rfl 3 rfl ?_
    refine j_bipush (pc := 14) C (v := 99) d_Nine_until_14 (by decide) ?_
    refine j_icmp_gtF (pc := 16) C (tgt := 95) d_Nine_until_16 (by decide) (show ¬ nI 99 < nI i from nI_nlt (by omega) (by decide)) ?_
    refine j_aload_n (pc := 19) C d_Nine_until_19 rfl 0 rfl ?_
    refine j_get (pc := 20) C gf_Nine_41 0 rfl rfl d_Nine_until_20 ?_
    refine j_aload_n (pc := 23) C d_Nine_until_23 rfl 0 rfl ?_
    refine j_get (pc := 24) C gf_Nine_28 0 rfl rfl d_Nine_until_24 ?_
    refine j_get (pc := 27) C gf_Nine_127 5 rfl rfl d_Nine_until_27 ?_
    refine j_callVi (pc := 30) C (c_levelAt_0 l D y k g vn vg t r) kw_Nine_130 kv_Lake_levelAt 0 2 rfl rfl ⟨by decide, by decide⟩ ⟨by decide, by decide⟩ (wr := [(x, .inr (9, [.ref tp, .ref pi, .ref nw, .ref tr, .ref ps, .ref k, .ref k2, .ref rd, .ref pl, .int 1])), (g, .inr (1, [.int 0, .ref g0, .ref g1, .ref g2, .ref g3, .ref g4, .ref g5, .ref g6])), (t, .inr (8, [.int 0, .ref t0, .ref t1, .ref t2, .ref t3, .ref t4, .ref t5, .ref t6])), (r, .inr (6, [.int 0, .int 0, .ref r0, .ref r1, .ref r2, .ref r3, .ref r4, .ref r5])), (tr, .inr (7, [.int (nI i), .int 0, .int 0, .ref m0, .ref m1, .ref m2, .ref m3, .ref m4, .ref m5, .ref m6])), (m6, .inl (y 1, 5, .inr (.inl (fun _ => 0))))]) [1] [0, 2, 3, 4, 5, 6] rfl rfl (by decide) (by decide) (by decide) (As := [.int 0]) (rest := []) rfl (nb rfl) rfl d_Nine_until_30 (fun r6 _ hr6 => ?_)
    subst hr6
    refine j_ws (ws' := [(x, .inr (9, [.ref tp, .ref pi, .ref nw, .ref tr, .ref ps, .ref k, .ref k2, .ref rd, .ref pl, .int 1])), (g, .inr (1, [.int 0, .ref g0, .ref g1, .ref g2, .ref g3, .ref g4, .ref g5, .ref g6])), (t, .inr (8, [.int 0, .ref t0, .ref t1, .ref t2, .ref t3, .ref t4, .ref t5, .ref t6])), (r, .inr (6, [.int 0, .int 0, .ref r0, .ref r1, .ref r2, .ref r3, .ref r4, .ref r5])), (tr, .inr (7, [.int (nI i), .int 0, .int 0, .ref m0, .ref m1, .ref m2, .ref m3, .ref m4, .ref m5, .ref m6])), (m6, .inl (y 1, 5, .inr (.inl (fun _ => 0)))), (k, .inr (2, [.int 0, .int 1, .int 1, .int 0, .ref g, .int 0, .ref vn, .ref vg, .ref t, .ref r, .int 0, .int 0, .int 9999, .int 0]))]) rfl ?_
    refine j_st (st' := [.int 0]) rfl ?_
    refine j_istore (pc := 33) C (lv' := [(4, .int 0), (0, .ref x), (1, .int va), (2, .int vb), (3, .int (nI i))]) d_Nine_until_33 (by decide) rfl ?_
    refine j_iload_n (pc := 35) C d_Nine_until_35 rfl 3 rfl ?_
    refine j_if_eqT (pc := 36) C (tgt := 48) d_Nine_until_36 (by decide) h1 ?_
    refine j_iload (pc := 48) C d_Nine_until_48 0 rfl ?_
    refine j_iload_n (pc := 50) C d_Nine_until_50 rfl 2 rfl ?_
    refine j_icmp_geT (pc := 51) C (tgt := 62) d_Nine_until_51 (by decide) h2 ?_
    refine j_aload_n (pc := 62) C d_Nine_until_62 rfl 1 rfl ?_
    refine j_get (pc := 63) C gf_Nine_28 0 rfl rfl d_Nine_until_63 ?_
    refine j_get (pc := 66) C gf_Nine_124 4 rfl rfl d_Nine_until_66 ?_
    refine j_sipush (pc := 69) C (v := 999) d_Nine_until_69 (by decide) ?_
    refine j_icmp_ltT (pc := 72) C (tgt := 77) d_Nine_until_72 (by decide) (show nI i < nI 999 from nI_lt (by omega) (by decide)) ?_
    refine j_aload_n (pc := 77) C d_Nine_until_77 rfl 1 rfl ?_
    refine j_get (pc := 78) C gf_Nine_41 0 rfl rfl d_Nine_until_78 ?_
    refine j_aload_n (pc := 81) C d_Nine_until_81 rfl 1 rfl ?_
    refine j_get (pc := 82) C gf_Nine_28 0 rfl rfl d_Nine_until_82 ?_
    refine j_iconst (pc := 85) C (v := 0) d_Nine_until_85 (by decide) ?_
    refine j_callSv (pc := 86) C (c_pass l D y k g vn vg t r g0 g1 g2 g3 g4 g5 g6 t0 t1 t2 t3 t4 t5 t6 r0 r1 r2 r3 r4 r5 tr m0 m1 m2 m3 m4 m5 m6 (nI i)) kw_Nine_216 ks_Days_pass ⟨by decide, by decide⟩ ⟨by decide, by decide⟩ (wr := [(x, .inr (9, [.ref tp, .ref pi, .ref nw, .ref tr, .ref ps, .ref k, .ref k2, .ref rd, .ref pl, .int 1]))]) [6, 1, 2, 3, 4, 5] [0] rfl rfl (by decide) (by decide) (by decide) (As := [.ref k, .ref tr, .int 0]) (rest := []) rfl (nb rfl) rfl d_Nine_until_86 (fun _ _ => ?_)
    refine j_ws (ws' := [(x, .inr (9, [.ref tp, .ref pi, .ref nw, .ref tr, .ref ps, .ref k, .ref k2, .ref rd, .ref pl, .int 1])), (k, .inr (2, [.int 0, .int 1, .int 1, .int 0, .ref g, .int 0, .ref vn, .ref vg, .ref t, .ref r, .int 0, .int 0, .int 9999, .int 0])), (g, .inr (1, [.int 0, .ref g0, .ref g1, .ref g2, .ref g3, .ref g4, .ref g5, .ref g6])), (t, .inr (8, [.int 0, .ref t0, .ref t1, .ref t2, .ref t3, .ref t4, .ref t5, .ref t6])), (r, .inr (6, [.int 0, .int 0, .ref r0, .ref r1, .ref r2, .ref r3, .ref r4, .ref r5])), (tr, .inr (7, [.int ((nI i) + 1), .int 0, .int 0, .ref m0, .ref m1, .ref m2, .ref m3, .ref m4, .ref m5, .ref m6])), (m6, .inl (y 1, 5, .inr (.inl (fun _ => 0))))]) rfl ?_
    refine j_ws (ws' := [(x, .inr (9, [.ref tp, .ref pi, .ref nw, .ref tr, .ref ps, .ref k, .ref k2, .ref rd, .ref pl, .int 1])), (k, .inr (2, [.int 0, .int 1, .int 1, .int 0, .ref g, .int 0, .ref vn, .ref vg, .ref t, .ref r, .int 0, .int 0, .int 9999, .int 0])), (g, .inr (1, [.int 0, .ref g0, .ref g1, .ref g2, .ref g3, .ref g4, .ref g5, .ref g6])), (t, .inr (8, [.int 0, .ref t0, .ref t1, .ref t2, .ref t3, .ref t4, .ref t5, .ref t6])), (r, .inr (6, [.int 0, .int 0, .ref r0, .ref r1, .ref r2, .ref r3, .ref r4, .ref r5])), (tr, .inr (7, [.int (nI (i + 1)), .int 0, .int 0, .ref m0, .ref m1, .ref m2, .ref m3, .ref m4, .ref m5, .ref m6])), (m6, .inl (y 1, 5, .inr (.inl (fun _ => 0))))]) (by rw [nI_1]) ?_
    refine j_iinc (pc := 89) C (v := nI (i + 1)) (lv' := [(3, .int (nI (i + 1))), (4, .int 0), (0, .ref x), (1, .int va), (2, .int vb)]) d_Nine_until_89 4 rfl (nI_1 _) (by decide) rfl ?_
    refine j_goto (pc := 92) C (tgt := 13) d_Nine_until_92 (by decide) ?_
    refine j_locs (lv' := [(0, .ref x), (1, .int va), (2, .int vb), (3, .int (nI (i + 1))), (4, .int 0)]) [2, 3, 4, 0, 1] rfl ?_
    exact ih (i + 1) (by omega)
set_option maxHeartbeats 4000000 in
set_option maxRecDepth 100000 in
theorem c_N_until (l : Launch) (D : va_G) (y : Nat → ClassId) (x : Nat) (tp : Nat) (pi : Nat) (nw : Nat) (tr : Nat) (ps : Nat) (k : Nat) (k2 : Nat) (rd : Nat) (pl : Nat) (g : Nat) (vn : Nat) (vg : Nat) (t : Nat) (r : Nat) (g0 : Nat) (g1 : Nat) (g2 : Nat) (g3 : Nat) (g4 : Nat) (g5 : Nat) (g6 : Nat) (t0 : Nat) (t1 : Nat) (t2 : Nat) (t3 : Nat) (t4 : Nat) (t5 : Nat) (t6 : Nat) (r0 : Nat) (r1 : Nat) (r2 : Nat) (r3 : Nat) (r4 : Nat) (r5 : Nat) (dt : Int32) (m0 : Nat) (m1 : Nat) (m2 : Nat) (m3 : Nat) (m4 : Nat) (m5 : Nat) (m6 : Nat) (n0 : Nat) (n1 : Nat) (n2 : Nat) (n3 : Nat) (n4 : Nat) (n5 : Nat) (n6 : Nat) (va : Int32) (vb : Int32)  : CT l D y ⟨"NineBoards", "until", "(IZ)I"⟩ prog_1_method_20_code 5 (some .int) ({ frames := 5, cells := 0, slots := 0, locals := 117 } : Room) [.ref x, .int va, .int vb] [(x, .inr (9, [.ref tp, .ref pi, .ref nw, .ref tr, .ref ps, .ref k, .ref k2, .ref rd, .ref pl, .int 1])), (k, .inr (2, [.int 0, .int 1, .int 1, .int 0, .ref g, .int 0, .ref vn, .ref vg, .ref t, .ref r, .int 0, .int 0, .int 9999, .int 0])), (g, .inr (1, [.int 0, .ref g0, .ref g1, .ref g2, .ref g3, .ref g4, .ref g5, .ref g6])), (t, .inr (8, [.int 0, .ref t0, .ref t1, .ref t2, .ref t3, .ref t4, .ref t5, .ref t6])), (r, .inr (6, [.int 0, .int 0, .ref r0, .ref r1, .ref r2, .ref r3, .ref r4, .ref r5])), (tr, .inr (7, [.int dt, .int 0, .int 0, .ref m0, .ref m1, .ref m2, .ref m3, .ref m4, .ref m5, .ref m6])), (m0, .inl (y 0, 9, .inl (fun _ => 0))), (m1, .inl (y 0, 9, .inl (fun _ => 0))), (m2, .inl (y 1, 9, .inr (.inl (fun _ => 0)))), (m3, .inl (y 0, 6, .inl (fun _ => 0))), (m4, .inl (y 0, 6, .inl (fun _ => 0))), (m5, .inl (y 0, 16, .inl (fun _ => 0))), (m6, .inl (y 1, 5, .inr (.inl (fun _ => 0)))), (nw, .inr (7, [.int 0, .int 0, .int 0, .ref n0, .ref n1, .ref n2, .ref n3, .ref n4, .ref n5, .ref n6])), (n0, .inl (y 0, 9, .inl (fun _ => 0))), (n1, .inl (y 0, 9, .inl (fun _ => 0))), (n2, .inl (y 1, 9, .inr (.inl (fun _ => 0)))), (n3, .inl (y 0, 6, .inl (fun _ => 0))), (n4, .inl (y 0, 6, .inl (fun _ => 0))), (n5, .inl (y 0, 16, .inl (fun _ => 0))), (n6, .inl (y 1, 5, .inr (.inl (fun _ => 0))))] (QI D [(x, .inr (9, [.ref tp, .ref pi, .ref nw, .ref tr, .ref ps, .ref k, .ref k2, .ref rd, .ref pl, .int 1])), (k, .inr (2, [.int 0, .int 1, .int 1, .int 0, .ref g, .int 0, .ref vn, .ref vg, .ref t, .ref r, .int 0, .int 0, .int 9999, .int 0])), (g, .inr (1, [.int 0, .ref g0, .ref g1, .ref g2, .ref g3, .ref g4, .ref g5, .ref g6])), (t, .inr (8, [.int 0, .ref t0, .ref t1, .ref t2, .ref t3, .ref t4, .ref t5, .ref t6])), (r, .inr (6, [.int 0, .int 0, .ref r0, .ref r1, .ref r2, .ref r3, .ref r4, .ref r5])), (tr, .inr (7, [.int dt, .int 0, .int 0, .ref m0, .ref m1, .ref m2, .ref m3, .ref m4, .ref m5, .ref m6])), (m0, .inl (y 0, 9, .inl (fun _ => 0))), (m1, .inl (y 0, 9, .inl (fun _ => 0))), (m2, .inl (y 1, 9, .inr (.inl (fun _ => 0)))), (m3, .inl (y 0, 6, .inl (fun _ => 0))), (m4, .inl (y 0, 6, .inl (fun _ => 0))), (m5, .inl (y 0, 16, .inl (fun _ => 0))), (m6, .inl (y 1, 5, .inr (.inl (fun _ => 0)))), (nw, .inr (7, [.int 0, .int 0, .int 0, .ref n0, .ref n1, .ref n2, .ref n3, .ref n4, .ref n5, .ref n6])), (n0, .inl (y 0, 9, .inl (fun _ => 0))), (n1, .inl (y 0, 9, .inl (fun _ => 0))), (n2, .inl (y 1, 9, .inr (.inl (fun _ => 0)))), (n3, .inl (y 0, 6, .inl (fun _ => 0))), (n4, .inl (y 0, 6, .inl (fun _ => 0))), (n5, .inl (y 0, 16, .inl (fun _ => 0))), (n6, .inl (y 1, 5, .inr (.inl (fun _ => 0))))] (fun (r : Int32) (_ : Unit) => r = if (vb.toInt ≠ 0 ∧ va.toInt < 0) ∨ (vb.toInt = 0 ∧ 0 < va.toInt) then 0 else -1) (fun _ => [])) := by
  refine CT.of (by decide) (nb rfl) ?_
  intro p e s m args below meth c C hr
  refine j_lv (lv' := [(0, .ref x), (1, .int va), (2, .int vb)]) rfl ?_
  refine j_aload_n (pc := 0) C d_Nine_until_0 rfl 0 rfl ?_
  refine j_get (pc := 1) C gf_Nine_28 0 rfl rfl d_Nine_until_1 ?_
  refine j_aload_n (pc := 4) C d_Nine_until_4 rfl 0 rfl ?_
  refine j_get (pc := 5) C gf_Nine_24 0 rfl rfl d_Nine_until_5 ?_
  refine j_callVv (pc := 8) C (c_take l D y tr m0 m1 m2 m3 m4 m5 m6 dt nw n0 n1 n2 n3 n4 n5 n6 0) kw_Nine_160 kv_State_take 0 7 rfl rfl ⟨by decide, by decide⟩ ⟨by decide, by decide⟩ (wr := [(x, .inr (9, [.ref tp, .ref pi, .ref nw, .ref tr, .ref ps, .ref k, .ref k2, .ref rd, .ref pl, .int 1])), (k, .inr (2, [.int 0, .int 1, .int 1, .int 0, .ref g, .int 0, .ref vn, .ref vg, .ref t, .ref r, .int 0, .int 0, .int 9999, .int 0])), (g, .inr (1, [.int 0, .ref g0, .ref g1, .ref g2, .ref g3, .ref g4, .ref g5, .ref g6])), (t, .inr (8, [.int 0, .ref t0, .ref t1, .ref t2, .ref t3, .ref t4, .ref t5, .ref t6])), (r, .inr (6, [.int 0, .int 0, .ref r0, .ref r1, .ref r2, .ref r3, .ref r4, .ref r5]))]) [5, 6, 7, 8, 9, 10, 11, 12, 13, 14, 15, 16, 17, 18, 19, 20] [0, 1, 2, 3, 4] rfl rfl (by decide) (by decide) (by decide) (As := [.ref nw]) (rest := []) rfl (nb rfl) rfl d_Nine_until_8 (fun _ _ => ?_)
  refine j_ws (ws' := [(x, .inr (9, [.ref tp, .ref pi, .ref nw, .ref tr, .ref ps, .ref k, .ref k2, .ref rd, .ref pl, .int 1])), (k, .inr (2, [.int 0, .int 1, .int 1, .int 0, .ref g, .int 0, .ref vn, .ref vg, .ref t, .ref r, .int 0, .int 0, .int 9999, .int 0])), (g, .inr (1, [.int 0, .ref g0, .ref g1, .ref g2, .ref g3, .ref g4, .ref g5, .ref g6])), (t, .inr (8, [.int 0, .ref t0, .ref t1, .ref t2, .ref t3, .ref t4, .ref t5, .ref t6])), (r, .inr (6, [.int 0, .int 0, .ref r0, .ref r1, .ref r2, .ref r3, .ref r4, .ref r5])), (tr, .inr (7, [.int 0, .int 0, .int 0, .ref m0, .ref m1, .ref m2, .ref m3, .ref m4, .ref m5, .ref m6])), (m0, .inl (y 0, 9, .inl (fun _ => 0))), (m1, .inl (y 0, 9, .inl (fun _ => 0))), (m2, .inl (y 1, 9, .inr (.inl (fun _ => 0)))), (m3, .inl (y 0, 6, .inl (fun _ => 0))), (m4, .inl (y 0, 6, .inl (fun _ => 0))), (m5, .inl (y 0, 16, .inl (fun _ => 0))), (m6, .inl (y 1, 5, .inr (.inl (fun _ => 0)))), (nw, .inr (7, [.int 0, .int 0, .int 0, .ref n0, .ref n1, .ref n2, .ref n3, .ref n4, .ref n5, .ref n6])), (n0, .inl (y 0, 9, .inl (fun _ => 0))), (n1, .inl (y 0, 9, .inl (fun _ => 0))), (n2, .inl (y 1, 9, .inr (.inl (fun _ => 0)))), (n3, .inl (y 0, 6, .inl (fun _ => 0))), (n4, .inl (y 0, 6, .inl (fun _ => 0))), (n5, .inl (y 0, 16, .inl (fun _ => 0))), (n6, .inl (y 1, 5, .inr (.inl (fun _ => 0))))]) rfl ?_
  refine j_iconst (pc := 11) C (v := 0) d_Nine_until_11 (by decide) ?_
  refine j_istore_n (pc := 12) C (lv' := [(3, .int 0), (0, .ref x), (1, .int va), (2, .int vb)]) d_Nine_until_12 rfl (by decide) rfl ?_
  refine j_iload_n (pc := 13) C d_Nine_until_13 rfl 0 rfl ?_
  refine j_bipush (pc := 14) C (v := 99) d_Nine_until_14 (by decide) ?_
  refine j_icmp_gtF (pc := 16) C (tgt := 95) d_Nine_until_16 (by decide) (by decide) ?_
  refine j_aload_n (pc := 19) C d_Nine_until_19 rfl 1 rfl ?_
  refine j_get (pc := 20) C gf_Nine_41 0 rfl rfl d_Nine_until_20 ?_
  refine j_aload_n (pc := 23) C d_Nine_until_23 rfl 1 rfl ?_
  refine j_get (pc := 24) C gf_Nine_28 0 rfl rfl d_Nine_until_24 ?_
  refine j_get (pc := 27) C gf_Nine_127 5 rfl rfl d_Nine_until_27 ?_
  refine j_callVi (pc := 30) C (c_levelAt_0 l D y k g vn vg t r) kw_Nine_130 kv_Lake_levelAt 0 2 rfl rfl ⟨by decide, by decide⟩ ⟨by decide, by decide⟩ (wr := [(x, .inr (9, [.ref tp, .ref pi, .ref nw, .ref tr, .ref ps, .ref k, .ref k2, .ref rd, .ref pl, .int 1])), (g, .inr (1, [.int 0, .ref g0, .ref g1, .ref g2, .ref g3, .ref g4, .ref g5, .ref g6])), (t, .inr (8, [.int 0, .ref t0, .ref t1, .ref t2, .ref t3, .ref t4, .ref t5, .ref t6])), (r, .inr (6, [.int 0, .int 0, .ref r0, .ref r1, .ref r2, .ref r3, .ref r4, .ref r5])), (tr, .inr (7, [.int 0, .int 0, .int 0, .ref m0, .ref m1, .ref m2, .ref m3, .ref m4, .ref m5, .ref m6])), (m0, .inl (y 0, 9, .inl (fun _ => 0))), (m1, .inl (y 0, 9, .inl (fun _ => 0))), (m2, .inl (y 1, 9, .inr (.inl (fun _ => 0)))), (m3, .inl (y 0, 6, .inl (fun _ => 0))), (m4, .inl (y 0, 6, .inl (fun _ => 0))), (m5, .inl (y 0, 16, .inl (fun _ => 0))), (m6, .inl (y 1, 5, .inr (.inl (fun _ => 0)))), (nw, .inr (7, [.int 0, .int 0, .int 0, .ref n0, .ref n1, .ref n2, .ref n3, .ref n4, .ref n5, .ref n6])), (n0, .inl (y 0, 9, .inl (fun _ => 0))), (n1, .inl (y 0, 9, .inl (fun _ => 0))), (n2, .inl (y 1, 9, .inr (.inl (fun _ => 0)))), (n3, .inl (y 0, 6, .inl (fun _ => 0))), (n4, .inl (y 0, 6, .inl (fun _ => 0))), (n5, .inl (y 0, 16, .inl (fun _ => 0))), (n6, .inl (y 1, 5, .inr (.inl (fun _ => 0))))]) [1] [0, 2, 3, 4, 5, 6, 7, 8, 9, 10, 11, 12, 13, 14, 15, 16, 17, 18, 19, 20] rfl rfl (by decide) (by decide) (by decide) (As := [.int 0]) (rest := []) rfl (nb rfl) rfl d_Nine_until_30 (fun r6 _ hr6 => ?_)
  subst hr6
  refine j_ws (ws' := [(x, .inr (9, [.ref tp, .ref pi, .ref nw, .ref tr, .ref ps, .ref k, .ref k2, .ref rd, .ref pl, .int 1])), (g, .inr (1, [.int 0, .ref g0, .ref g1, .ref g2, .ref g3, .ref g4, .ref g5, .ref g6])), (t, .inr (8, [.int 0, .ref t0, .ref t1, .ref t2, .ref t3, .ref t4, .ref t5, .ref t6])), (r, .inr (6, [.int 0, .int 0, .ref r0, .ref r1, .ref r2, .ref r3, .ref r4, .ref r5])), (tr, .inr (7, [.int 0, .int 0, .int 0, .ref m0, .ref m1, .ref m2, .ref m3, .ref m4, .ref m5, .ref m6])), (m0, .inl (y 0, 9, .inl (fun _ => 0))), (m1, .inl (y 0, 9, .inl (fun _ => 0))), (m2, .inl (y 1, 9, .inr (.inl (fun _ => 0)))), (m3, .inl (y 0, 6, .inl (fun _ => 0))), (m4, .inl (y 0, 6, .inl (fun _ => 0))), (m5, .inl (y 0, 16, .inl (fun _ => 0))), (m6, .inl (y 1, 5, .inr (.inl (fun _ => 0)))), (nw, .inr (7, [.int 0, .int 0, .int 0, .ref n0, .ref n1, .ref n2, .ref n3, .ref n4, .ref n5, .ref n6])), (n0, .inl (y 0, 9, .inl (fun _ => 0))), (n1, .inl (y 0, 9, .inl (fun _ => 0))), (n2, .inl (y 1, 9, .inr (.inl (fun _ => 0)))), (n3, .inl (y 0, 6, .inl (fun _ => 0))), (n4, .inl (y 0, 6, .inl (fun _ => 0))), (n5, .inl (y 0, 16, .inl (fun _ => 0))), (n6, .inl (y 1, 5, .inr (.inl (fun _ => 0)))), (k, .inr (2, [.int 0, .int 1, .int 1, .int 0, .ref g, .int 0, .ref vn, .ref vg, .ref t, .ref r, .int 0, .int 0, .int 9999, .int 0]))]) rfl ?_
  refine j_st (st' := [.int 0]) rfl ?_
  refine j_istore (pc := 33) C (lv' := [(4, .int 0), (3, .int 0), (0, .ref x), (1, .int va), (2, .int vb)]) d_Nine_until_33 (by decide) rfl ?_
  refine j_iload_n (pc := 35) C d_Nine_until_35 rfl 4 rfl ?_
  refine j_if_eq (pc := 36) C (tgt := 48) d_Nine_until_36 (by decide) (fun c7 => ?_) (fun c7 => ?_)
  · refine j_iload (pc := 48) C d_Nine_until_48 0 rfl ?_
    refine j_iload_n (pc := 50) C d_Nine_until_50 rfl 3 rfl ?_
    refine j_icmp_ge (pc := 51) C (tgt := 62) d_Nine_until_51 (by decide) (fun c8 => ?_) (fun c8 => ?_)
    · refine j_aload_n (pc := 62) C d_Nine_until_62 rfl 2 rfl ?_
      refine j_get (pc := 63) C gf_Nine_28 0 rfl rfl d_Nine_until_63 ?_
      refine j_get (pc := 66) C gf_Nine_124 4 rfl rfl d_Nine_until_66 ?_
      refine j_sipush (pc := 69) C (v := 999) d_Nine_until_69 (by decide) ?_
      refine j_icmp_ltT (pc := 72) C (tgt := 77) d_Nine_until_72 (by decide) (by decide) ?_
      refine j_aload_n (pc := 77) C d_Nine_until_77 rfl 2 rfl ?_
      refine j_get (pc := 78) C gf_Nine_41 0 rfl rfl d_Nine_until_78 ?_
      refine j_aload_n (pc := 81) C d_Nine_until_81 rfl 2 rfl ?_
      refine j_get (pc := 82) C gf_Nine_28 0 rfl rfl d_Nine_until_82 ?_
      refine j_iconst (pc := 85) C (v := 0) d_Nine_until_85 (by decide) ?_
      refine j_callSv (pc := 86) C (c_pass l D y k g vn vg t r g0 g1 g2 g3 g4 g5 g6 t0 t1 t2 t3 t4 t5 t6 r0 r1 r2 r3 r4 r5 tr m0 m1 m2 m3 m4 m5 m6 0) kw_Nine_216 ks_Days_pass ⟨by decide, by decide⟩ ⟨by decide, by decide⟩ (wr := [(x, .inr (9, [.ref tp, .ref pi, .ref nw, .ref tr, .ref ps, .ref k, .ref k2, .ref rd, .ref pl, .int 1])), (m0, .inl (y 0, 9, .inl (fun _ => 0))), (m1, .inl (y 0, 9, .inl (fun _ => 0))), (m2, .inl (y 1, 9, .inr (.inl (fun _ => 0)))), (m3, .inl (y 0, 6, .inl (fun _ => 0))), (m4, .inl (y 0, 6, .inl (fun _ => 0))), (m5, .inl (y 0, 16, .inl (fun _ => 0))), (nw, .inr (7, [.int 0, .int 0, .int 0, .ref n0, .ref n1, .ref n2, .ref n3, .ref n4, .ref n5, .ref n6])), (n0, .inl (y 0, 9, .inl (fun _ => 0))), (n1, .inl (y 0, 9, .inl (fun _ => 0))), (n2, .inl (y 1, 9, .inr (.inl (fun _ => 0)))), (n3, .inl (y 0, 6, .inl (fun _ => 0))), (n4, .inl (y 0, 6, .inl (fun _ => 0))), (n5, .inl (y 0, 16, .inl (fun _ => 0))), (n6, .inl (y 1, 5, .inr (.inl (fun _ => 0))))]) [20, 1, 2, 3, 4, 11] [0, 5, 6, 7, 8, 9, 10, 12, 13, 14, 15, 16, 17, 18, 19] rfl rfl (by decide) (by decide) (by decide) (As := [.ref k, .ref tr, .int 0]) (rest := []) rfl (nb rfl) rfl d_Nine_until_86 (fun _ _ => ?_)
      refine j_ws (ws' := [(x, .inr (9, [.ref tp, .ref pi, .ref nw, .ref tr, .ref ps, .ref k, .ref k2, .ref rd, .ref pl, .int 1])), (m0, .inl (y 0, 9, .inl (fun _ => 0))), (m1, .inl (y 0, 9, .inl (fun _ => 0))), (m2, .inl (y 1, 9, .inr (.inl (fun _ => 0)))), (m3, .inl (y 0, 6, .inl (fun _ => 0))), (m4, .inl (y 0, 6, .inl (fun _ => 0))), (m5, .inl (y 0, 16, .inl (fun _ => 0))), (nw, .inr (7, [.int 0, .int 0, .int 0, .ref n0, .ref n1, .ref n2, .ref n3, .ref n4, .ref n5, .ref n6])), (n0, .inl (y 0, 9, .inl (fun _ => 0))), (n1, .inl (y 0, 9, .inl (fun _ => 0))), (n2, .inl (y 1, 9, .inr (.inl (fun _ => 0)))), (n3, .inl (y 0, 6, .inl (fun _ => 0))), (n4, .inl (y 0, 6, .inl (fun _ => 0))), (n5, .inl (y 0, 16, .inl (fun _ => 0))), (n6, .inl (y 1, 5, .inr (.inl (fun _ => 0)))), (k, .inr (2, [.int 0, .int 1, .int 1, .int 0, .ref g, .int 0, .ref vn, .ref vg, .ref t, .ref r, .int 0, .int 0, .int 9999, .int 0])), (g, .inr (1, [.int 0, .ref g0, .ref g1, .ref g2, .ref g3, .ref g4, .ref g5, .ref g6])), (t, .inr (8, [.int 0, .ref t0, .ref t1, .ref t2, .ref t3, .ref t4, .ref t5, .ref t6])), (r, .inr (6, [.int 0, .int 0, .ref r0, .ref r1, .ref r2, .ref r3, .ref r4, .ref r5])), (tr, .inr (7, [.int (0 + 1), .int 0, .int 0, .ref m0, .ref m1, .ref m2, .ref m3, .ref m4, .ref m5, .ref m6])), (m6, .inl (y 1, 5, .inr (.inl (fun _ => 0))))]) rfl ?_
      refine j_iinc (pc := 89) C (v := 1) (lv' := [(3, .int 1), (4, .int 0), (0, .ref x), (1, .int va), (2, .int vb)]) d_Nine_until_89 1 rfl (by decide) (by decide) rfl ?_
      refine j_goto (pc := 92) C (tgt := 13) d_Nine_until_92 (by decide) ?_
      refine j_sub (ws' := [(x, .inr (9, [.ref tp, .ref pi, .ref nw, .ref tr, .ref ps, .ref k, .ref k2, .ref rd, .ref pl, .int 1])), (k, .inr (2, [.int 0, .int 1, .int 1, .int 0, .ref g, .int 0, .ref vn, .ref vg, .ref t, .ref r, .int 0, .int 0, .int 9999, .int 0])), (g, .inr (1, [.int 0, .ref g0, .ref g1, .ref g2, .ref g3, .ref g4, .ref g5, .ref g6])), (t, .inr (8, [.int 0, .ref t0, .ref t1, .ref t2, .ref t3, .ref t4, .ref t5, .ref t6])), (r, .inr (6, [.int 0, .int 0, .ref r0, .ref r1, .ref r2, .ref r3, .ref r4, .ref r5])), (tr, .inr (7, [.int (0 + 1), .int 0, .int 0, .ref m0, .ref m1, .ref m2, .ref m3, .ref m4, .ref m5, .ref m6])), (m6, .inl (y 1, 5, .inr (.inl (fun _ => 0))))]) [0, 15, 16, 17, 18, 19, 20] rfl (by decide) ?_
      refine j_locs (lv' := [(0, .ref x), (1, .int va), (2, .int vb), (3, .int 1), (4, .int 0)]) [2, 3, 4, 0, 1] rfl ?_
      refine lp_untilB C x tp pi nw tr ps k k2 rd pl g vn vg t r g0 g1 g2 g3 g4 g5 g6 t0 t1 t2 t3 t4 t5 t6 r0 r1 r2 r3 r4 r5 m0 m1 m2 m3 m4 m5 m6 va vb c7 c8 ?_ 99 1 (by omega)
      refine j_iconst (pc := 95) C (v := (-1)) d_Nine_until_95 (by decide) ?_
      exact j_iret (pc := 96) C hr rfl () (by simp only [Int32.lt_iff_toInt_lt, Int32.le_iff_toInt_le, ← Int32.toInt_inj, (by decide : Int32.toInt 0 = 0)] at c7 c8; (first | rw [if_pos (by omega)] | rw [if_neg (by omega)])) [] rfl (by decide) (by decide) (by decide) d_Nine_until_96
    · refine j_aload_n (pc := 54) C d_Nine_until_54 rfl 2 rfl ?_
      refine j_get (pc := 55) C gf_Nine_28 0 rfl rfl d_Nine_until_55 ?_
      refine j_get (pc := 58) C gf_Nine_124 4 rfl rfl d_Nine_until_58 ?_
      exact j_iret (pc := 61) C hr rfl () (by simp only [Int32.lt_iff_toInt_lt, Int32.le_iff_toInt_le, ← Int32.toInt_inj, (by decide : Int32.toInt 0 = 0)] at c7 c8; (first | rw [if_pos (by omega)] | rw [if_neg (by omega)])) [] rfl (by decide) (by decide) (by decide) d_Nine_until_61
  · refine j_iload (pc := 39) C d_Nine_until_39 0 rfl ?_
    refine j_iload_n (pc := 41) C d_Nine_until_41 rfl 3 rfl ?_
    refine j_icmp_le (pc := 42) C (tgt := 62) d_Nine_until_42 (by decide) (fun c9 => ?_) (fun c9 => ?_)
    · refine j_aload_n (pc := 62) C d_Nine_until_62 rfl 2 rfl ?_
      refine j_get (pc := 63) C gf_Nine_28 0 rfl rfl d_Nine_until_63 ?_
      refine j_get (pc := 66) C gf_Nine_124 4 rfl rfl d_Nine_until_66 ?_
      refine j_sipush (pc := 69) C (v := 999) d_Nine_until_69 (by decide) ?_
      refine j_icmp_ltT (pc := 72) C (tgt := 77) d_Nine_until_72 (by decide) (by decide) ?_
      refine j_aload_n (pc := 77) C d_Nine_until_77 rfl 2 rfl ?_
      refine j_get (pc := 78) C gf_Nine_41 0 rfl rfl d_Nine_until_78 ?_
      refine j_aload_n (pc := 81) C d_Nine_until_81 rfl 2 rfl ?_
      refine j_get (pc := 82) C gf_Nine_28 0 rfl rfl d_Nine_until_82 ?_
      refine j_iconst (pc := 85) C (v := 0) d_Nine_until_85 (by decide) ?_
      refine j_callSv (pc := 86) C (c_pass l D y k g vn vg t r g0 g1 g2 g3 g4 g5 g6 t0 t1 t2 t3 t4 t5 t6 r0 r1 r2 r3 r4 r5 tr m0 m1 m2 m3 m4 m5 m6 0) kw_Nine_216 ks_Days_pass ⟨by decide, by decide⟩ ⟨by decide, by decide⟩ (wr := [(x, .inr (9, [.ref tp, .ref pi, .ref nw, .ref tr, .ref ps, .ref k, .ref k2, .ref rd, .ref pl, .int 1])), (m0, .inl (y 0, 9, .inl (fun _ => 0))), (m1, .inl (y 0, 9, .inl (fun _ => 0))), (m2, .inl (y 1, 9, .inr (.inl (fun _ => 0)))), (m3, .inl (y 0, 6, .inl (fun _ => 0))), (m4, .inl (y 0, 6, .inl (fun _ => 0))), (m5, .inl (y 0, 16, .inl (fun _ => 0))), (nw, .inr (7, [.int 0, .int 0, .int 0, .ref n0, .ref n1, .ref n2, .ref n3, .ref n4, .ref n5, .ref n6])), (n0, .inl (y 0, 9, .inl (fun _ => 0))), (n1, .inl (y 0, 9, .inl (fun _ => 0))), (n2, .inl (y 1, 9, .inr (.inl (fun _ => 0)))), (n3, .inl (y 0, 6, .inl (fun _ => 0))), (n4, .inl (y 0, 6, .inl (fun _ => 0))), (n5, .inl (y 0, 16, .inl (fun _ => 0))), (n6, .inl (y 1, 5, .inr (.inl (fun _ => 0))))]) [20, 1, 2, 3, 4, 11] [0, 5, 6, 7, 8, 9, 10, 12, 13, 14, 15, 16, 17, 18, 19] rfl rfl (by decide) (by decide) (by decide) (As := [.ref k, .ref tr, .int 0]) (rest := []) rfl (nb rfl) rfl d_Nine_until_86 (fun _ _ => ?_)
      refine j_ws (ws' := [(x, .inr (9, [.ref tp, .ref pi, .ref nw, .ref tr, .ref ps, .ref k, .ref k2, .ref rd, .ref pl, .int 1])), (m0, .inl (y 0, 9, .inl (fun _ => 0))), (m1, .inl (y 0, 9, .inl (fun _ => 0))), (m2, .inl (y 1, 9, .inr (.inl (fun _ => 0)))), (m3, .inl (y 0, 6, .inl (fun _ => 0))), (m4, .inl (y 0, 6, .inl (fun _ => 0))), (m5, .inl (y 0, 16, .inl (fun _ => 0))), (nw, .inr (7, [.int 0, .int 0, .int 0, .ref n0, .ref n1, .ref n2, .ref n3, .ref n4, .ref n5, .ref n6])), (n0, .inl (y 0, 9, .inl (fun _ => 0))), (n1, .inl (y 0, 9, .inl (fun _ => 0))), (n2, .inl (y 1, 9, .inr (.inl (fun _ => 0)))), (n3, .inl (y 0, 6, .inl (fun _ => 0))), (n4, .inl (y 0, 6, .inl (fun _ => 0))), (n5, .inl (y 0, 16, .inl (fun _ => 0))), (n6, .inl (y 1, 5, .inr (.inl (fun _ => 0)))), (k, .inr (2, [.int 0, .int 1, .int 1, .int 0, .ref g, .int 0, .ref vn, .ref vg, .ref t, .ref r, .int 0, .int 0, .int 9999, .int 0])), (g, .inr (1, [.int 0, .ref g0, .ref g1, .ref g2, .ref g3, .ref g4, .ref g5, .ref g6])), (t, .inr (8, [.int 0, .ref t0, .ref t1, .ref t2, .ref t3, .ref t4, .ref t5, .ref t6])), (r, .inr (6, [.int 0, .int 0, .ref r0, .ref r1, .ref r2, .ref r3, .ref r4, .ref r5])), (tr, .inr (7, [.int (0 + 1), .int 0, .int 0, .ref m0, .ref m1, .ref m2, .ref m3, .ref m4, .ref m5, .ref m6])), (m6, .inl (y 1, 5, .inr (.inl (fun _ => 0))))]) rfl ?_
      refine j_iinc (pc := 89) C (v := 1) (lv' := [(3, .int 1), (4, .int 0), (0, .ref x), (1, .int va), (2, .int vb)]) d_Nine_until_89 1 rfl (by decide) (by decide) rfl ?_
      refine j_goto (pc := 92) C (tgt := 13) d_Nine_until_92 (by decide) ?_
      refine j_sub (ws' := [(x, .inr (9, [.ref tp, .ref pi, .ref nw, .ref tr, .ref ps, .ref k, .ref k2, .ref rd, .ref pl, .int 1])), (k, .inr (2, [.int 0, .int 1, .int 1, .int 0, .ref g, .int 0, .ref vn, .ref vg, .ref t, .ref r, .int 0, .int 0, .int 9999, .int 0])), (g, .inr (1, [.int 0, .ref g0, .ref g1, .ref g2, .ref g3, .ref g4, .ref g5, .ref g6])), (t, .inr (8, [.int 0, .ref t0, .ref t1, .ref t2, .ref t3, .ref t4, .ref t5, .ref t6])), (r, .inr (6, [.int 0, .int 0, .ref r0, .ref r1, .ref r2, .ref r3, .ref r4, .ref r5])), (tr, .inr (7, [.int (0 + 1), .int 0, .int 0, .ref m0, .ref m1, .ref m2, .ref m3, .ref m4, .ref m5, .ref m6])), (m6, .inl (y 1, 5, .inr (.inl (fun _ => 0))))]) [0, 15, 16, 17, 18, 19, 20] rfl (by decide) ?_
      refine j_locs (lv' := [(0, .ref x), (1, .int va), (2, .int vb), (3, .int 1), (4, .int 0)]) [2, 3, 4, 0, 1] rfl ?_
      refine lp_untilA C x tp pi nw tr ps k k2 rd pl g vn vg t r g0 g1 g2 g3 g4 g5 g6 t0 t1 t2 t3 t4 t5 t6 r0 r1 r2 r3 r4 r5 m0 m1 m2 m3 m4 m5 m6 va vb c7 c9 ?_ 99 1 (by omega)
      refine j_iconst (pc := 95) C (v := (-1)) d_Nine_until_95 (by decide) ?_
      exact j_iret (pc := 96) C hr rfl () (by simp only [Int32.lt_iff_toInt_lt, Int32.le_iff_toInt_le, ← Int32.toInt_inj, (by decide : Int32.toInt 0 = 0)] at c7 c9; (first | rw [if_pos (by omega)] | rw [if_neg (by omega)])) [] rfl (by decide) (by decide) (by decide) d_Nine_until_96
    · refine j_goto (pc := 45) C (tgt := 54) d_Nine_until_45 (by decide) ?_
      refine j_aload_n (pc := 54) C d_Nine_until_54 rfl 2 rfl ?_
      refine j_get (pc := 55) C gf_Nine_28 0 rfl rfl d_Nine_until_55 ?_
      refine j_get (pc := 58) C gf_Nine_124 4 rfl rfl d_Nine_until_58 ?_
      exact j_iret (pc := 61) C hr rfl () (by simp only [Int32.lt_iff_toInt_lt, Int32.le_iff_toInt_le, ← Int32.toInt_inj, (by decide : Int32.toInt 0 = 0)] at c7 c9; (first | rw [if_pos (by omega)] | rw [if_neg (by omega)])) [] rfl (by decide) (by decide) (by decide) d_Nine_until_61
theorem d_Nine_today_0 : decode prog_1_method_22_code 0 = .ok (.iload_n 2, 1) := by decide +kernel
theorem d_Nine_today_1 : decode prog_1_method_22_code 1 = .ok (.ifCond .ne 18, 3) := by decide +kernel
theorem d_Nine_today_19 : decode prog_1_method_22_code 19 = .ok (.iconst 0, 1) := by decide +kernel
theorem d_Nine_today_20 : decode prog_1_method_22_code 20 = .ok (.istore_n 3, 1) := by decide +kernel
theorem d_Nine_today_21 : decode prog_1_method_22_code 21 = .ok (.aload_n 0, 1) := by decide +kernel
theorem d_Nine_today_22 : decode prog_1_method_22_code 22 = .ok (.getfield 24, 3) := by decide +kernel
theorem d_Nine_today_25 : decode prog_1_method_22_code 25 = .ok (.getfield 124, 3) := by decide +kernel
theorem d_Nine_today_28 : decode prog_1_method_22_code 28 = .ok (.sipush 999, 3) := by decide +kernel
theorem d_Nine_today_31 : decode prog_1_method_22_code 31 = .ok (.if_icmp .ge 12, 3) := by decide +kernel
theorem d_Nine_today_34 : decode prog_1_method_22_code 34 = .ok (.iload_n 3, 1) := by decide +kernel
theorem d_Nine_today_35 : decode prog_1_method_22_code 35 = .ok (.ifCond .ne 10, 3) := by decide +kernel
theorem d_Nine_today_38 : decode prog_1_method_22_code 38 = .ok (.iload_n 2, 1) := by decide +kernel
theorem d_Nine_today_39 : decode prog_1_method_22_code 39 = .ok (.iconst 1, 1) := by decide +kernel
theorem d_Nine_today_40 : decode prog_1_method_22_code 40 = .ok (.if_icmp .eq 5, 3) := by decide +kernel
theorem d_Nine_today_45 : decode prog_1_method_22_code 45 = .ok (.iconst (-1), 1) := by decide +kernel
theorem d_Nine_today_46 : decode prog_1_method_22_code 46 = .ok (.istore 4, 2) := by decide +kernel
theorem d_Nine_today_48 : decode prog_1_method_22_code 48 = .ok (.iconst 0, 1) := by decide +kernel
theorem d_Nine_today_49 : decode prog_1_method_22_code 49 = .ok (.istore 5, 2) := by decide +kernel
theorem d_Nine_today_51 : decode prog_1_method_22_code 51 = .ok (.iconst 0, 1) := by decide +kernel
theorem d_Nine_today_52 : decode prog_1_method_22_code 52 = .ok (.istore 6, 2) := by decide +kernel
theorem d_Nine_today_54 : decode prog_1_method_22_code 54 = .ok (.iload 6, 2) := by decide +kernel
theorem d_Nine_today_56 : decode prog_1_method_22_code 56 = .ok (.iconst 3, 1) := by decide +kernel
theorem d_Nine_today_57 : decode prog_1_method_22_code 57 = .ok (.if_icmp .ge 117, 3) := by decide +kernel
theorem d_Nine_today_60 : decode prog_1_method_22_code 60 = .ok (.aload_n 0, 1) := by decide +kernel
theorem d_Nine_today_61 : decode prog_1_method_22_code 61 = .ok (.getfield 41, 3) := by decide +kernel
theorem d_Nine_today_64 : decode prog_1_method_22_code 64 = .ok (.aload_n 0, 1) := by decide +kernel
theorem d_Nine_today_65 : decode prog_1_method_22_code 65 = .ok (.getfield 24, 3) := by decide +kernel
theorem d_Nine_today_68 : decode prog_1_method_22_code 68 = .ok (.aload_n 0, 1) := by decide +kernel
theorem d_Nine_today_69 : decode prog_1_method_22_code 69 = .ok (.getfield 41, 3) := by decide +kernel
theorem d_Nine_today_72 : decode prog_1_method_22_code 72 = .ok (.aload_n 0, 1) := by decide +kernel
theorem d_Nine_today_73 : decode prog_1_method_22_code 73 = .ok (.getfield 24, 3) := by decide +kernel
theorem d_Nine_today_76 : decode prog_1_method_22_code 76 = .ok (.getfield 124, 3) := by decide +kernel
theorem d_Nine_today_79 : decode prog_1_method_22_code 79 = .ok (.invokevirtual 206, 3) := by decide +kernel
theorem d_Nine_today_82 : decode prog_1_method_22_code 82 = .ok (.iload 6, 2) := by decide +kernel
theorem d_Nine_today_84 : decode prog_1_method_22_code 84 = .ok (.iconst 0, 1) := by decide +kernel
theorem d_Nine_today_85 : decode prog_1_method_22_code 85 = .ok (.invokestatic 209, 3) := by decide +kernel
theorem d_Nine_today_88 : decode prog_1_method_22_code 88 = .ok (.ifCond .eq 80, 3) := by decide +kernel
theorem d_Nine_today_91 : decode prog_1_method_22_code 91 = .ok (.aload_n 0, 1) := by decide +kernel
theorem d_Nine_today_92 : decode prog_1_method_22_code 92 = .ok (.getfield 28, 3) := by decide +kernel
theorem d_Nine_today_95 : decode prog_1_method_22_code 95 = .ok (.aload_n 0, 1) := by decide +kernel
theorem d_Nine_today_96 : decode prog_1_method_22_code 96 = .ok (.getfield 24, 3) := by decide +kernel
theorem d_Nine_today_99 : decode prog_1_method_22_code 99 = .ok (.invokevirtual 160, 3) := by decide +kernel
theorem d_Nine_today_102 : decode prog_1_method_22_code 102 = .ok (.aload_n 0, 1) := by decide +kernel
theorem d_Nine_today_103 : decode prog_1_method_22_code 103 = .ok (.getfield 41, 3) := by decide +kernel
theorem d_Nine_today_106 : decode prog_1_method_22_code 106 = .ok (.aload_n 0, 1) := by decide +kernel
theorem d_Nine_today_107 : decode prog_1_method_22_code 107 = .ok (.getfield 28, 3) := by decide +kernel
theorem d_Nine_today_110 : decode prog_1_method_22_code 110 = .ok (.iload 6, 2) := by decide +kernel
theorem d_Nine_today_112 : decode prog_1_method_22_code 112 = .ok (.invokestatic 216, 3) := by decide +kernel
theorem d_Nine_today_115 : decode prog_1_method_22_code 115 = .ok (.iload_n 3, 1) := by decide +kernel
theorem d_Nine_today_116 : decode prog_1_method_22_code 116 = .ok (.ifCond .eq 15, 3) := by decide +kernel
theorem d_Nine_today_131 : decode prog_1_method_22_code 131 = .ok (.aload_n 0, 1) := by decide +kernel
theorem d_Nine_today_132 : decode prog_1_method_22_code 132 = .ok (.getfield 41, 3) := by decide +kernel
theorem d_Nine_today_135 : decode prog_1_method_22_code 135 = .ok (.aload_n 0, 1) := by decide +kernel
theorem d_Nine_today_136 : decode prog_1_method_22_code 136 = .ok (.getfield 28, 3) := by decide +kernel
theorem d_Nine_today_139 : decode prog_1_method_22_code 139 = .ok (.getfield 127, 3) := by decide +kernel
theorem d_Nine_today_142 : decode prog_1_method_22_code 142 = .ok (.invokevirtual 130, 3) := by decide +kernel
theorem d_Nine_today_145 : decode prog_1_method_22_code 145 = .ok (.istore 7, 2) := by decide +kernel
theorem d_Nine_today_147 : decode prog_1_method_22_code 147 = .ok (.iload 4, 2) := by decide +kernel
theorem d_Nine_today_149 : decode prog_1_method_22_code 149 = .ok (.iconst (-1), 1) := by decide +kernel
theorem d_Nine_today_150 : decode prog_1_method_22_code 150 = .ok (.if_icmp .eq 10, 3) := by decide +kernel
theorem d_Nine_today_160 : decode prog_1_method_22_code 160 = .ok (.iload 6, 2) := by decide +kernel
theorem d_Nine_today_162 : decode prog_1_method_22_code 162 = .ok (.istore 4, 2) := by decide +kernel
theorem d_Nine_today_164 : decode prog_1_method_22_code 164 = .ok (.iload 7, 2) := by decide +kernel
theorem d_Nine_today_166 : decode prog_1_method_22_code 166 = .ok (.istore 5, 2) := by decide +kernel
theorem d_Nine_today_168 : decode prog_1_method_22_code 168 = .ok (.iinc 6 1, 3) := by decide +kernel
theorem d_Nine_today_171 : decode prog_1_method_22_code 171 = .ok (.goto (-117), 3) := by decide +kernel
theorem d_Nine_today_174 : decode prog_1_method_22_code 174 = .ok (.iload 4, 2) := by decide +kernel
theorem d_Nine_today_176 : decode prog_1_method_22_code 176 = .ok (.ireturn, 1) := by decide +kernel
theorem d_Nine_today_43 : decode prog_1_method_22_code 43 = .ok (.iconst (-1), 1) := by decide +kernel
theorem d_Nine_today_44 : decode prog_1_method_22_code 44 = .ok (.ireturn, 1) := by decide +kernel
theorem d_Nine_today_4 : decode prog_1_method_22_code 4 = .ok (.aload_n 0, 1) := by decide +kernel
theorem d_Nine_today_5 : decode prog_1_method_22_code 5 = .ok (.getfield 41, 3) := by decide +kernel
theorem d_Nine_today_8 : decode prog_1_method_22_code 8 = .ok (.iload_n 1, 1) := by decide +kernel
theorem d_Nine_today_9 : decode prog_1_method_22_code 9 = .ok (.invokevirtual 145, 3) := by decide +kernel
theorem d_Nine_today_12 : decode prog_1_method_22_code 12 = .ok (.ifCond .eq 7, 3) := by decide +kernel
set_option maxHeartbeats 4000000 in
set_option maxRecDepth 100000 in
theorem c_N_today (l : Launch) (D : va_G) (y : Nat → ClassId) (x : Nat) (tp : Nat) (pi : Nat) (nw : Nat) (tr : Nat) (ps : Nat) (k : Nat) (k2 : Nat) (rd : Nat) (pl : Nat) (g : Nat) (vn : Nat) (vg : Nat) (t : Nat) (r : Nat) (g0 : Nat) (g1 : Nat) (g2 : Nat) (g3 : Nat) (g4 : Nat) (g5 : Nat) (g6 : Nat) (t0 : Nat) (t1 : Nat) (t2 : Nat) (t3 : Nat) (t4 : Nat) (t5 : Nat) (t6 : Nat) (r0 : Nat) (r1 : Nat) (r2 : Nat) (r3 : Nat) (r4 : Nat) (r5 : Nat) (dt : Int32) (m0 : Nat) (m1 : Nat) (m2 : Nat) (m3 : Nat) (m4 : Nat) (m5 : Nat) (m6 : Nat) (n0 : Nat) (n1 : Nat) (n2 : Nat) (n3 : Nat) (n4 : Nat) (n5 : Nat) (n6 : Nat) (va : Int32) (vb : Int32)  : CT l D y ⟨"NineBoards", "today", "(II)I"⟩ prog_1_method_22_code 8 (some .int) ({ frames := 5, cells := 0, slots := 0, locals := 117 } : Room) [.ref x, .int va, .int vb] [(x, .inr (9, [.ref tp, .ref pi, .ref nw, .ref tr, .ref ps, .ref k, .ref k2, .ref rd, .ref pl, .int 1])), (k, .inr (2, [.int 0, .int 1, .int 1, .int 0, .ref g, .int 0, .ref vn, .ref vg, .ref t, .ref r, .int 0, .int 0, .int 9999, .int 0])), (g, .inr (1, [.int 0, .ref g0, .ref g1, .ref g2, .ref g3, .ref g4, .ref g5, .ref g6])), (t, .inr (8, [.int 0, .ref t0, .ref t1, .ref t2, .ref t3, .ref t4, .ref t5, .ref t6])), (r, .inr (6, [.int 0, .int 0, .ref r0, .ref r1, .ref r2, .ref r3, .ref r4, .ref r5])), (tr, .inr (7, [.int dt, .int 0, .int 0, .ref m0, .ref m1, .ref m2, .ref m3, .ref m4, .ref m5, .ref m6])), (m0, .inl (y 0, 9, .inl (fun _ => 0))), (m1, .inl (y 0, 9, .inl (fun _ => 0))), (m2, .inl (y 1, 9, .inr (.inl (fun _ => 0)))), (m3, .inl (y 0, 6, .inl (fun _ => 0))), (m4, .inl (y 0, 6, .inl (fun _ => 0))), (m5, .inl (y 0, 16, .inl (fun _ => 0))), (m6, .inl (y 1, 5, .inr (.inl (fun _ => 0)))), (nw, .inr (7, [.int 0, .int 0, .int 0, .ref n0, .ref n1, .ref n2, .ref n3, .ref n4, .ref n5, .ref n6])), (n0, .inl (y 0, 9, .inl (fun _ => 0))), (n1, .inl (y 0, 9, .inl (fun _ => 0))), (n2, .inl (y 1, 9, .inr (.inl (fun _ => 0)))), (n3, .inl (y 0, 6, .inl (fun _ => 0))), (n4, .inl (y 0, 6, .inl (fun _ => 0))), (n5, .inl (y 0, 16, .inl (fun _ => 0))), (n6, .inl (y 1, 5, .inr (.inl (fun _ => 0))))] (QI D [(x, .inr (9, [.ref tp, .ref pi, .ref nw, .ref tr, .ref ps, .ref k, .ref k2, .ref rd, .ref pl, .int 1])), (k, .inr (2, [.int 0, .int 1, .int 1, .int 0, .ref g, .int 0, .ref vn, .ref vg, .ref t, .ref r, .int 0, .int 0, .int 9999, .int 0])), (g, .inr (1, [.int 0, .ref g0, .ref g1, .ref g2, .ref g3, .ref g4, .ref g5, .ref g6])), (t, .inr (8, [.int 0, .ref t0, .ref t1, .ref t2, .ref t3, .ref t4, .ref t5, .ref t6])), (r, .inr (6, [.int 0, .int 0, .ref r0, .ref r1, .ref r2, .ref r3, .ref r4, .ref r5])), (tr, .inr (7, [.int dt, .int 0, .int 0, .ref m0, .ref m1, .ref m2, .ref m3, .ref m4, .ref m5, .ref m6])), (m0, .inl (y 0, 9, .inl (fun _ => 0))), (m1, .inl (y 0, 9, .inl (fun _ => 0))), (m2, .inl (y 1, 9, .inr (.inl (fun _ => 0)))), (m3, .inl (y 0, 6, .inl (fun _ => 0))), (m4, .inl (y 0, 6, .inl (fun _ => 0))), (m5, .inl (y 0, 16, .inl (fun _ => 0))), (m6, .inl (y 1, 5, .inr (.inl (fun _ => 0)))), (nw, .inr (7, [.int 0, .int 0, .int 0, .ref n0, .ref n1, .ref n2, .ref n3, .ref n4, .ref n5, .ref n6])), (n0, .inl (y 0, 9, .inl (fun _ => 0))), (n1, .inl (y 0, 9, .inl (fun _ => 0))), (n2, .inl (y 1, 9, .inr (.inl (fun _ => 0)))), (n3, .inl (y 0, 6, .inl (fun _ => 0))), (n4, .inl (y 0, 6, .inl (fun _ => 0))), (n5, .inl (y 0, 16, .inl (fun _ => 0))), (n6, .inl (y 1, 5, .inr (.inl (fun _ => 0))))] (fun (r : Int32) (_ : Unit) => r = if vb.toInt = 1 then 0 else -1) (fun _ => [])) := by
  refine CT.of (by decide) (nb rfl) ?_
  intro p e s m args below meth c C hr
  refine j_lv (lv' := [(0, .ref x), (1, .int va), (2, .int vb)]) rfl ?_
  refine j_iload_n (pc := 0) C d_Nine_today_0 rfl 2 rfl ?_
  refine j_if_ne (pc := 1) C (tgt := 19) d_Nine_today_1 (by decide) (fun c1 => ?_) (fun c1 => ?_)
  · refine j_iconst (pc := 19) C (v := 0) d_Nine_today_19 (by decide) ?_
    refine j_istore_n (pc := 20) C (lv' := [(3, .int 0), (0, .ref x), (1, .int va), (2, .int vb)]) d_Nine_today_20 rfl (by decide) rfl ?_
    refine j_aload_n (pc := 21) C d_Nine_today_21 rfl 1 rfl ?_
    refine j_get (pc := 22) C gf_Nine_24 0 rfl rfl d_Nine_today_22 ?_
    refine j_get (pc := 25) C gf_Nine_124 13 rfl rfl d_Nine_today_25 ?_
    refine j_sipush (pc := 28) C (v := 999) d_Nine_today_28 (by decide) ?_
    refine j_icmp_geF (pc := 31) C (tgt := 43) d_Nine_today_31 (by decide) (by decide) ?_
    refine j_iload_n (pc := 34) C d_Nine_today_34 rfl 0 rfl ?_
    refine j_if_neF (pc := 35) C (tgt := 45) d_Nine_today_35 (by decide) (by decide) ?_
    refine j_iload_n (pc := 38) C d_Nine_today_38 rfl 3 rfl ?_
    refine j_iconst (pc := 39) C (v := 1) d_Nine_today_39 (by decide) ?_
    refine j_icmp_eq (pc := 40) C (tgt := 45) d_Nine_today_40 (by decide) (fun c2 => ?_) (fun c2 => ?_)
    · refine j_iconst (pc := 45) C (v := (-1)) d_Nine_today_45 (by decide) ?_
      refine j_istore (pc := 46) C (lv' := [(4, .int (-1)), (3, .int 0), (0, .ref x), (1, .int va), (2, .int vb)]) d_Nine_today_46 (by decide) rfl ?_
      refine j_iconst (pc := 48) C (v := 0) d_Nine_today_48 (by decide) ?_
      refine j_istore (pc := 49) C (lv' := [(5, .int 0), (4, .int (-1)), (3, .int 0), (0, .ref x), (1, .int va), (2, .int vb)]) d_Nine_today_49 (by decide) rfl ?_
      refine j_iconst (pc := 51) C (v := 0) d_Nine_today_51 (by decide) ?_
      refine j_istore (pc := 52) C (lv' := [(6, .int 0), (5, .int 0), (4, .int (-1)), (3, .int 0), (0, .ref x), (1, .int va), (2, .int vb)]) d_Nine_today_52 (by decide) rfl ?_
      refine j_iload (pc := 54) C d_Nine_today_54 0 rfl ?_
      refine j_iconst (pc := 56) C (v := 3) d_Nine_today_56 (by decide) ?_
      refine j_icmp_geF (pc := 57) C (tgt := 174) d_Nine_today_57 (by decide) (by decide) ?_
      refine j_aload_n (pc := 60) C d_Nine_today_60 rfl 4 rfl ?_
      refine j_get (pc := 61) C gf_Nine_41 0 rfl rfl d_Nine_today_61 ?_
      refine j_aload_n (pc := 64) C d_Nine_today_64 rfl 4 rfl ?_
      refine j_get (pc := 65) C gf_Nine_24 0 rfl rfl d_Nine_today_65 ?_
      refine j_aload_n (pc := 68) C d_Nine_today_68 rfl 4 rfl ?_
      refine j_get (pc := 69) C gf_Nine_41 0 rfl rfl d_Nine_today_69 ?_
      refine j_aload_n (pc := 72) C d_Nine_today_72 rfl 4 rfl ?_
      refine j_get (pc := 73) C gf_Nine_24 0 rfl rfl d_Nine_today_73 ?_
      refine j_get (pc := 76) C gf_Nine_124 13 rfl rfl d_Nine_today_76 ?_
      refine j_callVi (pc := 79) C (c_villageOn l D y k g vn vg t r 0) kw_Nine_206 kv_Lake_villageOn 0 2 rfl rfl ⟨by decide, by decide⟩ ⟨by decide, by decide⟩ (wr := [(x, .inr (9, [.ref tp, .ref pi, .ref nw, .ref tr, .ref ps, .ref k, .ref k2, .ref rd, .ref pl, .int 1])), (g, .inr (1, [.int 0, .ref g0, .ref g1, .ref g2, .ref g3, .ref g4, .ref g5, .ref g6])), (t, .inr (8, [.int 0, .ref t0, .ref t1, .ref t2, .ref t3, .ref t4, .ref t5, .ref t6])), (r, .inr (6, [.int 0, .int 0, .ref r0, .ref r1, .ref r2, .ref r3, .ref r4, .ref r5])), (tr, .inr (7, [.int dt, .int 0, .int 0, .ref m0, .ref m1, .ref m2, .ref m3, .ref m4, .ref m5, .ref m6])), (m0, .inl (y 0, 9, .inl (fun _ => 0))), (m1, .inl (y 0, 9, .inl (fun _ => 0))), (m2, .inl (y 1, 9, .inr (.inl (fun _ => 0)))), (m3, .inl (y 0, 6, .inl (fun _ => 0))), (m4, .inl (y 0, 6, .inl (fun _ => 0))), (m5, .inl (y 0, 16, .inl (fun _ => 0))), (m6, .inl (y 1, 5, .inr (.inl (fun _ => 0)))), (nw, .inr (7, [.int 0, .int 0, .int 0, .ref n0, .ref n1, .ref n2, .ref n3, .ref n4, .ref n5, .ref n6])), (n0, .inl (y 0, 9, .inl (fun _ => 0))), (n1, .inl (y 0, 9, .inl (fun _ => 0))), (n2, .inl (y 1, 9, .inr (.inl (fun _ => 0)))), (n3, .inl (y 0, 6, .inl (fun _ => 0))), (n4, .inl (y 0, 6, .inl (fun _ => 0))), (n5, .inl (y 0, 16, .inl (fun _ => 0))), (n6, .inl (y 1, 5, .inr (.inl (fun _ => 0))))]) [1] [0, 2, 3, 4, 5, 6, 7, 8, 9, 10, 11, 12, 13, 14, 15, 16, 17, 18, 19, 20] rfl rfl (by decide) (by decide) (by decide) (As := [.int 0]) (rest := [.ref nw, .ref k]) rfl (nb rfl) rfl d_Nine_today_79 (fun r6 _ hr6 => ?_)
      subst hr6
      refine j_ws (ws' := [(x, .inr (9, [.ref tp, .ref pi, .ref nw, .ref tr, .ref ps, .ref k, .ref k2, .ref rd, .ref pl, .int 1])), (g, .inr (1, [.int 0, .ref g0, .ref g1, .ref g2, .ref g3, .ref g4, .ref g5, .ref g6])), (t, .inr (8, [.int 0, .ref t0, .ref t1, .ref t2, .ref t3, .ref t4, .ref t5, .ref t6])), (r, .inr (6, [.int 0, .int 0, .ref r0, .ref r1, .ref r2, .ref r3, .ref r4, .ref r5])), (tr, .inr (7, [.int dt, .int 0, .int 0, .ref m0, .ref m1, .ref m2, .ref m3, .ref m4, .ref m5, .ref m6])), (m0, .inl (y 0, 9, .inl (fun _ => 0))), (m1, .inl (y 0, 9, .inl (fun _ => 0))), (m2, .inl (y 1, 9, .inr (.inl (fun _ => 0)))), (m3, .inl (y 0, 6, .inl (fun _ => 0))), (m4, .inl (y 0, 6, .inl (fun _ => 0))), (m5, .inl (y 0, 16, .inl (fun _ => 0))), (m6, .inl (y 1, 5, .inr (.inl (fun _ => 0)))), (nw, .inr (7, [.int 0, .int 0, .int 0, .ref n0, .ref n1, .ref n2, .ref n3, .ref n4, .ref n5, .ref n6])), (n0, .inl (y 0, 9, .inl (fun _ => 0))), (n1, .inl (y 0, 9, .inl (fun _ => 0))), (n2, .inl (y 1, 9, .inr (.inl (fun _ => 0)))), (n3, .inl (y 0, 6, .inl (fun _ => 0))), (n4, .inl (y 0, 6, .inl (fun _ => 0))), (n5, .inl (y 0, 16, .inl (fun _ => 0))), (n6, .inl (y 1, 5, .inr (.inl (fun _ => 0)))), (k, .inr (2, [.int 0, .int 1, .int 1, .int 0, .ref g, .int 0, .ref vn, .ref vg, .ref t, .ref r, .int 0, .int 0, .int 9999, .int 0]))]) rfl ?_
      refine j_st (st' := [.int (-1), .ref nw, .ref k]) rfl ?_
      refine j_iload (pc := 82) C d_Nine_today_82 0 rfl ?_
      refine j_iconst (pc := 84) C (v := 0) d_Nine_today_84 (by decide) ?_
      refine j_callSi (pc := 85) C (c_allows_0 l D y k nw (-1) 0) kw_Nine_209 ks_Days_allows ⟨by decide, by decide⟩ ⟨by decide, by decide⟩ (wr := [(x, .inr (9, [.ref tp, .ref pi, .ref nw, .ref tr, .ref ps, .ref k, .ref k2, .ref rd, .ref pl, .int 1])), (g, .inr (1, [.int 0, .ref g0, .ref g1, .ref g2, .ref g3, .ref g4, .ref g5, .ref g6])), (t, .inr (8, [.int 0, .ref t0, .ref t1, .ref t2, .ref t3, .ref t4, .ref t5, .ref t6])), (r, .inr (6, [.int 0, .int 0, .ref r0, .ref r1, .ref r2, .ref r3, .ref r4, .ref r5])), (tr, .inr (7, [.int dt, .int 0, .int 0, .ref m0, .ref m1, .ref m2, .ref m3, .ref m4, .ref m5, .ref m6])), (m0, .inl (y 0, 9, .inl (fun _ => 0))), (m1, .inl (y 0, 9, .inl (fun _ => 0))), (m2, .inl (y 1, 9, .inr (.inl (fun _ => 0)))), (m3, .inl (y 0, 6, .inl (fun _ => 0))), (m4, .inl (y 0, 6, .inl (fun _ => 0))), (m5, .inl (y 0, 16, .inl (fun _ => 0))), (m6, .inl (y 1, 5, .inr (.inl (fun _ => 0)))), (nw, .inr (7, [.int 0, .int 0, .int 0, .ref n0, .ref n1, .ref n2, .ref n3, .ref n4, .ref n5, .ref n6])), (n0, .inl (y 0, 9, .inl (fun _ => 0))), (n1, .inl (y 0, 9, .inl (fun _ => 0))), (n2, .inl (y 1, 9, .inr (.inl (fun _ => 0)))), (n3, .inl (y 0, 6, .inl (fun _ => 0))), (n4, .inl (y 0, 6, .inl (fun _ => 0))), (n5, .inl (y 0, 16, .inl (fun _ => 0))), (n6, .inl (y 1, 5, .inr (.inl (fun _ => 0)))), (k, .inr (2, [.int 0, .int 1, .int 1, .int 0, .ref g, .int 0, .ref vn, .ref vg, .ref t, .ref r, .int 0, .int 0, .int 9999, .int 0]))]) [] [0, 1, 2, 3, 4, 5, 6, 7, 8, 9, 10, 11, 12, 13, 14, 15, 16, 17, 18, 19, 20] rfl rfl (by decide) (by decide) (by decide) (As := [.ref k, .ref nw, .int (-1), .int 0, .int 0]) (rest := []) rfl (nb rfl) rfl d_Nine_today_85 (fun r7 _ hr7 => ?_)
      subst hr7
      refine j_ws (ws' := [(x, .inr (9, [.ref tp, .ref pi, .ref nw, .ref tr, .ref ps, .ref k, .ref k2, .ref rd, .ref pl, .int 1])), (g, .inr (1, [.int 0, .ref g0, .ref g1, .ref g2, .ref g3, .ref g4, .ref g5, .ref g6])), (t, .inr (8, [.int 0, .ref t0, .ref t1, .ref t2, .ref t3, .ref t4, .ref t5, .ref t6])), (r, .inr (6, [.int 0, .int 0, .ref r0, .ref r1, .ref r2, .ref r3, .ref r4, .ref r5])), (tr, .inr (7, [.int dt, .int 0, .int 0, .ref m0, .ref m1, .ref m2, .ref m3, .ref m4, .ref m5, .ref m6])), (m0, .inl (y 0, 9, .inl (fun _ => 0))), (m1, .inl (y 0, 9, .inl (fun _ => 0))), (m2, .inl (y 1, 9, .inr (.inl (fun _ => 0)))), (m3, .inl (y 0, 6, .inl (fun _ => 0))), (m4, .inl (y 0, 6, .inl (fun _ => 0))), (m5, .inl (y 0, 16, .inl (fun _ => 0))), (m6, .inl (y 1, 5, .inr (.inl (fun _ => 0)))), (nw, .inr (7, [.int 0, .int 0, .int 0, .ref n0, .ref n1, .ref n2, .ref n3, .ref n4, .ref n5, .ref n6])), (n0, .inl (y 0, 9, .inl (fun _ => 0))), (n1, .inl (y 0, 9, .inl (fun _ => 0))), (n2, .inl (y 1, 9, .inr (.inl (fun _ => 0)))), (n3, .inl (y 0, 6, .inl (fun _ => 0))), (n4, .inl (y 0, 6, .inl (fun _ => 0))), (n5, .inl (y 0, 16, .inl (fun _ => 0))), (n6, .inl (y 1, 5, .inr (.inl (fun _ => 0)))), (k, .inr (2, [.int 0, .int 1, .int 1, .int 0, .ref g, .int 0, .ref vn, .ref vg, .ref t, .ref r, .int 0, .int 0, .int 9999, .int 0]))]) rfl ?_
      refine j_st (st' := [.int 1]) rfl ?_
      refine j_if_eqF (pc := 88) C (tgt := 168) d_Nine_today_88 (by decide) (by decide) ?_
      refine j_aload_n (pc := 91) C d_Nine_today_91 rfl 4 rfl ?_
      refine j_get (pc := 92) C gf_Nine_28 0 rfl rfl d_Nine_today_92 ?_
      refine j_aload_n (pc := 95) C d_Nine_today_95 rfl 4 rfl ?_
      refine j_get (pc := 96) C gf_Nine_24 0 rfl rfl d_Nine_today_96 ?_
      refine j_callVv (pc := 99) C (c_take l D y tr m0 m1 m2 m3 m4 m5 m6 dt nw n0 n1 n2 n3 n4 n5 n6 0) kw_Nine_160 kv_State_take 0 7 rfl rfl ⟨by decide, by decide⟩ ⟨by decide, by decide⟩ (wr := [(x, .inr (9, [.ref tp, .ref pi, .ref nw, .ref tr, .ref ps, .ref k, .ref k2, .ref rd, .ref pl, .int 1])), (g, .inr (1, [.int 0, .ref g0, .ref g1, .ref g2, .ref g3, .ref g4, .ref g5, .ref g6])), (t, .inr (8, [.int 0, .ref t0, .ref t1, .ref t2, .ref t3, .ref t4, .ref t5, .ref t6])), (r, .inr (6, [.int 0, .int 0, .ref r0, .ref r1, .ref r2, .ref r3, .ref r4, .ref r5])), (k, .inr (2, [.int 0, .int 1, .int 1, .int 0, .ref g, .int 0, .ref vn, .ref vg, .ref t, .ref r, .int 0, .int 0, .int 9999, .int 0]))]) [4, 5, 6, 7, 8, 9, 10, 11, 12, 13, 14, 15, 16, 17, 18, 19] [0, 1, 2, 3, 20] rfl rfl (by decide) (by decide) (by decide) (As := [.ref nw]) (rest := []) rfl (nb rfl) rfl d_Nine_today_99 (fun _ _ => ?_)
      refine j_ws (ws' := [(x, .inr (9, [.ref tp, .ref pi, .ref nw, .ref tr, .ref ps, .ref k, .ref k2, .ref rd, .ref pl, .int 1])), (g, .inr (1, [.int 0, .ref g0, .ref g1, .ref g2, .ref g3, .ref g4, .ref g5, .ref g6])), (t, .inr (8, [.int 0, .ref t0, .ref t1, .ref t2, .ref t3, .ref t4, .ref t5, .ref t6])), (r, .inr (6, [.int 0, .int 0, .ref r0, .ref r1, .ref r2, .ref r3, .ref r4, .ref r5])), (k, .inr (2, [.int 0, .int 1, .int 1, .int 0, .ref g, .int 0, .ref vn, .ref vg, .ref t, .ref r, .int 0, .int 0, .int 9999, .int 0])), (tr, .inr (7, [.int 0, .int 0, .int 0, .ref m0, .ref m1, .ref m2, .ref m3, .ref m4, .ref m5, .ref m6])), (m0, .inl (y 0, 9, .inl (fun _ => 0))), (m1, .inl (y 0, 9, .inl (fun _ => 0))), (m2, .inl (y 1, 9, .inr (.inl (fun _ => 0)))), (m3, .inl (y 0, 6, .inl (fun _ => 0))), (m4, .inl (y 0, 6, .inl (fun _ => 0))), (m5, .inl (y 0, 16, .inl (fun _ => 0))), (m6, .inl (y 1, 5, .inr (.inl (fun _ => 0)))), (nw, .inr (7, [.int 0, .int 0, .int 0, .ref n0, .ref n1, .ref n2, .ref n3, .ref n4, .ref n5, .ref n6])), (n0, .inl (y 0, 9, .inl (fun _ => 0))), (n1, .inl (y 0, 9, .inl (fun _ => 0))), (n2, .inl (y 1, 9, .inr (.inl (fun _ => 0)))), (n3, .inl (y 0, 6, .inl (fun _ => 0))), (n4, .inl (y 0, 6, .inl (fun _ => 0))), (n5, .inl (y 0, 16, .inl (fun _ => 0))), (n6, .inl (y 1, 5, .inr (.inl (fun _ => 0))))]) rfl ?_
      refine j_aload_n (pc := 102) C d_Nine_today_102 rfl 4 rfl ?_
      refine j_get (pc := 103) C gf_Nine_41 0 rfl rfl d_Nine_today_103 ?_
      refine j_aload_n (pc := 106) C d_Nine_today_106 rfl 4 rfl ?_
      refine j_get (pc := 107) C gf_Nine_28 0 rfl rfl d_Nine_today_107 ?_
      refine j_iload (pc := 110) C d_Nine_today_110 0 rfl ?_
      refine j_callSv (pc := 112) C (c_pass l D y k g vn vg t r g0 g1 g2 g3 g4 g5 g6 t0 t1 t2 t3 t4 t5 t6 r0 r1 r2 r3 r4 r5 tr m0 m1 m2 m3 m4 m5 m6 0) kw_Nine_216 ks_Days_pass ⟨by decide, by decide⟩ ⟨by decide, by decide⟩ (wr := [(x, .inr (9, [.ref tp, .ref pi, .ref nw, .ref tr, .ref ps, .ref k, .ref k2, .ref rd, .ref pl, .int 1])), (m0, .inl (y 0, 9, .inl (fun _ => 0))), (m1, .inl (y 0, 9, .inl (fun _ => 0))), (m2, .inl (y 1, 9, .inr (.inl (fun _ => 0)))), (m3, .inl (y 0, 6, .inl (fun _ => 0))), (m4, .inl (y 0, 6, .inl (fun _ => 0))), (m5, .inl (y 0, 16, .inl (fun _ => 0))), (nw, .inr (7, [.int 0, .int 0, .int 0, .ref n0, .ref n1, .ref n2, .ref n3, .ref n4, .ref n5, .ref n6])), (n0, .inl (y 0, 9, .inl (fun _ => 0))), (n1, .inl (y 0, 9, .inl (fun _ => 0))), (n2, .inl (y 1, 9, .inr (.inl (fun _ => 0)))), (n3, .inl (y 0, 6, .inl (fun _ => 0))), (n4, .inl (y 0, 6, .inl (fun _ => 0))), (n5, .inl (y 0, 16, .inl (fun _ => 0))), (n6, .inl (y 1, 5, .inr (.inl (fun _ => 0))))]) [4, 1, 2, 3, 5, 12] [0, 6, 7, 8, 9, 10, 11, 13, 14, 15, 16, 17, 18, 19, 20] rfl rfl (by decide) (by decide) (by decide) (As := [.ref k, .ref tr, .int 0]) (rest := []) rfl (nb rfl) rfl d_Nine_today_112 (fun _ _ => ?_)
      refine j_ws (ws' := [(x, .inr (9, [.ref tp, .ref pi, .ref nw, .ref tr, .ref ps, .ref k, .ref k2, .ref rd, .ref pl, .int 1])), (m0, .inl (y 0, 9, .inl (fun _ => 0))), (m1, .inl (y 0, 9, .inl (fun _ => 0))), (m2, .inl (y 1, 9, .inr (.inl (fun _ => 0)))), (m3, .inl (y 0, 6, .inl (fun _ => 0))), (m4, .inl (y 0, 6, .inl (fun _ => 0))), (m5, .inl (y 0, 16, .inl (fun _ => 0))), (nw, .inr (7, [.int 0, .int 0, .int 0, .ref n0, .ref n1, .ref n2, .ref n3, .ref n4, .ref n5, .ref n6])), (n0, .inl (y 0, 9, .inl (fun _ => 0))), (n1, .inl (y 0, 9, .inl (fun _ => 0))), (n2, .inl (y 1, 9, .inr (.inl (fun _ => 0)))), (n3, .inl (y 0, 6, .inl (fun _ => 0))), (n4, .inl (y 0, 6, .inl (fun _ => 0))), (n5, .inl (y 0, 16, .inl (fun _ => 0))), (n6, .inl (y 1, 5, .inr (.inl (fun _ => 0)))), (k, .inr (2, [.int 0, .int 1, .int 1, .int 0, .ref g, .int 0, .ref vn, .ref vg, .ref t, .ref r, .int 0, .int 0, .int 9999, .int 0])), (g, .inr (1, [.int 0, .ref g0, .ref g1, .ref g2, .ref g3, .ref g4, .ref g5, .ref g6])), (t, .inr (8, [.int 0, .ref t0, .ref t1, .ref t2, .ref t3, .ref t4, .ref t5, .ref t6])), (r, .inr (6, [.int 0, .int 0, .ref r0, .ref r1, .ref r2, .ref r3, .ref r4, .ref r5])), (tr, .inr (7, [.int (0 + 1), .int 0, .int 0, .ref m0, .ref m1, .ref m2, .ref m3, .ref m4, .ref m5, .ref m6])), (m6, .inl (y 1, 5, .inr (.inl (fun _ => 0))))]) rfl ?_
      refine j_iload_n (pc := 115) C d_Nine_today_115 rfl 3 rfl ?_
      refine j_if_eqT (pc := 116) C (tgt := 131) d_Nine_today_116 (by decide) (by decide) ?_
      refine j_aload_n (pc := 131) C d_Nine_today_131 rfl 4 rfl ?_
      refine j_get (pc := 132) C gf_Nine_41 0 rfl rfl d_Nine_today_132 ?_
      refine j_aload_n (pc := 135) C d_Nine_today_135 rfl 4 rfl ?_
      refine j_get (pc := 136) C gf_Nine_28 0 rfl rfl d_Nine_today_136 ?_
      refine j_get (pc := 139) C gf_Nine_127 19 rfl rfl d_Nine_today_139 ?_
      refine j_callVi (pc := 142) C (c_levelAt_0 l D y k g vn vg t r) kw_Nine_130 kv_Lake_levelAt 0 2 rfl rfl ⟨by decide, by decide⟩ ⟨by decide, by decide⟩ (wr := [(x, .inr (9, [.ref tp, .ref pi, .ref nw, .ref tr, .ref ps, .ref k, .ref k2, .ref rd, .ref pl, .int 1])), (m0, .inl (y 0, 9, .inl (fun _ => 0))), (m1, .inl (y 0, 9, .inl (fun _ => 0))), (m2, .inl (y 1, 9, .inr (.inl (fun _ => 0)))), (m3, .inl (y 0, 6, .inl (fun _ => 0))), (m4, .inl (y 0, 6, .inl (fun _ => 0))), (m5, .inl (y 0, 16, .inl (fun _ => 0))), (nw, .inr (7, [.int 0, .int 0, .int 0, .ref n0, .ref n1, .ref n2, .ref n3, .ref n4, .ref n5, .ref n6])), (n0, .inl (y 0, 9, .inl (fun _ => 0))), (n1, .inl (y 0, 9, .inl (fun _ => 0))), (n2, .inl (y 1, 9, .inr (.inl (fun _ => 0)))), (n3, .inl (y 0, 6, .inl (fun _ => 0))), (n4, .inl (y 0, 6, .inl (fun _ => 0))), (n5, .inl (y 0, 16, .inl (fun _ => 0))), (n6, .inl (y 1, 5, .inr (.inl (fun _ => 0)))), (g, .inr (1, [.int 0, .ref g0, .ref g1, .ref g2, .ref g3, .ref g4, .ref g5, .ref g6])), (t, .inr (8, [.int 0, .ref t0, .ref t1, .ref t2, .ref t3, .ref t4, .ref t5, .ref t6])), (r, .inr (6, [.int 0, .int 0, .ref r0, .ref r1, .ref r2, .ref r3, .ref r4, .ref r5])), (tr, .inr (7, [.int (0 + 1), .int 0, .int 0, .ref m0, .ref m1, .ref m2, .ref m3, .ref m4, .ref m5, .ref m6])), (m6, .inl (y 1, 5, .inr (.inl (fun _ => 0))))]) [15] [0, 1, 2, 3, 4, 5, 6, 7, 8, 9, 10, 11, 12, 13, 14, 16, 17, 18, 19, 20] rfl rfl (by decide) (by decide) (by decide) (As := [.int 0]) (rest := []) rfl (nb rfl) rfl d_Nine_today_142 (fun r8 _ hr8 => ?_)
      subst hr8
      refine j_ws (ws' := [(x, .inr (9, [.ref tp, .ref pi, .ref nw, .ref tr, .ref ps, .ref k, .ref k2, .ref rd, .ref pl, .int 1])), (m0, .inl (y 0, 9, .inl (fun _ => 0))), (m1, .inl (y 0, 9, .inl (fun _ => 0))), (m2, .inl (y 1, 9, .inr (.inl (fun _ => 0)))), (m3, .inl (y 0, 6, .inl (fun _ => 0))), (m4, .inl (y 0, 6, .inl (fun _ => 0))), (m5, .inl (y 0, 16, .inl (fun _ => 0))), (nw, .inr (7, [.int 0, .int 0, .int 0, .ref n0, .ref n1, .ref n2, .ref n3, .ref n4, .ref n5, .ref n6])), (n0, .inl (y 0, 9, .inl (fun _ => 0))), (n1, .inl (y 0, 9, .inl (fun _ => 0))), (n2, .inl (y 1, 9, .inr (.inl (fun _ => 0)))), (n3, .inl (y 0, 6, .inl (fun _ => 0))), (n4, .inl (y 0, 6, .inl (fun _ => 0))), (n5, .inl (y 0, 16, .inl (fun _ => 0))), (n6, .inl (y 1, 5, .inr (.inl (fun _ => 0)))), (g, .inr (1, [.int 0, .ref g0, .ref g1, .ref g2, .ref g3, .ref g4, .ref g5, .ref g6])), (t, .inr (8, [.int 0, .ref t0, .ref t1, .ref t2, .ref t3, .ref t4, .ref t5, .ref t6])), (r, .inr (6, [.int 0, .int 0, .ref r0, .ref r1, .ref r2, .ref r3, .ref r4, .ref r5])), (tr, .inr (7, [.int (0 + 1), .int 0, .int 0, .ref m0, .ref m1, .ref m2, .ref m3, .ref m4, .ref m5, .ref m6])), (m6, .inl (y 1, 5, .inr (.inl (fun _ => 0)))), (k, .inr (2, [.int 0, .int 1, .int 1, .int 0, .ref g, .int 0, .ref vn, .ref vg, .ref t, .ref r, .int 0, .int 0, .int 9999, .int 0]))]) rfl ?_
      refine j_st (st' := [.int 0]) rfl ?_
      refine j_istore (pc := 145) C (lv' := [(7, .int 0), (6, .int 0), (5, .int 0), (4, .int (-1)), (3, .int 0), (0, .ref x), (1, .int va), (2, .int vb)]) d_Nine_today_145 (by decide) rfl ?_
      refine j_iload (pc := 147) C d_Nine_today_147 3 rfl ?_
      refine j_iconst (pc := 149) C (v := (-1)) d_Nine_today_149 (by decide) ?_
      refine j_icmp_eqT (pc := 150) C (tgt := 160) d_Nine_today_150 (by decide) (by decide) ?_
      refine j_iload (pc := 160) C d_Nine_today_160 1 rfl ?_
      refine j_istore (pc := 162) C (lv' := [(4, .int 0), (7, .int 0), (6, .int 0), (5, .int 0), (3, .int 0), (0, .ref x), (1, .int va), (2, .int vb)]) d_Nine_today_162 (by decide) rfl ?_
      refine j_iload (pc := 164) C d_Nine_today_164 1 rfl ?_
      refine j_istore (pc := 166) C (lv' := [(5, .int 0), (4, .int 0), (7, .int 0), (6, .int 0), (3, .int 0), (0, .ref x), (1, .int va), (2, .int vb)]) d_Nine_today_166 (by decide) rfl ?_
      refine j_iinc (pc := 168) C (v := 1) (lv' := [(6, .int 1), (5, .int 0), (4, .int 0), (7, .int 0), (3, .int 0), (0, .ref x), (1, .int va), (2, .int vb)]) d_Nine_today_168 3 rfl (by decide) (by decide) rfl ?_
      refine j_goto (pc := 171) C (tgt := 54) d_Nine_today_171 (by decide) ?_
      refine j_iload (pc := 54) C d_Nine_today_54 0 rfl ?_
      refine j_iconst (pc := 56) C (v := 3) d_Nine_today_56 (by decide) ?_
      refine j_icmp_geF (pc := 57) C (tgt := 174) d_Nine_today_57 (by decide) (by decide) ?_
      refine j_aload_n (pc := 60) C d_Nine_today_60 rfl 5 rfl ?_
      refine j_get (pc := 61) C gf_Nine_41 0 rfl rfl d_Nine_today_61 ?_
      refine j_aload_n (pc := 64) C d_Nine_today_64 rfl 5 rfl ?_
      refine j_get (pc := 65) C gf_Nine_24 0 rfl rfl d_Nine_today_65 ?_
      refine j_aload_n (pc := 68) C d_Nine_today_68 rfl 5 rfl ?_
      refine j_get (pc := 69) C gf_Nine_41 0 rfl rfl d_Nine_today_69 ?_
      refine j_aload_n (pc := 72) C d_Nine_today_72 rfl 5 rfl ?_
      refine j_get (pc := 73) C gf_Nine_24 0 rfl rfl d_Nine_today_73 ?_
      refine j_get (pc := 76) C gf_Nine_124 7 rfl rfl d_Nine_today_76 ?_
      refine j_callVi (pc := 79) C (c_villageOn l D y k g vn vg t r 0) kw_Nine_206 kv_Lake_villageOn 0 2 rfl rfl ⟨by decide, by decide⟩ ⟨by decide, by decide⟩ (wr := [(x, .inr (9, [.ref tp, .ref pi, .ref nw, .ref tr, .ref ps, .ref k, .ref k2, .ref rd, .ref pl, .int 1])), (m0, .inl (y 0, 9, .inl (fun _ => 0))), (m1, .inl (y 0, 9, .inl (fun _ => 0))), (m2, .inl (y 1, 9, .inr (.inl (fun _ => 0)))), (m3, .inl (y 0, 6, .inl (fun _ => 0))), (m4, .inl (y 0, 6, .inl (fun _ => 0))), (m5, .inl (y 0, 16, .inl (fun _ => 0))), (nw, .inr (7, [.int 0, .int 0, .int 0, .ref n0, .ref n1, .ref n2, .ref n3, .ref n4, .ref n5, .ref n6])), (n0, .inl (y 0, 9, .inl (fun _ => 0))), (n1, .inl (y 0, 9, .inl (fun _ => 0))), (n2, .inl (y 1, 9, .inr (.inl (fun _ => 0)))), (n3, .inl (y 0, 6, .inl (fun _ => 0))), (n4, .inl (y 0, 6, .inl (fun _ => 0))), (n5, .inl (y 0, 16, .inl (fun _ => 0))), (n6, .inl (y 1, 5, .inr (.inl (fun _ => 0)))), (g, .inr (1, [.int 0, .ref g0, .ref g1, .ref g2, .ref g3, .ref g4, .ref g5, .ref g6])), (t, .inr (8, [.int 0, .ref t0, .ref t1, .ref t2, .ref t3, .ref t4, .ref t5, .ref t6])), (r, .inr (6, [.int 0, .int 0, .ref r0, .ref r1, .ref r2, .ref r3, .ref r4, .ref r5])), (tr, .inr (7, [.int (0 + 1), .int 0, .int 0, .ref m0, .ref m1, .ref m2, .ref m3, .ref m4, .ref m5, .ref m6])), (m6, .inl (y 1, 5, .inr (.inl (fun _ => 0))))]) [20] [0, 1, 2, 3, 4, 5, 6, 7, 8, 9, 10, 11, 12, 13, 14, 15, 16, 17, 18, 19] rfl rfl (by decide) (by decide) (by decide) (As := [.int 0]) (rest := [.ref nw, .ref k]) rfl (nb rfl) rfl d_Nine_today_79 (fun r9 _ hr9 => ?_)
      subst hr9
      refine j_ws (ws' := [(x, .inr (9, [.ref tp, .ref pi, .ref nw, .ref tr, .ref ps, .ref k, .ref k2, .ref rd, .ref pl, .int 1])), (m0, .inl (y 0, 9, .inl (fun _ => 0))), (m1, .inl (y 0, 9, .inl (fun _ => 0))), (m2, .inl (y 1, 9, .inr (.inl (fun _ => 0)))), (m3, .inl (y 0, 6, .inl (fun _ => 0))), (m4, .inl (y 0, 6, .inl (fun _ => 0))), (m5, .inl (y 0, 16, .inl (fun _ => 0))), (nw, .inr (7, [.int 0, .int 0, .int 0, .ref n0, .ref n1, .ref n2, .ref n3, .ref n4, .ref n5, .ref n6])), (n0, .inl (y 0, 9, .inl (fun _ => 0))), (n1, .inl (y 0, 9, .inl (fun _ => 0))), (n2, .inl (y 1, 9, .inr (.inl (fun _ => 0)))), (n3, .inl (y 0, 6, .inl (fun _ => 0))), (n4, .inl (y 0, 6, .inl (fun _ => 0))), (n5, .inl (y 0, 16, .inl (fun _ => 0))), (n6, .inl (y 1, 5, .inr (.inl (fun _ => 0)))), (g, .inr (1, [.int 0, .ref g0, .ref g1, .ref g2, .ref g3, .ref g4, .ref g5, .ref g6])), (t, .inr (8, [.int 0, .ref t0, .ref t1, .ref t2, .ref t3, .ref t4, .ref t5, .ref t6])), (r, .inr (6, [.int 0, .int 0, .ref r0, .ref r1, .ref r2, .ref r3, .ref r4, .ref r5])), (tr, .inr (7, [.int (0 + 1), .int 0, .int 0, .ref m0, .ref m1, .ref m2, .ref m3, .ref m4, .ref m5, .ref m6])), (m6, .inl (y 1, 5, .inr (.inl (fun _ => 0)))), (k, .inr (2, [.int 0, .int 1, .int 1, .int 0, .ref g, .int 0, .ref vn, .ref vg, .ref t, .ref r, .int 0, .int 0, .int 9999, .int 0]))]) rfl ?_
      refine j_st (st' := [.int (-1), .ref nw, .ref k]) rfl ?_
      refine j_iload (pc := 82) C d_Nine_today_82 0 rfl ?_
      refine j_iconst (pc := 84) C (v := 0) d_Nine_today_84 (by decide) ?_
      refine j_callSi (pc := 85) C (c_allows_n l D y k g vn vg t r nw (-1) 1 0 (by decide)) kw_Nine_209 ks_Days_allows ⟨by decide, by decide⟩ ⟨by decide, by decide⟩ (wr := [(x, .inr (9, [.ref tp, .ref pi, .ref nw, .ref tr, .ref ps, .ref k, .ref k2, .ref rd, .ref pl, .int 1])), (m0, .inl (y 0, 9, .inl (fun _ => 0))), (m1, .inl (y 0, 9, .inl (fun _ => 0))), (m2, .inl (y 1, 9, .inr (.inl (fun _ => 0)))), (m3, .inl (y 0, 6, .inl (fun _ => 0))), (m4, .inl (y 0, 6, .inl (fun _ => 0))), (m5, .inl (y 0, 16, .inl (fun _ => 0))), (nw, .inr (7, [.int 0, .int 0, .int 0, .ref n0, .ref n1, .ref n2, .ref n3, .ref n4, .ref n5, .ref n6])), (n0, .inl (y 0, 9, .inl (fun _ => 0))), (n1, .inl (y 0, 9, .inl (fun _ => 0))), (n2, .inl (y 1, 9, .inr (.inl (fun _ => 0)))), (n3, .inl (y 0, 6, .inl (fun _ => 0))), (n4, .inl (y 0, 6, .inl (fun _ => 0))), (n5, .inl (y 0, 16, .inl (fun _ => 0))), (n6, .inl (y 1, 5, .inr (.inl (fun _ => 0)))), (g, .inr (1, [.int 0, .ref g0, .ref g1, .ref g2, .ref g3, .ref g4, .ref g5, .ref g6])), (t, .inr (8, [.int 0, .ref t0, .ref t1, .ref t2, .ref t3, .ref t4, .ref t5, .ref t6])), (r, .inr (6, [.int 0, .int 0, .ref r0, .ref r1, .ref r2, .ref r3, .ref r4, .ref r5])), (tr, .inr (7, [.int (0 + 1), .int 0, .int 0, .ref m0, .ref m1, .ref m2, .ref m3, .ref m4, .ref m5, .ref m6])), (m6, .inl (y 1, 5, .inr (.inl (fun _ => 0))))]) [20] [0, 1, 2, 3, 4, 5, 6, 7, 8, 9, 10, 11, 12, 13, 14, 15, 16, 17, 18, 19] rfl rfl (by decide) (by decide) (by decide) (As := [.ref k, .ref nw, .int (-1), .int 1, .int 0]) (rest := []) rfl (nb rfl) rfl d_Nine_today_85 (fun r10 _ hr10 => ?_)
      subst hr10
      refine j_ws (ws' := [(x, .inr (9, [.ref tp, .ref pi, .ref nw, .ref tr, .ref ps, .ref k, .ref k2, .ref rd, .ref pl, .int 1])), (m0, .inl (y 0, 9, .inl (fun _ => 0))), (m1, .inl (y 0, 9, .inl (fun _ => 0))), (m2, .inl (y 1, 9, .inr (.inl (fun _ => 0)))), (m3, .inl (y 0, 6, .inl (fun _ => 0))), (m4, .inl (y 0, 6, .inl (fun _ => 0))), (m5, .inl (y 0, 16, .inl (fun _ => 0))), (nw, .inr (7, [.int 0, .int 0, .int 0, .ref n0, .ref n1, .ref n2, .ref n3, .ref n4, .ref n5, .ref n6])), (n0, .inl (y 0, 9, .inl (fun _ => 0))), (n1, .inl (y 0, 9, .inl (fun _ => 0))), (n2, .inl (y 1, 9, .inr (.inl (fun _ => 0)))), (n3, .inl (y 0, 6, .inl (fun _ => 0))), (n4, .inl (y 0, 6, .inl (fun _ => 0))), (n5, .inl (y 0, 16, .inl (fun _ => 0))), (n6, .inl (y 1, 5, .inr (.inl (fun _ => 0)))), (g, .inr (1, [.int 0, .ref g0, .ref g1, .ref g2, .ref g3, .ref g4, .ref g5, .ref g6])), (t, .inr (8, [.int 0, .ref t0, .ref t1, .ref t2, .ref t3, .ref t4, .ref t5, .ref t6])), (r, .inr (6, [.int 0, .int 0, .ref r0, .ref r1, .ref r2, .ref r3, .ref r4, .ref r5])), (tr, .inr (7, [.int (0 + 1), .int 0, .int 0, .ref m0, .ref m1, .ref m2, .ref m3, .ref m4, .ref m5, .ref m6])), (m6, .inl (y 1, 5, .inr (.inl (fun _ => 0)))), (k, .inr (2, [.int 0, .int 1, .int 1, .int 0, .ref g, .int 0, .ref vn, .ref vg, .ref t, .ref r, .int 0, .int 0, .int 9999, .int 0]))]) rfl ?_
      refine j_st (st' := [.int 0]) rfl ?_
      refine j_if_eqT (pc := 88) C (tgt := 168) d_Nine_today_88 (by decide) (by decide) ?_
      refine j_iinc (pc := 168) C (v := 2) (lv' := [(6, .int 2), (5, .int 0), (4, .int 0), (7, .int 0), (3, .int 0), (0, .ref x), (1, .int va), (2, .int vb)]) d_Nine_today_168 0 rfl (by decide) (by decide) rfl ?_
      refine j_goto (pc := 171) C (tgt := 54) d_Nine_today_171 (by decide) ?_
      refine j_iload (pc := 54) C d_Nine_today_54 0 rfl ?_
      refine j_iconst (pc := 56) C (v := 3) d_Nine_today_56 (by decide) ?_
      refine j_icmp_geF (pc := 57) C (tgt := 174) d_Nine_today_57 (by decide) (by decide) ?_
      refine j_aload_n (pc := 60) C d_Nine_today_60 rfl 5 rfl ?_
      refine j_get (pc := 61) C gf_Nine_41 0 rfl rfl d_Nine_today_61 ?_
      refine j_aload_n (pc := 64) C d_Nine_today_64 rfl 5 rfl ?_
      refine j_get (pc := 65) C gf_Nine_24 0 rfl rfl d_Nine_today_65 ?_
      refine j_aload_n (pc := 68) C d_Nine_today_68 rfl 5 rfl ?_
      refine j_get (pc := 69) C gf_Nine_41 0 rfl rfl d_Nine_today_69 ?_
      refine j_aload_n (pc := 72) C d_Nine_today_72 rfl 5 rfl ?_
      refine j_get (pc := 73) C gf_Nine_24 0 rfl rfl d_Nine_today_73 ?_
      refine j_get (pc := 76) C gf_Nine_124 7 rfl rfl d_Nine_today_76 ?_
      refine j_callVi (pc := 79) C (c_villageOn l D y k g vn vg t r 0) kw_Nine_206 kv_Lake_villageOn 0 2 rfl rfl ⟨by decide, by decide⟩ ⟨by decide, by decide⟩ (wr := [(x, .inr (9, [.ref tp, .ref pi, .ref nw, .ref tr, .ref ps, .ref k, .ref k2, .ref rd, .ref pl, .int 1])), (m0, .inl (y 0, 9, .inl (fun _ => 0))), (m1, .inl (y 0, 9, .inl (fun _ => 0))), (m2, .inl (y 1, 9, .inr (.inl (fun _ => 0)))), (m3, .inl (y 0, 6, .inl (fun _ => 0))), (m4, .inl (y 0, 6, .inl (fun _ => 0))), (m5, .inl (y 0, 16, .inl (fun _ => 0))), (nw, .inr (7, [.int 0, .int 0, .int 0, .ref n0, .ref n1, .ref n2, .ref n3, .ref n4, .ref n5, .ref n6])), (n0, .inl (y 0, 9, .inl (fun _ => 0))), (n1, .inl (y 0, 9, .inl (fun _ => 0))), (n2, .inl (y 1, 9, .inr (.inl (fun _ => 0)))), (n3, .inl (y 0, 6, .inl (fun _ => 0))), (n4, .inl (y 0, 6, .inl (fun _ => 0))), (n5, .inl (y 0, 16, .inl (fun _ => 0))), (n6, .inl (y 1, 5, .inr (.inl (fun _ => 0)))), (g, .inr (1, [.int 0, .ref g0, .ref g1, .ref g2, .ref g3, .ref g4, .ref g5, .ref g6])), (t, .inr (8, [.int 0, .ref t0, .ref t1, .ref t2, .ref t3, .ref t4, .ref t5, .ref t6])), (r, .inr (6, [.int 0, .int 0, .ref r0, .ref r1, .ref r2, .ref r3, .ref r4, .ref r5])), (tr, .inr (7, [.int (0 + 1), .int 0, .int 0, .ref m0, .ref m1, .ref m2, .ref m3, .ref m4, .ref m5, .ref m6])), (m6, .inl (y 1, 5, .inr (.inl (fun _ => 0))))]) [20] [0, 1, 2, 3, 4, 5, 6, 7, 8, 9, 10, 11, 12, 13, 14, 15, 16, 17, 18, 19] rfl rfl (by decide) (by decide) (by decide) (As := [.int 0]) (rest := [.ref nw, .ref k]) rfl (nb rfl) rfl d_Nine_today_79 (fun r11 _ hr11 => ?_)
      subst hr11
      refine j_ws (ws' := [(x, .inr (9, [.ref tp, .ref pi, .ref nw, .ref tr, .ref ps, .ref k, .ref k2, .ref rd, .ref pl, .int 1])), (m0, .inl (y 0, 9, .inl (fun _ => 0))), (m1, .inl (y 0, 9, .inl (fun _ => 0))), (m2, .inl (y 1, 9, .inr (.inl (fun _ => 0)))), (m3, .inl (y 0, 6, .inl (fun _ => 0))), (m4, .inl (y 0, 6, .inl (fun _ => 0))), (m5, .inl (y 0, 16, .inl (fun _ => 0))), (nw, .inr (7, [.int 0, .int 0, .int 0, .ref n0, .ref n1, .ref n2, .ref n3, .ref n4, .ref n5, .ref n6])), (n0, .inl (y 0, 9, .inl (fun _ => 0))), (n1, .inl (y 0, 9, .inl (fun _ => 0))), (n2, .inl (y 1, 9, .inr (.inl (fun _ => 0)))), (n3, .inl (y 0, 6, .inl (fun _ => 0))), (n4, .inl (y 0, 6, .inl (fun _ => 0))), (n5, .inl (y 0, 16, .inl (fun _ => 0))), (n6, .inl (y 1, 5, .inr (.inl (fun _ => 0)))), (g, .inr (1, [.int 0, .ref g0, .ref g1, .ref g2, .ref g3, .ref g4, .ref g5, .ref g6])), (t, .inr (8, [.int 0, .ref t0, .ref t1, .ref t2, .ref t3, .ref t4, .ref t5, .ref t6])), (r, .inr (6, [.int 0, .int 0, .ref r0, .ref r1, .ref r2, .ref r3, .ref r4, .ref r5])), (tr, .inr (7, [.int (0 + 1), .int 0, .int 0, .ref m0, .ref m1, .ref m2, .ref m3, .ref m4, .ref m5, .ref m6])), (m6, .inl (y 1, 5, .inr (.inl (fun _ => 0)))), (k, .inr (2, [.int 0, .int 1, .int 1, .int 0, .ref g, .int 0, .ref vn, .ref vg, .ref t, .ref r, .int 0, .int 0, .int 9999, .int 0]))]) rfl ?_
      refine j_st (st' := [.int (-1), .ref nw, .ref k]) rfl ?_
      refine j_iload (pc := 82) C d_Nine_today_82 0 rfl ?_
      refine j_iconst (pc := 84) C (v := 0) d_Nine_today_84 (by decide) ?_
      refine j_callSi (pc := 85) C (c_allows_n l D y k g vn vg t r nw (-1) 2 0 (by decide)) kw_Nine_209 ks_Days_allows ⟨by decide, by decide⟩ ⟨by decide, by decide⟩ (wr := [(x, .inr (9, [.ref tp, .ref pi, .ref nw, .ref tr, .ref ps, .ref k, .ref k2, .ref rd, .ref pl, .int 1])), (m0, .inl (y 0, 9, .inl (fun _ => 0))), (m1, .inl (y 0, 9, .inl (fun _ => 0))), (m2, .inl (y 1, 9, .inr (.inl (fun _ => 0)))), (m3, .inl (y 0, 6, .inl (fun _ => 0))), (m4, .inl (y 0, 6, .inl (fun _ => 0))), (m5, .inl (y 0, 16, .inl (fun _ => 0))), (nw, .inr (7, [.int 0, .int 0, .int 0, .ref n0, .ref n1, .ref n2, .ref n3, .ref n4, .ref n5, .ref n6])), (n0, .inl (y 0, 9, .inl (fun _ => 0))), (n1, .inl (y 0, 9, .inl (fun _ => 0))), (n2, .inl (y 1, 9, .inr (.inl (fun _ => 0)))), (n3, .inl (y 0, 6, .inl (fun _ => 0))), (n4, .inl (y 0, 6, .inl (fun _ => 0))), (n5, .inl (y 0, 16, .inl (fun _ => 0))), (n6, .inl (y 1, 5, .inr (.inl (fun _ => 0)))), (g, .inr (1, [.int 0, .ref g0, .ref g1, .ref g2, .ref g3, .ref g4, .ref g5, .ref g6])), (t, .inr (8, [.int 0, .ref t0, .ref t1, .ref t2, .ref t3, .ref t4, .ref t5, .ref t6])), (r, .inr (6, [.int 0, .int 0, .ref r0, .ref r1, .ref r2, .ref r3, .ref r4, .ref r5])), (tr, .inr (7, [.int (0 + 1), .int 0, .int 0, .ref m0, .ref m1, .ref m2, .ref m3, .ref m4, .ref m5, .ref m6])), (m6, .inl (y 1, 5, .inr (.inl (fun _ => 0))))]) [20] [0, 1, 2, 3, 4, 5, 6, 7, 8, 9, 10, 11, 12, 13, 14, 15, 16, 17, 18, 19] rfl rfl (by decide) (by decide) (by decide) (As := [.ref k, .ref nw, .int (-1), .int 2, .int 0]) (rest := []) rfl (nb rfl) rfl d_Nine_today_85 (fun r12 _ hr12 => ?_)
      subst hr12
      refine j_ws (ws' := [(x, .inr (9, [.ref tp, .ref pi, .ref nw, .ref tr, .ref ps, .ref k, .ref k2, .ref rd, .ref pl, .int 1])), (m0, .inl (y 0, 9, .inl (fun _ => 0))), (m1, .inl (y 0, 9, .inl (fun _ => 0))), (m2, .inl (y 1, 9, .inr (.inl (fun _ => 0)))), (m3, .inl (y 0, 6, .inl (fun _ => 0))), (m4, .inl (y 0, 6, .inl (fun _ => 0))), (m5, .inl (y 0, 16, .inl (fun _ => 0))), (nw, .inr (7, [.int 0, .int 0, .int 0, .ref n0, .ref n1, .ref n2, .ref n3, .ref n4, .ref n5, .ref n6])), (n0, .inl (y 0, 9, .inl (fun _ => 0))), (n1, .inl (y 0, 9, .inl (fun _ => 0))), (n2, .inl (y 1, 9, .inr (.inl (fun _ => 0)))), (n3, .inl (y 0, 6, .inl (fun _ => 0))), (n4, .inl (y 0, 6, .inl (fun _ => 0))), (n5, .inl (y 0, 16, .inl (fun _ => 0))), (n6, .inl (y 1, 5, .inr (.inl (fun _ => 0)))), (g, .inr (1, [.int 0, .ref g0, .ref g1, .ref g2, .ref g3, .ref g4, .ref g5, .ref g6])), (t, .inr (8, [.int 0, .ref t0, .ref t1, .ref t2, .ref t3, .ref t4, .ref t5, .ref t6])), (r, .inr (6, [.int 0, .int 0, .ref r0, .ref r1, .ref r2, .ref r3, .ref r4, .ref r5])), (tr, .inr (7, [.int (0 + 1), .int 0, .int 0, .ref m0, .ref m1, .ref m2, .ref m3, .ref m4, .ref m5, .ref m6])), (m6, .inl (y 1, 5, .inr (.inl (fun _ => 0)))), (k, .inr (2, [.int 0, .int 1, .int 1, .int 0, .ref g, .int 0, .ref vn, .ref vg, .ref t, .ref r, .int 0, .int 0, .int 9999, .int 0]))]) rfl ?_
      refine j_st (st' := [.int 0]) rfl ?_
      refine j_if_eqT (pc := 88) C (tgt := 168) d_Nine_today_88 (by decide) (by decide) ?_
      refine j_iinc (pc := 168) C (v := 3) (lv' := [(6, .int 3), (5, .int 0), (4, .int 0), (7, .int 0), (3, .int 0), (0, .ref x), (1, .int va), (2, .int vb)]) d_Nine_today_168 0 rfl (by decide) (by decide) rfl ?_
      refine j_goto (pc := 171) C (tgt := 54) d_Nine_today_171 (by decide) ?_
      refine j_iload (pc := 54) C d_Nine_today_54 0 rfl ?_
      refine j_iconst (pc := 56) C (v := 3) d_Nine_today_56 (by decide) ?_
      refine j_icmp_geT (pc := 57) C (tgt := 174) d_Nine_today_57 (by decide) (by decide) ?_
      refine j_iload (pc := 174) C d_Nine_today_174 2 rfl ?_
      exact j_iret (pc := 176) C hr rfl () (by simp only [Int32.lt_iff_toInt_lt, Int32.le_iff_toInt_le, ← Int32.toInt_inj, (by decide : Int32.toInt 0 = 0), (by decide : Int32.toInt 1 = 1)] at c1 c2; (first | rw [if_pos (by omega)] | rw [if_neg (by omega)])) [] rfl (by decide) (by decide) (by decide) d_Nine_today_176
    · refine j_iconst (pc := 43) C (v := (-1)) d_Nine_today_43 (by decide) ?_
      exact j_iret (pc := 44) C hr rfl () (by simp only [Int32.lt_iff_toInt_lt, Int32.le_iff_toInt_le, ← Int32.toInt_inj, (by decide : Int32.toInt 0 = 0), (by decide : Int32.toInt 1 = 1)] at c1 c2; (first | rw [if_pos (by omega)] | rw [if_neg (by omega)])) [] rfl (by decide) (by decide) (by decide) d_Nine_today_44
  · refine j_aload_n (pc := 4) C d_Nine_today_4 rfl 0 rfl ?_
    refine j_get (pc := 5) C gf_Nine_41 0 rfl rfl d_Nine_today_5 ?_
    refine j_iload_n (pc := 8) C d_Nine_today_8 rfl 1 rfl ?_
    refine j_callVi (pc := 9) C (c_hasVillage l D y k g vn vg t r va) kw_Nine_145 kv_Lake_hasVillage 0 2 rfl rfl ⟨by decide, by decide⟩ ⟨by decide, by decide⟩ (wr := [(x, .inr (9, [.ref tp, .ref pi, .ref nw, .ref tr, .ref ps, .ref k, .ref k2, .ref rd, .ref pl, .int 1])), (g, .inr (1, [.int 0, .ref g0, .ref g1, .ref g2, .ref g3, .ref g4, .ref g5, .ref g6])), (t, .inr (8, [.int 0, .ref t0, .ref t1, .ref t2, .ref t3, .ref t4, .ref t5, .ref t6])), (r, .inr (6, [.int 0, .int 0, .ref r0, .ref r1, .ref r2, .ref r3, .ref r4, .ref r5])), (tr, .inr (7, [.int dt, .int 0, .int 0, .ref m0, .ref m1, .ref m2, .ref m3, .ref m4, .ref m5, .ref m6])), (m0, .inl (y 0, 9, .inl (fun _ => 0))), (m1, .inl (y 0, 9, .inl (fun _ => 0))), (m2, .inl (y 1, 9, .inr (.inl (fun _ => 0)))), (m3, .inl (y 0, 6, .inl (fun _ => 0))), (m4, .inl (y 0, 6, .inl (fun _ => 0))), (m5, .inl (y 0, 16, .inl (fun _ => 0))), (m6, .inl (y 1, 5, .inr (.inl (fun _ => 0)))), (nw, .inr (7, [.int 0, .int 0, .int 0, .ref n0, .ref n1, .ref n2, .ref n3, .ref n4, .ref n5, .ref n6])), (n0, .inl (y 0, 9, .inl (fun _ => 0))), (n1, .inl (y 0, 9, .inl (fun _ => 0))), (n2, .inl (y 1, 9, .inr (.inl (fun _ => 0)))), (n3, .inl (y 0, 6, .inl (fun _ => 0))), (n4, .inl (y 0, 6, .inl (fun _ => 0))), (n5, .inl (y 0, 16, .inl (fun _ => 0))), (n6, .inl (y 1, 5, .inr (.inl (fun _ => 0))))]) [1] [0, 2, 3, 4, 5, 6, 7, 8, 9, 10, 11, 12, 13, 14, 15, 16, 17, 18, 19, 20] rfl rfl (by decide) (by decide) (by decide) (As := [.int va]) (rest := []) rfl (nb rfl) rfl d_Nine_today_9 (fun r13 _ hr13 => ?_)
    subst hr13
    refine j_ws (ws' := [(x, .inr (9, [.ref tp, .ref pi, .ref nw, .ref tr, .ref ps, .ref k, .ref k2, .ref rd, .ref pl, .int 1])), (g, .inr (1, [.int 0, .ref g0, .ref g1, .ref g2, .ref g3, .ref g4, .ref g5, .ref g6])), (t, .inr (8, [.int 0, .ref t0, .ref t1, .ref t2, .ref t3, .ref t4, .ref t5, .ref t6])), (r, .inr (6, [.int 0, .int 0, .ref r0, .ref r1, .ref r2, .ref r3, .ref r4, .ref r5])), (tr, .inr (7, [.int dt, .int 0, .int 0, .ref m0, .ref m1, .ref m2, .ref m3, .ref m4, .ref m5, .ref m6])), (m0, .inl (y 0, 9, .inl (fun _ => 0))), (m1, .inl (y 0, 9, .inl (fun _ => 0))), (m2, .inl (y 1, 9, .inr (.inl (fun _ => 0)))), (m3, .inl (y 0, 6, .inl (fun _ => 0))), (m4, .inl (y 0, 6, .inl (fun _ => 0))), (m5, .inl (y 0, 16, .inl (fun _ => 0))), (m6, .inl (y 1, 5, .inr (.inl (fun _ => 0)))), (nw, .inr (7, [.int 0, .int 0, .int 0, .ref n0, .ref n1, .ref n2, .ref n3, .ref n4, .ref n5, .ref n6])), (n0, .inl (y 0, 9, .inl (fun _ => 0))), (n1, .inl (y 0, 9, .inl (fun _ => 0))), (n2, .inl (y 1, 9, .inr (.inl (fun _ => 0)))), (n3, .inl (y 0, 6, .inl (fun _ => 0))), (n4, .inl (y 0, 6, .inl (fun _ => 0))), (n5, .inl (y 0, 16, .inl (fun _ => 0))), (n6, .inl (y 1, 5, .inr (.inl (fun _ => 0)))), (k, .inr (2, [.int 0, .int 1, .int 1, .int 0, .ref g, .int 0, .ref vn, .ref vg, .ref t, .ref r, .int 0, .int 0, .int 9999, .int 0]))]) rfl ?_
    refine j_st (st' := [.int 0]) rfl ?_
    refine j_if_eqT (pc := 12) C (tgt := 19) d_Nine_today_12 (by decide) (by decide) ?_
    refine j_iconst (pc := 19) C (v := 0) d_Nine_today_19 (by decide) ?_
    refine j_istore_n (pc := 20) C (lv' := [(3, .int 0), (0, .ref x), (1, .int va), (2, .int vb)]) d_Nine_today_20 rfl (by decide) rfl ?_
    refine j_aload_n (pc := 21) C d_Nine_today_21 rfl 1 rfl ?_
    refine j_get (pc := 22) C gf_Nine_24 0 rfl rfl d_Nine_today_22 ?_
    refine j_get (pc := 25) C gf_Nine_124 12 rfl rfl d_Nine_today_25 ?_
    refine j_sipush (pc := 28) C (v := 999) d_Nine_today_28 (by decide) ?_
    refine j_icmp_geF (pc := 31) C (tgt := 43) d_Nine_today_31 (by decide) (by decide) ?_
    refine j_iload_n (pc := 34) C d_Nine_today_34 rfl 0 rfl ?_
    refine j_if_neF (pc := 35) C (tgt := 45) d_Nine_today_35 (by decide) (by decide) ?_
    refine j_iload_n (pc := 38) C d_Nine_today_38 rfl 3 rfl ?_
    refine j_iconst (pc := 39) C (v := 1) d_Nine_today_39 (by decide) ?_
    refine j_icmp_eq (pc := 40) C (tgt := 45) d_Nine_today_40 (by decide) (fun c14 => ?_) (fun c14 => ?_)
    · refine j_iconst (pc := 45) C (v := (-1)) d_Nine_today_45 (by decide) ?_
      refine j_istore (pc := 46) C (lv' := [(4, .int (-1)), (3, .int 0), (0, .ref x), (1, .int va), (2, .int vb)]) d_Nine_today_46 (by decide) rfl ?_
      refine j_iconst (pc := 48) C (v := 0) d_Nine_today_48 (by decide) ?_
      refine j_istore (pc := 49) C (lv' := [(5, .int 0), (4, .int (-1)), (3, .int 0), (0, .ref x), (1, .int va), (2, .int vb)]) d_Nine_today_49 (by decide) rfl ?_
      refine j_iconst (pc := 51) C (v := 0) d_Nine_today_51 (by decide) ?_
      refine j_istore (pc := 52) C (lv' := [(6, .int 0), (5, .int 0), (4, .int (-1)), (3, .int 0), (0, .ref x), (1, .int va), (2, .int vb)]) d_Nine_today_52 (by decide) rfl ?_
      refine j_iload (pc := 54) C d_Nine_today_54 0 rfl ?_
      refine j_iconst (pc := 56) C (v := 3) d_Nine_today_56 (by decide) ?_
      refine j_icmp_geF (pc := 57) C (tgt := 174) d_Nine_today_57 (by decide) (by decide) ?_
      refine j_aload_n (pc := 60) C d_Nine_today_60 rfl 4 rfl ?_
      refine j_get (pc := 61) C gf_Nine_41 0 rfl rfl d_Nine_today_61 ?_
      refine j_aload_n (pc := 64) C d_Nine_today_64 rfl 4 rfl ?_
      refine j_get (pc := 65) C gf_Nine_24 0 rfl rfl d_Nine_today_65 ?_
      refine j_aload_n (pc := 68) C d_Nine_today_68 rfl 4 rfl ?_
      refine j_get (pc := 69) C gf_Nine_41 0 rfl rfl d_Nine_today_69 ?_
      refine j_aload_n (pc := 72) C d_Nine_today_72 rfl 4 rfl ?_
      refine j_get (pc := 73) C gf_Nine_24 0 rfl rfl d_Nine_today_73 ?_
      refine j_get (pc := 76) C gf_Nine_124 12 rfl rfl d_Nine_today_76 ?_
      refine j_callVi (pc := 79) C (c_villageOn l D y k g vn vg t r 0) kw_Nine_206 kv_Lake_villageOn 0 2 rfl rfl ⟨by decide, by decide⟩ ⟨by decide, by decide⟩ (wr := [(x, .inr (9, [.ref tp, .ref pi, .ref nw, .ref tr, .ref ps, .ref k, .ref k2, .ref rd, .ref pl, .int 1])), (g, .inr (1, [.int 0, .ref g0, .ref g1, .ref g2, .ref g3, .ref g4, .ref g5, .ref g6])), (t, .inr (8, [.int 0, .ref t0, .ref t1, .ref t2, .ref t3, .ref t4, .ref t5, .ref t6])), (r, .inr (6, [.int 0, .int 0, .ref r0, .ref r1, .ref r2, .ref r3, .ref r4, .ref r5])), (tr, .inr (7, [.int dt, .int 0, .int 0, .ref m0, .ref m1, .ref m2, .ref m3, .ref m4, .ref m5, .ref m6])), (m0, .inl (y 0, 9, .inl (fun _ => 0))), (m1, .inl (y 0, 9, .inl (fun _ => 0))), (m2, .inl (y 1, 9, .inr (.inl (fun _ => 0)))), (m3, .inl (y 0, 6, .inl (fun _ => 0))), (m4, .inl (y 0, 6, .inl (fun _ => 0))), (m5, .inl (y 0, 16, .inl (fun _ => 0))), (m6, .inl (y 1, 5, .inr (.inl (fun _ => 0)))), (nw, .inr (7, [.int 0, .int 0, .int 0, .ref n0, .ref n1, .ref n2, .ref n3, .ref n4, .ref n5, .ref n6])), (n0, .inl (y 0, 9, .inl (fun _ => 0))), (n1, .inl (y 0, 9, .inl (fun _ => 0))), (n2, .inl (y 1, 9, .inr (.inl (fun _ => 0)))), (n3, .inl (y 0, 6, .inl (fun _ => 0))), (n4, .inl (y 0, 6, .inl (fun _ => 0))), (n5, .inl (y 0, 16, .inl (fun _ => 0))), (n6, .inl (y 1, 5, .inr (.inl (fun _ => 0))))]) [20] [0, 1, 2, 3, 4, 5, 6, 7, 8, 9, 10, 11, 12, 13, 14, 15, 16, 17, 18, 19] rfl rfl (by decide) (by decide) (by decide) (As := [.int 0]) (rest := [.ref nw, .ref k]) rfl (nb rfl) rfl d_Nine_today_79 (fun r15 _ hr15 => ?_)
      subst hr15
      refine j_ws (ws' := [(x, .inr (9, [.ref tp, .ref pi, .ref nw, .ref tr, .ref ps, .ref k, .ref k2, .ref rd, .ref pl, .int 1])), (g, .inr (1, [.int 0, .ref g0, .ref g1, .ref g2, .ref g3, .ref g4, .ref g5, .ref g6])), (t, .inr (8, [.int 0, .ref t0, .ref t1, .ref t2, .ref t3, .ref t4, .ref t5, .ref t6])), (r, .inr (6, [.int 0, .int 0, .ref r0, .ref r1, .ref r2, .ref r3, .ref r4, .ref r5])), (tr, .inr (7, [.int dt, .int 0, .int 0, .ref m0, .ref m1, .ref m2, .ref m3, .ref m4, .ref m5, .ref m6])), (m0, .inl (y 0, 9, .inl (fun _ => 0))), (m1, .inl (y 0, 9, .inl (fun _ => 0))), (m2, .inl (y 1, 9, .inr (.inl (fun _ => 0)))), (m3, .inl (y 0, 6, .inl (fun _ => 0))), (m4, .inl (y 0, 6, .inl (fun _ => 0))), (m5, .inl (y 0, 16, .inl (fun _ => 0))), (m6, .inl (y 1, 5, .inr (.inl (fun _ => 0)))), (nw, .inr (7, [.int 0, .int 0, .int 0, .ref n0, .ref n1, .ref n2, .ref n3, .ref n4, .ref n5, .ref n6])), (n0, .inl (y 0, 9, .inl (fun _ => 0))), (n1, .inl (y 0, 9, .inl (fun _ => 0))), (n2, .inl (y 1, 9, .inr (.inl (fun _ => 0)))), (n3, .inl (y 0, 6, .inl (fun _ => 0))), (n4, .inl (y 0, 6, .inl (fun _ => 0))), (n5, .inl (y 0, 16, .inl (fun _ => 0))), (n6, .inl (y 1, 5, .inr (.inl (fun _ => 0)))), (k, .inr (2, [.int 0, .int 1, .int 1, .int 0, .ref g, .int 0, .ref vn, .ref vg, .ref t, .ref r, .int 0, .int 0, .int 9999, .int 0]))]) rfl ?_
      refine j_st (st' := [.int (-1), .ref nw, .ref k]) rfl ?_
      refine j_iload (pc := 82) C d_Nine_today_82 0 rfl ?_
      refine j_iconst (pc := 84) C (v := 0) d_Nine_today_84 (by decide) ?_
      refine j_callSi (pc := 85) C (c_allows_0 l D y k nw (-1) 0) kw_Nine_209 ks_Days_allows ⟨by decide, by decide⟩ ⟨by decide, by decide⟩ (wr := [(x, .inr (9, [.ref tp, .ref pi, .ref nw, .ref tr, .ref ps, .ref k, .ref k2, .ref rd, .ref pl, .int 1])), (g, .inr (1, [.int 0, .ref g0, .ref g1, .ref g2, .ref g3, .ref g4, .ref g5, .ref g6])), (t, .inr (8, [.int 0, .ref t0, .ref t1, .ref t2, .ref t3, .ref t4, .ref t5, .ref t6])), (r, .inr (6, [.int 0, .int 0, .ref r0, .ref r1, .ref r2, .ref r3, .ref r4, .ref r5])), (tr, .inr (7, [.int dt, .int 0, .int 0, .ref m0, .ref m1, .ref m2, .ref m3, .ref m4, .ref m5, .ref m6])), (m0, .inl (y 0, 9, .inl (fun _ => 0))), (m1, .inl (y 0, 9, .inl (fun _ => 0))), (m2, .inl (y 1, 9, .inr (.inl (fun _ => 0)))), (m3, .inl (y 0, 6, .inl (fun _ => 0))), (m4, .inl (y 0, 6, .inl (fun _ => 0))), (m5, .inl (y 0, 16, .inl (fun _ => 0))), (m6, .inl (y 1, 5, .inr (.inl (fun _ => 0)))), (nw, .inr (7, [.int 0, .int 0, .int 0, .ref n0, .ref n1, .ref n2, .ref n3, .ref n4, .ref n5, .ref n6])), (n0, .inl (y 0, 9, .inl (fun _ => 0))), (n1, .inl (y 0, 9, .inl (fun _ => 0))), (n2, .inl (y 1, 9, .inr (.inl (fun _ => 0)))), (n3, .inl (y 0, 6, .inl (fun _ => 0))), (n4, .inl (y 0, 6, .inl (fun _ => 0))), (n5, .inl (y 0, 16, .inl (fun _ => 0))), (n6, .inl (y 1, 5, .inr (.inl (fun _ => 0)))), (k, .inr (2, [.int 0, .int 1, .int 1, .int 0, .ref g, .int 0, .ref vn, .ref vg, .ref t, .ref r, .int 0, .int 0, .int 9999, .int 0]))]) [] [0, 1, 2, 3, 4, 5, 6, 7, 8, 9, 10, 11, 12, 13, 14, 15, 16, 17, 18, 19, 20] rfl rfl (by decide) (by decide) (by decide) (As := [.ref k, .ref nw, .int (-1), .int 0, .int 0]) (rest := []) rfl (nb rfl) rfl d_Nine_today_85 (fun r16 _ hr16 => ?_)
      subst hr16
      refine j_ws (ws' := [(x, .inr (9, [.ref tp, .ref pi, .ref nw, .ref tr, .ref ps, .ref k, .ref k2, .ref rd, .ref pl, .int 1])), (g, .inr (1, [.int 0, .ref g0, .ref g1, .ref g2, .ref g3, .ref g4, .ref g5, .ref g6])), (t, .inr (8, [.int 0, .ref t0, .ref t1, .ref t2, .ref t3, .ref t4, .ref t5, .ref t6])), (r, .inr (6, [.int 0, .int 0, .ref r0, .ref r1, .ref r2, .ref r3, .ref r4, .ref r5])), (tr, .inr (7, [.int dt, .int 0, .int 0, .ref m0, .ref m1, .ref m2, .ref m3, .ref m4, .ref m5, .ref m6])), (m0, .inl (y 0, 9, .inl (fun _ => 0))), (m1, .inl (y 0, 9, .inl (fun _ => 0))), (m2, .inl (y 1, 9, .inr (.inl (fun _ => 0)))), (m3, .inl (y 0, 6, .inl (fun _ => 0))), (m4, .inl (y 0, 6, .inl (fun _ => 0))), (m5, .inl (y 0, 16, .inl (fun _ => 0))), (m6, .inl (y 1, 5, .inr (.inl (fun _ => 0)))), (nw, .inr (7, [.int 0, .int 0, .int 0, .ref n0, .ref n1, .ref n2, .ref n3, .ref n4, .ref n5, .ref n6])), (n0, .inl (y 0, 9, .inl (fun _ => 0))), (n1, .inl (y 0, 9, .inl (fun _ => 0))), (n2, .inl (y 1, 9, .inr (.inl (fun _ => 0)))), (n3, .inl (y 0, 6, .inl (fun _ => 0))), (n4, .inl (y 0, 6, .inl (fun _ => 0))), (n5, .inl (y 0, 16, .inl (fun _ => 0))), (n6, .inl (y 1, 5, .inr (.inl (fun _ => 0)))), (k, .inr (2, [.int 0, .int 1, .int 1, .int 0, .ref g, .int 0, .ref vn, .ref vg, .ref t, .ref r, .int 0, .int 0, .int 9999, .int 0]))]) rfl ?_
      refine j_st (st' := [.int 1]) rfl ?_
      refine j_if_eqF (pc := 88) C (tgt := 168) d_Nine_today_88 (by decide) (by decide) ?_
      refine j_aload_n (pc := 91) C d_Nine_today_91 rfl 4 rfl ?_
      refine j_get (pc := 92) C gf_Nine_28 0 rfl rfl d_Nine_today_92 ?_
      refine j_aload_n (pc := 95) C d_Nine_today_95 rfl 4 rfl ?_
      refine j_get (pc := 96) C gf_Nine_24 0 rfl rfl d_Nine_today_96 ?_
      refine j_callVv (pc := 99) C (c_take l D y tr m0 m1 m2 m3 m4 m5 m6 dt nw n0 n1 n2 n3 n4 n5 n6 0) kw_Nine_160 kv_State_take 0 7 rfl rfl ⟨by decide, by decide⟩ ⟨by decide, by decide⟩ (wr := [(x, .inr (9, [.ref tp, .ref pi, .ref nw, .ref tr, .ref ps, .ref k, .ref k2, .ref rd, .ref pl, .int 1])), (g, .inr (1, [.int 0, .ref g0, .ref g1, .ref g2, .ref g3, .ref g4, .ref g5, .ref g6])), (t, .inr (8, [.int 0, .ref t0, .ref t1, .ref t2, .ref t3, .ref t4, .ref t5, .ref t6])), (r, .inr (6, [.int 0, .int 0, .ref r0, .ref r1, .ref r2, .ref r3, .ref r4, .ref r5])), (k, .inr (2, [.int 0, .int 1, .int 1, .int 0, .ref g, .int 0, .ref vn, .ref vg, .ref t, .ref r, .int 0, .int 0, .int 9999, .int 0]))]) [4, 5, 6, 7, 8, 9, 10, 11, 12, 13, 14, 15, 16, 17, 18, 19] [0, 1, 2, 3, 20] rfl rfl (by decide) (by decide) (by decide) (As := [.ref nw]) (rest := []) rfl (nb rfl) rfl d_Nine_today_99 (fun _ _ => ?_)
      refine j_ws (ws' := [(x, .inr (9, [.ref tp, .ref pi, .ref nw, .ref tr, .ref ps, .ref k, .ref k2, .ref rd, .ref pl, .int 1])), (g, .inr (1, [.int 0, .ref g0, .ref g1, .ref g2, .ref g3, .ref g4, .ref g5, .ref g6])), (t, .inr (8, [.int 0, .ref t0, .ref t1, .ref t2, .ref t3, .ref t4, .ref t5, .ref t6])), (r, .inr (6, [.int 0, .int 0, .ref r0, .ref r1, .ref r2, .ref r3, .ref r4, .ref r5])), (k, .inr (2, [.int 0, .int 1, .int 1, .int 0, .ref g, .int 0, .ref vn, .ref vg, .ref t, .ref r, .int 0, .int 0, .int 9999, .int 0])), (tr, .inr (7, [.int 0, .int 0, .int 0, .ref m0, .ref m1, .ref m2, .ref m3, .ref m4, .ref m5, .ref m6])), (m0, .inl (y 0, 9, .inl (fun _ => 0))), (m1, .inl (y 0, 9, .inl (fun _ => 0))), (m2, .inl (y 1, 9, .inr (.inl (fun _ => 0)))), (m3, .inl (y 0, 6, .inl (fun _ => 0))), (m4, .inl (y 0, 6, .inl (fun _ => 0))), (m5, .inl (y 0, 16, .inl (fun _ => 0))), (m6, .inl (y 1, 5, .inr (.inl (fun _ => 0)))), (nw, .inr (7, [.int 0, .int 0, .int 0, .ref n0, .ref n1, .ref n2, .ref n3, .ref n4, .ref n5, .ref n6])), (n0, .inl (y 0, 9, .inl (fun _ => 0))), (n1, .inl (y 0, 9, .inl (fun _ => 0))), (n2, .inl (y 1, 9, .inr (.inl (fun _ => 0)))), (n3, .inl (y 0, 6, .inl (fun _ => 0))), (n4, .inl (y 0, 6, .inl (fun _ => 0))), (n5, .inl (y 0, 16, .inl (fun _ => 0))), (n6, .inl (y 1, 5, .inr (.inl (fun _ => 0))))]) rfl ?_
      refine j_aload_n (pc := 102) C d_Nine_today_102 rfl 4 rfl ?_
      refine j_get (pc := 103) C gf_Nine_41 0 rfl rfl d_Nine_today_103 ?_
      refine j_aload_n (pc := 106) C d_Nine_today_106 rfl 4 rfl ?_
      refine j_get (pc := 107) C gf_Nine_28 0 rfl rfl d_Nine_today_107 ?_
      refine j_iload (pc := 110) C d_Nine_today_110 0 rfl ?_
      refine j_callSv (pc := 112) C (c_pass l D y k g vn vg t r g0 g1 g2 g3 g4 g5 g6 t0 t1 t2 t3 t4 t5 t6 r0 r1 r2 r3 r4 r5 tr m0 m1 m2 m3 m4 m5 m6 0) kw_Nine_216 ks_Days_pass ⟨by decide, by decide⟩ ⟨by decide, by decide⟩ (wr := [(x, .inr (9, [.ref tp, .ref pi, .ref nw, .ref tr, .ref ps, .ref k, .ref k2, .ref rd, .ref pl, .int 1])), (m0, .inl (y 0, 9, .inl (fun _ => 0))), (m1, .inl (y 0, 9, .inl (fun _ => 0))), (m2, .inl (y 1, 9, .inr (.inl (fun _ => 0)))), (m3, .inl (y 0, 6, .inl (fun _ => 0))), (m4, .inl (y 0, 6, .inl (fun _ => 0))), (m5, .inl (y 0, 16, .inl (fun _ => 0))), (nw, .inr (7, [.int 0, .int 0, .int 0, .ref n0, .ref n1, .ref n2, .ref n3, .ref n4, .ref n5, .ref n6])), (n0, .inl (y 0, 9, .inl (fun _ => 0))), (n1, .inl (y 0, 9, .inl (fun _ => 0))), (n2, .inl (y 1, 9, .inr (.inl (fun _ => 0)))), (n3, .inl (y 0, 6, .inl (fun _ => 0))), (n4, .inl (y 0, 6, .inl (fun _ => 0))), (n5, .inl (y 0, 16, .inl (fun _ => 0))), (n6, .inl (y 1, 5, .inr (.inl (fun _ => 0))))]) [4, 1, 2, 3, 5, 12] [0, 6, 7, 8, 9, 10, 11, 13, 14, 15, 16, 17, 18, 19, 20] rfl rfl (by decide) (by decide) (by decide) (As := [.ref k, .ref tr, .int 0]) (rest := []) rfl (nb rfl) rfl d_Nine_today_112 (fun _ _ => ?_)
      refine j_ws (ws' := [(x, .inr (9, [.ref tp, .ref pi, .ref nw, .ref tr, .ref ps, .ref k, .ref k2, .ref rd, .ref pl, .int 1])), (m0, .inl (y 0, 9, .inl (fun _ => 0))), (m1, .inl (y 0, 9, .inl (fun _ => 0))), (m2, .inl (y 1, 9, .inr (.inl (fun _ => 0)))), (m3, .inl (y 0, 6, .inl (fun _ => 0))), (m4, .inl (y 0, 6, .inl (fun _ => 0))), (m5, .inl (y 0, 16, .inl (fun _ => 0))), (nw, .inr (7, [.int 0, .int 0, .int 0, .ref n0, .ref n1, .ref n2, .ref n3, .ref n4, .ref n5, .ref n6])), (n0, .inl (y 0, 9, .inl (fun _ => 0))), (n1, .inl (y 0, 9, .inl (fun _ => 0))), (n2, .inl (y 1, 9, .inr (.inl (fun _ => 0)))), (n3, .inl (y 0, 6, .inl (fun _ => 0))), (n4, .inl (y 0, 6, .inl (fun _ => 0))), (n5, .inl (y 0, 16, .inl (fun _ => 0))), (n6, .inl (y 1, 5, .inr (.inl (fun _ => 0)))), (k, .inr (2, [.int 0, .int 1, .int 1, .int 0, .ref g, .int 0, .ref vn, .ref vg, .ref t, .ref r, .int 0, .int 0, .int 9999, .int 0])), (g, .inr (1, [.int 0, .ref g0, .ref g1, .ref g2, .ref g3, .ref g4, .ref g5, .ref g6])), (t, .inr (8, [.int 0, .ref t0, .ref t1, .ref t2, .ref t3, .ref t4, .ref t5, .ref t6])), (r, .inr (6, [.int 0, .int 0, .ref r0, .ref r1, .ref r2, .ref r3, .ref r4, .ref r5])), (tr, .inr (7, [.int (0 + 1), .int 0, .int 0, .ref m0, .ref m1, .ref m2, .ref m3, .ref m4, .ref m5, .ref m6])), (m6, .inl (y 1, 5, .inr (.inl (fun _ => 0))))]) rfl ?_
      refine j_iload_n (pc := 115) C d_Nine_today_115 rfl 3 rfl ?_
      refine j_if_eqT (pc := 116) C (tgt := 131) d_Nine_today_116 (by decide) (by decide) ?_
      refine j_aload_n (pc := 131) C d_Nine_today_131 rfl 4 rfl ?_
      refine j_get (pc := 132) C gf_Nine_41 0 rfl rfl d_Nine_today_132 ?_
      refine j_aload_n (pc := 135) C d_Nine_today_135 rfl 4 rfl ?_
      refine j_get (pc := 136) C gf_Nine_28 0 rfl rfl d_Nine_today_136 ?_
      refine j_get (pc := 139) C gf_Nine_127 19 rfl rfl d_Nine_today_139 ?_
      refine j_callVi (pc := 142) C (c_levelAt_0 l D y k g vn vg t r) kw_Nine_130 kv_Lake_levelAt 0 2 rfl rfl ⟨by decide, by decide⟩ ⟨by decide, by decide⟩ (wr := [(x, .inr (9, [.ref tp, .ref pi, .ref nw, .ref tr, .ref ps, .ref k, .ref k2, .ref rd, .ref pl, .int 1])), (m0, .inl (y 0, 9, .inl (fun _ => 0))), (m1, .inl (y 0, 9, .inl (fun _ => 0))), (m2, .inl (y 1, 9, .inr (.inl (fun _ => 0)))), (m3, .inl (y 0, 6, .inl (fun _ => 0))), (m4, .inl (y 0, 6, .inl (fun _ => 0))), (m5, .inl (y 0, 16, .inl (fun _ => 0))), (nw, .inr (7, [.int 0, .int 0, .int 0, .ref n0, .ref n1, .ref n2, .ref n3, .ref n4, .ref n5, .ref n6])), (n0, .inl (y 0, 9, .inl (fun _ => 0))), (n1, .inl (y 0, 9, .inl (fun _ => 0))), (n2, .inl (y 1, 9, .inr (.inl (fun _ => 0)))), (n3, .inl (y 0, 6, .inl (fun _ => 0))), (n4, .inl (y 0, 6, .inl (fun _ => 0))), (n5, .inl (y 0, 16, .inl (fun _ => 0))), (n6, .inl (y 1, 5, .inr (.inl (fun _ => 0)))), (g, .inr (1, [.int 0, .ref g0, .ref g1, .ref g2, .ref g3, .ref g4, .ref g5, .ref g6])), (t, .inr (8, [.int 0, .ref t0, .ref t1, .ref t2, .ref t3, .ref t4, .ref t5, .ref t6])), (r, .inr (6, [.int 0, .int 0, .ref r0, .ref r1, .ref r2, .ref r3, .ref r4, .ref r5])), (tr, .inr (7, [.int (0 + 1), .int 0, .int 0, .ref m0, .ref m1, .ref m2, .ref m3, .ref m4, .ref m5, .ref m6])), (m6, .inl (y 1, 5, .inr (.inl (fun _ => 0))))]) [15] [0, 1, 2, 3, 4, 5, 6, 7, 8, 9, 10, 11, 12, 13, 14, 16, 17, 18, 19, 20] rfl rfl (by decide) (by decide) (by decide) (As := [.int 0]) (rest := []) rfl (nb rfl) rfl d_Nine_today_142 (fun r17 _ hr17 => ?_)
      subst hr17
      refine j_ws (ws' := [(x, .inr (9, [.ref tp, .ref pi, .ref nw, .ref tr, .ref ps, .ref k, .ref k2, .ref rd, .ref pl, .int 1])), (m0, .inl (y 0, 9, .inl (fun _ => 0))), (m1, .inl (y 0, 9, .inl (fun _ => 0))), (m2, .inl (y 1, 9, .inr (.inl (fun _ => 0)))), (m3, .inl (y 0, 6, .inl (fun _ => 0))), (m4, .inl (y 0, 6, .inl (fun _ => 0))), (m5, .inl (y 0, 16, .inl (fun _ => 0))), (nw, .inr (7, [.int 0, .int 0, .int 0, .ref n0, .ref n1, .ref n2, .ref n3, .ref n4, .ref n5, .ref n6])), (n0, .inl (y 0, 9, .inl (fun _ => 0))), (n1, .inl (y 0, 9, .inl (fun _ => 0))), (n2, .inl (y 1, 9, .inr (.inl (fun _ => 0)))), (n3, .inl (y 0, 6, .inl (fun _ => 0))), (n4, .inl (y 0, 6, .inl (fun _ => 0))), (n5, .inl (y 0, 16, .inl (fun _ => 0))), (n6, .inl (y 1, 5, .inr (.inl (fun _ => 0)))), (g, .inr (1, [.int 0, .ref g0, .ref g1, .ref g2, .ref g3, .ref g4, .ref g5, .ref g6])), (t, .inr (8, [.int 0, .ref t0, .ref t1, .ref t2, .ref t3, .ref t4, .ref t5, .ref t6])), (r, .inr (6, [.int 0, .int 0, .ref r0, .ref r1, .ref r2, .ref r3, .ref r4, .ref r5])), (tr, .inr (7, [.int (0 + 1), .int 0, .int 0, .ref m0, .ref m1, .ref m2, .ref m3, .ref m4, .ref m5, .ref m6])), (m6, .inl (y 1, 5, .inr (.inl (fun _ => 0)))), (k, .inr (2, [.int 0, .int 1, .int 1, .int 0, .ref g, .int 0, .ref vn, .ref vg, .ref t, .ref r, .int 0, .int 0, .int 9999, .int 0]))]) rfl ?_
      refine j_st (st' := [.int 0]) rfl ?_
      refine j_istore (pc := 145) C (lv' := [(7, .int 0), (6, .int 0), (5, .int 0), (4, .int (-1)), (3, .int 0), (0, .ref x), (1, .int va), (2, .int vb)]) d_Nine_today_145 (by decide) rfl ?_
      refine j_iload (pc := 147) C d_Nine_today_147 3 rfl ?_
      refine j_iconst (pc := 149) C (v := (-1)) d_Nine_today_149 (by decide) ?_
      refine j_icmp_eqT (pc := 150) C (tgt := 160) d_Nine_today_150 (by decide) (by decide) ?_
      refine j_iload (pc := 160) C d_Nine_today_160 1 rfl ?_
      refine j_istore (pc := 162) C (lv' := [(4, .int 0), (7, .int 0), (6, .int 0), (5, .int 0), (3, .int 0), (0, .ref x), (1, .int va), (2, .int vb)]) d_Nine_today_162 (by decide) rfl ?_
      refine j_iload (pc := 164) C d_Nine_today_164 1 rfl ?_
      refine j_istore (pc := 166) C (lv' := [(5, .int 0), (4, .int 0), (7, .int 0), (6, .int 0), (3, .int 0), (0, .ref x), (1, .int va), (2, .int vb)]) d_Nine_today_166 (by decide) rfl ?_
      refine j_iinc (pc := 168) C (v := 1) (lv' := [(6, .int 1), (5, .int 0), (4, .int 0), (7, .int 0), (3, .int 0), (0, .ref x), (1, .int va), (2, .int vb)]) d_Nine_today_168 3 rfl (by decide) (by decide) rfl ?_
      refine j_goto (pc := 171) C (tgt := 54) d_Nine_today_171 (by decide) ?_
      refine j_iload (pc := 54) C d_Nine_today_54 0 rfl ?_
      refine j_iconst (pc := 56) C (v := 3) d_Nine_today_56 (by decide) ?_
      refine j_icmp_geF (pc := 57) C (tgt := 174) d_Nine_today_57 (by decide) (by decide) ?_
      refine j_aload_n (pc := 60) C d_Nine_today_60 rfl 5 rfl ?_
      refine j_get (pc := 61) C gf_Nine_41 0 rfl rfl d_Nine_today_61 ?_
      refine j_aload_n (pc := 64) C d_Nine_today_64 rfl 5 rfl ?_
      refine j_get (pc := 65) C gf_Nine_24 0 rfl rfl d_Nine_today_65 ?_
      refine j_aload_n (pc := 68) C d_Nine_today_68 rfl 5 rfl ?_
      refine j_get (pc := 69) C gf_Nine_41 0 rfl rfl d_Nine_today_69 ?_
      refine j_aload_n (pc := 72) C d_Nine_today_72 rfl 5 rfl ?_
      refine j_get (pc := 73) C gf_Nine_24 0 rfl rfl d_Nine_today_73 ?_
      refine j_get (pc := 76) C gf_Nine_124 7 rfl rfl d_Nine_today_76 ?_
      refine j_callVi (pc := 79) C (c_villageOn l D y k g vn vg t r 0) kw_Nine_206 kv_Lake_villageOn 0 2 rfl rfl ⟨by decide, by decide⟩ ⟨by decide, by decide⟩ (wr := [(x, .inr (9, [.ref tp, .ref pi, .ref nw, .ref tr, .ref ps, .ref k, .ref k2, .ref rd, .ref pl, .int 1])), (m0, .inl (y 0, 9, .inl (fun _ => 0))), (m1, .inl (y 0, 9, .inl (fun _ => 0))), (m2, .inl (y 1, 9, .inr (.inl (fun _ => 0)))), (m3, .inl (y 0, 6, .inl (fun _ => 0))), (m4, .inl (y 0, 6, .inl (fun _ => 0))), (m5, .inl (y 0, 16, .inl (fun _ => 0))), (nw, .inr (7, [.int 0, .int 0, .int 0, .ref n0, .ref n1, .ref n2, .ref n3, .ref n4, .ref n5, .ref n6])), (n0, .inl (y 0, 9, .inl (fun _ => 0))), (n1, .inl (y 0, 9, .inl (fun _ => 0))), (n2, .inl (y 1, 9, .inr (.inl (fun _ => 0)))), (n3, .inl (y 0, 6, .inl (fun _ => 0))), (n4, .inl (y 0, 6, .inl (fun _ => 0))), (n5, .inl (y 0, 16, .inl (fun _ => 0))), (n6, .inl (y 1, 5, .inr (.inl (fun _ => 0)))), (g, .inr (1, [.int 0, .ref g0, .ref g1, .ref g2, .ref g3, .ref g4, .ref g5, .ref g6])), (t, .inr (8, [.int 0, .ref t0, .ref t1, .ref t2, .ref t3, .ref t4, .ref t5, .ref t6])), (r, .inr (6, [.int 0, .int 0, .ref r0, .ref r1, .ref r2, .ref r3, .ref r4, .ref r5])), (tr, .inr (7, [.int (0 + 1), .int 0, .int 0, .ref m0, .ref m1, .ref m2, .ref m3, .ref m4, .ref m5, .ref m6])), (m6, .inl (y 1, 5, .inr (.inl (fun _ => 0))))]) [20] [0, 1, 2, 3, 4, 5, 6, 7, 8, 9, 10, 11, 12, 13, 14, 15, 16, 17, 18, 19] rfl rfl (by decide) (by decide) (by decide) (As := [.int 0]) (rest := [.ref nw, .ref k]) rfl (nb rfl) rfl d_Nine_today_79 (fun r18 _ hr18 => ?_)
      subst hr18
      refine j_ws (ws' := [(x, .inr (9, [.ref tp, .ref pi, .ref nw, .ref tr, .ref ps, .ref k, .ref k2, .ref rd, .ref pl, .int 1])), (m0, .inl (y 0, 9, .inl (fun _ => 0))), (m1, .inl (y 0, 9, .inl (fun _ => 0))), (m2, .inl (y 1, 9, .inr (.inl (fun _ => 0)))), (m3, .inl (y 0, 6, .inl (fun _ => 0))), (m4, .inl (y 0, 6, .inl (fun _ => 0))), (m5, .inl (y 0, 16, .inl (fun _ => 0))), (nw, .inr (7, [.int 0, .int 0, .int 0, .ref n0, .ref n1, .ref n2, .ref n3, .ref n4, .ref n5, .ref n6])), (n0, .inl (y 0, 9, .inl (fun _ => 0))), (n1, .inl (y 0, 9, .inl (fun _ => 0))), (n2, .inl (y 1, 9, .inr (.inl (fun _ => 0)))), (n3, .inl (y 0, 6, .inl (fun _ => 0))), (n4, .inl (y 0, 6, .inl (fun _ => 0))), (n5, .inl (y 0, 16, .inl (fun _ => 0))), (n6, .inl (y 1, 5, .inr (.inl (fun _ => 0)))), (g, .inr (1, [.int 0, .ref g0, .ref g1, .ref g2, .ref g3, .ref g4, .ref g5, .ref g6])), (t, .inr (8, [.int 0, .ref t0, .ref t1, .ref t2, .ref t3, .ref t4, .ref t5, .ref t6])), (r, .inr (6, [.int 0, .int 0, .ref r0, .ref r1, .ref r2, .ref r3, .ref r4, .ref r5])), (tr, .inr (7, [.int (0 + 1), .int 0, .int 0, .ref m0, .ref m1, .ref m2, .ref m3, .ref m4, .ref m5, .ref m6])), (m6, .inl (y 1, 5, .inr (.inl (fun _ => 0)))), (k, .inr (2, [.int 0, .int 1, .int 1, .int 0, .ref g, .int 0, .ref vn, .ref vg, .ref t, .ref r, .int 0, .int 0, .int 9999, .int 0]))]) rfl ?_
      refine j_st (st' := [.int (-1), .ref nw, .ref k]) rfl ?_
      refine j_iload (pc := 82) C d_Nine_today_82 0 rfl ?_
      refine j_iconst (pc := 84) C (v := 0) d_Nine_today_84 (by decide) ?_
      refine j_callSi (pc := 85) C (c_allows_n l D y k g vn vg t r nw (-1) 1 0 (by decide)) kw_Nine_209 ks_Days_allows ⟨by decide, by decide⟩ ⟨by decide, by decide⟩ (wr := [(x, .inr (9, [.ref tp, .ref pi, .ref nw, .ref tr, .ref ps, .ref k, .ref k2, .ref rd, .ref pl, .int 1])), (m0, .inl (y 0, 9, .inl (fun _ => 0))), (m1, .inl (y 0, 9, .inl (fun _ => 0))), (m2, .inl (y 1, 9, .inr (.inl (fun _ => 0)))), (m3, .inl (y 0, 6, .inl (fun _ => 0))), (m4, .inl (y 0, 6, .inl (fun _ => 0))), (m5, .inl (y 0, 16, .inl (fun _ => 0))), (nw, .inr (7, [.int 0, .int 0, .int 0, .ref n0, .ref n1, .ref n2, .ref n3, .ref n4, .ref n5, .ref n6])), (n0, .inl (y 0, 9, .inl (fun _ => 0))), (n1, .inl (y 0, 9, .inl (fun _ => 0))), (n2, .inl (y 1, 9, .inr (.inl (fun _ => 0)))), (n3, .inl (y 0, 6, .inl (fun _ => 0))), (n4, .inl (y 0, 6, .inl (fun _ => 0))), (n5, .inl (y 0, 16, .inl (fun _ => 0))), (n6, .inl (y 1, 5, .inr (.inl (fun _ => 0)))), (g, .inr (1, [.int 0, .ref g0, .ref g1, .ref g2, .ref g3, .ref g4, .ref g5, .ref g6])), (t, .inr (8, [.int 0, .ref t0, .ref t1, .ref t2, .ref t3, .ref t4, .ref t5, .ref t6])), (r, .inr (6, [.int 0, .int 0, .ref r0, .ref r1, .ref r2, .ref r3, .ref r4, .ref r5])), (tr, .inr (7, [.int (0 + 1), .int 0, .int 0, .ref m0, .ref m1, .ref m2, .ref m3, .ref m4, .ref m5, .ref m6])), (m6, .inl (y 1, 5, .inr (.inl (fun _ => 0))))]) [20] [0, 1, 2, 3, 4, 5, 6, 7, 8, 9, 10, 11, 12, 13, 14, 15, 16, 17, 18, 19] rfl rfl (by decide) (by decide) (by decide) (As := [.ref k, .ref nw, .int (-1), .int 1, .int 0]) (rest := []) rfl (nb rfl) rfl d_Nine_today_85 (fun r19 _ hr19 => ?_)
      subst hr19
      refine j_ws (ws' := [(x, .inr (9, [.ref tp, .ref pi, .ref nw, .ref tr, .ref ps, .ref k, .ref k2, .ref rd, .ref pl, .int 1])), (m0, .inl (y 0, 9, .inl (fun _ => 0))), (m1, .inl (y 0, 9, .inl (fun _ => 0))), (m2, .inl (y 1, 9, .inr (.inl (fun _ => 0)))), (m3, .inl (y 0, 6, .inl (fun _ => 0))), (m4, .inl (y 0, 6, .inl (fun _ => 0))), (m5, .inl (y 0, 16, .inl (fun _ => 0))), (nw, .inr (7, [.int 0, .int 0, .int 0, .ref n0, .ref n1, .ref n2, .ref n3, .ref n4, .ref n5, .ref n6])), (n0, .inl (y 0, 9, .inl (fun _ => 0))), (n1, .inl (y 0, 9, .inl (fun _ => 0))), (n2, .inl (y 1, 9, .inr (.inl (fun _ => 0)))), (n3, .inl (y 0, 6, .inl (fun _ => 0))), (n4, .inl (y 0, 6, .inl (fun _ => 0))), (n5, .inl (y 0, 16, .inl (fun _ => 0))), (n6, .inl (y 1, 5, .inr (.inl (fun _ => 0)))), (g, .inr (1, [.int 0, .ref g0, .ref g1, .ref g2, .ref g3, .ref g4, .ref g5, .ref g6])), (t, .inr (8, [.int 0, .ref t0, .ref t1, .ref t2, .ref t3, .ref t4, .ref t5, .ref t6])), (r, .inr (6, [.int 0, .int 0, .ref r0, .ref r1, .ref r2, .ref r3, .ref r4, .ref r5])), (tr, .inr (7, [.int (0 + 1), .int 0, .int 0, .ref m0, .ref m1, .ref m2, .ref m3, .ref m4, .ref m5, .ref m6])), (m6, .inl (y 1, 5, .inr (.inl (fun _ => 0)))), (k, .inr (2, [.int 0, .int 1, .int 1, .int 0, .ref g, .int 0, .ref vn, .ref vg, .ref t, .ref r, .int 0, .int 0, .int 9999, .int 0]))]) rfl ?_
      refine j_st (st' := [.int 0]) rfl ?_
      refine j_if_eqT (pc := 88) C (tgt := 168) d_Nine_today_88 (by decide) (by decide) ?_
      refine j_iinc (pc := 168) C (v := 2) (lv' := [(6, .int 2), (5, .int 0), (4, .int 0), (7, .int 0), (3, .int 0), (0, .ref x), (1, .int va), (2, .int vb)]) d_Nine_today_168 0 rfl (by decide) (by decide) rfl ?_
      refine j_goto (pc := 171) C (tgt := 54) d_Nine_today_171 (by decide) ?_
      refine j_iload (pc := 54) C d_Nine_today_54 0 rfl ?_
      refine j_iconst (pc := 56) C (v := 3) d_Nine_today_56 (by decide) ?_
      refine j_icmp_geF (pc := 57) C (tgt := 174) d_Nine_today_57 (by decide) (by decide) ?_
      refine j_aload_n (pc := 60) C d_Nine_today_60 rfl 5 rfl ?_
      refine j_get (pc := 61) C gf_Nine_41 0 rfl rfl d_Nine_today_61 ?_
      refine j_aload_n (pc := 64) C d_Nine_today_64 rfl 5 rfl ?_
      refine j_get (pc := 65) C gf_Nine_24 0 rfl rfl d_Nine_today_65 ?_
      refine j_aload_n (pc := 68) C d_Nine_today_68 rfl 5 rfl ?_
      refine j_get (pc := 69) C gf_Nine_41 0 rfl rfl d_Nine_today_69 ?_
      refine j_aload_n (pc := 72) C d_Nine_today_72 rfl 5 rfl ?_
      refine j_get (pc := 73) C gf_Nine_24 0 rfl rfl d_Nine_today_73 ?_
      refine j_get (pc := 76) C gf_Nine_124 7 rfl rfl d_Nine_today_76 ?_
      refine j_callVi (pc := 79) C (c_villageOn l D y k g vn vg t r 0) kw_Nine_206 kv_Lake_villageOn 0 2 rfl rfl ⟨by decide, by decide⟩ ⟨by decide, by decide⟩ (wr := [(x, .inr (9, [.ref tp, .ref pi, .ref nw, .ref tr, .ref ps, .ref k, .ref k2, .ref rd, .ref pl, .int 1])), (m0, .inl (y 0, 9, .inl (fun _ => 0))), (m1, .inl (y 0, 9, .inl (fun _ => 0))), (m2, .inl (y 1, 9, .inr (.inl (fun _ => 0)))), (m3, .inl (y 0, 6, .inl (fun _ => 0))), (m4, .inl (y 0, 6, .inl (fun _ => 0))), (m5, .inl (y 0, 16, .inl (fun _ => 0))), (nw, .inr (7, [.int 0, .int 0, .int 0, .ref n0, .ref n1, .ref n2, .ref n3, .ref n4, .ref n5, .ref n6])), (n0, .inl (y 0, 9, .inl (fun _ => 0))), (n1, .inl (y 0, 9, .inl (fun _ => 0))), (n2, .inl (y 1, 9, .inr (.inl (fun _ => 0)))), (n3, .inl (y 0, 6, .inl (fun _ => 0))), (n4, .inl (y 0, 6, .inl (fun _ => 0))), (n5, .inl (y 0, 16, .inl (fun _ => 0))), (n6, .inl (y 1, 5, .inr (.inl (fun _ => 0)))), (g, .inr (1, [.int 0, .ref g0, .ref g1, .ref g2, .ref g3, .ref g4, .ref g5, .ref g6])), (t, .inr (8, [.int 0, .ref t0, .ref t1, .ref t2, .ref t3, .ref t4, .ref t5, .ref t6])), (r, .inr (6, [.int 0, .int 0, .ref r0, .ref r1, .ref r2, .ref r3, .ref r4, .ref r5])), (tr, .inr (7, [.int (0 + 1), .int 0, .int 0, .ref m0, .ref m1, .ref m2, .ref m3, .ref m4, .ref m5, .ref m6])), (m6, .inl (y 1, 5, .inr (.inl (fun _ => 0))))]) [20] [0, 1, 2, 3, 4, 5, 6, 7, 8, 9, 10, 11, 12, 13, 14, 15, 16, 17, 18, 19] rfl rfl (by decide) (by decide) (by decide) (As := [.int 0]) (rest := [.ref nw, .ref k]) rfl (nb rfl) rfl d_Nine_today_79 (fun r20 _ hr20 => ?_)
      subst hr20
      refine j_ws (ws' := [(x, .inr (9, [.ref tp, .ref pi, .ref nw, .ref tr, .ref ps, .ref k, .ref k2, .ref rd, .ref pl, .int 1])), (m0, .inl (y 0, 9, .inl (fun _ => 0))), (m1, .inl (y 0, 9, .inl (fun _ => 0))), (m2, .inl (y 1, 9, .inr (.inl (fun _ => 0)))), (m3, .inl (y 0, 6, .inl (fun _ => 0))), (m4, .inl (y 0, 6, .inl (fun _ => 0))), (m5, .inl (y 0, 16, .inl (fun _ => 0))), (nw, .inr (7, [.int 0, .int 0, .int 0, .ref n0, .ref n1, .ref n2, .ref n3, .ref n4, .ref n5, .ref n6])), (n0, .inl (y 0, 9, .inl (fun _ => 0))), (n1, .inl (y 0, 9, .inl (fun _ => 0))), (n2, .inl (y 1, 9, .inr (.inl (fun _ => 0)))), (n3, .inl (y 0, 6, .inl (fun _ => 0))), (n4, .inl (y 0, 6, .inl (fun _ => 0))), (n5, .inl (y 0, 16, .inl (fun _ => 0))), (n6, .inl (y 1, 5, .inr (.inl (fun _ => 0)))), (g, .inr (1, [.int 0, .ref g0, .ref g1, .ref g2, .ref g3, .ref g4, .ref g5, .ref g6])), (t, .inr (8, [.int 0, .ref t0, .ref t1, .ref t2, .ref t3, .ref t4, .ref t5, .ref t6])), (r, .inr (6, [.int 0, .int 0, .ref r0, .ref r1, .ref r2, .ref r3, .ref r4, .ref r5])), (tr, .inr (7, [.int (0 + 1), .int 0, .int 0, .ref m0, .ref m1, .ref m2, .ref m3, .ref m4, .ref m5, .ref m6])), (m6, .inl (y 1, 5, .inr (.inl (fun _ => 0)))), (k, .inr (2, [.int 0, .int 1, .int 1, .int 0, .ref g, .int 0, .ref vn, .ref vg, .ref t, .ref r, .int 0, .int 0, .int 9999, .int 0]))]) rfl ?_
      refine j_st (st' := [.int (-1), .ref nw, .ref k]) rfl ?_
      refine j_iload (pc := 82) C d_Nine_today_82 0 rfl ?_
      refine j_iconst (pc := 84) C (v := 0) d_Nine_today_84 (by decide) ?_
      refine j_callSi (pc := 85) C (c_allows_n l D y k g vn vg t r nw (-1) 2 0 (by decide)) kw_Nine_209 ks_Days_allows ⟨by decide, by decide⟩ ⟨by decide, by decide⟩ (wr := [(x, .inr (9, [.ref tp, .ref pi, .ref nw, .ref tr, .ref ps, .ref k, .ref k2, .ref rd, .ref pl, .int 1])), (m0, .inl (y 0, 9, .inl (fun _ => 0))), (m1, .inl (y 0, 9, .inl (fun _ => 0))), (m2, .inl (y 1, 9, .inr (.inl (fun _ => 0)))), (m3, .inl (y 0, 6, .inl (fun _ => 0))), (m4, .inl (y 0, 6, .inl (fun _ => 0))), (m5, .inl (y 0, 16, .inl (fun _ => 0))), (nw, .inr (7, [.int 0, .int 0, .int 0, .ref n0, .ref n1, .ref n2, .ref n3, .ref n4, .ref n5, .ref n6])), (n0, .inl (y 0, 9, .inl (fun _ => 0))), (n1, .inl (y 0, 9, .inl (fun _ => 0))), (n2, .inl (y 1, 9, .inr (.inl (fun _ => 0)))), (n3, .inl (y 0, 6, .inl (fun _ => 0))), (n4, .inl (y 0, 6, .inl (fun _ => 0))), (n5, .inl (y 0, 16, .inl (fun _ => 0))), (n6, .inl (y 1, 5, .inr (.inl (fun _ => 0)))), (g, .inr (1, [.int 0, .ref g0, .ref g1, .ref g2, .ref g3, .ref g4, .ref g5, .ref g6])), (t, .inr (8, [.int 0, .ref t0, .ref t1, .ref t2, .ref t3, .ref t4, .ref t5, .ref t6])), (r, .inr (6, [.int 0, .int 0, .ref r0, .ref r1, .ref r2, .ref r3, .ref r4, .ref r5])), (tr, .inr (7, [.int (0 + 1), .int 0, .int 0, .ref m0, .ref m1, .ref m2, .ref m3, .ref m4, .ref m5, .ref m6])), (m6, .inl (y 1, 5, .inr (.inl (fun _ => 0))))]) [20] [0, 1, 2, 3, 4, 5, 6, 7, 8, 9, 10, 11, 12, 13, 14, 15, 16, 17, 18, 19] rfl rfl (by decide) (by decide) (by decide) (As := [.ref k, .ref nw, .int (-1), .int 2, .int 0]) (rest := []) rfl (nb rfl) rfl d_Nine_today_85 (fun r21 _ hr21 => ?_)
      subst hr21
      refine j_ws (ws' := [(x, .inr (9, [.ref tp, .ref pi, .ref nw, .ref tr, .ref ps, .ref k, .ref k2, .ref rd, .ref pl, .int 1])), (m0, .inl (y 0, 9, .inl (fun _ => 0))), (m1, .inl (y 0, 9, .inl (fun _ => 0))), (m2, .inl (y 1, 9, .inr (.inl (fun _ => 0)))), (m3, .inl (y 0, 6, .inl (fun _ => 0))), (m4, .inl (y 0, 6, .inl (fun _ => 0))), (m5, .inl (y 0, 16, .inl (fun _ => 0))), (nw, .inr (7, [.int 0, .int 0, .int 0, .ref n0, .ref n1, .ref n2, .ref n3, .ref n4, .ref n5, .ref n6])), (n0, .inl (y 0, 9, .inl (fun _ => 0))), (n1, .inl (y 0, 9, .inl (fun _ => 0))), (n2, .inl (y 1, 9, .inr (.inl (fun _ => 0)))), (n3, .inl (y 0, 6, .inl (fun _ => 0))), (n4, .inl (y 0, 6, .inl (fun _ => 0))), (n5, .inl (y 0, 16, .inl (fun _ => 0))), (n6, .inl (y 1, 5, .inr (.inl (fun _ => 0)))), (g, .inr (1, [.int 0, .ref g0, .ref g1, .ref g2, .ref g3, .ref g4, .ref g5, .ref g6])), (t, .inr (8, [.int 0, .ref t0, .ref t1, .ref t2, .ref t3, .ref t4, .ref t5, .ref t6])), (r, .inr (6, [.int 0, .int 0, .ref r0, .ref r1, .ref r2, .ref r3, .ref r4, .ref r5])), (tr, .inr (7, [.int (0 + 1), .int 0, .int 0, .ref m0, .ref m1, .ref m2, .ref m3, .ref m4, .ref m5, .ref m6])), (m6, .inl (y 1, 5, .inr (.inl (fun _ => 0)))), (k, .inr (2, [.int 0, .int 1, .int 1, .int 0, .ref g, .int 0, .ref vn, .ref vg, .ref t, .ref r, .int 0, .int 0, .int 9999, .int 0]))]) rfl ?_
      refine j_st (st' := [.int 0]) rfl ?_
      refine j_if_eqT (pc := 88) C (tgt := 168) d_Nine_today_88 (by decide) (by decide) ?_
      refine j_iinc (pc := 168) C (v := 3) (lv' := [(6, .int 3), (5, .int 0), (4, .int 0), (7, .int 0), (3, .int 0), (0, .ref x), (1, .int va), (2, .int vb)]) d_Nine_today_168 0 rfl (by decide) (by decide) rfl ?_
      refine j_goto (pc := 171) C (tgt := 54) d_Nine_today_171 (by decide) ?_
      refine j_iload (pc := 54) C d_Nine_today_54 0 rfl ?_
      refine j_iconst (pc := 56) C (v := 3) d_Nine_today_56 (by decide) ?_
      refine j_icmp_geT (pc := 57) C (tgt := 174) d_Nine_today_57 (by decide) (by decide) ?_
      refine j_iload (pc := 174) C d_Nine_today_174 2 rfl ?_
      exact j_iret (pc := 176) C hr rfl () (by simp only [Int32.lt_iff_toInt_lt, Int32.le_iff_toInt_le, ← Int32.toInt_inj, (by decide : Int32.toInt 0 = 0), (by decide : Int32.toInt 1 = 1)] at c1 c14; (first | rw [if_pos (by omega)] | rw [if_neg (by omega)])) [] rfl (by decide) (by decide) (by decide) d_Nine_today_176
    · refine j_iconst (pc := 43) C (v := (-1)) d_Nine_today_43 (by decide) ?_
      exact j_iret (pc := 44) C hr rfl () (by simp only [Int32.lt_iff_toInt_lt, Int32.le_iff_toInt_le, ← Int32.toInt_inj, (by decide : Int32.toInt 0 = 0), (by decide : Int32.toInt 1 = 1)] at c1 c14; (first | rw [if_pos (by omega)] | rw [if_neg (by omega)])) [] rfl (by decide) (by decide) (by decide) d_Nine_today_44
theorem d_back (d : Int32) : d + 1 - 1 = d := Int32.add_sub_cancel d 1
theorem d_Days_countRows_0 : decode prog_3_method_14_code 0 = .ok (.iload_n 2, 1) := by decide +kernel
theorem d_Days_countRows_1 : decode prog_3_method_14_code 1 = .ok (.ifCond .gt 5, 3) := by decide +kernel
theorem d_Days_countRows_4 : decode prog_3_method_14_code 4 = .ok (.iconst 1, 1) := by decide +kernel
theorem d_Days_countRows_5 : decode prog_3_method_14_code 5 = .ok (.ireturn, 1) := by decide +kernel
set_option maxHeartbeats 4000000 in
set_option maxRecDepth 100000 in
theorem c_countRows_0 (l : Launch) (D : va_G) (y : Nat → ClassId) (k : Nat) (h : Nat) (g : Nat) (vn : Nat) (vg : Nat) (t : Nat) (r : Nat) (d : Int32) (a0 : Nat) (a1 : Nat) (a2 : Nat) (a3 : Nat) (a4 : Nat) (a5 : Nat) (a6 : Nat)  : CT l D y ⟨"NineBoards$Days", "countRows", "(LNineBoards$Lake;LNineBoards$State;I)I"⟩ prog_3_method_14_code 6 (some .int) ({ frames := 0, cells := 0, slots := 0, locals := 0 } : Room) [.ref k, .ref h, .int 0] [(k, .inr (2, [.int 0, .int 1, .int 1, .int 0, .ref g, .int 0, .ref vn, .ref vg, .ref t, .ref r, .int 0, .int 0, .int 9999, .int 0])), (h, .inr (7, [.int d, .int 0, .int 0, .ref a0, .ref a1, .ref a2, .ref a3, .ref a4, .ref a5, .ref a6]))] (QI D [(k, .inr (2, [.int 0, .int 1, .int 1, .int 0, .ref g, .int 0, .ref vn, .ref vg, .ref t, .ref r, .int 0, .int 0, .int 9999, .int 0])), (h, .inr (7, [.int d, .int 0, .int 0, .ref a0, .ref a1, .ref a2, .ref a3, .ref a4, .ref a5, .ref a6]))] (fun (r : Int32) (_ : Unit) => r = 1) (fun _ => [(k, .inr (2, [.int 0, .int 1, .int 1, .int 0, .ref g, .int 0, .ref vn, .ref vg, .ref t, .ref r, .int 0, .int 0, .int 9999, .int 0])), (h, .inr (7, [.int d, .int 0, .int 0, .ref a0, .ref a1, .ref a2, .ref a3, .ref a4, .ref a5, .ref a6]))])) := by
  refine CT.of (by decide) (nb rfl) ?_
  intro p e s m args below meth c C hr
  refine j_lv (lv' := [(0, .ref k), (1, .ref h), (2, .int 0)]) rfl ?_
  refine j_iload_n (pc := 0) C d_Days_countRows_0 rfl 2 rfl ?_
  refine j_if_gtF (pc := 1) C (tgt := 6) d_Days_countRows_1 (by decide) (by decide) ?_
  refine j_iconst (pc := 4) C (v := 1) d_Days_countRows_4 (by decide) ?_
  exact j_iret (pc := 5) C hr rfl () rfl [0, 1] rfl (by decide) (by decide) (by decide) d_Days_countRows_5
theorem d_Days_countRows_6 : decode prog_3_method_14_code 6 = .ok (.iconst 0, 1) := by decide +kernel
theorem d_Days_countRows_7 : decode prog_3_method_14_code 7 = .ok (.istore_n 3, 1) := by decide +kernel
theorem d_Days_countRows_8 : decode prog_3_method_14_code 8 = .ok (.aload_n 1, 1) := by decide +kernel
theorem d_Days_countRows_9 : decode prog_3_method_14_code 9 = .ok (.getfield 15, 3) := by decide +kernel
theorem gf_Days_15 : GF "NineBoards$Days" 15 7 2 := ⟨_, _, _, rfl, ci_State, by decide, (mt_1 (List.mem_of_getElem? (i := 61) rfl) rfl)⟩
theorem d_Days_countRows_12 : decode prog_3_method_14_code 12 = .ok (.istore 4, 2) := by decide +kernel
theorem d_Days_countRows_14 : decode prog_3_method_14_code 14 = .ok (.iconst 0, 1) := by decide +kernel
theorem d_Days_countRows_15 : decode prog_3_method_14_code 15 = .ok (.istore 5, 2) := by decide +kernel
theorem d_Days_countRows_17 : decode prog_3_method_14_code 17 = .ok (.iload 5, 2) := by decide +kernel
theorem d_Days_countRows_19 : decode prog_3_method_14_code 19 = .ok (.iconst 3, 1) := by decide +kernel
theorem d_Days_countRows_20 : decode prog_3_method_14_code 20 = .ok (.if_icmp .ge 93, 3) := by decide +kernel
theorem d_Days_countRows_23 : decode prog_3_method_14_code 23 = .ok (.aload_n 0, 1) := by decide +kernel
theorem d_Days_countRows_24 : decode prog_3_method_14_code 24 = .ok (.aload_n 1, 1) := by decide +kernel
theorem d_Days_countRows_25 : decode prog_3_method_14_code 25 = .ok (.aload_n 0, 1) := by decide +kernel
theorem d_Days_countRows_26 : decode prog_3_method_14_code 26 = .ok (.aload_n 1, 1) := by decide +kernel
theorem d_Days_countRows_27 : decode prog_3_method_14_code 27 = .ok (.getfield 59, 3) := by decide +kernel
theorem d_Days_countRows_30 : decode prog_3_method_14_code 30 = .ok (.invokevirtual 109, 3) := by decide +kernel
theorem kw_Days_109 : KW "NineBoards$Days" 109 ⟨"NineBoards$Lake", "villageOn", "(I)I"⟩ prog_5_method_8_code 2 (some .int) 1 := ⟨(mt_4 (List.mem_of_getElem? (i := 76) rfl) rfl), (mt_1 (List.mem_of_getElem? (i := 6) rfl) rfl), (mt_4 (List.mem_of_getElem? (i := 59) rfl) rfl), by decide +kernel⟩
theorem d_Days_countRows_33 : decode prog_3_method_14_code 33 = .ok (.iload 5, 2) := by decide +kernel
theorem d_Days_countRows_35 : decode prog_3_method_14_code 35 = .ok (.iconst 0, 1) := by decide +kernel
theorem d_Days_countRows_36 : decode prog_3_method_14_code 36 = .ok (.invokestatic 43, 3) := by decide +kernel
theorem kw_Days_43 : KW "NineBoards$Days" 43 ⟨"NineBoards$Days", "allows", "(LNineBoards$Lake;LNineBoards$State;III)Z"⟩ prog_3_method_2_code 7 (some .boolean) 5 := ⟨(mt_4 (List.mem_of_getElem? (i := 37) rfl) rfl), (mt_1 (List.mem_of_getElem? (i := 18) rfl) rfl), (mt_4 (List.mem_of_getElem? (i := 39) rfl) rfl), by decide +kernel⟩
theorem d_Days_countRows_39 : decode prog_3_method_14_code 39 = .ok (.ifCond .eq 68, 3) := by decide +kernel
theorem d_Days_countRows_42 : decode prog_3_method_14_code 42 = .ok (.aload_n 0, 1) := by decide +kernel
theorem d_Days_countRows_43 : decode prog_3_method_14_code 43 = .ok (.aload_n 1, 1) := by decide +kernel
theorem d_Days_countRows_44 : decode prog_3_method_14_code 44 = .ok (.iload 5, 2) := by decide +kernel
theorem d_Days_countRows_46 : decode prog_3_method_14_code 46 = .ok (.invokestatic 47, 3) := by decide +kernel
theorem d_Days_countRows_49 : decode prog_3_method_14_code 49 = .ok (.aload_n 1, 1) := by decide +kernel
theorem d_Days_countRows_50 : decode prog_3_method_14_code 50 = .ok (.dup, 1) := by decide +kernel
theorem d_Days_countRows_51 : decode prog_3_method_14_code 51 = .ok (.getfield 59, 3) := by decide +kernel
theorem d_Days_countRows_54 : decode prog_3_method_14_code 54 = .ok (.iconst 1, 1) := by decide +kernel
theorem d_Days_countRows_55 : decode prog_3_method_14_code 55 = .ok (.iadd, 1) := by decide +kernel
theorem d_Days_countRows_56 : decode prog_3_method_14_code 56 = .ok (.putfield 59, 3) := by decide +kernel
theorem d_Days_countRows_59 : decode prog_3_method_14_code 59 = .ok (.iload_n 3, 1) := by decide +kernel
theorem d_Days_countRows_60 : decode prog_3_method_14_code 60 = .ok (.aload_n 0, 1) := by decide +kernel
theorem d_Days_countRows_61 : decode prog_3_method_14_code 61 = .ok (.aload_n 1, 1) := by decide +kernel
theorem d_Days_countRows_62 : decode prog_3_method_14_code 62 = .ok (.iload_n 2, 1) := by decide +kernel
theorem d_Days_countRows_63 : decode prog_3_method_14_code 63 = .ok (.iconst 1, 1) := by decide +kernel
theorem d_Days_countRows_64 : decode prog_3_method_14_code 64 = .ok (.isub, 1) := by decide +kernel
theorem d_Days_countRows_65 : decode prog_3_method_14_code 65 = .ok (.invokestatic 159, 3) := by decide +kernel
theorem kw_Days_159 : KW "NineBoards$Days" 159 ⟨"NineBoards$Days", "countRows", "(LNineBoards$Lake;LNineBoards$State;I)I"⟩ prog_3_method_14_code 6 (some .int) 3 := ⟨(mt_4 (List.mem_of_getElem? (i := 160) rfl) rfl), (mt_1 (List.mem_of_getElem? (i := 18) rfl) rfl), (mt_4 (List.mem_of_getElem? (i := 159) rfl) rfl), by decide +kernel⟩
theorem ks_Days_countRows : Cond.static ⟨"NineBoards$Days", "countRows", "(LNineBoards$Lake;LNineBoards$State;I)I"⟩ ∈ TB := (mt_4 (List.mem_of_getElem? (i := 158) rfl) rfl)
theorem d_Days_countRows_68 : decode prog_3_method_14_code 68 = .ok (.iadd, 1) := by decide +kernel
theorem d_Days_countRows_69 : decode prog_3_method_14_code 69 = .ok (.istore_n 3, 1) := by decide +kernel
theorem d_Days_countRows_70 : decode prog_3_method_14_code 70 = .ok (.aload_n 1, 1) := by decide +kernel
theorem d_Days_countRows_71 : decode prog_3_method_14_code 71 = .ok (.dup, 1) := by decide +kernel
theorem d_Days_countRows_72 : decode prog_3_method_14_code 72 = .ok (.getfield 59, 3) := by decide +kernel
theorem d_Days_countRows_75 : decode prog_3_method_14_code 75 = .ok (.iconst 1, 1) := by decide +kernel
theorem d_Days_countRows_76 : decode prog_3_method_14_code 76 = .ok (.isub, 1) := by decide +kernel
theorem d_Days_countRows_77 : decode prog_3_method_14_code 77 = .ok (.putfield 59, 3) := by decide +kernel
theorem d_Days_countRows_80 : decode prog_3_method_14_code 80 = .ok (.iload 5, 2) := by decide +kernel
theorem d_Days_countRows_82 : decode prog_3_method_14_code 82 = .ok (.ifCond .eq 19, 3) := by decide +kernel
theorem d_Days_countRows_101 : decode prog_3_method_14_code 101 = .ok (.aload_n 1, 1) := by decide +kernel
theorem d_Days_countRows_102 : decode prog_3_method_14_code 102 = .ok (.iload 4, 2) := by decide +kernel
theorem d_Days_countRows_104 : decode prog_3_method_14_code 104 = .ok (.putfield 15, 3) := by decide +kernel
theorem pf_Days_15 : PF "NineBoards$Days" 15 7 2 (.int) false := ⟨_, _, _, ct_State, rfl, ci_State, by decide, (mt_1 (List.mem_of_getElem? (i := 61) rfl) rfl), cp_State, cn_State, rfl, by decide +kernel, (fun h => by cases h)⟩
theorem d_Days_countRows_107 : decode prog_3_method_14_code 107 = .ok (.iinc 5 1, 3) := by decide +kernel
theorem d_Days_countRows_110 : decode prog_3_method_14_code 110 = .ok (.goto (-93), 3) := by decide +kernel
theorem d_Days_countRows_113 : decode prog_3_method_14_code 113 = .ok (.iload_n 3, 1) := by decide +kernel
theorem d_Days_countRows_114 : decode prog_3_method_14_code 114 = .ok (.ireturn, 1) := by decide +kernel
set_option maxHeartbeats 4000000 in
set_option maxRecDepth 100000 in
theorem c_countRows_1 (l : Launch) (D : va_G) (y : Nat → ClassId) (k : Nat) (h : Nat) (g : Nat) (vn : Nat) (vg : Nat) (t : Nat) (r : Nat) (d : Int32) (a0 : Nat) (a1 : Nat) (a2 : Nat) (a3 : Nat) (a4 : Nat) (a5 : Nat) (a6 : Nat)  : CT l D y ⟨"NineBoards$Days", "countRows", "(LNineBoards$Lake;LNineBoards$State;I)I"⟩ prog_3_method_14_code 6 (some .int) ({ frames := 2, cells := 0, slots := 0, locals := 47 } : Room) [.ref k, .ref h, .int 1] [(k, .inr (2, [.int 0, .int 1, .int 1, .int 0, .ref g, .int 0, .ref vn, .ref vg, .ref t, .ref r, .int 0, .int 0, .int 9999, .int 0])), (h, .inr (7, [.int d, .int 0, .int 0, .ref a0, .ref a1, .ref a2, .ref a3, .ref a4, .ref a5, .ref a6]))] (QI D [(k, .inr (2, [.int 0, .int 1, .int 1, .int 0, .ref g, .int 0, .ref vn, .ref vg, .ref t, .ref r, .int 0, .int 0, .int 9999, .int 0])), (h, .inr (7, [.int d, .int 0, .int 0, .ref a0, .ref a1, .ref a2, .ref a3, .ref a4, .ref a5, .ref a6]))] (fun (r : Int32) (_ : Unit) => r = 1) (fun _ => [(k, .inr (2, [.int 0, .int 1, .int 1, .int 0, .ref g, .int 0, .ref vn, .ref vg, .ref t, .ref r, .int 0, .int 0, .int 9999, .int 0])), (h, .inr (7, [.int d, .int 0, .int 0, .ref a0, .ref a1, .ref a2, .ref a3, .ref a4, .ref a5, .ref a6]))])) := by
  refine CT.of (by decide) (nb rfl) ?_
  intro p e s m args below meth c C hr
  refine j_lv (lv' := [(0, .ref k), (1, .ref h), (2, .int 1)]) rfl ?_
  refine j_iload_n (pc := 0) C d_Days_countRows_0 rfl 2 rfl ?_
  refine j_if_gtT (pc := 1) C (tgt := 6) d_Days_countRows_1 (by decide) (by decide) ?_
  refine j_iconst (pc := 6) C (v := 0) d_Days_countRows_6 (by decide) ?_
  refine j_istore_n (pc := 7) C (lv' := [(3, .int 0), (0, .ref k), (1, .ref h), (2, .int 1)]) d_Days_countRows_7 rfl (by decide) rfl ?_
  refine j_aload_n (pc := 8) C d_Days_countRows_8 rfl 2 rfl ?_
  refine j_get (pc := 9) C gf_Days_15 1 rfl rfl d_Days_countRows_9 ?_
  refine j_istore (pc := 12) C (lv' := [(4, .int 0), (3, .int 0), (0, .ref k), (1, .ref h), (2, .int 1)]) d_Days_countRows_12 (by decide) rfl ?_
  refine j_iconst (pc := 14) C (v := 0) d_Days_countRows_14 (by decide) ?_
  refine j_istore (pc := 15) C (lv' := [(5, .int 0), (4, .int 0), (3, .int 0), (0, .ref k), (1, .ref h), (2, .int 1)]) d_Days_countRows_15 (by decide) rfl ?_
  refine j_iload (pc := 17) C d_Days_countRows_17 0 rfl ?_
  refine j_iconst (pc := 19) C (v := 3) d_Days_countRows_19 (by decide) ?_
  refine j_icmp_geF (pc := 20) C (tgt := 113) d_Days_countRows_20 (by decide) (by decide) ?_
  refine j_aload_n (pc := 23) C d_Days_countRows_23 rfl 3 rfl ?_
  refine j_aload_n (pc := 24) C d_Days_countRows_24 rfl 4 rfl ?_
  refine j_aload_n (pc := 25) C d_Days_countRows_25 rfl 3 rfl ?_
  refine j_aload_n (pc := 26) C d_Days_countRows_26 rfl 4 rfl ?_
  refine j_get (pc := 27) C gf_Days_59 1 rfl rfl d_Days_countRows_27 ?_
  refine j_callVi (pc := 30) C (c_villageOn l D y k g vn vg t r d) kw_Days_109 kv_Lake_villageOn 0 2 rfl rfl ⟨by decide, by decide⟩ ⟨by decide, by decide⟩ (wr := [(h, .inr (7, [.int d, .int 0, .int 0, .ref a0, .ref a1, .ref a2, .ref a3, .ref a4, .ref a5, .ref a6]))]) [0] [1] rfl rfl (by decide) (by decide) (by decide) (As := [.int d]) (rest := [.ref h, .ref k]) rfl (nb rfl) rfl d_Days_countRows_30 (fun r1 _ hr1 => ?_)
  subst hr1
  refine j_ws (ws' := [(h, .inr (7, [.int d, .int 0, .int 0, .ref a0, .ref a1, .ref a2, .ref a3, .ref a4, .ref a5, .ref a6])), (k, .inr (2, [.int 0, .int 1, .int 1, .int 0, .ref g, .int 0, .ref vn, .ref vg, .ref t, .ref r, .int 0, .int 0, .int 9999, .int 0]))]) rfl ?_
  refine j_st (st' := [.int (-1), .ref h, .ref k]) rfl ?_
  refine j_iload (pc := 33) C d_Days_countRows_33 0 rfl ?_
  refine j_iconst (pc := 35) C (v := 0) d_Days_countRows_35 (by decide) ?_
  refine j_callSi (pc := 36) C (c_allows_0 l D y k h (-1) 0) kw_Days_43 ks_Days_allows ⟨by decide, by decide⟩ ⟨by decide, by decide⟩ (wr := [(h, .inr (7, [.int d, .int 0, .int 0, .ref a0, .ref a1, .ref a2, .ref a3, .ref a4, .ref a5, .ref a6])), (k, .inr (2, [.int 0, .int 1, .int 1, .int 0, .ref g, .int 0, .ref vn, .ref vg, .ref t, .ref r, .int 0, .int 0, .int 9999, .int 0]))]) [] [0, 1] rfl rfl (by decide) (by decide) (by decide) (As := [.ref k, .ref h, .int (-1), .int 0, .int 0]) (rest := []) rfl (nb rfl) rfl d_Days_countRows_36 (fun r2 _ hr2 => ?_)
  subst hr2
  refine j_ws (ws' := [(h, .inr (7, [.int d, .int 0, .int 0, .ref a0, .ref a1, .ref a2, .ref a3, .ref a4, .ref a5, .ref a6])), (k, .inr (2, [.int 0, .int 1, .int 1, .int 0, .ref g, .int 0, .ref vn, .ref vg, .ref t, .ref r, .int 0, .int 0, .int 9999, .int 0]))]) rfl ?_
  refine j_st (st' := [.int 1]) rfl ?_
  refine j_if_eqF (pc := 39) C (tgt := 107) d_Days_countRows_39 (by decide) (by decide) ?_
  refine j_aload_n (pc := 42) C d_Days_countRows_42 rfl 3 rfl ?_
  refine j_aload_n (pc := 43) C d_Days_countRows_43 rfl 4 rfl ?_
  refine j_iload (pc := 44) C d_Days_countRows_44 0 rfl ?_
  refine j_callSv (pc := 46) C (c_doAct l D y k h) kw_Days_47 ks_Days_doAct ⟨by decide, by decide⟩ ⟨by decide, by decide⟩ (wr := [(h, .inr (7, [.int d, .int 0, .int 0, .ref a0, .ref a1, .ref a2, .ref a3, .ref a4, .ref a5, .ref a6])), (k, .inr (2, [.int 0, .int 1, .int 1, .int 0, .ref g, .int 0, .ref vn, .ref vg, .ref t, .ref r, .int 0, .int 0, .int 9999, .int 0]))]) [] [0, 1] rfl rfl (by decide) (by decide) (by decide) (As := [.ref k, .ref h, .int 0]) (rest := []) rfl (nb rfl) rfl d_Days_countRows_46 (fun _ _ => ?_)
  refine j_ws (ws' := [(h, .inr (7, [.int d, .int 0, .int 0, .ref a0, .ref a1, .ref a2, .ref a3, .ref a4, .ref a5, .ref a6])), (k, .inr (2, [.int 0, .int 1, .int 1, .int 0, .ref g, .int 0, .ref vn, .ref vg, .ref t, .ref r, .int 0, .int 0, .int 9999, .int 0]))]) rfl ?_
  refine j_aload_n (pc := 49) C d_Days_countRows_49 rfl 4 rfl ?_
  refine j_dup (pc := 50) C d_Days_countRows_50 rfl ?_
  refine j_get (pc := 51) C gf_Days_59 0 rfl rfl d_Days_countRows_51 ?_
  refine j_iconst (pc := 54) C (v := 1) d_Days_countRows_54 (by decide) ?_
  refine j_iadd (pc := 55) C (v := d + 1) d_Days_countRows_55 rfl ?_
  refine j_put (pc := 56) C pf_Days_59 0 (ws' := [(h, .inr (7, [.int (d + 1), .int 0, .int 0, .ref a0, .ref a1, .ref a2, .ref a3, .ref a4, .ref a5, .ref a6])), (k, .inr (2, [.int 0, .int 1, .int 1, .int 0, .ref g, .int 0, .ref vn, .ref vg, .ref t, .ref r, .int 0, .int 0, .int 9999, .int 0]))]) rfl rfl rfl (nl rfl) rfl d_Days_countRows_56 ?_
  refine j_iload_n (pc := 59) C d_Days_countRows_59 rfl 2 rfl ?_
  refine j_aload_n (pc := 60) C d_Days_countRows_60 rfl 3 rfl ?_
  refine j_aload_n (pc := 61) C d_Days_countRows_61 rfl 4 rfl ?_
  refine j_iload_n (pc := 62) C d_Days_countRows_62 rfl 5 rfl ?_
  refine j_iconst (pc := 63) C (v := 1) d_Days_countRows_63 (by decide) ?_
  refine j_isub (pc := 64) C (v := 0) d_Days_countRows_64 (by decide) ?_
  refine j_callSi (pc := 65) C (c_countRows_0 l D y k h g vn vg t r (d + 1) a0 a1 a2 a3 a4 a5 a6) kw_Days_159 ks_Days_countRows ⟨by decide, by decide⟩ ⟨by decide, by decide⟩ (wr := []) [1, 0] [] rfl rfl (by decide) (by decide) (by decide) (As := [.ref k, .ref h, .int 0]) (rest := [.int 0]) rfl (nb rfl) rfl d_Days_countRows_65 (fun r3 _ hr3 => ?_)
  subst hr3
  refine j_ws (ws' := [(k, .inr (2, [.int 0, .int 1, .int 1, .int 0, .ref g, .int 0, .ref vn, .ref vg, .ref t, .ref r, .int 0, .int 0, .int 9999, .int 0])), (h, .inr (7, [.int (d + 1), .int 0, .int 0, .ref a0, .ref a1, .ref a2, .ref a3, .ref a4, .ref a5, .ref a6]))]) rfl ?_
  refine j_st (st' := [.int 1, .int 0]) rfl ?_
  refine j_iadd (pc := 68) C (v := 1) d_Days_countRows_68 (by decide) ?_
  refine j_istore_n (pc := 69) C (lv' := [(3, .int 1), (5, .int 0), (4, .int 0), (0, .ref k), (1, .ref h), (2, .int 1)]) d_Days_countRows_69 rfl (by decide) rfl ?_
  refine j_aload_n (pc := 70) C d_Days_countRows_70 rfl 4 rfl ?_
  refine j_dup (pc := 71) C d_Days_countRows_71 rfl ?_
  refine j_get (pc := 72) C gf_Days_59 1 rfl rfl d_Days_countRows_72 ?_
  refine j_iconst (pc := 75) C (v := 1) d_Days_countRows_75 (by decide) ?_
  refine j_isub (pc := 76) C (v := d) d_Days_countRows_76 (d_back d) ?_
  refine j_put (pc := 77) C pf_Days_59 1 (ws' := [(k, .inr (2, [.int 0, .int 1, .int 1, .int 0, .ref g, .int 0, .ref vn, .ref vg, .ref t, .ref r, .int 0, .int 0, .int 9999, .int 0])), (h, .inr (7, [.int d, .int 0, .int 0, .ref a0, .ref a1, .ref a2, .ref a3, .ref a4, .ref a5, .ref a6]))]) rfl rfl rfl (nl rfl) rfl d_Days_countRows_77 ?_
  refine j_iload (pc := 80) C d_Days_countRows_80 1 rfl ?_
  refine j_if_eqT (pc := 82) C (tgt := 101) d_Days_countRows_82 (by decide) (by decide) ?_
  refine j_aload_n (pc := 101) C d_Days_countRows_101 rfl 4 rfl ?_
  refine j_iload (pc := 102) C d_Days_countRows_102 2 rfl ?_
  refine j_put (pc := 104) C pf_Days_15 1 (ws' := [(k, .inr (2, [.int 0, .int 1, .int 1, .int 0, .ref g, .int 0, .ref vn, .ref vg, .ref t, .ref r, .int 0, .int 0, .int 9999, .int 0])), (h, .inr (7, [.int d, .int 0, .int 0, .ref a0, .ref a1, .ref a2, .ref a3, .ref a4, .ref a5, .ref a6]))]) rfl rfl rfl (nl rfl) rfl d_Days_countRows_104 ?_
  refine j_iinc (pc := 107) C (v := 1) (lv' := [(5, .int 1), (3, .int 1), (4, .int 0), (0, .ref k), (1, .ref h), (2, .int 1)]) d_Days_countRows_107 1 rfl (by decide) (by decide) rfl ?_
  refine j_goto (pc := 110) C (tgt := 17) d_Days_countRows_110 (by decide) ?_
  refine j_iload (pc := 17) C d_Days_countRows_17 0 rfl ?_
  refine j_iconst (pc := 19) C (v := 3) d_Days_countRows_19 (by decide) ?_
  refine j_icmp_geF (pc := 20) C (tgt := 113) d_Days_countRows_20 (by decide) (by decide) ?_
  refine j_aload_n (pc := 23) C d_Days_countRows_23 rfl 3 rfl ?_
  refine j_aload_n (pc := 24) C d_Days_countRows_24 rfl 4 rfl ?_
  refine j_aload_n (pc := 25) C d_Days_countRows_25 rfl 3 rfl ?_
  refine j_aload_n (pc := 26) C d_Days_countRows_26 rfl 4 rfl ?_
  refine j_get (pc := 27) C gf_Days_59 1 rfl rfl d_Days_countRows_27 ?_
  refine j_callVi (pc := 30) C (c_villageOn l D y k g vn vg t r d) kw_Days_109 kv_Lake_villageOn 0 2 rfl rfl ⟨by decide, by decide⟩ ⟨by decide, by decide⟩ (wr := [(h, .inr (7, [.int d, .int 0, .int 0, .ref a0, .ref a1, .ref a2, .ref a3, .ref a4, .ref a5, .ref a6]))]) [0] [1] rfl rfl (by decide) (by decide) (by decide) (As := [.int d]) (rest := [.ref h, .ref k]) rfl (nb rfl) rfl d_Days_countRows_30 (fun r4 _ hr4 => ?_)
  subst hr4
  refine j_ws (ws' := [(h, .inr (7, [.int d, .int 0, .int 0, .ref a0, .ref a1, .ref a2, .ref a3, .ref a4, .ref a5, .ref a6])), (k, .inr (2, [.int 0, .int 1, .int 1, .int 0, .ref g, .int 0, .ref vn, .ref vg, .ref t, .ref r, .int 0, .int 0, .int 9999, .int 0]))]) rfl ?_
  refine j_st (st' := [.int (-1), .ref h, .ref k]) rfl ?_
  refine j_iload (pc := 33) C d_Days_countRows_33 0 rfl ?_
  refine j_iconst (pc := 35) C (v := 0) d_Days_countRows_35 (by decide) ?_
  refine j_callSi (pc := 36) C (c_allows_n l D y k g vn vg t r h (-1) 1 0 (by decide)) kw_Days_43 ks_Days_allows ⟨by decide, by decide⟩ ⟨by decide, by decide⟩ (wr := [(h, .inr (7, [.int d, .int 0, .int 0, .ref a0, .ref a1, .ref a2, .ref a3, .ref a4, .ref a5, .ref a6]))]) [1] [0] rfl rfl (by decide) (by decide) (by decide) (As := [.ref k, .ref h, .int (-1), .int 1, .int 0]) (rest := []) rfl (nb rfl) rfl d_Days_countRows_36 (fun r5 _ hr5 => ?_)
  subst hr5
  refine j_ws (ws' := [(h, .inr (7, [.int d, .int 0, .int 0, .ref a0, .ref a1, .ref a2, .ref a3, .ref a4, .ref a5, .ref a6])), (k, .inr (2, [.int 0, .int 1, .int 1, .int 0, .ref g, .int 0, .ref vn, .ref vg, .ref t, .ref r, .int 0, .int 0, .int 9999, .int 0]))]) rfl ?_
  refine j_st (st' := [.int 0]) rfl ?_
  refine j_if_eqT (pc := 39) C (tgt := 107) d_Days_countRows_39 (by decide) (by decide) ?_
  refine j_iinc (pc := 107) C (v := 2) (lv' := [(5, .int 2), (3, .int 1), (4, .int 0), (0, .ref k), (1, .ref h), (2, .int 1)]) d_Days_countRows_107 0 rfl (by decide) (by decide) rfl ?_
  refine j_goto (pc := 110) C (tgt := 17) d_Days_countRows_110 (by decide) ?_
  refine j_iload (pc := 17) C d_Days_countRows_17 0 rfl ?_
  refine j_iconst (pc := 19) C (v := 3) d_Days_countRows_19 (by decide) ?_
  refine j_icmp_geF (pc := 20) C (tgt := 113) d_Days_countRows_20 (by decide) (by decide) ?_
  refine j_aload_n (pc := 23) C d_Days_countRows_23 rfl 3 rfl ?_
  refine j_aload_n (pc := 24) C d_Days_countRows_24 rfl 4 rfl ?_
  refine j_aload_n (pc := 25) C d_Days_countRows_25 rfl 3 rfl ?_
  refine j_aload_n (pc := 26) C d_Days_countRows_26 rfl 4 rfl ?_
  refine j_get (pc := 27) C gf_Days_59 0 rfl rfl d_Days_countRows_27 ?_
  refine j_callVi (pc := 30) C (c_villageOn l D y k g vn vg t r d) kw_Days_109 kv_Lake_villageOn 0 2 rfl rfl ⟨by decide, by decide⟩ ⟨by decide, by decide⟩ (wr := [(h, .inr (7, [.int d, .int 0, .int 0, .ref a0, .ref a1, .ref a2, .ref a3, .ref a4, .ref a5, .ref a6]))]) [1] [0] rfl rfl (by decide) (by decide) (by decide) (As := [.int d]) (rest := [.ref h, .ref k]) rfl (nb rfl) rfl d_Days_countRows_30 (fun r6 _ hr6 => ?_)
  subst hr6
  refine j_ws (ws' := [(h, .inr (7, [.int d, .int 0, .int 0, .ref a0, .ref a1, .ref a2, .ref a3, .ref a4, .ref a5, .ref a6])), (k, .inr (2, [.int 0, .int 1, .int 1, .int 0, .ref g, .int 0, .ref vn, .ref vg, .ref t, .ref r, .int 0, .int 0, .int 9999, .int 0]))]) rfl ?_
  refine j_st (st' := [.int (-1), .ref h, .ref k]) rfl ?_
  refine j_iload (pc := 33) C d_Days_countRows_33 0 rfl ?_
  refine j_iconst (pc := 35) C (v := 0) d_Days_countRows_35 (by decide) ?_
  refine j_callSi (pc := 36) C (c_allows_n l D y k g vn vg t r h (-1) 2 0 (by decide)) kw_Days_43 ks_Days_allows ⟨by decide, by decide⟩ ⟨by decide, by decide⟩ (wr := [(h, .inr (7, [.int d, .int 0, .int 0, .ref a0, .ref a1, .ref a2, .ref a3, .ref a4, .ref a5, .ref a6]))]) [1] [0] rfl rfl (by decide) (by decide) (by decide) (As := [.ref k, .ref h, .int (-1), .int 2, .int 0]) (rest := []) rfl (nb rfl) rfl d_Days_countRows_36 (fun r7 _ hr7 => ?_)
  subst hr7
  refine j_ws (ws' := [(h, .inr (7, [.int d, .int 0, .int 0, .ref a0, .ref a1, .ref a2, .ref a3, .ref a4, .ref a5, .ref a6])), (k, .inr (2, [.int 0, .int 1, .int 1, .int 0, .ref g, .int 0, .ref vn, .ref vg, .ref t, .ref r, .int 0, .int 0, .int 9999, .int 0]))]) rfl ?_
  refine j_st (st' := [.int 0]) rfl ?_
  refine j_if_eqT (pc := 39) C (tgt := 107) d_Days_countRows_39 (by decide) (by decide) ?_
  refine j_iinc (pc := 107) C (v := 3) (lv' := [(5, .int 3), (3, .int 1), (4, .int 0), (0, .ref k), (1, .ref h), (2, .int 1)]) d_Days_countRows_107 0 rfl (by decide) (by decide) rfl ?_
  refine j_goto (pc := 110) C (tgt := 17) d_Days_countRows_110 (by decide) ?_
  refine j_iload (pc := 17) C d_Days_countRows_17 0 rfl ?_
  refine j_iconst (pc := 19) C (v := 3) d_Days_countRows_19 (by decide) ?_
  refine j_icmp_geT (pc := 20) C (tgt := 113) d_Days_countRows_20 (by decide) (by decide) ?_
  refine j_iload_n (pc := 113) C d_Days_countRows_113 rfl 1 rfl ?_
  exact j_iret (pc := 114) C hr rfl () rfl [1, 0] rfl (by decide) (by decide) (by decide) d_Days_countRows_114
set_option maxHeartbeats 4000000 in
set_option maxRecDepth 100000 in
theorem c_countRows_2 (l : Launch) (D : va_G) (y : Nat → ClassId) (k : Nat) (h : Nat) (g : Nat) (vn : Nat) (vg : Nat) (t : Nat) (r : Nat) (d : Int32) (a0 : Nat) (a1 : Nat) (a2 : Nat) (a3 : Nat) (a4 : Nat) (a5 : Nat) (a6 : Nat)  : CT l D y ⟨"NineBoards$Days", "countRows", "(LNineBoards$Lake;LNineBoards$State;I)I"⟩ prog_3_method_14_code 6 (some .int) ({ frames := 3, cells := 0, slots := 0, locals := 72 } : Room) [.ref k, .ref h, .int 2] [(k, .inr (2, [.int 0, .int 1, .int 1, .int 0, .ref g, .int 0, .ref vn, .ref vg, .ref t, .ref r, .int 0, .int 0, .int 9999, .int 0])), (h, .inr (7, [.int d, .int 0, .int 0, .ref a0, .ref a1, .ref a2, .ref a3, .ref a4, .ref a5, .ref a6]))] (QI D [(k, .inr (2, [.int 0, .int 1, .int 1, .int 0, .ref g, .int 0, .ref vn, .ref vg, .ref t, .ref r, .int 0, .int 0, .int 9999, .int 0])), (h, .inr (7, [.int d, .int 0, .int 0, .ref a0, .ref a1, .ref a2, .ref a3, .ref a4, .ref a5, .ref a6]))] (fun (r : Int32) (_ : Unit) => r = 1) (fun _ => [(k, .inr (2, [.int 0, .int 1, .int 1, .int 0, .ref g, .int 0, .ref vn, .ref vg, .ref t, .ref r, .int 0, .int 0, .int 9999, .int 0])), (h, .inr (7, [.int d, .int 0, .int 0, .ref a0, .ref a1, .ref a2, .ref a3, .ref a4, .ref a5, .ref a6]))])) := by
  refine CT.of (by decide) (nb rfl) ?_
  intro p e s m args below meth c C hr
  refine j_lv (lv' := [(0, .ref k), (1, .ref h), (2, .int 2)]) rfl ?_
  refine j_iload_n (pc := 0) C d_Days_countRows_0 rfl 2 rfl ?_
  refine j_if_gtT (pc := 1) C (tgt := 6) d_Days_countRows_1 (by decide) (by decide) ?_
  refine j_iconst (pc := 6) C (v := 0) d_Days_countRows_6 (by decide) ?_
  refine j_istore_n (pc := 7) C (lv' := [(3, .int 0), (0, .ref k), (1, .ref h), (2, .int 2)]) d_Days_countRows_7 rfl (by decide) rfl ?_
  refine j_aload_n (pc := 8) C d_Days_countRows_8 rfl 2 rfl ?_
  refine j_get (pc := 9) C gf_Days_15 1 rfl rfl d_Days_countRows_9 ?_
  refine j_istore (pc := 12) C (lv' := [(4, .int 0), (3, .int 0), (0, .ref k), (1, .ref h), (2, .int 2)]) d_Days_countRows_12 (by decide) rfl ?_
  refine j_iconst (pc := 14) C (v := 0) d_Days_countRows_14 (by decide) ?_
  refine j_istore (pc := 15) C (lv' := [(5, .int 0), (4, .int 0), (3, .int 0), (0, .ref k), (1, .ref h), (2, .int 2)]) d_Days_countRows_15 (by decide) rfl ?_
  refine j_iload (pc := 17) C d_Days_countRows_17 0 rfl ?_
  refine j_iconst (pc := 19) C (v := 3) d_Days_countRows_19 (by decide) ?_
  refine j_icmp_geF (pc := 20) C (tgt := 113) d_Days_countRows_20 (by decide) (by decide) ?_
  refine j_aload_n (pc := 23) C d_Days_countRows_23 rfl 3 rfl ?_
  refine j_aload_n (pc := 24) C d_Days_countRows_24 rfl 4 rfl ?_
  refine j_aload_n (pc := 25) C d_Days_countRows_25 rfl 3 rfl ?_
  refine j_aload_n (pc := 26) C d_Days_countRows_26 rfl 4 rfl ?_
  refine j_get (pc := 27) C gf_Days_59 1 rfl rfl d_Days_countRows_27 ?_
  refine j_callVi (pc := 30) C (c_villageOn l D y k g vn vg t r d) kw_Days_109 kv_Lake_villageOn 0 2 rfl rfl ⟨by decide, by decide⟩ ⟨by decide, by decide⟩ (wr := [(h, .inr (7, [.int d, .int 0, .int 0, .ref a0, .ref a1, .ref a2, .ref a3, .ref a4, .ref a5, .ref a6]))]) [0] [1] rfl rfl (by decide) (by decide) (by decide) (As := [.int d]) (rest := [.ref h, .ref k]) rfl (nb rfl) rfl d_Days_countRows_30 (fun r1 _ hr1 => ?_)
  subst hr1
  refine j_ws (ws' := [(h, .inr (7, [.int d, .int 0, .int 0, .ref a0, .ref a1, .ref a2, .ref a3, .ref a4, .ref a5, .ref a6])), (k, .inr (2, [.int 0, .int 1, .int 1, .int 0, .ref g, .int 0, .ref vn, .ref vg, .ref t, .ref r, .int 0, .int 0, .int 9999, .int 0]))]) rfl ?_
  refine j_st (st' := [.int (-1), .ref h, .ref k]) rfl ?_
  refine j_iload (pc := 33) C d_Days_countRows_33 0 rfl ?_
  refine j_iconst (pc := 35) C (v := 0) d_Days_countRows_35 (by decide) ?_
  refine j_callSi (pc := 36) C (c_allows_0 l D y k h (-1) 0) kw_Days_43 ks_Days_allows ⟨by decide, by decide⟩ ⟨by decide, by decide⟩ (wr := [(h, .inr (7, [.int d, .int 0, .int 0, .ref a0, .ref a1, .ref a2, .ref a3, .ref a4, .ref a5, .ref a6])), (k, .inr (2, [.int 0, .int 1, .int 1, .int 0, .ref g, .int 0, .ref vn, .ref vg, .ref t, .ref r, .int 0, .int 0, .int 9999, .int 0]))]) [] [0, 1] rfl rfl (by decide) (by decide) (by decide) (As := [.ref k, .ref h, .int (-1), .int 0, .int 0]) (rest := []) rfl (nb rfl) rfl d_Days_countRows_36 (fun r2 _ hr2 => ?_)
  subst hr2
  refine j_ws (ws' := [(h, .inr (7, [.int d, .int 0, .int 0, .ref a0, .ref a1, .ref a2, .ref a3, .ref a4, .ref a5, .ref a6])), (k, .inr (2, [.int 0, .int 1, .int 1, .int 0, .ref g, .int 0, .ref vn, .ref vg, .ref t, .ref r, .int 0, .int 0, .int 9999, .int 0]))]) rfl ?_
  refine j_st (st' := [.int 1]) rfl ?_
  refine j_if_eqF (pc := 39) C (tgt := 107) d_Days_countRows_39 (by decide) (by decide) ?_
  refine j_aload_n (pc := 42) C d_Days_countRows_42 rfl 3 rfl ?_
  refine j_aload_n (pc := 43) C d_Days_countRows_43 rfl 4 rfl ?_
  refine j_iload (pc := 44) C d_Days_countRows_44 0 rfl ?_
  refine j_callSv (pc := 46) C (c_doAct l D y k h) kw_Days_47 ks_Days_doAct ⟨by decide, by decide⟩ ⟨by decide, by decide⟩ (wr := [(h, .inr (7, [.int d, .int 0, .int 0, .ref a0, .ref a1, .ref a2, .ref a3, .ref a4, .ref a5, .ref a6])), (k, .inr (2, [.int 0, .int 1, .int 1, .int 0, .ref g, .int 0, .ref vn, .ref vg, .ref t, .ref r, .int 0, .int 0, .int 9999, .int 0]))]) [] [0, 1] rfl rfl (by decide) (by decide) (by decide) (As := [.ref k, .ref h, .int 0]) (rest := []) rfl (nb rfl) rfl d_Days_countRows_46 (fun _ _ => ?_)
  refine j_ws (ws' := [(h, .inr (7, [.int d, .int 0, .int 0, .ref a0, .ref a1, .ref a2, .ref a3, .ref a4, .ref a5, .ref a6])), (k, .inr (2, [.int 0, .int 1, .int 1, .int 0, .ref g, .int 0, .ref vn, .ref vg, .ref t, .ref r, .int 0, .int 0, .int 9999, .int 0]))]) rfl ?_
  refine j_aload_n (pc := 49) C d_Days_countRows_49 rfl 4 rfl ?_
  refine j_dup (pc := 50) C d_Days_countRows_50 rfl ?_
  refine j_get (pc := 51) C gf_Days_59 0 rfl rfl d_Days_countRows_51 ?_
  refine j_iconst (pc := 54) C (v := 1) d_Days_countRows_54 (by decide) ?_
  refine j_iadd (pc := 55) C (v := d + 1) d_Days_countRows_55 rfl ?_
  refine j_put (pc := 56) C pf_Days_59 0 (ws' := [(h, .inr (7, [.int (d + 1), .int 0, .int 0, .ref a0, .ref a1, .ref a2, .ref a3, .ref a4, .ref a5, .ref a6])), (k, .inr (2, [.int 0, .int 1, .int 1, .int 0, .ref g, .int 0, .ref vn, .ref vg, .ref t, .ref r, .int 0, .int 0, .int 9999, .int 0]))]) rfl rfl rfl (nl rfl) rfl d_Days_countRows_56 ?_
  refine j_iload_n (pc := 59) C d_Days_countRows_59 rfl 2 rfl ?_
  refine j_aload_n (pc := 60) C d_Days_countRows_60 rfl 3 rfl ?_
  refine j_aload_n (pc := 61) C d_Days_countRows_61 rfl 4 rfl ?_
  refine j_iload_n (pc := 62) C d_Days_countRows_62 rfl 5 rfl ?_
  refine j_iconst (pc := 63) C (v := 1) d_Days_countRows_63 (by decide) ?_
  refine j_isub (pc := 64) C (v := 1) d_Days_countRows_64 (by decide) ?_
  refine j_callSi (pc := 65) C (c_countRows_1 l D y k h g vn vg t r (d + 1) a0 a1 a2 a3 a4 a5 a6) kw_Days_159 ks_Days_countRows ⟨by decide, by decide⟩ ⟨by decide, by decide⟩ (wr := []) [1, 0] [] rfl rfl (by decide) (by decide) (by decide) (As := [.ref k, .ref h, .int 1]) (rest := [.int 0]) rfl (nb rfl) rfl d_Days_countRows_65 (fun r3 _ hr3 => ?_)
  subst hr3
  refine j_ws (ws' := [(k, .inr (2, [.int 0, .int 1, .int 1, .int 0, .ref g, .int 0, .ref vn, .ref vg, .ref t, .ref r, .int 0, .int 0, .int 9999, .int 0])), (h, .inr (7, [.int (d + 1), .int 0, .int 0, .ref a0, .ref a1, .ref a2, .ref a3, .ref a4, .ref a5, .ref a6]))]) rfl ?_
  refine j_st (st' := [.int 1, .int 0]) rfl ?_
  refine j_iadd (pc := 68) C (v := 1) d_Days_countRows_68 (by decide) ?_
  refine j_istore_n (pc := 69) C (lv' := [(3, .int 1), (5, .int 0), (4, .int 0), (0, .ref k), (1, .ref h), (2, .int 2)]) d_Days_countRows_69 rfl (by decide) rfl ?_
  refine j_aload_n (pc := 70) C d_Days_countRows_70 rfl 4 rfl ?_
  refine j_dup (pc := 71) C d_Days_countRows_71 rfl ?_
  refine j_get (pc := 72) C gf_Days_59 1 rfl rfl d_Days_countRows_72 ?_
  refine j_iconst (pc := 75) C (v := 1) d_Days_countRows_75 (by decide) ?_
  refine j_isub (pc := 76) C (v := d) d_Days_countRows_76 (d_back d) ?_
  refine j_put (pc := 77) C pf_Days_59 1 (ws' := [(k, .inr (2, [.int 0, .int 1, .int 1, .int 0, .ref g, .int 0, .ref vn, .ref vg, .ref t, .ref r, .int 0, .int 0, .int 9999, .int 0])), (h, .inr (7, [.int d, .int 0, .int 0, .ref a0, .ref a1, .ref a2, .ref a3, .ref a4, .ref a5, .ref a6]))]) rfl rfl rfl (nl rfl) rfl d_Days_countRows_77 ?_
  refine j_iload (pc := 80) C d_Days_countRows_80 1 rfl ?_
  refine j_if_eqT (pc := 82) C (tgt := 101) d_Days_countRows_82 (by decide) (by decide) ?_
  refine j_aload_n (pc := 101) C d_Days_countRows_101 rfl 4 rfl ?_
  refine j_iload (pc := 102) C d_Days_countRows_102 2 rfl ?_
  refine j_put (pc := 104) C pf_Days_15 1 (ws' := [(k, .inr (2, [.int 0, .int 1, .int 1, .int 0, .ref g, .int 0, .ref vn, .ref vg, .ref t, .ref r, .int 0, .int 0, .int 9999, .int 0])), (h, .inr (7, [.int d, .int 0, .int 0, .ref a0, .ref a1, .ref a2, .ref a3, .ref a4, .ref a5, .ref a6]))]) rfl rfl rfl (nl rfl) rfl d_Days_countRows_104 ?_
  refine j_iinc (pc := 107) C (v := 1) (lv' := [(5, .int 1), (3, .int 1), (4, .int 0), (0, .ref k), (1, .ref h), (2, .int 2)]) d_Days_countRows_107 1 rfl (by decide) (by decide) rfl ?_
  refine j_goto (pc := 110) C (tgt := 17) d_Days_countRows_110 (by decide) ?_
  refine j_iload (pc := 17) C d_Days_countRows_17 0 rfl ?_
  refine j_iconst (pc := 19) C (v := 3) d_Days_countRows_19 (by decide) ?_
  refine j_icmp_geF (pc := 20) C (tgt := 113) d_Days_countRows_20 (by decide) (by decide) ?_
  refine j_aload_n (pc := 23) C d_Days_countRows_23 rfl 3 rfl ?_
  refine j_aload_n (pc := 24) C d_Days_countRows_24 rfl 4 rfl ?_
  refine j_aload_n (pc := 25) C d_Days_countRows_25 rfl 3 rfl ?_
  refine j_aload_n (pc := 26) C d_Days_countRows_26 rfl 4 rfl ?_
  refine j_get (pc := 27) C gf_Days_59 1 rfl rfl d_Days_countRows_27 ?_
  refine j_callVi (pc := 30) C (c_villageOn l D y k g vn vg t r d) kw_Days_109 kv_Lake_villageOn 0 2 rfl rfl ⟨by decide, by decide⟩ ⟨by decide, by decide⟩ (wr := [(h, .inr (7, [.int d, .int 0, .int 0, .ref a0, .ref a1, .ref a2, .ref a3, .ref a4, .ref a5, .ref a6]))]) [0] [1] rfl rfl (by decide) (by decide) (by decide) (As := [.int d]) (rest := [.ref h, .ref k]) rfl (nb rfl) rfl d_Days_countRows_30 (fun r4 _ hr4 => ?_)
  subst hr4
  refine j_ws (ws' := [(h, .inr (7, [.int d, .int 0, .int 0, .ref a0, .ref a1, .ref a2, .ref a3, .ref a4, .ref a5, .ref a6])), (k, .inr (2, [.int 0, .int 1, .int 1, .int 0, .ref g, .int 0, .ref vn, .ref vg, .ref t, .ref r, .int 0, .int 0, .int 9999, .int 0]))]) rfl ?_
  refine j_st (st' := [.int (-1), .ref h, .ref k]) rfl ?_
  refine j_iload (pc := 33) C d_Days_countRows_33 0 rfl ?_
  refine j_iconst (pc := 35) C (v := 0) d_Days_countRows_35 (by decide) ?_
  refine j_callSi (pc := 36) C (c_allows_n l D y k g vn vg t r h (-1) 1 0 (by decide)) kw_Days_43 ks_Days_allows ⟨by decide, by decide⟩ ⟨by decide, by decide⟩ (wr := [(h, .inr (7, [.int d, .int 0, .int 0, .ref a0, .ref a1, .ref a2, .ref a3, .ref a4, .ref a5, .ref a6]))]) [1] [0] rfl rfl (by decide) (by decide) (by decide) (As := [.ref k, .ref h, .int (-1), .int 1, .int 0]) (rest := []) rfl (nb rfl) rfl d_Days_countRows_36 (fun r5 _ hr5 => ?_)
  subst hr5
  refine j_ws (ws' := [(h, .inr (7, [.int d, .int 0, .int 0, .ref a0, .ref a1, .ref a2, .ref a3, .ref a4, .ref a5, .ref a6])), (k, .inr (2, [.int 0, .int 1, .int 1, .int 0, .ref g, .int 0, .ref vn, .ref vg, .ref t, .ref r, .int 0, .int 0, .int 9999, .int 0]))]) rfl ?_
  refine j_st (st' := [.int 0]) rfl ?_
  refine j_if_eqT (pc := 39) C (tgt := 107) d_Days_countRows_39 (by decide) (by decide) ?_
  refine j_iinc (pc := 107) C (v := 2) (lv' := [(5, .int 2), (3, .int 1), (4, .int 0), (0, .ref k), (1, .ref h), (2, .int 2)]) d_Days_countRows_107 0 rfl (by decide) (by decide) rfl ?_
  refine j_goto (pc := 110) C (tgt := 17) d_Days_countRows_110 (by decide) ?_
  refine j_iload (pc := 17) C d_Days_countRows_17 0 rfl ?_
  refine j_iconst (pc := 19) C (v := 3) d_Days_countRows_19 (by decide) ?_
  refine j_icmp_geF (pc := 20) C (tgt := 113) d_Days_countRows_20 (by decide) (by decide) ?_
  refine j_aload_n (pc := 23) C d_Days_countRows_23 rfl 3 rfl ?_
  refine j_aload_n (pc := 24) C d_Days_countRows_24 rfl 4 rfl ?_
  refine j_aload_n (pc := 25) C d_Days_countRows_25 rfl 3 rfl ?_
  refine j_aload_n (pc := 26) C d_Days_countRows_26 rfl 4 rfl ?_
  refine j_get (pc := 27) C gf_Days_59 0 rfl rfl d_Days_countRows_27 ?_
  refine j_callVi (pc := 30) C (c_villageOn l D y k g vn vg t r d) kw_Days_109 kv_Lake_villageOn 0 2 rfl rfl ⟨by decide, by decide⟩ ⟨by decide, by decide⟩ (wr := [(h, .inr (7, [.int d, .int 0, .int 0, .ref a0, .ref a1, .ref a2, .ref a3, .ref a4, .ref a5, .ref a6]))]) [1] [0] rfl rfl (by decide) (by decide) (by decide) (As := [.int d]) (rest := [.ref h, .ref k]) rfl (nb rfl) rfl d_Days_countRows_30 (fun r6 _ hr6 => ?_)
  subst hr6
  refine j_ws (ws' := [(h, .inr (7, [.int d, .int 0, .int 0, .ref a0, .ref a1, .ref a2, .ref a3, .ref a4, .ref a5, .ref a6])), (k, .inr (2, [.int 0, .int 1, .int 1, .int 0, .ref g, .int 0, .ref vn, .ref vg, .ref t, .ref r, .int 0, .int 0, .int 9999, .int 0]))]) rfl ?_
  refine j_st (st' := [.int (-1), .ref h, .ref k]) rfl ?_
  refine j_iload (pc := 33) C d_Days_countRows_33 0 rfl ?_
  refine j_iconst (pc := 35) C (v := 0) d_Days_countRows_35 (by decide) ?_
  refine j_callSi (pc := 36) C (c_allows_n l D y k g vn vg t r h (-1) 2 0 (by decide)) kw_Days_43 ks_Days_allows ⟨by decide, by decide⟩ ⟨by decide, by decide⟩ (wr := [(h, .inr (7, [.int d, .int 0, .int 0, .ref a0, .ref a1, .ref a2, .ref a3, .ref a4, .ref a5, .ref a6]))]) [1] [0] rfl rfl (by decide) (by decide) (by decide) (As := [.ref k, .ref h, .int (-1), .int 2, .int 0]) (rest := []) rfl (nb rfl) rfl d_Days_countRows_36 (fun r7 _ hr7 => ?_)
  subst hr7
  refine j_ws (ws' := [(h, .inr (7, [.int d, .int 0, .int 0, .ref a0, .ref a1, .ref a2, .ref a3, .ref a4, .ref a5, .ref a6])), (k, .inr (2, [.int 0, .int 1, .int 1, .int 0, .ref g, .int 0, .ref vn, .ref vg, .ref t, .ref r, .int 0, .int 0, .int 9999, .int 0]))]) rfl ?_
  refine j_st (st' := [.int 0]) rfl ?_
  refine j_if_eqT (pc := 39) C (tgt := 107) d_Days_countRows_39 (by decide) (by decide) ?_
  refine j_iinc (pc := 107) C (v := 3) (lv' := [(5, .int 3), (3, .int 1), (4, .int 0), (0, .ref k), (1, .ref h), (2, .int 2)]) d_Days_countRows_107 0 rfl (by decide) (by decide) rfl ?_
  refine j_goto (pc := 110) C (tgt := 17) d_Days_countRows_110 (by decide) ?_
  refine j_iload (pc := 17) C d_Days_countRows_17 0 rfl ?_
  refine j_iconst (pc := 19) C (v := 3) d_Days_countRows_19 (by decide) ?_
  refine j_icmp_geT (pc := 20) C (tgt := 113) d_Days_countRows_20 (by decide) (by decide) ?_
  refine j_iload_n (pc := 113) C d_Days_countRows_113 rfl 1 rfl ?_
  exact j_iret (pc := 114) C hr rfl () rfl [1, 0] rfl (by decide) (by decide) (by decide) d_Days_countRows_114
set_option maxHeartbeats 4000000 in
set_option maxRecDepth 100000 in
theorem c_countRows_3 (l : Launch) (D : va_G) (y : Nat → ClassId) (k : Nat) (h : Nat) (g : Nat) (vn : Nat) (vg : Nat) (t : Nat) (r : Nat) (d : Int32) (a0 : Nat) (a1 : Nat) (a2 : Nat) (a3 : Nat) (a4 : Nat) (a5 : Nat) (a6 : Nat)  : CT l D y ⟨"NineBoards$Days", "countRows", "(LNineBoards$Lake;LNineBoards$State;I)I"⟩ prog_3_method_14_code 6 (some .int) ({ frames := 4, cells := 0, slots := 0, locals := 97 } : Room) [.ref k, .ref h, .int 3] [(k, .inr (2, [.int 0, .int 1, .int 1, .int 0, .ref g, .int 0, .ref vn, .ref vg, .ref t, .ref r, .int 0, .int 0, .int 9999, .int 0])), (h, .inr (7, [.int d, .int 0, .int 0, .ref a0, .ref a1, .ref a2, .ref a3, .ref a4, .ref a5, .ref a6]))] (QI D [(k, .inr (2, [.int 0, .int 1, .int 1, .int 0, .ref g, .int 0, .ref vn, .ref vg, .ref t, .ref r, .int 0, .int 0, .int 9999, .int 0])), (h, .inr (7, [.int d, .int 0, .int 0, .ref a0, .ref a1, .ref a2, .ref a3, .ref a4, .ref a5, .ref a6]))] (fun (r : Int32) (_ : Unit) => r = 1) (fun _ => [(k, .inr (2, [.int 0, .int 1, .int 1, .int 0, .ref g, .int 0, .ref vn, .ref vg, .ref t, .ref r, .int 0, .int 0, .int 9999, .int 0])), (h, .inr (7, [.int d, .int 0, .int 0, .ref a0, .ref a1, .ref a2, .ref a3, .ref a4, .ref a5, .ref a6]))])) := by
  refine CT.of (by decide) (nb rfl) ?_
  intro p e s m args below meth c C hr
  refine j_lv (lv' := [(0, .ref k), (1, .ref h), (2, .int 3)]) rfl ?_
  refine j_iload_n (pc := 0) C d_Days_countRows_0 rfl 2 rfl ?_
  refine j_if_gtT (pc := 1) C (tgt := 6) d_Days_countRows_1 (by decide) (by decide) ?_
  refine j_iconst (pc := 6) C (v := 0) d_Days_countRows_6 (by decide) ?_
  refine j_istore_n (pc := 7) C (lv' := [(3, .int 0), (0, .ref k), (1, .ref h), (2, .int 3)]) d_Days_countRows_7 rfl (by decide) rfl ?_
  refine j_aload_n (pc := 8) C d_Days_countRows_8 rfl 2 rfl ?_
  refine j_get (pc := 9) C gf_Days_15 1 rfl rfl d_Days_countRows_9 ?_
  refine j_istore (pc := 12) C (lv' := [(4, .int 0), (3, .int 0), (0, .ref k), (1, .ref h), (2, .int 3)]) d_Days_countRows_12 (by decide) rfl ?_
  refine j_iconst (pc := 14) C (v := 0) d_Days_countRows_14 (by decide) ?_
  refine j_istore (pc := 15) C (lv' := [(5, .int 0), (4, .int 0), (3, .int 0), (0, .ref k), (1, .ref h), (2, .int 3)]) d_Days_countRows_15 (by decide) rfl ?_
  refine j_iload (pc := 17) C d_Days_countRows_17 0 rfl ?_
  refine j_iconst (pc := 19) C (v := 3) d_Days_countRows_19 (by decide) ?_
  refine j_icmp_geF (pc := 20) C (tgt := 113) d_Days_countRows_20 (by decide) (by decide) ?_
  refine j_aload_n (pc := 23) C d_Days_countRows_23 rfl 3 rfl ?_
  refine j_aload_n (pc := 24) C d_Days_countRows_24 rfl 4 rfl ?_
  refine j_aload_n (pc := 25) C d_Days_countRows_25 rfl 3 rfl ?_
  refine j_aload_n (pc := 26) C d_Days_countRows_26 rfl 4 rfl ?_
  refine j_get (pc := 27) C gf_Days_59 1 rfl rfl d_Days_countRows_27 ?_
  refine j_callVi (pc := 30) C (c_villageOn l D y k g vn vg t r d) kw_Days_109 kv_Lake_villageOn 0 2 rfl rfl ⟨by decide, by decide⟩ ⟨by decide, by decide⟩ (wr := [(h, .inr (7, [.int d, .int 0, .int 0, .ref a0, .ref a1, .ref a2, .ref a3, .ref a4, .ref a5, .ref a6]))]) [0] [1] rfl rfl (by decide) (by decide) (by decide) (As := [.int d]) (rest := [.ref h, .ref k]) rfl (nb rfl) rfl d_Days_countRows_30 (fun r1 _ hr1 => ?_)
  subst hr1
  refine j_ws (ws' := [(h, .inr (7, [.int d, .int 0, .int 0, .ref a0, .ref a1, .ref a2, .ref a3, .ref a4, .ref a5, .ref a6])), (k, .inr (2, [.int 0, .int 1, .int 1, .int 0, .ref g, .int 0, .ref vn, .ref vg, .ref t, .ref r, .int 0, .int 0, .int 9999, .int 0]))]) rfl ?_
  refine j_st (st' := [.int (-1), .ref h, .ref k]) rfl ?_
  refine j_iload (pc := 33) C d_Days_countRows_33 0 rfl ?_
  refine j_iconst (pc := 35) C (v := 0) d_Days_countRows_35 (by decide) ?_
  refine j_callSi (pc := 36) C (c_allows_0 l D y k h (-1) 0) kw_Days_43 ks_Days_allows ⟨by decide, by decide⟩ ⟨by decide, by decide⟩ (wr := [(h, .inr (7, [.int d, .int 0, .int 0, .ref a0, .ref a1, .ref a2, .ref a3, .ref a4, .ref a5, .ref a6])), (k, .inr (2, [.int 0, .int 1, .int 1, .int 0, .ref g, .int 0, .ref vn, .ref vg, .ref t, .ref r, .int 0, .int 0, .int 9999, .int 0]))]) [] [0, 1] rfl rfl (by decide) (by decide) (by decide) (As := [.ref k, .ref h, .int (-1), .int 0, .int 0]) (rest := []) rfl (nb rfl) rfl d_Days_countRows_36 (fun r2 _ hr2 => ?_)
  subst hr2
  refine j_ws (ws' := [(h, .inr (7, [.int d, .int 0, .int 0, .ref a0, .ref a1, .ref a2, .ref a3, .ref a4, .ref a5, .ref a6])), (k, .inr (2, [.int 0, .int 1, .int 1, .int 0, .ref g, .int 0, .ref vn, .ref vg, .ref t, .ref r, .int 0, .int 0, .int 9999, .int 0]))]) rfl ?_
  refine j_st (st' := [.int 1]) rfl ?_
  refine j_if_eqF (pc := 39) C (tgt := 107) d_Days_countRows_39 (by decide) (by decide) ?_
  refine j_aload_n (pc := 42) C d_Days_countRows_42 rfl 3 rfl ?_
  refine j_aload_n (pc := 43) C d_Days_countRows_43 rfl 4 rfl ?_
  refine j_iload (pc := 44) C d_Days_countRows_44 0 rfl ?_
  refine j_callSv (pc := 46) C (c_doAct l D y k h) kw_Days_47 ks_Days_doAct ⟨by decide, by decide⟩ ⟨by decide, by decide⟩ (wr := [(h, .inr (7, [.int d, .int 0, .int 0, .ref a0, .ref a1, .ref a2, .ref a3, .ref a4, .ref a5, .ref a6])), (k, .inr (2, [.int 0, .int 1, .int 1, .int 0, .ref g, .int 0, .ref vn, .ref vg, .ref t, .ref r, .int 0, .int 0, .int 9999, .int 0]))]) [] [0, 1] rfl rfl (by decide) (by decide) (by decide) (As := [.ref k, .ref h, .int 0]) (rest := []) rfl (nb rfl) rfl d_Days_countRows_46 (fun _ _ => ?_)
  refine j_ws (ws' := [(h, .inr (7, [.int d, .int 0, .int 0, .ref a0, .ref a1, .ref a2, .ref a3, .ref a4, .ref a5, .ref a6])), (k, .inr (2, [.int 0, .int 1, .int 1, .int 0, .ref g, .int 0, .ref vn, .ref vg, .ref t, .ref r, .int 0, .int 0, .int 9999, .int 0]))]) rfl ?_
  refine j_aload_n (pc := 49) C d_Days_countRows_49 rfl 4 rfl ?_
  refine j_dup (pc := 50) C d_Days_countRows_50 rfl ?_
  refine j_get (pc := 51) C gf_Days_59 0 rfl rfl d_Days_countRows_51 ?_
  refine j_iconst (pc := 54) C (v := 1) d_Days_countRows_54 (by decide) ?_
  refine j_iadd (pc := 55) C (v := d + 1) d_Days_countRows_55 rfl ?_
  refine j_put (pc := 56) C pf_Days_59 0 (ws' := [(h, .inr (7, [.int (d + 1), .int 0, .int 0, .ref a0, .ref a1, .ref a2, .ref a3, .ref a4, .ref a5, .ref a6])), (k, .inr (2, [.int 0, .int 1, .int 1, .int 0, .ref g, .int 0, .ref vn, .ref vg, .ref t, .ref r, .int 0, .int 0, .int 9999, .int 0]))]) rfl rfl rfl (nl rfl) rfl d_Days_countRows_56 ?_
  refine j_iload_n (pc := 59) C d_Days_countRows_59 rfl 2 rfl ?_
  refine j_aload_n (pc := 60) C d_Days_countRows_60 rfl 3 rfl ?_
  refine j_aload_n (pc := 61) C d_Days_countRows_61 rfl 4 rfl ?_
  refine j_iload_n (pc := 62) C d_Days_countRows_62 rfl 5 rfl ?_
  refine j_iconst (pc := 63) C (v := 1) d_Days_countRows_63 (by decide) ?_
  refine j_isub (pc := 64) C (v := 2) d_Days_countRows_64 (by decide) ?_
  refine j_callSi (pc := 65) C (c_countRows_2 l D y k h g vn vg t r (d + 1) a0 a1 a2 a3 a4 a5 a6) kw_Days_159 ks_Days_countRows ⟨by decide, by decide⟩ ⟨by decide, by decide⟩ (wr := []) [1, 0] [] rfl rfl (by decide) (by decide) (by decide) (As := [.ref k, .ref h, .int 2]) (rest := [.int 0]) rfl (nb rfl) rfl d_Days_countRows_65 (fun r3 _ hr3 => ?_)
  subst hr3
  refine j_ws (ws' := [(k, .inr (2, [.int 0, .int 1, .int 1, .int 0, .ref g, .int 0, .ref vn, .ref vg, .ref t, .ref r, .int 0, .int 0, .int 9999, .int 0])), (h, .inr (7, [.int (d + 1), .int 0, .int 0, .ref a0, .ref a1, .ref a2, .ref a3, .ref a4, .ref a5, .ref a6]))]) rfl ?_
  refine j_st (st' := [.int 1, .int 0]) rfl ?_
  refine j_iadd (pc := 68) C (v := 1) d_Days_countRows_68 (by decide) ?_
  refine j_istore_n (pc := 69) C (lv' := [(3, .int 1), (5, .int 0), (4, .int 0), (0, .ref k), (1, .ref h), (2, .int 3)]) d_Days_countRows_69 rfl (by decide) rfl ?_
  refine j_aload_n (pc := 70) C d_Days_countRows_70 rfl 4 rfl ?_
  refine j_dup (pc := 71) C d_Days_countRows_71 rfl ?_
  refine j_get (pc := 72) C gf_Days_59 1 rfl rfl d_Days_countRows_72 ?_
  refine j_iconst (pc := 75) C (v := 1) d_Days_countRows_75 (by decide) ?_
  refine j_isub (pc := 76) C (v := d) d_Days_countRows_76 (d_back d) ?_
  refine j_put (pc := 77) C pf_Days_59 1 (ws' := [(k, .inr (2, [.int 0, .int 1, .int 1, .int 0, .ref g, .int 0, .ref vn, .ref vg, .ref t, .ref r, .int 0, .int 0, .int 9999, .int 0])), (h, .inr (7, [.int d, .int 0, .int 0, .ref a0, .ref a1, .ref a2, .ref a3, .ref a4, .ref a5, .ref a6]))]) rfl rfl rfl (nl rfl) rfl d_Days_countRows_77 ?_
  refine j_iload (pc := 80) C d_Days_countRows_80 1 rfl ?_
  refine j_if_eqT (pc := 82) C (tgt := 101) d_Days_countRows_82 (by decide) (by decide) ?_
  refine j_aload_n (pc := 101) C d_Days_countRows_101 rfl 4 rfl ?_
  refine j_iload (pc := 102) C d_Days_countRows_102 2 rfl ?_
  refine j_put (pc := 104) C pf_Days_15 1 (ws' := [(k, .inr (2, [.int 0, .int 1, .int 1, .int 0, .ref g, .int 0, .ref vn, .ref vg, .ref t, .ref r, .int 0, .int 0, .int 9999, .int 0])), (h, .inr (7, [.int d, .int 0, .int 0, .ref a0, .ref a1, .ref a2, .ref a3, .ref a4, .ref a5, .ref a6]))]) rfl rfl rfl (nl rfl) rfl d_Days_countRows_104 ?_
  refine j_iinc (pc := 107) C (v := 1) (lv' := [(5, .int 1), (3, .int 1), (4, .int 0), (0, .ref k), (1, .ref h), (2, .int 3)]) d_Days_countRows_107 1 rfl (by decide) (by decide) rfl ?_
  refine j_goto (pc := 110) C (tgt := 17) d_Days_countRows_110 (by decide) ?_
  refine j_iload (pc := 17) C d_Days_countRows_17 0 rfl ?_
  refine j_iconst (pc := 19) C (v := 3) d_Days_countRows_19 (by decide) ?_
  refine j_icmp_geF (pc := 20) C (tgt := 113) d_Days_countRows_20 (by decide) (by decide) ?_
  refine j_aload_n (pc := 23) C d_Days_countRows_23 rfl 3 rfl ?_
  refine j_aload_n (pc := 24) C d_Days_countRows_24 rfl 4 rfl ?_
  refine j_aload_n (pc := 25) C d_Days_countRows_25 rfl 3 rfl ?_
  refine j_aload_n (pc := 26) C d_Days_countRows_26 rfl 4 rfl ?_
  refine j_get (pc := 27) C gf_Days_59 1 rfl rfl d_Days_countRows_27 ?_
  refine j_callVi (pc := 30) C (c_villageOn l D y k g vn vg t r d) kw_Days_109 kv_Lake_villageOn 0 2 rfl rfl ⟨by decide, by decide⟩ ⟨by decide, by decide⟩ (wr := [(h, .inr (7, [.int d, .int 0, .int 0, .ref a0, .ref a1, .ref a2, .ref a3, .ref a4, .ref a5, .ref a6]))]) [0] [1] rfl rfl (by decide) (by decide) (by decide) (As := [.int d]) (rest := [.ref h, .ref k]) rfl (nb rfl) rfl d_Days_countRows_30 (fun r4 _ hr4 => ?_)
  subst hr4
  refine j_ws (ws' := [(h, .inr (7, [.int d, .int 0, .int 0, .ref a0, .ref a1, .ref a2, .ref a3, .ref a4, .ref a5, .ref a6])), (k, .inr (2, [.int 0, .int 1, .int 1, .int 0, .ref g, .int 0, .ref vn, .ref vg, .ref t, .ref r, .int 0, .int 0, .int 9999, .int 0]))]) rfl ?_
  refine j_st (st' := [.int (-1), .ref h, .ref k]) rfl ?_
  refine j_iload (pc := 33) C d_Days_countRows_33 0 rfl ?_
  refine j_iconst (pc := 35) C (v := 0) d_Days_countRows_35 (by decide) ?_
  refine j_callSi (pc := 36) C (c_allows_n l D y k g vn vg t r h (-1) 1 0 (by decide)) kw_Days_43 ks_Days_allows ⟨by decide, by decide⟩ ⟨by decide, by decide⟩ (wr := [(h, .inr (7, [.int d, .int 0, .int 0, .ref a0, .ref a1, .ref a2, .ref a3, .ref a4, .ref a5, .ref a6]))]) [1] [0] rfl rfl (by decide) (by decide) (by decide) (As := [.ref k, .ref h, .int (-1), .int 1, .int 0]) (rest := []) rfl (nb rfl) rfl d_Days_countRows_36 (fun r5 _ hr5 => ?_)
  subst hr5
  refine j_ws (ws' := [(h, .inr (7, [.int d, .int 0, .int 0, .ref a0, .ref a1, .ref a2, .ref a3, .ref a4, .ref a5, .ref a6])), (k, .inr (2, [.int 0, .int 1, .int 1, .int 0, .ref g, .int 0, .ref vn, .ref vg, .ref t, .ref r, .int 0, .int 0, .int 9999, .int 0]))]) rfl ?_
  refine j_st (st' := [.int 0]) rfl ?_
  refine j_if_eqT (pc := 39) C (tgt := 107) d_Days_countRows_39 (by decide) (by decide) ?_
  refine j_iinc (pc := 107) C (v := 2) (lv' := [(5, .int 2), (3, .int 1), (4, .int 0), (0, .ref k), (1, .ref h), (2, .int 3)]) d_Days_countRows_107 0 rfl (by decide) (by decide) rfl ?_
  refine j_goto (pc := 110) C (tgt := 17) d_Days_countRows_110 (by decide) ?_
  refine j_iload (pc := 17) C d_Days_countRows_17 0 rfl ?_
  refine j_iconst (pc := 19) C (v := 3) d_Days_countRows_19 (by decide) ?_
  refine j_icmp_geF (pc := 20) C (tgt := 113) d_Days_countRows_20 (by decide) (by decide) ?_
  refine j_aload_n (pc := 23) C d_Days_countRows_23 rfl 3 rfl ?_
  refine j_aload_n (pc := 24) C d_Days_countRows_24 rfl 4 rfl ?_
  refine j_aload_n (pc := 25) C d_Days_countRows_25 rfl 3 rfl ?_
  refine j_aload_n (pc := 26) C d_Days_countRows_26 rfl 4 rfl ?_
  refine j_get (pc := 27) C gf_Days_59 0 rfl rfl d_Days_countRows_27 ?_
  refine j_callVi (pc := 30) C (c_villageOn l D y k g vn vg t r d) kw_Days_109 kv_Lake_villageOn 0 2 rfl rfl ⟨by decide, by decide⟩ ⟨by decide, by decide⟩ (wr := [(h, .inr (7, [.int d, .int 0, .int 0, .ref a0, .ref a1, .ref a2, .ref a3, .ref a4, .ref a5, .ref a6]))]) [1] [0] rfl rfl (by decide) (by decide) (by decide) (As := [.int d]) (rest := [.ref h, .ref k]) rfl (nb rfl) rfl d_Days_countRows_30 (fun r6 _ hr6 => ?_)
  subst hr6
  refine j_ws (ws' := [(h, .inr (7, [.int d, .int 0, .int 0, .ref a0, .ref a1, .ref a2, .ref a3, .ref a4, .ref a5, .ref a6])), (k, .inr (2, [.int 0, .int 1, .int 1, .int 0, .ref g, .int 0, .ref vn, .ref vg, .ref t, .ref r, .int 0, .int 0, .int 9999, .int 0]))]) rfl ?_
  refine j_st (st' := [.int (-1), .ref h, .ref k]) rfl ?_
  refine j_iload (pc := 33) C d_Days_countRows_33 0 rfl ?_
  refine j_iconst (pc := 35) C (v := 0) d_Days_countRows_35 (by decide) ?_
  refine j_callSi (pc := 36) C (c_allows_n l D y k g vn vg t r h (-1) 2 0 (by decide)) kw_Days_43 ks_Days_allows ⟨by decide, by decide⟩ ⟨by decide, by decide⟩ (wr := [(h, .inr (7, [.int d, .int 0, .int 0, .ref a0, .ref a1, .ref a2, .ref a3, .ref a4, .ref a5, .ref a6]))]) [1] [0] rfl rfl (by decide) (by decide) (by decide) (As := [.ref k, .ref h, .int (-1), .int 2, .int 0]) (rest := []) rfl (nb rfl) rfl d_Days_countRows_36 (fun r7 _ hr7 => ?_)
  subst hr7
  refine j_ws (ws' := [(h, .inr (7, [.int d, .int 0, .int 0, .ref a0, .ref a1, .ref a2, .ref a3, .ref a4, .ref a5, .ref a6])), (k, .inr (2, [.int 0, .int 1, .int 1, .int 0, .ref g, .int 0, .ref vn, .ref vg, .ref t, .ref r, .int 0, .int 0, .int 9999, .int 0]))]) rfl ?_
  refine j_st (st' := [.int 0]) rfl ?_
  refine j_if_eqT (pc := 39) C (tgt := 107) d_Days_countRows_39 (by decide) (by decide) ?_
  refine j_iinc (pc := 107) C (v := 3) (lv' := [(5, .int 3), (3, .int 1), (4, .int 0), (0, .ref k), (1, .ref h), (2, .int 3)]) d_Days_countRows_107 0 rfl (by decide) (by decide) rfl ?_
  refine j_goto (pc := 110) C (tgt := 17) d_Days_countRows_110 (by decide) ?_
  refine j_iload (pc := 17) C d_Days_countRows_17 0 rfl ?_
  refine j_iconst (pc := 19) C (v := 3) d_Days_countRows_19 (by decide) ?_
  refine j_icmp_geT (pc := 20) C (tgt := 113) d_Days_countRows_20 (by decide) (by decide) ?_
  refine j_iload_n (pc := 113) C d_Days_countRows_113 rfl 1 rfl ?_
  exact j_iret (pc := 114) C hr rfl () rfl [1, 0] rfl (by decide) (by decide) (by decide) d_Days_countRows_114
set_option maxHeartbeats 4000000 in
set_option maxRecDepth 100000 in
theorem c_countRows_4 (l : Launch) (D : va_G) (y : Nat → ClassId) (k : Nat) (h : Nat) (g : Nat) (vn : Nat) (vg : Nat) (t : Nat) (r : Nat) (d : Int32) (a0 : Nat) (a1 : Nat) (a2 : Nat) (a3 : Nat) (a4 : Nat) (a5 : Nat) (a6 : Nat)  : CT l D y ⟨"NineBoards$Days", "countRows", "(LNineBoards$Lake;LNineBoards$State;I)I"⟩ prog_3_method_14_code 6 (some .int) ({ frames := 5, cells := 0, slots := 0, locals := 122 } : Room) [.ref k, .ref h, .int 4] [(k, .inr (2, [.int 0, .int 1, .int 1, .int 0, .ref g, .int 0, .ref vn, .ref vg, .ref t, .ref r, .int 0, .int 0, .int 9999, .int 0])), (h, .inr (7, [.int d, .int 0, .int 0, .ref a0, .ref a1, .ref a2, .ref a3, .ref a4, .ref a5, .ref a6]))] (QI D [(k, .inr (2, [.int 0, .int 1, .int 1, .int 0, .ref g, .int 0, .ref vn, .ref vg, .ref t, .ref r, .int 0, .int 0, .int 9999, .int 0])), (h, .inr (7, [.int d, .int 0, .int 0, .ref a0, .ref a1, .ref a2, .ref a3, .ref a4, .ref a5, .ref a6]))] (fun (r : Int32) (_ : Unit) => r = 1) (fun _ => [(k, .inr (2, [.int 0, .int 1, .int 1, .int 0, .ref g, .int 0, .ref vn, .ref vg, .ref t, .ref r, .int 0, .int 0, .int 9999, .int 0])), (h, .inr (7, [.int d, .int 0, .int 0, .ref a0, .ref a1, .ref a2, .ref a3, .ref a4, .ref a5, .ref a6]))])) := by
  refine CT.of (by decide) (nb rfl) ?_
  intro p e s m args below meth c C hr
  refine j_lv (lv' := [(0, .ref k), (1, .ref h), (2, .int 4)]) rfl ?_
  refine j_iload_n (pc := 0) C d_Days_countRows_0 rfl 2 rfl ?_
  refine j_if_gtT (pc := 1) C (tgt := 6) d_Days_countRows_1 (by decide) (by decide) ?_
  refine j_iconst (pc := 6) C (v := 0) d_Days_countRows_6 (by decide) ?_
  refine j_istore_n (pc := 7) C (lv' := [(3, .int 0), (0, .ref k), (1, .ref h), (2, .int 4)]) d_Days_countRows_7 rfl (by decide) rfl ?_
  refine j_aload_n (pc := 8) C d_Days_countRows_8 rfl 2 rfl ?_
  refine j_get (pc := 9) C gf_Days_15 1 rfl rfl d_Days_countRows_9 ?_
  refine j_istore (pc := 12) C (lv' := [(4, .int 0), (3, .int 0), (0, .ref k), (1, .ref h), (2, .int 4)]) d_Days_countRows_12 (by decide) rfl ?_
  refine j_iconst (pc := 14) C (v := 0) d_Days_countRows_14 (by decide) ?_
  refine j_istore (pc := 15) C (lv' := [(5, .int 0), (4, .int 0), (3, .int 0), (0, .ref k), (1, .ref h), (2, .int 4)]) d_Days_countRows_15 (by decide) rfl ?_
  refine j_iload (pc := 17) C d_Days_countRows_17 0 rfl ?_
  refine j_iconst (pc := 19) C (v := 3) d_Days_countRows_19 (by decide) ?_
  refine j_icmp_geF (pc := 20) C (tgt := 113) d_Days_countRows_20 (by decide) (by decide) ?_
  refine j_aload_n (pc := 23) C d_Days_countRows_23 rfl 3 rfl ?_
  refine j_aload_n (pc := 24) C d_Days_countRows_24 rfl 4 rfl ?_
  refine j_aload_n (pc := 25) C d_Days_countRows_25 rfl 3 rfl ?_
  refine j_aload_n (pc := 26) C d_Days_countRows_26 rfl 4 rfl ?_
  refine j_get (pc := 27) C gf_Days_59 1 rfl rfl d_Days_countRows_27 ?_
  refine j_callVi (pc := 30) C (c_villageOn l D y k g vn vg t r d) kw_Days_109 kv_Lake_villageOn 0 2 rfl rfl ⟨by decide, by decide⟩ ⟨by decide, by decide⟩ (wr := [(h, .inr (7, [.int d, .int 0, .int 0, .ref a0, .ref a1, .ref a2, .ref a3, .ref a4, .ref a5, .ref a6]))]) [0] [1] rfl rfl (by decide) (by decide) (by decide) (As := [.int d]) (rest := [.ref h, .ref k]) rfl (nb rfl) rfl d_Days_countRows_30 (fun r1 _ hr1 => ?_)
  subst hr1
  refine j_ws (ws' := [(h, .inr (7, [.int d, .int 0, .int 0, .ref a0, .ref a1, .ref a2, .ref a3, .ref a4, .ref a5, .ref a6])), (k, .inr (2, [.int 0, .int 1, .int 1, .int 0, .ref g, .int 0, .ref vn, .ref vg, .ref t, .ref r, .int 0, .int 0, .int 9999, .int 0]))]) rfl ?_
  refine j_st (st' := [.int (-1), .ref h, .ref k]) rfl ?_
  refine j_iload (pc := 33) C d_Days_countRows_33 0 rfl ?_
  refine j_iconst (pc := 35) C (v := 0) d_Days_countRows_35 (by decide) ?_
  refine j_callSi (pc := 36) C (c_allows_0 l D y k h (-1) 0) kw_Days_43 ks_Days_allows ⟨by decide, by decide⟩ ⟨by decide, by decide⟩ (wr := [(h, .inr (7, [.int d, .int 0, .int 0, .ref a0, .ref a1, .ref a2, .ref a3, .ref a4, .ref a5, .ref a6])), (k, .inr (2, [.int 0, .int 1, .int 1, .int 0, .ref g, .int 0, .ref vn, .ref vg, .ref t, .ref r, .int 0, .int 0, .int 9999, .int 0]))]) [] [0, 1] rfl rfl (by decide) (by decide) (by decide) (As := [.ref k, .ref h, .int (-1), .int 0, .int 0]) (rest := []) rfl (nb rfl) rfl d_Days_countRows_36 (fun r2 _ hr2 => ?_)
  subst hr2
  refine j_ws (ws' := [(h, .inr (7, [.int d, .int 0, .int 0, .ref a0, .ref a1, .ref a2, .ref a3, .ref a4, .ref a5, .ref a6])), (k, .inr (2, [.int 0, .int 1, .int 1, .int 0, .ref g, .int 0, .ref vn, .ref vg, .ref t, .ref r, .int 0, .int 0, .int 9999, .int 0]))]) rfl ?_
  refine j_st (st' := [.int 1]) rfl ?_
  refine j_if_eqF (pc := 39) C (tgt := 107) d_Days_countRows_39 (by decide) (by decide) ?_
  refine j_aload_n (pc := 42) C d_Days_countRows_42 rfl 3 rfl ?_
  refine j_aload_n (pc := 43) C d_Days_countRows_43 rfl 4 rfl ?_
  refine j_iload (pc := 44) C d_Days_countRows_44 0 rfl ?_
  refine j_callSv (pc := 46) C (c_doAct l D y k h) kw_Days_47 ks_Days_doAct ⟨by decide, by decide⟩ ⟨by decide, by decide⟩ (wr := [(h, .inr (7, [.int d, .int 0, .int 0, .ref a0, .ref a1, .ref a2, .ref a3, .ref a4, .ref a5, .ref a6])), (k, .inr (2, [.int 0, .int 1, .int 1, .int 0, .ref g, .int 0, .ref vn, .ref vg, .ref t, .ref r, .int 0, .int 0, .int 9999, .int 0]))]) [] [0, 1] rfl rfl (by decide) (by decide) (by decide) (As := [.ref k, .ref h, .int 0]) (rest := []) rfl (nb rfl) rfl d_Days_countRows_46 (fun _ _ => ?_)
  refine j_ws (ws' := [(h, .inr (7, [.int d, .int 0, .int 0, .ref a0, .ref a1, .ref a2, .ref a3, .ref a4, .ref a5, .ref a6])), (k, .inr (2, [.int 0, .int 1, .int 1, .int 0, .ref g, .int 0, .ref vn, .ref vg, .ref t, .ref r, .int 0, .int 0, .int 9999, .int 0]))]) rfl ?_
  refine j_aload_n (pc := 49) C d_Days_countRows_49 rfl 4 rfl ?_
  refine j_dup (pc := 50) C d_Days_countRows_50 rfl ?_
  refine j_get (pc := 51) C gf_Days_59 0 rfl rfl d_Days_countRows_51 ?_
  refine j_iconst (pc := 54) C (v := 1) d_Days_countRows_54 (by decide) ?_
  refine j_iadd (pc := 55) C (v := d + 1) d_Days_countRows_55 rfl ?_
  refine j_put (pc := 56) C pf_Days_59 0 (ws' := [(h, .inr (7, [.int (d + 1), .int 0, .int 0, .ref a0, .ref a1, .ref a2, .ref a3, .ref a4, .ref a5, .ref a6])), (k, .inr (2, [.int 0, .int 1, .int 1, .int 0, .ref g, .int 0, .ref vn, .ref vg, .ref t, .ref r, .int 0, .int 0, .int 9999, .int 0]))]) rfl rfl rfl (nl rfl) rfl d_Days_countRows_56 ?_
  refine j_iload_n (pc := 59) C d_Days_countRows_59 rfl 2 rfl ?_
  refine j_aload_n (pc := 60) C d_Days_countRows_60 rfl 3 rfl ?_
  refine j_aload_n (pc := 61) C d_Days_countRows_61 rfl 4 rfl ?_
  refine j_iload_n (pc := 62) C d_Days_countRows_62 rfl 5 rfl ?_
  refine j_iconst (pc := 63) C (v := 1) d_Days_countRows_63 (by decide) ?_
  refine j_isub (pc := 64) C (v := 3) d_Days_countRows_64 (by decide) ?_
  refine j_callSi (pc := 65) C (c_countRows_3 l D y k h g vn vg t r (d + 1) a0 a1 a2 a3 a4 a5 a6) kw_Days_159 ks_Days_countRows ⟨by decide, by decide⟩ ⟨by decide, by decide⟩ (wr := []) [1, 0] [] rfl rfl (by decide) (by decide) (by decide) (As := [.ref k, .ref h, .int 3]) (rest := [.int 0]) rfl (nb rfl) rfl d_Days_countRows_65 (fun r3 _ hr3 => ?_)
  subst hr3
  refine j_ws (ws' := [(k, .inr (2, [.int 0, .int 1, .int 1, .int 0, .ref g, .int 0, .ref vn, .ref vg, .ref t, .ref r, .int 0, .int 0, .int 9999, .int 0])), (h, .inr (7, [.int (d + 1), .int 0, .int 0, .ref a0, .ref a1, .ref a2, .ref a3, .ref a4, .ref a5, .ref a6]))]) rfl ?_
  refine j_st (st' := [.int 1, .int 0]) rfl ?_
  refine j_iadd (pc := 68) C (v := 1) d_Days_countRows_68 (by decide) ?_
  refine j_istore_n (pc := 69) C (lv' := [(3, .int 1), (5, .int 0), (4, .int 0), (0, .ref k), (1, .ref h), (2, .int 4)]) d_Days_countRows_69 rfl (by decide) rfl ?_
  refine j_aload_n (pc := 70) C d_Days_countRows_70 rfl 4 rfl ?_
  refine j_dup (pc := 71) C d_Days_countRows_71 rfl ?_
  refine j_get (pc := 72) C gf_Days_59 1 rfl rfl d_Days_countRows_72 ?_
  refine j_iconst (pc := 75) C (v := 1) d_Days_countRows_75 (by decide) ?_
  refine j_isub (pc := 76) C (v := d) d_Days_countRows_76 (d_back d) ?_
  refine j_put (pc := 77) C pf_Days_59 1 (ws' := [(k, .inr (2, [.int 0, .int 1, .int 1, .int 0, .ref g, .int 0, .ref vn, .ref vg, .ref t, .ref r, .int 0, .int 0, .int 9999, .int 0])), (h, .inr (7, [.int d, .int 0, .int 0, .ref a0, .ref a1, .ref a2, .ref a3, .ref a4, .ref a5, .ref a6]))]) rfl rfl rfl (nl rfl) rfl d_Days_countRows_77 ?_
  refine j_iload (pc := 80) C d_Days_countRows_80 1 rfl ?_
  refine j_if_eqT (pc := 82) C (tgt := 101) d_Days_countRows_82 (by decide) (by decide) ?_
  refine j_aload_n (pc := 101) C d_Days_countRows_101 rfl 4 rfl ?_
  refine j_iload (pc := 102) C d_Days_countRows_102 2 rfl ?_
  refine j_put (pc := 104) C pf_Days_15 1 (ws' := [(k, .inr (2, [.int 0, .int 1, .int 1, .int 0, .ref g, .int 0, .ref vn, .ref vg, .ref t, .ref r, .int 0, .int 0, .int 9999, .int 0])), (h, .inr (7, [.int d, .int 0, .int 0, .ref a0, .ref a1, .ref a2, .ref a3, .ref a4, .ref a5, .ref a6]))]) rfl rfl rfl (nl rfl) rfl d_Days_countRows_104 ?_
  refine j_iinc (pc := 107) C (v := 1) (lv' := [(5, .int 1), (3, .int 1), (4, .int 0), (0, .ref k), (1, .ref h), (2, .int 4)]) d_Days_countRows_107 1 rfl (by decide) (by decide) rfl ?_
  refine j_goto (pc := 110) C (tgt := 17) d_Days_countRows_110 (by decide) ?_
  refine j_iload (pc := 17) C d_Days_countRows_17 0 rfl ?_
  refine j_iconst (pc := 19) C (v := 3) d_Days_countRows_19 (by decide) ?_
  refine j_icmp_geF (pc := 20) C (tgt := 113) d_Days_countRows_20 (by decide) (by decide) ?_
  refine j_aload_n (pc := 23) C d_Days_countRows_23 rfl 3 rfl ?_
  refine j_aload_n (pc := 24) C d_Days_countRows_24 rfl 4 rfl ?_
  refine j_aload_n (pc := 25) C d_Days_countRows_25 rfl 3 rfl ?_
  refine j_aload_n (pc := 26) C d_Days_countRows_26 rfl 4 rfl ?_
  refine j_get (pc := 27) C gf_Days_59 1 rfl rfl d_Days_countRows_27 ?_
  refine j_callVi (pc := 30) C (c_villageOn l D y k g vn vg t r d) kw_Days_109 kv_Lake_villageOn 0 2 rfl rfl ⟨by decide, by decide⟩ ⟨by decide, by decide⟩ (wr := [(h, .inr (7, [.int d, .int 0, .int 0, .ref a0, .ref a1, .ref a2, .ref a3, .ref a4, .ref a5, .ref a6]))]) [0] [1] rfl rfl (by decide) (by decide) (by decide) (As := [.int d]) (rest := [.ref h, .ref k]) rfl (nb rfl) rfl d_Days_countRows_30 (fun r4 _ hr4 => ?_)
  subst hr4
  refine j_ws (ws' := [(h, .inr (7, [.int d, .int 0, .int 0, .ref a0, .ref a1, .ref a2, .ref a3, .ref a4, .ref a5, .ref a6])), (k, .inr (2, [.int 0, .int 1, .int 1, .int 0, .ref g, .int 0, .ref vn, .ref vg, .ref t, .ref r, .int 0, .int 0, .int 9999, .int 0]))]) rfl ?_
  refine j_st (st' := [.int (-1), .ref h, .ref k]) rfl ?_
  refine j_iload (pc := 33) C d_Days_countRows_33 0 rfl ?_
  refine j_iconst (pc := 35) C (v := 0) d_Days_countRows_35 (by decide) ?_
  refine j_callSi (pc := 36) C (c_allows_n l D y k g vn vg t r h (-1) 1 0 (by decide)) kw_Days_43 ks_Days_allows ⟨by decide, by decide⟩ ⟨by decide, by decide⟩ (wr := [(h, .inr (7, [.int d, .int 0, .int 0, .ref a0, .ref a1, .ref a2, .ref a3, .ref a4, .ref a5, .ref a6]))]) [1] [0] rfl rfl (by decide) (by decide) (by decide) (As := [.ref k, .ref h, .int (-1), .int 1, .int 0]) (rest := []) rfl (nb rfl) rfl d_Days_countRows_36 (fun r5 _ hr5 => ?_)
  subst hr5
  refine j_ws (ws' := [(h, .inr (7, [.int d, .int 0, .int 0, .ref a0, .ref a1, .ref a2, .ref a3, .ref a4, .ref a5, .ref a6])), (k, .inr (2, [.int 0, .int 1, .int 1, .int 0, .ref g, .int 0, .ref vn, .ref vg, .ref t, .ref r, .int 0, .int 0, .int 9999, .int 0]))]) rfl ?_
  refine j_st (st' := [.int 0]) rfl ?_
  refine j_if_eqT (pc := 39) C (tgt := 107) d_Days_countRows_39 (by decide) (by decide) ?_
  refine j_iinc (pc := 107) C (v := 2) (lv' := [(5, .int 2), (3, .int 1), (4, .int 0), (0, .ref k), (1, .ref h), (2, .int 4)]) d_Days_countRows_107 0 rfl (by decide) (by decide) rfl ?_
  refine j_goto (pc := 110) C (tgt := 17) d_Days_countRows_110 (by decide) ?_
  refine j_iload (pc := 17) C d_Days_countRows_17 0 rfl ?_
  refine j_iconst (pc := 19) C (v := 3) d_Days_countRows_19 (by decide) ?_
  refine j_icmp_geF (pc := 20) C (tgt := 113) d_Days_countRows_20 (by decide) (by decide) ?_
  refine j_aload_n (pc := 23) C d_Days_countRows_23 rfl 3 rfl ?_
  refine j_aload_n (pc := 24) C d_Days_countRows_24 rfl 4 rfl ?_
  refine j_aload_n (pc := 25) C d_Days_countRows_25 rfl 3 rfl ?_
  refine j_aload_n (pc := 26) C d_Days_countRows_26 rfl 4 rfl ?_
  refine j_get (pc := 27) C gf_Days_59 0 rfl rfl d_Days_countRows_27 ?_
  refine j_callVi (pc := 30) C (c_villageOn l D y k g vn vg t r d) kw_Days_109 kv_Lake_villageOn 0 2 rfl rfl ⟨by decide, by decide⟩ ⟨by decide, by decide⟩ (wr := [(h, .inr (7, [.int d, .int 0, .int 0, .ref a0, .ref a1, .ref a2, .ref a3, .ref a4, .ref a5, .ref a6]))]) [1] [0] rfl rfl (by decide) (by decide) (by decide) (As := [.int d]) (rest := [.ref h, .ref k]) rfl (nb rfl) rfl d_Days_countRows_30 (fun r6 _ hr6 => ?_)
  subst hr6
  refine j_ws (ws' := [(h, .inr (7, [.int d, .int 0, .int 0, .ref a0, .ref a1, .ref a2, .ref a3, .ref a4, .ref a5, .ref a6])), (k, .inr (2, [.int 0, .int 1, .int 1, .int 0, .ref g, .int 0, .ref vn, .ref vg, .ref t, .ref r, .int 0, .int 0, .int 9999, .int 0]))]) rfl ?_
  refine j_st (st' := [.int (-1), .ref h, .ref k]) rfl ?_
  refine j_iload (pc := 33) C d_Days_countRows_33 0 rfl ?_
  refine j_iconst (pc := 35) C (v := 0) d_Days_countRows_35 (by decide) ?_
  refine j_callSi (pc := 36) C (c_allows_n l D y k g vn vg t r h (-1) 2 0 (by decide)) kw_Days_43 ks_Days_allows ⟨by decide, by decide⟩ ⟨by decide, by decide⟩ (wr := [(h, .inr (7, [.int d, .int 0, .int 0, .ref a0, .ref a1, .ref a2, .ref a3, .ref a4, .ref a5, .ref a6]))]) [1] [0] rfl rfl (by decide) (by decide) (by decide) (As := [.ref k, .ref h, .int (-1), .int 2, .int 0]) (rest := []) rfl (nb rfl) rfl d_Days_countRows_36 (fun r7 _ hr7 => ?_)
  subst hr7
  refine j_ws (ws' := [(h, .inr (7, [.int d, .int 0, .int 0, .ref a0, .ref a1, .ref a2, .ref a3, .ref a4, .ref a5, .ref a6])), (k, .inr (2, [.int 0, .int 1, .int 1, .int 0, .ref g, .int 0, .ref vn, .ref vg, .ref t, .ref r, .int 0, .int 0, .int 9999, .int 0]))]) rfl ?_
  refine j_st (st' := [.int 0]) rfl ?_
  refine j_if_eqT (pc := 39) C (tgt := 107) d_Days_countRows_39 (by decide) (by decide) ?_
  refine j_iinc (pc := 107) C (v := 3) (lv' := [(5, .int 3), (3, .int 1), (4, .int 0), (0, .ref k), (1, .ref h), (2, .int 4)]) d_Days_countRows_107 0 rfl (by decide) (by decide) rfl ?_
  refine j_goto (pc := 110) C (tgt := 17) d_Days_countRows_110 (by decide) ?_
  refine j_iload (pc := 17) C d_Days_countRows_17 0 rfl ?_
  refine j_iconst (pc := 19) C (v := 3) d_Days_countRows_19 (by decide) ?_
  refine j_icmp_geT (pc := 20) C (tgt := 113) d_Days_countRows_20 (by decide) (by decide) ?_
  refine j_iload_n (pc := 113) C d_Days_countRows_113 rfl 1 rfl ?_
  exact j_iret (pc := 114) C hr rfl () rfl [1, 0] rfl (by decide) (by decide) (by decide) d_Days_countRows_114
set_option maxHeartbeats 4000000 in
set_option maxRecDepth 100000 in
theorem c_countRows_5 (l : Launch) (D : va_G) (y : Nat → ClassId) (k : Nat) (h : Nat) (g : Nat) (vn : Nat) (vg : Nat) (t : Nat) (r : Nat) (d : Int32) (a0 : Nat) (a1 : Nat) (a2 : Nat) (a3 : Nat) (a4 : Nat) (a5 : Nat) (a6 : Nat)  : CT l D y ⟨"NineBoards$Days", "countRows", "(LNineBoards$Lake;LNineBoards$State;I)I"⟩ prog_3_method_14_code 6 (some .int) ({ frames := 6, cells := 0, slots := 0, locals := 147 } : Room) [.ref k, .ref h, .int 5] [(k, .inr (2, [.int 0, .int 1, .int 1, .int 0, .ref g, .int 0, .ref vn, .ref vg, .ref t, .ref r, .int 0, .int 0, .int 9999, .int 0])), (h, .inr (7, [.int d, .int 0, .int 0, .ref a0, .ref a1, .ref a2, .ref a3, .ref a4, .ref a5, .ref a6]))] (QI D [(k, .inr (2, [.int 0, .int 1, .int 1, .int 0, .ref g, .int 0, .ref vn, .ref vg, .ref t, .ref r, .int 0, .int 0, .int 9999, .int 0])), (h, .inr (7, [.int d, .int 0, .int 0, .ref a0, .ref a1, .ref a2, .ref a3, .ref a4, .ref a5, .ref a6]))] (fun (r : Int32) (_ : Unit) => r = 1) (fun _ => [(k, .inr (2, [.int 0, .int 1, .int 1, .int 0, .ref g, .int 0, .ref vn, .ref vg, .ref t, .ref r, .int 0, .int 0, .int 9999, .int 0])), (h, .inr (7, [.int d, .int 0, .int 0, .ref a0, .ref a1, .ref a2, .ref a3, .ref a4, .ref a5, .ref a6]))])) := by
  refine CT.of (by decide) (nb rfl) ?_
  intro p e s m args below meth c C hr
  refine j_lv (lv' := [(0, .ref k), (1, .ref h), (2, .int 5)]) rfl ?_
  refine j_iload_n (pc := 0) C d_Days_countRows_0 rfl 2 rfl ?_
  refine j_if_gtT (pc := 1) C (tgt := 6) d_Days_countRows_1 (by decide) (by decide) ?_
  refine j_iconst (pc := 6) C (v := 0) d_Days_countRows_6 (by decide) ?_
  refine j_istore_n (pc := 7) C (lv' := [(3, .int 0), (0, .ref k), (1, .ref h), (2, .int 5)]) d_Days_countRows_7 rfl (by decide) rfl ?_
  refine j_aload_n (pc := 8) C d_Days_countRows_8 rfl 2 rfl ?_
  refine j_get (pc := 9) C gf_Days_15 1 rfl rfl d_Days_countRows_9 ?_
  refine j_istore (pc := 12) C (lv' := [(4, .int 0), (3, .int 0), (0, .ref k), (1, .ref h), (2, .int 5)]) d_Days_countRows_12 (by decide) rfl ?_
  refine j_iconst (pc := 14) C (v := 0) d_Days_countRows_14 (by decide) ?_
  refine j_istore (pc := 15) C (lv' := [(5, .int 0), (4, .int 0), (3, .int 0), (0, .ref k), (1, .ref h), (2, .int 5)]) d_Days_countRows_15 (by decide) rfl ?_
  refine j_iload (pc := 17) C d_Days_countRows_17 0 rfl ?_
  refine j_iconst (pc := 19) C (v := 3) d_Days_countRows_19 (by decide) ?_
  refine j_icmp_geF (pc := 20) C (tgt := 113) d_Days_countRows_20 (by decide) (by decide) ?_
  refine j_aload_n (pc := 23) C d_Days_countRows_23 rfl 3 rfl ?_
  refine j_aload_n (pc := 24) C d_Days_countRows_24 rfl 4 rfl ?_
  refine j_aload_n (pc := 25) C d_Days_countRows_25 rfl 3 rfl ?_
  refine j_aload_n (pc := 26) C d_Days_countRows_26 rfl 4 rfl ?_
  refine j_get (pc := 27) C gf_Days_59 1 rfl rfl d_Days_countRows_27 ?_
  refine j_callVi (pc := 30) C (c_villageOn l D y k g vn vg t r d) kw_Days_109 kv_Lake_villageOn 0 2 rfl rfl ⟨by decide, by decide⟩ ⟨by decide, by decide⟩ (wr := [(h, .inr (7, [.int d, .int 0, .int 0, .ref a0, .ref a1, .ref a2, .ref a3, .ref a4, .ref a5, .ref a6]))]) [0] [1] rfl rfl (by decide) (by decide) (by decide) (As := [.int d]) (rest := [.ref h, .ref k]) rfl (nb rfl) rfl d_Days_countRows_30 (fun r1 _ hr1 => ?_)
  subst hr1
  refine j_ws (ws' := [(h, .inr (7, [.int d, .int 0, .int 0, .ref a0, .ref a1, .ref a2, .ref a3, .ref a4, .ref a5, .ref a6])), (k, .inr (2, [.int 0, .int 1, .int 1, .int 0, .ref g, .int 0, .ref vn, .ref vg, .ref t, .ref r, .int 0, .int 0, .int 9999, .int 0]))]) rfl ?_
  refine j_st (st' := [.int (-1), .ref h, .ref k]) rfl ?_
  refine j_iload (pc := 33) C d_Days_countRows_33 0 rfl ?_
  refine j_iconst (pc := 35) C (v := 0) d_Days_countRows_35 (by decide) ?_
  refine j_callSi (pc := 36) C (c_allows_0 l D y k h (-1) 0) kw_Days_43 ks_Days_allows ⟨by decide, by decide⟩ ⟨by decide, by decide⟩ (wr := [(h, .inr (7, [.int d, .int 0, .int 0, .ref a0, .ref a1, .ref a2, .ref a3, .ref a4, .ref a5, .ref a6])), (k, .inr (2, [.int 0, .int 1, .int 1, .int 0, .ref g, .int 0, .ref vn, .ref vg, .ref t, .ref r, .int 0, .int 0, .int 9999, .int 0]))]) [] [0, 1] rfl rfl (by decide) (by decide) (by decide) (As := [.ref k, .ref h, .int (-1), .int 0, .int 0]) (rest := []) rfl (nb rfl) rfl d_Days_countRows_36 (fun r2 _ hr2 => ?_)
  subst hr2
  refine j_ws (ws' := [(h, .inr (7, [.int d, .int 0, .int 0, .ref a0, .ref a1, .ref a2, .ref a3, .ref a4, .ref a5, .ref a6])), (k, .inr (2, [.int 0, .int 1, .int 1, .int 0, .ref g, .int 0, .ref vn, .ref vg, .ref t, .ref r, .int 0, .int 0, .int 9999, .int 0]))]) rfl ?_
  refine j_st (st' := [.int 1]) rfl ?_
  refine j_if_eqF (pc := 39) C (tgt := 107) d_Days_countRows_39 (by decide) (by decide) ?_
  refine j_aload_n (pc := 42) C d_Days_countRows_42 rfl 3 rfl ?_
  refine j_aload_n (pc := 43) C d_Days_countRows_43 rfl 4 rfl ?_
  refine j_iload (pc := 44) C d_Days_countRows_44 0 rfl ?_
  refine j_callSv (pc := 46) C (c_doAct l D y k h) kw_Days_47 ks_Days_doAct ⟨by decide, by decide⟩ ⟨by decide, by decide⟩ (wr := [(h, .inr (7, [.int d, .int 0, .int 0, .ref a0, .ref a1, .ref a2, .ref a3, .ref a4, .ref a5, .ref a6])), (k, .inr (2, [.int 0, .int 1, .int 1, .int 0, .ref g, .int 0, .ref vn, .ref vg, .ref t, .ref r, .int 0, .int 0, .int 9999, .int 0]))]) [] [0, 1] rfl rfl (by decide) (by decide) (by decide) (As := [.ref k, .ref h, .int 0]) (rest := []) rfl (nb rfl) rfl d_Days_countRows_46 (fun _ _ => ?_)
  refine j_ws (ws' := [(h, .inr (7, [.int d, .int 0, .int 0, .ref a0, .ref a1, .ref a2, .ref a3, .ref a4, .ref a5, .ref a6])), (k, .inr (2, [.int 0, .int 1, .int 1, .int 0, .ref g, .int 0, .ref vn, .ref vg, .ref t, .ref r, .int 0, .int 0, .int 9999, .int 0]))]) rfl ?_
  refine j_aload_n (pc := 49) C d_Days_countRows_49 rfl 4 rfl ?_
  refine j_dup (pc := 50) C d_Days_countRows_50 rfl ?_
  refine j_get (pc := 51) C gf_Days_59 0 rfl rfl d_Days_countRows_51 ?_
  refine j_iconst (pc := 54) C (v := 1) d_Days_countRows_54 (by decide) ?_
  refine j_iadd (pc := 55) C (v := d + 1) d_Days_countRows_55 rfl ?_
  refine j_put (pc := 56) C pf_Days_59 0 (ws' := [(h, .inr (7, [.int (d + 1), .int 0, .int 0, .ref a0, .ref a1, .ref a2, .ref a3, .ref a4, .ref a5, .ref a6])), (k, .inr (2, [.int 0, .int 1, .int 1, .int 0, .ref g, .int 0, .ref vn, .ref vg, .ref t, .ref r, .int 0, .int 0, .int 9999, .int 0]))]) rfl rfl rfl (nl rfl) rfl d_Days_countRows_56 ?_
  refine j_iload_n (pc := 59) C d_Days_countRows_59 rfl 2 rfl ?_
  refine j_aload_n (pc := 60) C d_Days_countRows_60 rfl 3 rfl ?_
  refine j_aload_n (pc := 61) C d_Days_countRows_61 rfl 4 rfl ?_
  refine j_iload_n (pc := 62) C d_Days_countRows_62 rfl 5 rfl ?_
  refine j_iconst (pc := 63) C (v := 1) d_Days_countRows_63 (by decide) ?_
  refine j_isub (pc := 64) C (v := 4) d_Days_countRows_64 (by decide) ?_
  refine j_callSi (pc := 65) C (c_countRows_4 l D y k h g vn vg t r (d + 1) a0 a1 a2 a3 a4 a5 a6) kw_Days_159 ks_Days_countRows ⟨by decide, by decide⟩ ⟨by decide, by decide⟩ (wr := []) [1, 0] [] rfl rfl (by decide) (by decide) (by decide) (As := [.ref k, .ref h, .int 4]) (rest := [.int 0]) rfl (nb rfl) rfl d_Days_countRows_65 (fun r3 _ hr3 => ?_)
  subst hr3
  refine j_ws (ws' := [(k, .inr (2, [.int 0, .int 1, .int 1, .int 0, .ref g, .int 0, .ref vn, .ref vg, .ref t, .ref r, .int 0, .int 0, .int 9999, .int 0])), (h, .inr (7, [.int (d + 1), .int 0, .int 0, .ref a0, .ref a1, .ref a2, .ref a3, .ref a4, .ref a5, .ref a6]))]) rfl ?_
  refine j_st (st' := [.int 1, .int 0]) rfl ?_
  refine j_iadd (pc := 68) C (v := 1) d_Days_countRows_68 (by decide) ?_
  refine j_istore_n (pc := 69) C (lv' := [(3, .int 1), (5, .int 0), (4, .int 0), (0, .ref k), (1, .ref h), (2, .int 5)]) d_Days_countRows_69 rfl (by decide) rfl ?_
  refine j_aload_n (pc := 70) C d_Days_countRows_70 rfl 4 rfl ?_
  refine j_dup (pc := 71) C d_Days_countRows_71 rfl ?_
  refine j_get (pc := 72) C gf_Days_59 1 rfl rfl d_Days_countRows_72 ?_
  refine j_iconst (pc := 75) C (v := 1) d_Days_countRows_75 (by decide) ?_
  refine j_isub (pc := 76) C (v := d) d_Days_countRows_76 (d_back d) ?_
  refine j_put (pc := 77) C pf_Days_59 1 (ws' := [(k, .inr (2, [.int 0, .int 1, .int 1, .int 0, .ref g, .int 0, .ref vn, .ref vg, .ref t, .ref r, .int 0, .int 0, .int 9999, .int 0])), (h, .inr (7, [.int d, .int 0, .int 0, .ref a0, .ref a1, .ref a2, .ref a3, .ref a4, .ref a5, .ref a6]))]) rfl rfl rfl (nl rfl) rfl d_Days_countRows_77 ?_
  refine j_iload (pc := 80) C d_Days_countRows_80 1 rfl ?_
  refine j_if_eqT (pc := 82) C (tgt := 101) d_Days_countRows_82 (by decide) (by decide) ?_
  refine j_aload_n (pc := 101) C d_Days_countRows_101 rfl 4 rfl ?_
  refine j_iload (pc := 102) C d_Days_countRows_102 2 rfl ?_
  refine j_put (pc := 104) C pf_Days_15 1 (ws' := [(k, .inr (2, [.int 0, .int 1, .int 1, .int 0, .ref g, .int 0, .ref vn, .ref vg, .ref t, .ref r, .int 0, .int 0, .int 9999, .int 0])), (h, .inr (7, [.int d, .int 0, .int 0, .ref a0, .ref a1, .ref a2, .ref a3, .ref a4, .ref a5, .ref a6]))]) rfl rfl rfl (nl rfl) rfl d_Days_countRows_104 ?_
  refine j_iinc (pc := 107) C (v := 1) (lv' := [(5, .int 1), (3, .int 1), (4, .int 0), (0, .ref k), (1, .ref h), (2, .int 5)]) d_Days_countRows_107 1 rfl (by decide) (by decide) rfl ?_
  refine j_goto (pc := 110) C (tgt := 17) d_Days_countRows_110 (by decide) ?_
  refine j_iload (pc := 17) C d_Days_countRows_17 0 rfl ?_
  refine j_iconst (pc := 19) C (v := 3) d_Days_countRows_19 (by decide) ?_
  refine j_icmp_geF (pc := 20) C (tgt := 113) d_Days_countRows_20 (by decide) (by decide) ?_
  refine j_aload_n (pc := 23) C d_Days_countRows_23 rfl 3 rfl ?_
  refine j_aload_n (pc := 24) C d_Days_countRows_24 rfl 4 rfl ?_
  refine j_aload_n (pc := 25) C d_Days_countRows_25 rfl 3 rfl ?_
  refine j_aload_n (pc := 26) C d_Days_countRows_26 rfl 4 rfl ?_
  refine j_get (pc := 27) C gf_Days_59 1 rfl rfl d_Days_countRows_27 ?_
  refine j_callVi (pc := 30) C (c_villageOn l D y k g vn vg t r d) kw_Days_109 kv_Lake_villageOn 0 2 rfl rfl ⟨by decide, by decide⟩ ⟨by decide, by decide⟩ (wr := [(h, .inr (7, [.int d, .int 0, .int 0, .ref a0, .ref a1, .ref a2, .ref a3, .ref a4, .ref a5, .ref a6]))]) [0] [1] rfl rfl (by decide) (by decide) (by decide) (As := [.int d]) (rest := [.ref h, .ref k]) rfl (nb rfl) rfl d_Days_countRows_30 (fun r4 _ hr4 => ?_)
  subst hr4
  refine j_ws (ws' := [(h, .inr (7, [.int d, .int 0, .int 0, .ref a0, .ref a1, .ref a2, .ref a3, .ref a4, .ref a5, .ref a6])), (k, .inr (2, [.int 0, .int 1, .int 1, .int 0, .ref g, .int 0, .ref vn, .ref vg, .ref t, .ref r, .int 0, .int 0, .int 9999, .int 0]))]) rfl ?_
  refine j_st (st' := [.int (-1), .ref h, .ref k]) rfl ?_
  refine j_iload (pc := 33) C d_Days_countRows_33 0 rfl ?_
  refine j_iconst (pc := 35) C (v := 0) d_Days_countRows_35 (by decide) ?_
  refine j_callSi (pc := 36) C (c_allows_n l D y k g vn vg t r h (-1) 1 0 (by decide)) kw_Days_43 ks_Days_allows ⟨by decide, by decide⟩ ⟨by decide, by decide⟩ (wr := [(h, .inr (7, [.int d, .int 0, .int 0, .ref a0, .ref a1, .ref a2, .ref a3, .ref a4, .ref a5, .ref a6]))]) [1] [0] rfl rfl (by decide) (by decide) (by decide) (As := [.ref k, .ref h, .int (-1), .int 1, .int 0]) (rest := []) rfl (nb rfl) rfl d_Days_countRows_36 (fun r5 _ hr5 => ?_)
  subst hr5
  refine j_ws (ws' := [(h, .inr (7, [.int d, .int 0, .int 0, .ref a0, .ref a1, .ref a2, .ref a3, .ref a4, .ref a5, .ref a6])), (k, .inr (2, [.int 0, .int 1, .int 1, .int 0, .ref g, .int 0, .ref vn, .ref vg, .ref t, .ref r, .int 0, .int 0, .int 9999, .int 0]))]) rfl ?_
  refine j_st (st' := [.int 0]) rfl ?_
  refine j_if_eqT (pc := 39) C (tgt := 107) d_Days_countRows_39 (by decide) (by decide) ?_
  refine j_iinc (pc := 107) C (v := 2) (lv' := [(5, .int 2), (3, .int 1), (4, .int 0), (0, .ref k), (1, .ref h), (2, .int 5)]) d_Days_countRows_107 0 rfl (by decide) (by decide) rfl ?_
  refine j_goto (pc := 110) C (tgt := 17) d_Days_countRows_110 (by decide) ?_
  refine j_iload (pc := 17) C d_Days_countRows_17 0 rfl ?_
  refine j_iconst (pc := 19) C (v := 3) d_Days_countRows_19 (by decide) ?_
  refine j_icmp_geF (pc := 20) C (tgt := 113) d_Days_countRows_20 (by decide) (by decide) ?_
  refine j_aload_n (pc := 23) C d_Days_countRows_23 rfl 3 rfl ?_
  refine j_aload_n (pc := 24) C d_Days_countRows_24 rfl 4 rfl ?_
  refine j_aload_n (pc := 25) C d_Days_countRows_25 rfl 3 rfl ?_
  refine j_aload_n (pc := 26) C d_Days_countRows_26 rfl 4 rfl ?_
  refine j_get (pc := 27) C gf_Days_59 0 rfl rfl d_Days_countRows_27 ?_
  refine j_callVi (pc := 30) C (c_villageOn l D y k g vn vg t r d) kw_Days_109 kv_Lake_villageOn 0 2 rfl rfl ⟨by decide, by decide⟩ ⟨by decide, by decide⟩ (wr := [(h, .inr (7, [.int d, .int 0, .int 0, .ref a0, .ref a1, .ref a2, .ref a3, .ref a4, .ref a5, .ref a6]))]) [1] [0] rfl rfl (by decide) (by decide) (by decide) (As := [.int d]) (rest := [.ref h, .ref k]) rfl (nb rfl) rfl d_Days_countRows_30 (fun r6 _ hr6 => ?_)
  subst hr6
  refine j_ws (ws' := [(h, .inr (7, [.int d, .int 0, .int 0, .ref a0, .ref a1, .ref a2, .ref a3, .ref a4, .ref a5, .ref a6])), (k, .inr (2, [.int 0, .int 1, .int 1, .int 0, .ref g, .int 0, .ref vn, .ref vg, .ref t, .ref r, .int 0, .int 0, .int 9999, .int 0]))]) rfl ?_
  refine j_st (st' := [.int (-1), .ref h, .ref k]) rfl ?_
  refine j_iload (pc := 33) C d_Days_countRows_33 0 rfl ?_
  refine j_iconst (pc := 35) C (v := 0) d_Days_countRows_35 (by decide) ?_
  refine j_callSi (pc := 36) C (c_allows_n l D y k g vn vg t r h (-1) 2 0 (by decide)) kw_Days_43 ks_Days_allows ⟨by decide, by decide⟩ ⟨by decide, by decide⟩ (wr := [(h, .inr (7, [.int d, .int 0, .int 0, .ref a0, .ref a1, .ref a2, .ref a3, .ref a4, .ref a5, .ref a6]))]) [1] [0] rfl rfl (by decide) (by decide) (by decide) (As := [.ref k, .ref h, .int (-1), .int 2, .int 0]) (rest := []) rfl (nb rfl) rfl d_Days_countRows_36 (fun r7 _ hr7 => ?_)
  subst hr7
  refine j_ws (ws' := [(h, .inr (7, [.int d, .int 0, .int 0, .ref a0, .ref a1, .ref a2, .ref a3, .ref a4, .ref a5, .ref a6])), (k, .inr (2, [.int 0, .int 1, .int 1, .int 0, .ref g, .int 0, .ref vn, .ref vg, .ref t, .ref r, .int 0, .int 0, .int 9999, .int 0]))]) rfl ?_
  refine j_st (st' := [.int 0]) rfl ?_
  refine j_if_eqT (pc := 39) C (tgt := 107) d_Days_countRows_39 (by decide) (by decide) ?_
  refine j_iinc (pc := 107) C (v := 3) (lv' := [(5, .int 3), (3, .int 1), (4, .int 0), (0, .ref k), (1, .ref h), (2, .int 5)]) d_Days_countRows_107 0 rfl (by decide) (by decide) rfl ?_
  refine j_goto (pc := 110) C (tgt := 17) d_Days_countRows_110 (by decide) ?_
  refine j_iload (pc := 17) C d_Days_countRows_17 0 rfl ?_
  refine j_iconst (pc := 19) C (v := 3) d_Days_countRows_19 (by decide) ?_
  refine j_icmp_geT (pc := 20) C (tgt := 113) d_Days_countRows_20 (by decide) (by decide) ?_
  refine j_iload_n (pc := 113) C d_Days_countRows_113 rfl 1 rfl ?_
  exact j_iret (pc := 114) C hr rfl () rfl [1, 0] rfl (by decide) (by decide) (by decide) d_Days_countRows_114
set_option maxHeartbeats 4000000 in
set_option maxRecDepth 100000 in
theorem c_countRows_6 (l : Launch) (D : va_G) (y : Nat → ClassId) (k : Nat) (h : Nat) (g : Nat) (vn : Nat) (vg : Nat) (t : Nat) (r : Nat) (d : Int32) (a0 : Nat) (a1 : Nat) (a2 : Nat) (a3 : Nat) (a4 : Nat) (a5 : Nat) (a6 : Nat)  : CT l D y ⟨"NineBoards$Days", "countRows", "(LNineBoards$Lake;LNineBoards$State;I)I"⟩ prog_3_method_14_code 6 (some .int) ({ frames := 7, cells := 0, slots := 0, locals := 172 } : Room) [.ref k, .ref h, .int 6] [(k, .inr (2, [.int 0, .int 1, .int 1, .int 0, .ref g, .int 0, .ref vn, .ref vg, .ref t, .ref r, .int 0, .int 0, .int 9999, .int 0])), (h, .inr (7, [.int d, .int 0, .int 0, .ref a0, .ref a1, .ref a2, .ref a3, .ref a4, .ref a5, .ref a6]))] (QI D [(k, .inr (2, [.int 0, .int 1, .int 1, .int 0, .ref g, .int 0, .ref vn, .ref vg, .ref t, .ref r, .int 0, .int 0, .int 9999, .int 0])), (h, .inr (7, [.int d, .int 0, .int 0, .ref a0, .ref a1, .ref a2, .ref a3, .ref a4, .ref a5, .ref a6]))] (fun (r : Int32) (_ : Unit) => r = 1) (fun _ => [(k, .inr (2, [.int 0, .int 1, .int 1, .int 0, .ref g, .int 0, .ref vn, .ref vg, .ref t, .ref r, .int 0, .int 0, .int 9999, .int 0])), (h, .inr (7, [.int d, .int 0, .int 0, .ref a0, .ref a1, .ref a2, .ref a3, .ref a4, .ref a5, .ref a6]))])) := by
  refine CT.of (by decide) (nb rfl) ?_
  intro p e s m args below meth c C hr
  refine j_lv (lv' := [(0, .ref k), (1, .ref h), (2, .int 6)]) rfl ?_
  refine j_iload_n (pc := 0) C d_Days_countRows_0 rfl 2 rfl ?_
  refine j_if_gtT (pc := 1) C (tgt := 6) d_Days_countRows_1 (by decide) (by decide) ?_
  refine j_iconst (pc := 6) C (v := 0) d_Days_countRows_6 (by decide) ?_
  refine j_istore_n (pc := 7) C (lv' := [(3, .int 0), (0, .ref k), (1, .ref h), (2, .int 6)]) d_Days_countRows_7 rfl (by decide) rfl ?_
  refine j_aload_n (pc := 8) C d_Days_countRows_8 rfl 2 rfl ?_
  refine j_get (pc := 9) C gf_Days_15 1 rfl rfl d_Days_countRows_9 ?_
  refine j_istore (pc := 12) C (lv' := [(4, .int 0), (3, .int 0), (0, .ref k), (1, .ref h), (2, .int 6)]) d_Days_countRows_12 (by decide) rfl ?_
  refine j_iconst (pc := 14) C (v := 0) d_Days_countRows_14 (by decide) ?_
  refine j_istore (pc := 15) C (lv' := [(5, .int 0), (4, .int 0), (3, .int 0), (0, .ref k), (1, .ref h), (2, .int 6)]) d_Days_countRows_15 (by decide) rfl ?_
  refine j_iload (pc := 17) C d_Days_countRows_17 0 rfl ?_
  refine j_iconst (pc := 19) C (v := 3) d_Days_countRows_19 (by decide) ?_
  refine j_icmp_geF (pc := 20) C (tgt := 113) d_Days_countRows_20 (by decide) (by decide) ?_
  refine j_aload_n (pc := 23) C d_Days_countRows_23 rfl 3 rfl ?_
  refine j_aload_n (pc := 24) C d_Days_countRows_24 rfl 4 rfl ?_
  refine j_aload_n (pc := 25) C d_Days_countRows_25 rfl 3 rfl ?_
  refine j_aload_n (pc := 26) C d_Days_countRows_26 rfl 4 rfl ?_
  refine j_get (pc := 27) C gf_Days_59 1 rfl rfl d_Days_countRows_27 ?_
  refine j_callVi (pc := 30) C (c_villageOn l D y k g vn vg t r d) kw_Days_109 kv_Lake_villageOn 0 2 rfl rfl ⟨by decide, by decide⟩ ⟨by decide, by decide⟩ (wr := [(h, .inr (7, [.int d, .int 0, .int 0, .ref a0, .ref a1, .ref a2, .ref a3, .ref a4, .ref a5, .ref a6]))]) [0] [1] rfl rfl (by decide) (by decide) (by decide) (As := [.int d]) (rest := [.ref h, .ref k]) rfl (nb rfl) rfl d_Days_countRows_30 (fun r1 _ hr1 => ?_)
  subst hr1
  refine j_ws (ws' := [(h, .inr (7, [.int d, .int 0, .int 0, .ref a0, .ref a1, .ref a2, .ref a3, .ref a4, .ref a5, .ref a6])), (k, .inr (2, [.int 0, .int 1, .int 1, .int 0, .ref g, .int 0, .ref vn, .ref vg, .ref t, .ref r, .int 0, .int 0, .int 9999, .int 0]))]) rfl ?_
  refine j_st (st' := [.int (-1), .ref h, .ref k]) rfl ?_
  refine j_iload (pc := 33) C d_Days_countRows_33 0 rfl ?_
  refine j_iconst (pc := 35) C (v := 0) d_Days_countRows_35 (by decide) ?_
  refine j_callSi (pc := 36) C (c_allows_0 l D y k h (-1) 0) kw_Days_43 ks_Days_allows ⟨by decide, by decide⟩ ⟨by decide, by decide⟩ (wr := [(h, .inr (7, [.int d, .int 0, .int 0, .ref a0, .ref a1, .ref a2, .ref a3, .ref a4, .ref a5, .ref a6])), (k, .inr (2, [.int 0, .int 1, .int 1, .int 0, .ref g, .int 0, .ref vn, .ref vg, .ref t, .ref r, .int 0, .int 0, .int 9999, .int 0]))]) [] [0, 1] rfl rfl (by decide) (by decide) (by decide) (As := [.ref k, .ref h, .int (-1), .int 0, .int 0]) (rest := []) rfl (nb rfl) rfl d_Days_countRows_36 (fun r2 _ hr2 => ?_)
  subst hr2
  refine j_ws (ws' := [(h, .inr (7, [.int d, .int 0, .int 0, .ref a0, .ref a1, .ref a2, .ref a3, .ref a4, .ref a5, .ref a6])), (k, .inr (2, [.int 0, .int 1, .int 1, .int 0, .ref g, .int 0, .ref vn, .ref vg, .ref t, .ref r, .int 0, .int 0, .int 9999, .int 0]))]) rfl ?_
  refine j_st (st' := [.int 1]) rfl ?_
  refine j_if_eqF (pc := 39) C (tgt := 107) d_Days_countRows_39 (by decide) (by decide) ?_
  refine j_aload_n (pc := 42) C d_Days_countRows_42 rfl 3 rfl ?_
  refine j_aload_n (pc := 43) C d_Days_countRows_43 rfl 4 rfl ?_
  refine j_iload (pc := 44) C d_Days_countRows_44 0 rfl ?_
  refine j_callSv (pc := 46) C (c_doAct l D y k h) kw_Days_47 ks_Days_doAct ⟨by decide, by decide⟩ ⟨by decide, by decide⟩ (wr := [(h, .inr (7, [.int d, .int 0, .int 0, .ref a0, .ref a1, .ref a2, .ref a3, .ref a4, .ref a5, .ref a6])), (k, .inr (2, [.int 0, .int 1, .int 1, .int 0, .ref g, .int 0, .ref vn, .ref vg, .ref t, .ref r, .int 0, .int 0, .int 9999, .int 0]))]) [] [0, 1] rfl rfl (by decide) (by decide) (by decide) (As := [.ref k, .ref h, .int 0]) (rest := []) rfl (nb rfl) rfl d_Days_countRows_46 (fun _ _ => ?_)
  refine j_ws (ws' := [(h, .inr (7, [.int d, .int 0, .int 0, .ref a0, .ref a1, .ref a2, .ref a3, .ref a4, .ref a5, .ref a6])), (k, .inr (2, [.int 0, .int 1, .int 1, .int 0, .ref g, .int 0, .ref vn, .ref vg, .ref t, .ref r, .int 0, .int 0, .int 9999, .int 0]))]) rfl ?_
  refine j_aload_n (pc := 49) C d_Days_countRows_49 rfl 4 rfl ?_
  refine j_dup (pc := 50) C d_Days_countRows_50 rfl ?_
  refine j_get (pc := 51) C gf_Days_59 0 rfl rfl d_Days_countRows_51 ?_
  refine j_iconst (pc := 54) C (v := 1) d_Days_countRows_54 (by decide) ?_
  refine j_iadd (pc := 55) C (v := d + 1) d_Days_countRows_55 rfl ?_
  refine j_put (pc := 56) C pf_Days_59 0 (ws' := [(h, .inr (7, [.int (d + 1), .int 0, .int 0, .ref a0, .ref a1, .ref a2, .ref a3, .ref a4, .ref a5, .ref a6])), (k, .inr (2, [.int 0, .int 1, .int 1, .int 0, .ref g, .int 0, .ref vn, .ref vg, .ref t, .ref r, .int 0, .int 0, .int 9999, .int 0]))]) rfl rfl rfl (nl rfl) rfl d_Days_countRows_56 ?_
  refine j_iload_n (pc := 59) C d_Days_countRows_59 rfl 2 rfl ?_
  refine j_aload_n (pc := 60) C d_Days_countRows_60 rfl 3 rfl ?_
  refine j_aload_n (pc := 61) C d_Days_countRows_61 rfl 4 rfl ?_
  refine j_iload_n (pc := 62) C d_Days_countRows_62 rfl 5 rfl ?_
  refine j_iconst (pc := 63) C (v := 1) d_Days_countRows_63 (by decide) ?_
  refine j_isub (pc := 64) C (v := 5) d_Days_countRows_64 (by decide) ?_
  refine j_callSi (pc := 65) C (c_countRows_5 l D y k h g vn vg t r (d + 1) a0 a1 a2 a3 a4 a5 a6) kw_Days_159 ks_Days_countRows ⟨by decide, by decide⟩ ⟨by decide, by decide⟩ (wr := []) [1, 0] [] rfl rfl (by decide) (by decide) (by decide) (As := [.ref k, .ref h, .int 5]) (rest := [.int 0]) rfl (nb rfl) rfl d_Days_countRows_65 (fun r3 _ hr3 => ?_)
  subst hr3
  refine j_ws (ws' := [(k, .inr (2, [.int 0, .int 1, .int 1, .int 0, .ref g, .int 0, .ref vn, .ref vg, .ref t, .ref r, .int 0, .int 0, .int 9999, .int 0])), (h, .inr (7, [.int (d + 1), .int 0, .int 0, .ref a0, .ref a1, .ref a2, .ref a3, .ref a4, .ref a5, .ref a6]))]) rfl ?_
  refine j_st (st' := [.int 1, .int 0]) rfl ?_
  refine j_iadd (pc := 68) C (v := 1) d_Days_countRows_68 (by decide) ?_
  refine j_istore_n (pc := 69) C (lv' := [(3, .int 1), (5, .int 0), (4, .int 0), (0, .ref k), (1, .ref h), (2, .int 6)]) d_Days_countRows_69 rfl (by decide) rfl ?_
  refine j_aload_n (pc := 70) C d_Days_countRows_70 rfl 4 rfl ?_
  refine j_dup (pc := 71) C d_Days_countRows_71 rfl ?_
  refine j_get (pc := 72) C gf_Days_59 1 rfl rfl d_Days_countRows_72 ?_
  refine j_iconst (pc := 75) C (v := 1) d_Days_countRows_75 (by decide) ?_
  refine j_isub (pc := 76) C (v := d) d_Days_countRows_76 (d_back d) ?_
  refine j_put (pc := 77) C pf_Days_59 1 (ws' := [(k, .inr (2, [.int 0, .int 1, .int 1, .int 0, .ref g, .int 0, .ref vn, .ref vg, .ref t, .ref r, .int 0, .int 0, .int 9999, .int 0])), (h, .inr (7, [.int d, .int 0, .int 0, .ref a0, .ref a1, .ref a2, .ref a3, .ref a4, .ref a5, .ref a6]))]) rfl rfl rfl (nl rfl) rfl d_Days_countRows_77 ?_
  refine j_iload (pc := 80) C d_Days_countRows_80 1 rfl ?_
  refine j_if_eqT (pc := 82) C (tgt := 101) d_Days_countRows_82 (by decide) (by decide) ?_
  refine j_aload_n (pc := 101) C d_Days_countRows_101 rfl 4 rfl ?_
  refine j_iload (pc := 102) C d_Days_countRows_102 2 rfl ?_
  refine j_put (pc := 104) C pf_Days_15 1 (ws' := [(k, .inr (2, [.int 0, .int 1, .int 1, .int 0, .ref g, .int 0, .ref vn, .ref vg, .ref t, .ref r, .int 0, .int 0, .int 9999, .int 0])), (h, .inr (7, [.int d, .int 0, .int 0, .ref a0, .ref a1, .ref a2, .ref a3, .ref a4, .ref a5, .ref a6]))]) rfl rfl rfl (nl rfl) rfl d_Days_countRows_104 ?_
  refine j_iinc (pc := 107) C (v := 1) (lv' := [(5, .int 1), (3, .int 1), (4, .int 0), (0, .ref k), (1, .ref h), (2, .int 6)]) d_Days_countRows_107 1 rfl (by decide) (by decide) rfl ?_
  refine j_goto (pc := 110) C (tgt := 17) d_Days_countRows_110 (by decide) ?_
  refine j_iload (pc := 17) C d_Days_countRows_17 0 rfl ?_
  refine j_iconst (pc := 19) C (v := 3) d_Days_countRows_19 (by decide) ?_
  refine j_icmp_geF (pc := 20) C (tgt := 113) d_Days_countRows_20 (by decide) (by decide) ?_
  refine j_aload_n (pc := 23) C d_Days_countRows_23 rfl 3 rfl ?_
  refine j_aload_n (pc := 24) C d_Days_countRows_24 rfl 4 rfl ?_
  refine j_aload_n (pc := 25) C d_Days_countRows_25 rfl 3 rfl ?_
  refine j_aload_n (pc := 26) C d_Days_countRows_26 rfl 4 rfl ?_
  refine j_get (pc := 27) C gf_Days_59 1 rfl rfl d_Days_countRows_27 ?_
  refine j_callVi (pc := 30) C (c_villageOn l D y k g vn vg t r d) kw_Days_109 kv_Lake_villageOn 0 2 rfl rfl ⟨by decide, by decide⟩ ⟨by decide, by decide⟩ (wr := [(h, .inr (7, [.int d, .int 0, .int 0, .ref a0, .ref a1, .ref a2, .ref a3, .ref a4, .ref a5, .ref a6]))]) [0] [1] rfl rfl (by decide) (by decide) (by decide) (As := [.int d]) (rest := [.ref h, .ref k]) rfl (nb rfl) rfl d_Days_countRows_30 (fun r4 _ hr4 => ?_)
  subst hr4
  refine j_ws (ws' := [(h, .inr (7, [.int d, .int 0, .int 0, .ref a0, .ref a1, .ref a2, .ref a3, .ref a4, .ref a5, .ref a6])), (k, .inr (2, [.int 0, .int 1, .int 1, .int 0, .ref g, .int 0, .ref vn, .ref vg, .ref t, .ref r, .int 0, .int 0, .int 9999, .int 0]))]) rfl ?_
  refine j_st (st' := [.int (-1), .ref h, .ref k]) rfl ?_
  refine j_iload (pc := 33) C d_Days_countRows_33 0 rfl ?_
  refine j_iconst (pc := 35) C (v := 0) d_Days_countRows_35 (by decide) ?_
  refine j_callSi (pc := 36) C (c_allows_n l D y k g vn vg t r h (-1) 1 0 (by decide)) kw_Days_43 ks_Days_allows ⟨by decide, by decide⟩ ⟨by decide, by decide⟩ (wr := [(h, .inr (7, [.int d, .int 0, .int 0, .ref a0, .ref a1, .ref a2, .ref a3, .ref a4, .ref a5, .ref a6]))]) [1] [0] rfl rfl (by decide) (by decide) (by decide) (As := [.ref k, .ref h, .int (-1), .int 1, .int 0]) (rest := []) rfl (nb rfl) rfl d_Days_countRows_36 (fun r5 _ hr5 => ?_)
  subst hr5
  refine j_ws (ws' := [(h, .inr (7, [.int d, .int 0, .int 0, .ref a0, .ref a1, .ref a2, .ref a3, .ref a4, .ref a5, .ref a6])), (k, .inr (2, [.int 0, .int 1, .int 1, .int 0, .ref g, .int 0, .ref vn, .ref vg, .ref t, .ref r, .int 0, .int 0, .int 9999, .int 0]))]) rfl ?_
  refine j_st (st' := [.int 0]) rfl ?_
  refine j_if_eqT (pc := 39) C (tgt := 107) d_Days_countRows_39 (by decide) (by decide) ?_
  refine j_iinc (pc := 107) C (v := 2) (lv' := [(5, .int 2), (3, .int 1), (4, .int 0), (0, .ref k), (1, .ref h), (2, .int 6)]) d_Days_countRows_107 0 rfl (by decide) (by decide) rfl ?_
  refine j_goto (pc := 110) C (tgt := 17) d_Days_countRows_110 (by decide) ?_
  refine j_iload (pc := 17) C d_Days_countRows_17 0 rfl ?_
  refine j_iconst (pc := 19) C (v := 3) d_Days_countRows_19 (by decide) ?_
  refine j_icmp_geF (pc := 20) C (tgt := 113) d_Days_countRows_20 (by decide) (by decide) ?_
  refine j_aload_n (pc := 23) C d_Days_countRows_23 rfl 3 rfl ?_
  refine j_aload_n (pc := 24) C d_Days_countRows_24 rfl 4 rfl ?_
  refine j_aload_n (pc := 25) C d_Days_countRows_25 rfl 3 rfl ?_
  refine j_aload_n (pc := 26) C d_Days_countRows_26 rfl 4 rfl ?_
  refine j_get (pc := 27) C gf_Days_59 0 rfl rfl d_Days_countRows_27 ?_
  refine j_callVi (pc := 30) C (c_villageOn l D y k g vn vg t r d) kw_Days_109 kv_Lake_villageOn 0 2 rfl rfl ⟨by decide, by decide⟩ ⟨by decide, by decide⟩ (wr := [(h, .inr (7, [.int d, .int 0, .int 0, .ref a0, .ref a1, .ref a2, .ref a3, .ref a4, .ref a5, .ref a6]))]) [1] [0] rfl rfl (by decide) (by decide) (by decide) (As := [.int d]) (rest := [.ref h, .ref k]) rfl (nb rfl) rfl d_Days_countRows_30 (fun r6 _ hr6 => ?_)
  subst hr6
  refine j_ws (ws' := [(h, .inr (7, [.int d, .int 0, .int 0, .ref a0, .ref a1, .ref a2, .ref a3, .ref a4, .ref a5, .ref a6])), (k, .inr (2, [.int 0, .int 1, .int 1, .int 0, .ref g, .int 0, .ref vn, .ref vg, .ref t, .ref r, .int 0, .int 0, .int 9999, .int 0]))]) rfl ?_
  refine j_st (st' := [.int (-1), .ref h, .ref k]) rfl ?_
  refine j_iload (pc := 33) C d_Days_countRows_33 0 rfl ?_
  refine j_iconst (pc := 35) C (v := 0) d_Days_countRows_35 (by decide) ?_
  refine j_callSi (pc := 36) C (c_allows_n l D y k g vn vg t r h (-1) 2 0 (by decide)) kw_Days_43 ks_Days_allows ⟨by decide, by decide⟩ ⟨by decide, by decide⟩ (wr := [(h, .inr (7, [.int d, .int 0, .int 0, .ref a0, .ref a1, .ref a2, .ref a3, .ref a4, .ref a5, .ref a6]))]) [1] [0] rfl rfl (by decide) (by decide) (by decide) (As := [.ref k, .ref h, .int (-1), .int 2, .int 0]) (rest := []) rfl (nb rfl) rfl d_Days_countRows_36 (fun r7 _ hr7 => ?_)
  subst hr7
  refine j_ws (ws' := [(h, .inr (7, [.int d, .int 0, .int 0, .ref a0, .ref a1, .ref a2, .ref a3, .ref a4, .ref a5, .ref a6])), (k, .inr (2, [.int 0, .int 1, .int 1, .int 0, .ref g, .int 0, .ref vn, .ref vg, .ref t, .ref r, .int 0, .int 0, .int 9999, .int 0]))]) rfl ?_
  refine j_st (st' := [.int 0]) rfl ?_
  refine j_if_eqT (pc := 39) C (tgt := 107) d_Days_countRows_39 (by decide) (by decide) ?_
  refine j_iinc (pc := 107) C (v := 3) (lv' := [(5, .int 3), (3, .int 1), (4, .int 0), (0, .ref k), (1, .ref h), (2, .int 6)]) d_Days_countRows_107 0 rfl (by decide) (by decide) rfl ?_
  refine j_goto (pc := 110) C (tgt := 17) d_Days_countRows_110 (by decide) ?_
  refine j_iload (pc := 17) C d_Days_countRows_17 0 rfl ?_
  refine j_iconst (pc := 19) C (v := 3) d_Days_countRows_19 (by decide) ?_
  refine j_icmp_geT (pc := 20) C (tgt := 113) d_Days_countRows_20 (by decide) (by decide) ?_
  refine j_iload_n (pc := 113) C d_Days_countRows_113 rfl 1 rfl ?_
  exact j_iret (pc := 114) C hr rfl () rfl [1, 0] rfl (by decide) (by decide) (by decide) d_Days_countRows_114
set_option maxHeartbeats 4000000 in
set_option maxRecDepth 100000 in
theorem c_countRows_7 (l : Launch) (D : va_G) (y : Nat → ClassId) (k : Nat) (h : Nat) (g : Nat) (vn : Nat) (vg : Nat) (t : Nat) (r : Nat) (d : Int32) (a0 : Nat) (a1 : Nat) (a2 : Nat) (a3 : Nat) (a4 : Nat) (a5 : Nat) (a6 : Nat)  : CT l D y ⟨"NineBoards$Days", "countRows", "(LNineBoards$Lake;LNineBoards$State;I)I"⟩ prog_3_method_14_code 6 (some .int) ({ frames := 8, cells := 0, slots := 0, locals := 197 } : Room) [.ref k, .ref h, .int 7] [(k, .inr (2, [.int 0, .int 1, .int 1, .int 0, .ref g, .int 0, .ref vn, .ref vg, .ref t, .ref r, .int 0, .int 0, .int 9999, .int 0])), (h, .inr (7, [.int d, .int 0, .int 0, .ref a0, .ref a1, .ref a2, .ref a3, .ref a4, .ref a5, .ref a6]))] (QI D [(k, .inr (2, [.int 0, .int 1, .int 1, .int 0, .ref g, .int 0, .ref vn, .ref vg, .ref t, .ref r, .int 0, .int 0, .int 9999, .int 0])), (h, .inr (7, [.int d, .int 0, .int 0, .ref a0, .ref a1, .ref a2, .ref a3, .ref a4, .ref a5, .ref a6]))] (fun (r : Int32) (_ : Unit) => r = 1) (fun _ => [(k, .inr (2, [.int 0, .int 1, .int 1, .int 0, .ref g, .int 0, .ref vn, .ref vg, .ref t, .ref r, .int 0, .int 0, .int 9999, .int 0])), (h, .inr (7, [.int d, .int 0, .int 0, .ref a0, .ref a1, .ref a2, .ref a3, .ref a4, .ref a5, .ref a6]))])) := by
  refine CT.of (by decide) (nb rfl) ?_
  intro p e s m args below meth c C hr
  refine j_lv (lv' := [(0, .ref k), (1, .ref h), (2, .int 7)]) rfl ?_
  refine j_iload_n (pc := 0) C d_Days_countRows_0 rfl 2 rfl ?_
  refine j_if_gtT (pc := 1) C (tgt := 6) d_Days_countRows_1 (by decide) (by decide) ?_
  refine j_iconst (pc := 6) C (v := 0) d_Days_countRows_6 (by decide) ?_
  refine j_istore_n (pc := 7) C (lv' := [(3, .int 0), (0, .ref k), (1, .ref h), (2, .int 7)]) d_Days_countRows_7 rfl (by decide) rfl ?_
  refine j_aload_n (pc := 8) C d_Days_countRows_8 rfl 2 rfl ?_
  refine j_get (pc := 9) C gf_Days_15 1 rfl rfl d_Days_countRows_9 ?_
  refine j_istore (pc := 12) C (lv' := [(4, .int 0), (3, .int 0), (0, .ref k), (1, .ref h), (2, .int 7)]) d_Days_countRows_12 (by decide) rfl ?_
  refine j_iconst (pc := 14) C (v := 0) d_Days_countRows_14 (by decide) ?_
  refine j_istore (pc := 15) C (lv' := [(5, .int 0), (4, .int 0), (3, .int 0), (0, .ref k), (1, .ref h), (2, .int 7)]) d_Days_countRows_15 (by decide) rfl ?_
  refine j_iload (pc := 17) C d_Days_countRows_17 0 rfl ?_
  refine j_iconst (pc := 19) C (v := 3) d_Days_countRows_19 (by decide) ?_
  refine j_icmp_geF (pc := 20) C (tgt := 113) d_Days_countRows_20 (by decide) (by decide) ?_
  refine j_aload_n (pc := 23) C d_Days_countRows_23 rfl 3 rfl ?_
  refine j_aload_n (pc := 24) C d_Days_countRows_24 rfl 4 rfl ?_
  refine j_aload_n (pc := 25) C d_Days_countRows_25 rfl 3 rfl ?_
  refine j_aload_n (pc := 26) C d_Days_countRows_26 rfl 4 rfl ?_
  refine j_get (pc := 27) C gf_Days_59 1 rfl rfl d_Days_countRows_27 ?_
  refine j_callVi (pc := 30) C (c_villageOn l D y k g vn vg t r d) kw_Days_109 kv_Lake_villageOn 0 2 rfl rfl ⟨by decide, by decide⟩ ⟨by decide, by decide⟩ (wr := [(h, .inr (7, [.int d, .int 0, .int 0, .ref a0, .ref a1, .ref a2, .ref a3, .ref a4, .ref a5, .ref a6]))]) [0] [1] rfl rfl (by decide) (by decide) (by decide) (As := [.int d]) (rest := [.ref h, .ref k]) rfl (nb rfl) rfl d_Days_countRows_30 (fun r1 _ hr1 => ?_)
  subst hr1
  refine j_ws (ws' := [(h, .inr (7, [.int d, .int 0, .int 0, .ref a0, .ref a1, .ref a2, .ref a3, .ref a4, .ref a5, .ref a6])), (k, .inr (2, [.int 0, .int 1, .int 1, .int 0, .ref g, .int 0, .ref vn, .ref vg, .ref t, .ref r, .int 0, .int 0, .int 9999, .int 0]))]) rfl ?_
  refine j_st (st' := [.int (-1), .ref h, .ref k]) rfl ?_
  refine j_iload (pc := 33) C d_Days_countRows_33 0 rfl ?_
  refine j_iconst (pc := 35) C (v := 0) d_Days_countRows_35 (by decide) ?_
  refine j_callSi (pc := 36) C (c_allows_0 l D y k h (-1) 0) kw_Days_43 ks_Days_allows ⟨by decide, by decide⟩ ⟨by decide, by decide⟩ (wr := [(h, .inr (7, [.int d, .int 0, .int 0, .ref a0, .ref a1, .ref a2, .ref a3, .ref a4, .ref a5, .ref a6])), (k, .inr (2, [.int 0, .int 1, .int 1, .int 0, .ref g, .int 0, .ref vn, .ref vg, .ref t, .ref r, .int 0, .int 0, .int 9999, .int 0]))]) [] [0, 1] rfl rfl (by decide) (by decide) (by decide) (As := [.ref k, .ref h, .int (-1), .int 0, .int 0]) (rest := []) rfl (nb rfl) rfl d_Days_countRows_36 (fun r2 _ hr2 => ?_)
  subst hr2
  refine j_ws (ws' := [(h, .inr (7, [.int d, .int 0, .int 0, .ref a0, .ref a1, .ref a2, .ref a3, .ref a4, .ref a5, .ref a6])), (k, .inr (2, [.int 0, .int 1, .int 1, .int 0, .ref g, .int 0, .ref vn, .ref vg, .ref t, .ref r, .int 0, .int 0, .int 9999, .int 0]))]) rfl ?_
  refine j_st (st' := [.int 1]) rfl ?_
  refine j_if_eqF (pc := 39) C (tgt := 107) d_Days_countRows_39 (by decide) (by decide) ?_
  refine j_aload_n (pc := 42) C d_Days_countRows_42 rfl 3 rfl ?_
  refine j_aload_n (pc := 43) C d_Days_countRows_43 rfl 4 rfl ?_
  refine j_iload (pc := 44) C d_Days_countRows_44 0 rfl ?_
  refine j_callSv (pc := 46) C (c_doAct l D y k h) kw_Days_47 ks_Days_doAct ⟨by decide, by decide⟩ ⟨by decide, by decide⟩ (wr := [(h, .inr (7, [.int d, .int 0, .int 0, .ref a0, .ref a1, .ref a2, .ref a3, .ref a4, .ref a5, .ref a6])), (k, .inr (2, [.int 0, .int 1, .int 1, .int 0, .ref g, .int 0, .ref vn, .ref vg, .ref t, .ref r, .int 0, .int 0, .int 9999, .int 0]))]) [] [0, 1] rfl rfl (by decide) (by decide) (by decide) (As := [.ref k, .ref h, .int 0]) (rest := []) rfl (nb rfl) rfl d_Days_countRows_46 (fun _ _ => ?_)
  refine j_ws (ws' := [(h, .inr (7, [.int d, .int 0, .int 0, .ref a0, .ref a1, .ref a2, .ref a3, .ref a4, .ref a5, .ref a6])), (k, .inr (2, [.int 0, .int 1, .int 1, .int 0, .ref g, .int 0, .ref vn, .ref vg, .ref t, .ref r, .int 0, .int 0, .int 9999, .int 0]))]) rfl ?_
  refine j_aload_n (pc := 49) C d_Days_countRows_49 rfl 4 rfl ?_
  refine j_dup (pc := 50) C d_Days_countRows_50 rfl ?_
  refine j_get (pc := 51) C gf_Days_59 0 rfl rfl d_Days_countRows_51 ?_
  refine j_iconst (pc := 54) C (v := 1) d_Days_countRows_54 (by decide) ?_
  refine j_iadd (pc := 55) C (v := d + 1) d_Days_countRows_55 rfl ?_
  refine j_put (pc := 56) C pf_Days_59 0 (ws' := [(h, .inr (7, [.int (d + 1), .int 0, .int 0, .ref a0, .ref a1, .ref a2, .ref a3, .ref a4, .ref a5, .ref a6])), (k, .inr (2, [.int 0, .int 1, .int 1, .int 0, .ref g, .int 0, .ref vn, .ref vg, .ref t, .ref r, .int 0, .int 0, .int 9999, .int 0]))]) rfl rfl rfl (nl rfl) rfl d_Days_countRows_56 ?_
  refine j_iload_n (pc := 59) C d_Days_countRows_59 rfl 2 rfl ?_
  refine j_aload_n (pc := 60) C d_Days_countRows_60 rfl 3 rfl ?_
  refine j_aload_n (pc := 61) C d_Days_countRows_61 rfl 4 rfl ?_
  refine j_iload_n (pc := 62) C d_Days_countRows_62 rfl 5 rfl ?_
  refine j_iconst (pc := 63) C (v := 1) d_Days_countRows_63 (by decide) ?_
  refine j_isub (pc := 64) C (v := 6) d_Days_countRows_64 (by decide) ?_
  refine j_callSi (pc := 65) C (c_countRows_6 l D y k h g vn vg t r (d + 1) a0 a1 a2 a3 a4 a5 a6) kw_Days_159 ks_Days_countRows ⟨by decide, by decide⟩ ⟨by decide, by decide⟩ (wr := []) [1, 0] [] rfl rfl (by decide) (by decide) (by decide) (As := [.ref k, .ref h, .int 6]) (rest := [.int 0]) rfl (nb rfl) rfl d_Days_countRows_65 (fun r3 _ hr3 => ?_)
  subst hr3
  refine j_ws (ws' := [(k, .inr (2, [.int 0, .int 1, .int 1, .int 0, .ref g, .int 0, .ref vn, .ref vg, .ref t, .ref r, .int 0, .int 0, .int 9999, .int 0])), (h, .inr (7, [.int (d + 1), .int 0, .int 0, .ref a0, .ref a1, .ref a2, .ref a3, .ref a4, .ref a5, .ref a6]))]) rfl ?_
  refine j_st (st' := [.int 1, .int 0]) rfl ?_
  refine j_iadd (pc := 68) C (v := 1) d_Days_countRows_68 (by decide) ?_
  refine j_istore_n (pc := 69) C (lv' := [(3, .int 1), (5, .int 0), (4, .int 0), (0, .ref k), (1, .ref h), (2, .int 7)]) d_Days_countRows_69 rfl (by decide) rfl ?_
  refine j_aload_n (pc := 70) C d_Days_countRows_70 rfl 4 rfl ?_
  refine j_dup (pc := 71) C d_Days_countRows_71 rfl ?_
  refine j_get (pc := 72) C gf_Days_59 1 rfl rfl d_Days_countRows_72 ?_
  refine j_iconst (pc := 75) C (v := 1) d_Days_countRows_75 (by decide) ?_
  refine j_isub (pc := 76) C (v := d) d_Days_countRows_76 (d_back d) ?_
  refine j_put (pc := 77) C pf_Days_59 1 (ws' := [(k, .inr (2, [.int 0, .int 1, .int 1, .int 0, .ref g, .int 0, .ref vn, .ref vg, .ref t, .ref r, .int 0, .int 0, .int 9999, .int 0])), (h, .inr (7, [.int d, .int 0, .int 0, .ref a0, .ref a1, .ref a2, .ref a3, .ref a4, .ref a5, .ref a6]))]) rfl rfl rfl (nl rfl) rfl d_Days_countRows_77 ?_
  refine j_iload (pc := 80) C d_Days_countRows_80 1 rfl ?_
  refine j_if_eqT (pc := 82) C (tgt := 101) d_Days_countRows_82 (by decide) (by decide) ?_
  refine j_aload_n (pc := 101) C d_Days_countRows_101 rfl 4 rfl ?_
  refine j_iload (pc := 102) C d_Days_countRows_102 2 rfl ?_
  refine j_put (pc := 104) C pf_Days_15 1 (ws' := [(k, .inr (2, [.int 0, .int 1, .int 1, .int 0, .ref g, .int 0, .ref vn, .ref vg, .ref t, .ref r, .int 0, .int 0, .int 9999, .int 0])), (h, .inr (7, [.int d, .int 0, .int 0, .ref a0, .ref a1, .ref a2, .ref a3, .ref a4, .ref a5, .ref a6]))]) rfl rfl rfl (nl rfl) rfl d_Days_countRows_104 ?_
  refine j_iinc (pc := 107) C (v := 1) (lv' := [(5, .int 1), (3, .int 1), (4, .int 0), (0, .ref k), (1, .ref h), (2, .int 7)]) d_Days_countRows_107 1 rfl (by decide) (by decide) rfl ?_
  refine j_goto (pc := 110) C (tgt := 17) d_Days_countRows_110 (by decide) ?_
  refine j_iload (pc := 17) C d_Days_countRows_17 0 rfl ?_
  refine j_iconst (pc := 19) C (v := 3) d_Days_countRows_19 (by decide) ?_
  refine j_icmp_geF (pc := 20) C (tgt := 113) d_Days_countRows_20 (by decide) (by decide) ?_
  refine j_aload_n (pc := 23) C d_Days_countRows_23 rfl 3 rfl ?_
  refine j_aload_n (pc := 24) C d_Days_countRows_24 rfl 4 rfl ?_
  refine j_aload_n (pc := 25) C d_Days_countRows_25 rfl 3 rfl ?_
  refine j_aload_n (pc := 26) C d_Days_countRows_26 rfl 4 rfl ?_
  refine j_get (pc := 27) C gf_Days_59 1 rfl rfl d_Days_countRows_27 ?_
  refine j_callVi (pc := 30) C (c_villageOn l D y k g vn vg t r d) kw_Days_109 kv_Lake_villageOn 0 2 rfl rfl ⟨by decide, by decide⟩ ⟨by decide, by decide⟩ (wr := [(h, .inr (7, [.int d, .int 0, .int 0, .ref a0, .ref a1, .ref a2, .ref a3, .ref a4, .ref a5, .ref a6]))]) [0] [1] rfl rfl (by decide) (by decide) (by decide) (As := [.int d]) (rest := [.ref h, .ref k]) rfl (nb rfl) rfl d_Days_countRows_30 (fun r4 _ hr4 => ?_)
  subst hr4
  refine j_ws (ws' := [(h, .inr (7, [.int d, .int 0, .int 0, .ref a0, .ref a1, .ref a2, .ref a3, .ref a4, .ref a5, .ref a6])), (k, .inr (2, [.int 0, .int 1, .int 1, .int 0, .ref g, .int 0, .ref vn, .ref vg, .ref t, .ref r, .int 0, .int 0, .int 9999, .int 0]))]) rfl ?_
  refine j_st (st' := [.int (-1), .ref h, .ref k]) rfl ?_
  refine j_iload (pc := 33) C d_Days_countRows_33 0 rfl ?_
  refine j_iconst (pc := 35) C (v := 0) d_Days_countRows_35 (by decide) ?_
  refine j_callSi (pc := 36) C (c_allows_n l D y k g vn vg t r h (-1) 1 0 (by decide)) kw_Days_43 ks_Days_allows ⟨by decide, by decide⟩ ⟨by decide, by decide⟩ (wr := [(h, .inr (7, [.int d, .int 0, .int 0, .ref a0, .ref a1, .ref a2, .ref a3, .ref a4, .ref a5, .ref a6]))]) [1] [0] rfl rfl (by decide) (by decide) (by decide) (As := [.ref k, .ref h, .int (-1), .int 1, .int 0]) (rest := []) rfl (nb rfl) rfl d_Days_countRows_36 (fun r5 _ hr5 => ?_)
  subst hr5
  refine j_ws (ws' := [(h, .inr (7, [.int d, .int 0, .int 0, .ref a0, .ref a1, .ref a2, .ref a3, .ref a4, .ref a5, .ref a6])), (k, .inr (2, [.int 0, .int 1, .int 1, .int 0, .ref g, .int 0, .ref vn, .ref vg, .ref t, .ref r, .int 0, .int 0, .int 9999, .int 0]))]) rfl ?_
  refine j_st (st' := [.int 0]) rfl ?_
  refine j_if_eqT (pc := 39) C (tgt := 107) d_Days_countRows_39 (by decide) (by decide) ?_
  refine j_iinc (pc := 107) C (v := 2) (lv' := [(5, .int 2), (3, .int 1), (4, .int 0), (0, .ref k), (1, .ref h), (2, .int 7)]) d_Days_countRows_107 0 rfl (by decide) (by decide) rfl ?_
  refine j_goto (pc := 110) C (tgt := 17) d_Days_countRows_110 (by decide) ?_
  refine j_iload (pc := 17) C d_Days_countRows_17 0 rfl ?_
  refine j_iconst (pc := 19) C (v := 3) d_Days_countRows_19 (by decide) ?_
  refine j_icmp_geF (pc := 20) C (tgt := 113) d_Days_countRows_20 (by decide) (by decide) ?_
  refine j_aload_n (pc := 23) C d_Days_countRows_23 rfl 3 rfl ?_
  refine j_aload_n (pc := 24) C d_Days_countRows_24 rfl 4 rfl ?_
  refine j_aload_n (pc := 25) C d_Days_countRows_25 rfl 3 rfl ?_
  refine j_aload_n (pc := 26) C d_Days_countRows_26 rfl 4 rfl ?_
  refine j_get (pc := 27) C gf_Days_59 0 rfl rfl d_Days_countRows_27 ?_
  refine j_callVi (pc := 30) C (c_villageOn l D y k g vn vg t r d) kw_Days_109 kv_Lake_villageOn 0 2 rfl rfl ⟨by decide, by decide⟩ ⟨by decide, by decide⟩ (wr := [(h, .inr (7, [.int d, .int 0, .int 0, .ref a0, .ref a1, .ref a2, .ref a3, .ref a4, .ref a5, .ref a6]))]) [1] [0] rfl rfl (by decide) (by decide) (by decide) (As := [.int d]) (rest := [.ref h, .ref k]) rfl (nb rfl) rfl d_Days_countRows_30 (fun r6 _ hr6 => ?_)
  subst hr6
  refine j_ws (ws' := [(h, .inr (7, [.int d, .int 0, .int 0, .ref a0, .ref a1, .ref a2, .ref a3, .ref a4, .ref a5, .ref a6])), (k, .inr (2, [.int 0, .int 1, .int 1, .int 0, .ref g, .int 0, .ref vn, .ref vg, .ref t, .ref r, .int 0, .int 0, .int 9999, .int 0]))]) rfl ?_
  refine j_st (st' := [.int (-1), .ref h, .ref k]) rfl ?_
  refine j_iload (pc := 33) C d_Days_countRows_33 0 rfl ?_
  refine j_iconst (pc := 35) C (v := 0) d_Days_countRows_35 (by decide) ?_
  refine j_callSi (pc := 36) C (c_allows_n l D y k g vn vg t r h (-1) 2 0 (by decide)) kw_Days_43 ks_Days_allows ⟨by decide, by decide⟩ ⟨by decide, by decide⟩ (wr := [(h, .inr (7, [.int d, .int 0, .int 0, .ref a0, .ref a1, .ref a2, .ref a3, .ref a4, .ref a5, .ref a6]))]) [1] [0] rfl rfl (by decide) (by decide) (by decide) (As := [.ref k, .ref h, .int (-1), .int 2, .int 0]) (rest := []) rfl (nb rfl) rfl d_Days_countRows_36 (fun r7 _ hr7 => ?_)
  subst hr7
  refine j_ws (ws' := [(h, .inr (7, [.int d, .int 0, .int 0, .ref a0, .ref a1, .ref a2, .ref a3, .ref a4, .ref a5, .ref a6])), (k, .inr (2, [.int 0, .int 1, .int 1, .int 0, .ref g, .int 0, .ref vn, .ref vg, .ref t, .ref r, .int 0, .int 0, .int 9999, .int 0]))]) rfl ?_
  refine j_st (st' := [.int 0]) rfl ?_
  refine j_if_eqT (pc := 39) C (tgt := 107) d_Days_countRows_39 (by decide) (by decide) ?_
  refine j_iinc (pc := 107) C (v := 3) (lv' := [(5, .int 3), (3, .int 1), (4, .int 0), (0, .ref k), (1, .ref h), (2, .int 7)]) d_Days_countRows_107 0 rfl (by decide) (by decide) rfl ?_
  refine j_goto (pc := 110) C (tgt := 17) d_Days_countRows_110 (by decide) ?_
  refine j_iload (pc := 17) C d_Days_countRows_17 0 rfl ?_
  refine j_iconst (pc := 19) C (v := 3) d_Days_countRows_19 (by decide) ?_
  refine j_icmp_geT (pc := 20) C (tgt := 113) d_Days_countRows_20 (by decide) (by decide) ?_
  refine j_iload_n (pc := 113) C d_Days_countRows_113 rfl 1 rfl ?_
  exact j_iret (pc := 114) C hr rfl () rfl [1, 0] rfl (by decide) (by decide) (by decide) d_Days_countRows_114
set_option maxHeartbeats 4000000 in
set_option maxRecDepth 100000 in
theorem c_countRows_8 (l : Launch) (D : va_G) (y : Nat → ClassId) (k : Nat) (h : Nat) (g : Nat) (vn : Nat) (vg : Nat) (t : Nat) (r : Nat) (d : Int32) (a0 : Nat) (a1 : Nat) (a2 : Nat) (a3 : Nat) (a4 : Nat) (a5 : Nat) (a6 : Nat)  : CT l D y ⟨"NineBoards$Days", "countRows", "(LNineBoards$Lake;LNineBoards$State;I)I"⟩ prog_3_method_14_code 6 (some .int) ({ frames := 9, cells := 0, slots := 0, locals := 222 } : Room) [.ref k, .ref h, .int 8] [(k, .inr (2, [.int 0, .int 1, .int 1, .int 0, .ref g, .int 0, .ref vn, .ref vg, .ref t, .ref r, .int 0, .int 0, .int 9999, .int 0])), (h, .inr (7, [.int d, .int 0, .int 0, .ref a0, .ref a1, .ref a2, .ref a3, .ref a4, .ref a5, .ref a6]))] (QI D [(k, .inr (2, [.int 0, .int 1, .int 1, .int 0, .ref g, .int 0, .ref vn, .ref vg, .ref t, .ref r, .int 0, .int 0, .int 9999, .int 0])), (h, .inr (7, [.int d, .int 0, .int 0, .ref a0, .ref a1, .ref a2, .ref a3, .ref a4, .ref a5, .ref a6]))] (fun (r : Int32) (_ : Unit) => r = 1) (fun _ => [(k, .inr (2, [.int 0, .int 1, .int 1, .int 0, .ref g, .int 0, .ref vn, .ref vg, .ref t, .ref r, .int 0, .int 0, .int 9999, .int 0])), (h, .inr (7, [.int d, .int 0, .int 0, .ref a0, .ref a1, .ref a2, .ref a3, .ref a4, .ref a5, .ref a6]))])) := by
  refine CT.of (by decide) (nb rfl) ?_
  intro p e s m args below meth c C hr
  refine j_lv (lv' := [(0, .ref k), (1, .ref h), (2, .int 8)]) rfl ?_
  refine j_iload_n (pc := 0) C d_Days_countRows_0 rfl 2 rfl ?_
  refine j_if_gtT (pc := 1) C (tgt := 6) d_Days_countRows_1 (by decide) (by decide) ?_
  refine j_iconst (pc := 6) C (v := 0) d_Days_countRows_6 (by decide) ?_
  refine j_istore_n (pc := 7) C (lv' := [(3, .int 0), (0, .ref k), (1, .ref h), (2, .int 8)]) d_Days_countRows_7 rfl (by decide) rfl ?_
  refine j_aload_n (pc := 8) C d_Days_countRows_8 rfl 2 rfl ?_
  refine j_get (pc := 9) C gf_Days_15 1 rfl rfl d_Days_countRows_9 ?_
  refine j_istore (pc := 12) C (lv' := [(4, .int 0), (3, .int 0), (0, .ref k), (1, .ref h), (2, .int 8)]) d_Days_countRows_12 (by decide) rfl ?_
  refine j_iconst (pc := 14) C (v := 0) d_Days_countRows_14 (by decide) ?_
  refine j_istore (pc := 15) C (lv' := [(5, .int 0), (4, .int 0), (3, .int 0), (0, .ref k), (1, .ref h), (2, .int 8)]) d_Days_countRows_15 (by decide) rfl ?_
  refine j_iload (pc := 17) C d_Days_countRows_17 0 rfl ?_
  refine j_iconst (pc := 19) C (v := 3) d_Days_countRows_19 (by decide) ?_
  refine j_icmp_geF (pc := 20) C (tgt := 113) d_Days_countRows_20 (by decide) (by decide) ?_
  refine j_aload_n (pc := 23) C d_Days_countRows_23 rfl 3 rfl ?_
  refine j_aload_n (pc := 24) C d_Days_countRows_24 rfl 4 rfl ?_
  refine j_aload_n (pc := 25) C d_Days_countRows_25 rfl 3 rfl ?_
  refine j_aload_n (pc := 26) C d_Days_countRows_26 rfl 4 rfl ?_
  refine j_get (pc := 27) C gf_Days_59 1 rfl rfl d_Days_countRows_27 ?_
  refine j_callVi (pc := 30) C (c_villageOn l D y k g vn vg t r d) kw_Days_109 kv_Lake_villageOn 0 2 rfl rfl ⟨by decide, by decide⟩ ⟨by decide, by decide⟩ (wr := [(h, .inr (7, [.int d, .int 0, .int 0, .ref a0, .ref a1, .ref a2, .ref a3, .ref a4, .ref a5, .ref a6]))]) [0] [1] rfl rfl (by decide) (by decide) (by decide) (As := [.int d]) (rest := [.ref h, .ref k]) rfl (nb rfl) rfl d_Days_countRows_30 (fun r1 _ hr1 => ?_)
  subst hr1
  refine j_ws (ws' := [(h, .inr (7, [.int d, .int 0, .int 0, .ref a0, .ref a1, .ref a2, .ref a3, .ref a4, .ref a5, .ref a6])), (k, .inr (2, [.int 0, .int 1, .int 1, .int 0, .ref g, .int 0, .ref vn, .ref vg, .ref t, .ref r, .int 0, .int 0, .int 9999, .int 0]))]) rfl ?_
  refine j_st (st' := [.int (-1), .ref h, .ref k]) rfl ?_
  refine j_iload (pc := 33) C d_Days_countRows_33 0 rfl ?_
  refine j_iconst (pc := 35) C (v := 0) d_Days_countRows_35 (by decide) ?_
  refine j_callSi (pc := 36) C (c_allows_0 l D y k h (-1) 0) kw_Days_43 ks_Days_allows ⟨by decide, by decide⟩ ⟨by decide, by decide⟩ (wr := [(h, .inr (7, [.int d, .int 0, .int 0, .ref a0, .ref a1, .ref a2, .ref a3, .ref a4, .ref a5, .ref a6])), (k, .inr (2, [.int 0, .int 1, .int 1, .int 0, .ref g, .int 0, .ref vn, .ref vg, .ref t, .ref r, .int 0, .int 0, .int 9999, .int 0]))]) [] [0, 1] rfl rfl (by decide) (by decide) (by decide) (As := [.ref k, .ref h, .int (-1), .int 0, .int 0]) (rest := []) rfl (nb rfl) rfl d_Days_countRows_36 (fun r2 _ hr2 => ?_)
  subst hr2
  refine j_ws (ws' := [(h, .inr (7, [.int d, .int 0, .int 0, .ref a0, .ref a1, .ref a2, .ref a3, .ref a4, .ref a5, .ref a6])), (k, .inr (2, [.int 0, .int 1, .int 1, .int 0, .ref g, .int 0, .ref vn, .ref vg, .ref t, .ref r, .int 0, .int 0, .int 9999, .int 0]))]) rfl ?_
  refine j_st (st' := [.int 1]) rfl ?_
  refine j_if_eqF (pc := 39) C (tgt := 107) d_Days_countRows_39 (by decide) (by decide) ?_
  refine j_aload_n (pc := 42) C d_Days_countRows_42 rfl 3 rfl ?_
  refine j_aload_n (pc := 43) C d_Days_countRows_43 rfl 4 rfl ?_
  refine j_iload (pc := 44) C d_Days_countRows_44 0 rfl ?_
  refine j_callSv (pc := 46) C (c_doAct l D y k h) kw_Days_47 ks_Days_doAct ⟨by decide, by decide⟩ ⟨by decide, by decide⟩ (wr := [(h, .inr (7, [.int d, .int 0, .int 0, .ref a0, .ref a1, .ref a2, .ref a3, .ref a4, .ref a5, .ref a6])), (k, .inr (2, [.int 0, .int 1, .int 1, .int 0, .ref g, .int 0, .ref vn, .ref vg, .ref t, .ref r, .int 0, .int 0, .int 9999, .int 0]))]) [] [0, 1] rfl rfl (by decide) (by decide) (by decide) (As := [.ref k, .ref h, .int 0]) (rest := []) rfl (nb rfl) rfl d_Days_countRows_46 (fun _ _ => ?_)
  refine j_ws (ws' := [(h, .inr (7, [.int d, .int 0, .int 0, .ref a0, .ref a1, .ref a2, .ref a3, .ref a4, .ref a5, .ref a6])), (k, .inr (2, [.int 0, .int 1, .int 1, .int 0, .ref g, .int 0, .ref vn, .ref vg, .ref t, .ref r, .int 0, .int 0, .int 9999, .int 0]))]) rfl ?_
  refine j_aload_n (pc := 49) C d_Days_countRows_49 rfl 4 rfl ?_
  refine j_dup (pc := 50) C d_Days_countRows_50 rfl ?_
  refine j_get (pc := 51) C gf_Days_59 0 rfl rfl d_Days_countRows_51 ?_
  refine j_iconst (pc := 54) C (v := 1) d_Days_countRows_54 (by decide) ?_
  refine j_iadd (pc := 55) C (v := d + 1) d_Days_countRows_55 rfl ?_
  refine j_put (pc := 56) C pf_Days_59 0 (ws' := [(h, .inr (7, [.int (d + 1), .int 0, .int 0, .ref a0, .ref a1, .ref a2, .ref a3, .ref a4, .ref a5, .ref a6])), (k, .inr (2, [.int 0, .int 1, .int 1, .int 0, .ref g, .int 0, .ref vn, .ref vg, .ref t, .ref r, .int 0, .int 0, .int 9999, .int 0]))]) rfl rfl rfl (nl rfl) rfl d_Days_countRows_56 ?_
  refine j_iload_n (pc := 59) C d_Days_countRows_59 rfl 2 rfl ?_
  refine j_aload_n (pc := 60) C d_Days_countRows_60 rfl 3 rfl ?_
  refine j_aload_n (pc := 61) C d_Days_countRows_61 rfl 4 rfl ?_
  refine j_iload_n (pc := 62) C d_Days_countRows_62 rfl 5 rfl ?_
  refine j_iconst (pc := 63) C (v := 1) d_Days_countRows_63 (by decide) ?_
  refine j_isub (pc := 64) C (v := 7) d_Days_countRows_64 (by decide) ?_
  refine j_callSi (pc := 65) C (c_countRows_7 l D y k h g vn vg t r (d + 1) a0 a1 a2 a3 a4 a5 a6) kw_Days_159 ks_Days_countRows ⟨by decide, by decide⟩ ⟨by decide, by decide⟩ (wr := []) [1, 0] [] rfl rfl (by decide) (by decide) (by decide) (As := [.ref k, .ref h, .int 7]) (rest := [.int 0]) rfl (nb rfl) rfl d_Days_countRows_65 (fun r3 _ hr3 => ?_)
  subst hr3
  refine j_ws (ws' := [(k, .inr (2, [.int 0, .int 1, .int 1, .int 0, .ref g, .int 0, .ref vn, .ref vg, .ref t, .ref r, .int 0, .int 0, .int 9999, .int 0])), (h, .inr (7, [.int (d + 1), .int 0, .int 0, .ref a0, .ref a1, .ref a2, .ref a3, .ref a4, .ref a5, .ref a6]))]) rfl ?_
  refine j_st (st' := [.int 1, .int 0]) rfl ?_
  refine j_iadd (pc := 68) C (v := 1) d_Days_countRows_68 (by decide) ?_
  refine j_istore_n (pc := 69) C (lv' := [(3, .int 1), (5, .int 0), (4, .int 0), (0, .ref k), (1, .ref h), (2, .int 8)]) d_Days_countRows_69 rfl (by decide) rfl ?_
  refine j_aload_n (pc := 70) C d_Days_countRows_70 rfl 4 rfl ?_
  refine j_dup (pc := 71) C d_Days_countRows_71 rfl ?_
  refine j_get (pc := 72) C gf_Days_59 1 rfl rfl d_Days_countRows_72 ?_
  refine j_iconst (pc := 75) C (v := 1) d_Days_countRows_75 (by decide) ?_
  refine j_isub (pc := 76) C (v := d) d_Days_countRows_76 (d_back d) ?_
  refine j_put (pc := 77) C pf_Days_59 1 (ws' := [(k, .inr (2, [.int 0, .int 1, .int 1, .int 0, .ref g, .int 0, .ref vn, .ref vg, .ref t, .ref r, .int 0, .int 0, .int 9999, .int 0])), (h, .inr (7, [.int d, .int 0, .int 0, .ref a0, .ref a1, .ref a2, .ref a3, .ref a4, .ref a5, .ref a6]))]) rfl rfl rfl (nl rfl) rfl d_Days_countRows_77 ?_
  refine j_iload (pc := 80) C d_Days_countRows_80 1 rfl ?_
  refine j_if_eqT (pc := 82) C (tgt := 101) d_Days_countRows_82 (by decide) (by decide) ?_
  refine j_aload_n (pc := 101) C d_Days_countRows_101 rfl 4 rfl ?_
  refine j_iload (pc := 102) C d_Days_countRows_102 2 rfl ?_
  refine j_put (pc := 104) C pf_Days_15 1 (ws' := [(k, .inr (2, [.int 0, .int 1, .int 1, .int 0, .ref g, .int 0, .ref vn, .ref vg, .ref t, .ref r, .int 0, .int 0, .int 9999, .int 0])), (h, .inr (7, [.int d, .int 0, .int 0, .ref a0, .ref a1, .ref a2, .ref a3, .ref a4, .ref a5, .ref a6]))]) rfl rfl rfl (nl rfl) rfl d_Days_countRows_104 ?_
  refine j_iinc (pc := 107) C (v := 1) (lv' := [(5, .int 1), (3, .int 1), (4, .int 0), (0, .ref k), (1, .ref h), (2, .int 8)]) d_Days_countRows_107 1 rfl (by decide) (by decide) rfl ?_
  refine j_goto (pc := 110) C (tgt := 17) d_Days_countRows_110 (by decide) ?_
  refine j_iload (pc := 17) C d_Days_countRows_17 0 rfl ?_
  refine j_iconst (pc := 19) C (v := 3) d_Days_countRows_19 (by decide) ?_
  refine j_icmp_geF (pc := 20) C (tgt := 113) d_Days_countRows_20 (by decide) (by decide) ?_
  refine j_aload_n (pc := 23) C d_Days_countRows_23 rfl 3 rfl ?_
  refine j_aload_n (pc := 24) C d_Days_countRows_24 rfl 4 rfl ?_
  refine j_aload_n (pc := 25) C d_Days_countRows_25 rfl 3 rfl ?_
  refine j_aload_n (pc := 26) C d_Days_countRows_26 rfl 4 rfl ?_
  refine j_get (pc := 27) C gf_Days_59 1 rfl rfl d_Days_countRows_27 ?_
  refine j_callVi (pc := 30) C (c_villageOn l D y k g vn vg t r d) kw_Days_109 kv_Lake_villageOn 0 2 rfl rfl ⟨by decide, by decide⟩ ⟨by decide, by decide⟩ (wr := [(h, .inr (7, [.int d, .int 0, .int 0, .ref a0, .ref a1, .ref a2, .ref a3, .ref a4, .ref a5, .ref a6]))]) [0] [1] rfl rfl (by decide) (by decide) (by decide) (As := [.int d]) (rest := [.ref h, .ref k]) rfl (nb rfl) rfl d_Days_countRows_30 (fun r4 _ hr4 => ?_)
  subst hr4
  refine j_ws (ws' := [(h, .inr (7, [.int d, .int 0, .int 0, .ref a0, .ref a1, .ref a2, .ref a3, .ref a4, .ref a5, .ref a6])), (k, .inr (2, [.int 0, .int 1, .int 1, .int 0, .ref g, .int 0, .ref vn, .ref vg, .ref t, .ref r, .int 0, .int 0, .int 9999, .int 0]))]) rfl ?_
  refine j_st (st' := [.int (-1), .ref h, .ref k]) rfl ?_
  refine j_iload (pc := 33) C d_Days_countRows_33 0 rfl ?_
  refine j_iconst (pc := 35) C (v := 0) d_Days_countRows_35 (by decide) ?_
  refine j_callSi (pc := 36) C (c_allows_n l D y k g vn vg t r h (-1) 1 0 (by decide)) kw_Days_43 ks_Days_allows ⟨by decide, by decide⟩ ⟨by decide, by decide⟩ (wr := [(h, .inr (7, [.int d, .int 0, .int 0, .ref a0, .ref a1, .ref a2, .ref a3, .ref a4, .ref a5, .ref a6]))]) [1] [0] rfl rfl (by decide) (by decide) (by decide) (As := [.ref k, .ref h, .int (-1), .int 1, .int 0]) (rest := []) rfl (nb rfl) rfl d_Days_countRows_36 (fun r5 _ hr5 => ?_)
  subst hr5
  refine j_ws (ws' := [(h, .inr (7, [.int d, .int 0, .int 0, .ref a0, .ref a1, .ref a2, .ref a3, .ref a4, .ref a5, .ref a6])), (k, .inr (2, [.int 0, .int 1, .int 1, .int 0, .ref g, .int 0, .ref vn, .ref vg, .ref t, .ref r, .int 0, .int 0, .int 9999, .int 0]))]) rfl ?_
  refine j_st (st' := [.int 0]) rfl ?_
  refine j_if_eqT (pc := 39) C (tgt := 107) d_Days_countRows_39 (by decide) (by decide) ?_
  refine j_iinc (pc := 107) C (v := 2) (lv' := [(5, .int 2), (3, .int 1), (4, .int 0), (0, .ref k), (1, .ref h), (2, .int 8)]) d_Days_countRows_107 0 rfl (by decide) (by decide) rfl ?_
  refine j_goto (pc := 110) C (tgt := 17) d_Days_countRows_110 (by decide) ?_
  refine j_iload (pc := 17) C d_Days_countRows_17 0 rfl ?_
  refine j_iconst (pc := 19) C (v := 3) d_Days_countRows_19 (by decide) ?_
  refine j_icmp_geF (pc := 20) C (tgt := 113) d_Days_countRows_20 (by decide) (by decide) ?_
  refine j_aload_n (pc := 23) C d_Days_countRows_23 rfl 3 rfl ?_
  refine j_aload_n (pc := 24) C d_Days_countRows_24 rfl 4 rfl ?_
  refine j_aload_n (pc := 25) C d_Days_countRows_25 rfl 3 rfl ?_
  refine j_aload_n (pc := 26) C d_Days_countRows_26 rfl 4 rfl ?_
  refine j_get (pc := 27) C gf_Days_59 0 rfl rfl d_Days_countRows_27 ?_
  refine j_callVi (pc := 30) C (c_villageOn l D y k g vn vg t r d) kw_Days_109 kv_Lake_villageOn 0 2 rfl rfl ⟨by decide, by decide⟩ ⟨by decide, by decide⟩ (wr := [(h, .inr (7, [.int d, .int 0, .int 0, .ref a0, .ref a1, .ref a2, .ref a3, .ref a4, .ref a5, .ref a6]))]) [1] [0] rfl rfl (by decide) (by decide) (by decide) (As := [.int d]) (rest := [.ref h, .ref k]) rfl (nb rfl) rfl d_Days_countRows_30 (fun r6 _ hr6 => ?_)
  subst hr6
  refine j_ws (ws' := [(h, .inr (7, [.int d, .int 0, .int 0, .ref a0, .ref a1, .ref a2, .ref a3, .ref a4, .ref a5, .ref a6])), (k, .inr (2, [.int 0, .int 1, .int 1, .int 0, .ref g, .int 0, .ref vn, .ref vg, .ref t, .ref r, .int 0, .int 0, .int 9999, .int 0]))]) rfl ?_
  refine j_st (st' := [.int (-1), .ref h, .ref k]) rfl ?_
  refine j_iload (pc := 33) C d_Days_countRows_33 0 rfl ?_
  refine j_iconst (pc := 35) C (v := 0) d_Days_countRows_35 (by decide) ?_
  refine j_callSi (pc := 36) C (c_allows_n l D y k g vn vg t r h (-1) 2 0 (by decide)) kw_Days_43 ks_Days_allows ⟨by decide, by decide⟩ ⟨by decide, by decide⟩ (wr := [(h, .inr (7, [.int d, .int 0, .int 0, .ref a0, .ref a1, .ref a2, .ref a3, .ref a4, .ref a5, .ref a6]))]) [1] [0] rfl rfl (by decide) (by decide) (by decide) (As := [.ref k, .ref h, .int (-1), .int 2, .int 0]) (rest := []) rfl (nb rfl) rfl d_Days_countRows_36 (fun r7 _ hr7 => ?_)
  subst hr7
  refine j_ws (ws' := [(h, .inr (7, [.int d, .int 0, .int 0, .ref a0, .ref a1, .ref a2, .ref a3, .ref a4, .ref a5, .ref a6])), (k, .inr (2, [.int 0, .int 1, .int 1, .int 0, .ref g, .int 0, .ref vn, .ref vg, .ref t, .ref r, .int 0, .int 0, .int 9999, .int 0]))]) rfl ?_
  refine j_st (st' := [.int 0]) rfl ?_
  refine j_if_eqT (pc := 39) C (tgt := 107) d_Days_countRows_39 (by decide) (by decide) ?_
  refine j_iinc (pc := 107) C (v := 3) (lv' := [(5, .int 3), (3, .int 1), (4, .int 0), (0, .ref k), (1, .ref h), (2, .int 8)]) d_Days_countRows_107 0 rfl (by decide) (by decide) rfl ?_
  refine j_goto (pc := 110) C (tgt := 17) d_Days_countRows_110 (by decide) ?_
  refine j_iload (pc := 17) C d_Days_countRows_17 0 rfl ?_
  refine j_iconst (pc := 19) C (v := 3) d_Days_countRows_19 (by decide) ?_
  refine j_icmp_geT (pc := 20) C (tgt := 113) d_Days_countRows_20 (by decide) (by decide) ?_
  refine j_iload_n (pc := 113) C d_Days_countRows_113 rfl 1 rfl ?_
  exact j_iret (pc := 114) C hr rfl () rfl [1, 0] rfl (by decide) (by decide) (by decide) d_Days_countRows_114
set_option maxHeartbeats 4000000 in
set_option maxRecDepth 100000 in
theorem c_countRows_9 (l : Launch) (D : va_G) (y : Nat → ClassId) (k : Nat) (h : Nat) (g : Nat) (vn : Nat) (vg : Nat) (t : Nat) (r : Nat) (d : Int32) (a0 : Nat) (a1 : Nat) (a2 : Nat) (a3 : Nat) (a4 : Nat) (a5 : Nat) (a6 : Nat)  : CT l D y ⟨"NineBoards$Days", "countRows", "(LNineBoards$Lake;LNineBoards$State;I)I"⟩ prog_3_method_14_code 6 (some .int) ({ frames := 10, cells := 0, slots := 0, locals := 247 } : Room) [.ref k, .ref h, .int 9] [(k, .inr (2, [.int 0, .int 1, .int 1, .int 0, .ref g, .int 0, .ref vn, .ref vg, .ref t, .ref r, .int 0, .int 0, .int 9999, .int 0])), (h, .inr (7, [.int d, .int 0, .int 0, .ref a0, .ref a1, .ref a2, .ref a3, .ref a4, .ref a5, .ref a6]))] (QI D [(k, .inr (2, [.int 0, .int 1, .int 1, .int 0, .ref g, .int 0, .ref vn, .ref vg, .ref t, .ref r, .int 0, .int 0, .int 9999, .int 0])), (h, .inr (7, [.int d, .int 0, .int 0, .ref a0, .ref a1, .ref a2, .ref a3, .ref a4, .ref a5, .ref a6]))] (fun (r : Int32) (_ : Unit) => r = 1) (fun _ => [(k, .inr (2, [.int 0, .int 1, .int 1, .int 0, .ref g, .int 0, .ref vn, .ref vg, .ref t, .ref r, .int 0, .int 0, .int 9999, .int 0])), (h, .inr (7, [.int d, .int 0, .int 0, .ref a0, .ref a1, .ref a2, .ref a3, .ref a4, .ref a5, .ref a6]))])) := by
  refine CT.of (by decide) (nb rfl) ?_
  intro p e s m args below meth c C hr
  refine j_lv (lv' := [(0, .ref k), (1, .ref h), (2, .int 9)]) rfl ?_
  refine j_iload_n (pc := 0) C d_Days_countRows_0 rfl 2 rfl ?_
  refine j_if_gtT (pc := 1) C (tgt := 6) d_Days_countRows_1 (by decide) (by decide) ?_
  refine j_iconst (pc := 6) C (v := 0) d_Days_countRows_6 (by decide) ?_
  refine j_istore_n (pc := 7) C (lv' := [(3, .int 0), (0, .ref k), (1, .ref h), (2, .int 9)]) d_Days_countRows_7 rfl (by decide) rfl ?_
  refine j_aload_n (pc := 8) C d_Days_countRows_8 rfl 2 rfl ?_
  refine j_get (pc := 9) C gf_Days_15 1 rfl rfl d_Days_countRows_9 ?_
  refine j_istore (pc := 12) C (lv' := [(4, .int 0), (3, .int 0), (0, .ref k), (1, .ref h), (2, .int 9)]) d_Days_countRows_12 (by decide) rfl ?_
  refine j_iconst (pc := 14) C (v := 0) d_Days_countRows_14 (by decide) ?_
  refine j_istore (pc := 15) C (lv' := [(5, .int 0), (4, .int 0), (3, .int 0), (0, .ref k), (1, .ref h), (2, .int 9)]) d_Days_countRows_15 (by decide) rfl ?_
  refine j_iload (pc := 17) C d_Days_countRows_17 0 rfl ?_
  refine j_iconst (pc := 19) C (v := 3) d_Days_countRows_19 (by decide) ?_
  refine j_icmp_geF (pc := 20) C (tgt := 113) d_Days_countRows_20 (by decide) (by decide) ?_
  refine j_aload_n (pc := 23) C d_Days_countRows_23 rfl 3 rfl ?_
  refine j_aload_n (pc := 24) C d_Days_countRows_24 rfl 4 rfl ?_
  refine j_aload_n (pc := 25) C d_Days_countRows_25 rfl 3 rfl ?_
  refine j_aload_n (pc := 26) C d_Days_countRows_26 rfl 4 rfl ?_
  refine j_get (pc := 27) C gf_Days_59 1 rfl rfl d_Days_countRows_27 ?_
  refine j_callVi (pc := 30) C (c_villageOn l D y k g vn vg t r d) kw_Days_109 kv_Lake_villageOn 0 2 rfl rfl ⟨by decide, by decide⟩ ⟨by decide, by decide⟩ (wr := [(h, .inr (7, [.int d, .int 0, .int 0, .ref a0, .ref a1, .ref a2, .ref a3, .ref a4, .ref a5, .ref a6]))]) [0] [1] rfl rfl (by decide) (by decide) (by decide) (As := [.int d]) (rest := [.ref h, .ref k]) rfl (nb rfl) rfl d_Days_countRows_30 (fun r1 _ hr1 => ?_)
  subst hr1
  refine j_ws (ws' := [(h, .inr (7, [.int d, .int 0, .int 0, .ref a0, .ref a1, .ref a2, .ref a3, .ref a4, .ref a5, .ref a6])), (k, .inr (2, [.int 0, .int 1, .int 1, .int 0, .ref g, .int 0, .ref vn, .ref vg, .ref t, .ref r, .int 0, .int 0, .int 9999, .int 0]))]) rfl ?_
  refine j_st (st' := [.int (-1), .ref h, .ref k]) rfl ?_
  refine j_iload (pc := 33) C d_Days_countRows_33 0 rfl ?_
  refine j_iconst (pc := 35) C (v := 0) d_Days_countRows_35 (by decide) ?_
  refine j_callSi (pc := 36) C (c_allows_0 l D y k h (-1) 0) kw_Days_43 ks_Days_allows ⟨by decide, by decide⟩ ⟨by decide, by decide⟩ (wr := [(h, .inr (7, [.int d, .int 0, .int 0, .ref a0, .ref a1, .ref a2, .ref a3, .ref a4, .ref a5, .ref a6])), (k, .inr (2, [.int 0, .int 1, .int 1, .int 0, .ref g, .int 0, .ref vn, .ref vg, .ref t, .ref r, .int 0, .int 0, .int 9999, .int 0]))]) [] [0, 1] rfl rfl (by decide) (by decide) (by decide) (As := [.ref k, .ref h, .int (-1), .int 0, .int 0]) (rest := []) rfl (nb rfl) rfl d_Days_countRows_36 (fun r2 _ hr2 => ?_)
  subst hr2
  refine j_ws (ws' := [(h, .inr (7, [.int d, .int 0, .int 0, .ref a0, .ref a1, .ref a2, .ref a3, .ref a4, .ref a5, .ref a6])), (k, .inr (2, [.int 0, .int 1, .int 1, .int 0, .ref g, .int 0, .ref vn, .ref vg, .ref t, .ref r, .int 0, .int 0, .int 9999, .int 0]))]) rfl ?_
  refine j_st (st' := [.int 1]) rfl ?_
  refine j_if_eqF (pc := 39) C (tgt := 107) d_Days_countRows_39 (by decide) (by decide) ?_
  refine j_aload_n (pc := 42) C d_Days_countRows_42 rfl 3 rfl ?_
  refine j_aload_n (pc := 43) C d_Days_countRows_43 rfl 4 rfl ?_
  refine j_iload (pc := 44) C d_Days_countRows_44 0 rfl ?_
  refine j_callSv (pc := 46) C (c_doAct l D y k h) kw_Days_47 ks_Days_doAct ⟨by decide, by decide⟩ ⟨by decide, by decide⟩ (wr := [(h, .inr (7, [.int d, .int 0, .int 0, .ref a0, .ref a1, .ref a2, .ref a3, .ref a4, .ref a5, .ref a6])), (k, .inr (2, [.int 0, .int 1, .int 1, .int 0, .ref g, .int 0, .ref vn, .ref vg, .ref t, .ref r, .int 0, .int 0, .int 9999, .int 0]))]) [] [0, 1] rfl rfl (by decide) (by decide) (by decide) (As := [.ref k, .ref h, .int 0]) (rest := []) rfl (nb rfl) rfl d_Days_countRows_46 (fun _ _ => ?_)
  refine j_ws (ws' := [(h, .inr (7, [.int d, .int 0, .int 0, .ref a0, .ref a1, .ref a2, .ref a3, .ref a4, .ref a5, .ref a6])), (k, .inr (2, [.int 0, .int 1, .int 1, .int 0, .ref g, .int 0, .ref vn, .ref vg, .ref t, .ref r, .int 0, .int 0, .int 9999, .int 0]))]) rfl ?_
  refine j_aload_n (pc := 49) C d_Days_countRows_49 rfl 4 rfl ?_
  refine j_dup (pc := 50) C d_Days_countRows_50 rfl ?_
  refine j_get (pc := 51) C gf_Days_59 0 rfl rfl d_Days_countRows_51 ?_
  refine j_iconst (pc := 54) C (v := 1) d_Days_countRows_54 (by decide) ?_
  refine j_iadd (pc := 55) C (v := d + 1) d_Days_countRows_55 rfl ?_
  refine j_put (pc := 56) C pf_Days_59 0 (ws' := [(h, .inr (7, [.int (d + 1), .int 0, .int 0, .ref a0, .ref a1, .ref a2, .ref a3, .ref a4, .ref a5, .ref a6])), (k, .inr (2, [.int 0, .int 1, .int 1, .int 0, .ref g, .int 0, .ref vn, .ref vg, .ref t, .ref r, .int 0, .int 0, .int 9999, .int 0]))]) rfl rfl rfl (nl rfl) rfl d_Days_countRows_56 ?_
  refine j_iload_n (pc := 59) C d_Days_countRows_59 rfl 2 rfl ?_
  refine j_aload_n (pc := 60) C d_Days_countRows_60 rfl 3 rfl ?_
  refine j_aload_n (pc := 61) C d_Days_countRows_61 rfl 4 rfl ?_
  refine j_iload_n (pc := 62) C d_Days_countRows_62 rfl 5 rfl ?_
  refine j_iconst (pc := 63) C (v := 1) d_Days_countRows_63 (by decide) ?_
  refine j_isub (pc := 64) C (v := 8) d_Days_countRows_64 (by decide) ?_
  refine j_callSi (pc := 65) C (c_countRows_8 l D y k h g vn vg t r (d + 1) a0 a1 a2 a3 a4 a5 a6) kw_Days_159 ks_Days_countRows ⟨by decide, by decide⟩ ⟨by decide, by decide⟩ (wr := []) [1, 0] [] rfl rfl (by decide) (by decide) (by decide) (As := [.ref k, .ref h, .int 8]) (rest := [.int 0]) rfl (nb rfl) rfl d_Days_countRows_65 (fun r3 _ hr3 => ?_)
  subst hr3
  refine j_ws (ws' := [(k, .inr (2, [.int 0, .int 1, .int 1, .int 0, .ref g, .int 0, .ref vn, .ref vg, .ref t, .ref r, .int 0, .int 0, .int 9999, .int 0])), (h, .inr (7, [.int (d + 1), .int 0, .int 0, .ref a0, .ref a1, .ref a2, .ref a3, .ref a4, .ref a5, .ref a6]))]) rfl ?_
  refine j_st (st' := [.int 1, .int 0]) rfl ?_
  refine j_iadd (pc := 68) C (v := 1) d_Days_countRows_68 (by decide) ?_
  refine j_istore_n (pc := 69) C (lv' := [(3, .int 1), (5, .int 0), (4, .int 0), (0, .ref k), (1, .ref h), (2, .int 9)]) d_Days_countRows_69 rfl (by decide) rfl ?_
  refine j_aload_n (pc := 70) C d_Days_countRows_70 rfl 4 rfl ?_
  refine j_dup (pc := 71) C d_Days_countRows_71 rfl ?_
  refine j_get (pc := 72) C gf_Days_59 1 rfl rfl d_Days_countRows_72 ?_
  refine j_iconst (pc := 75) C (v := 1) d_Days_countRows_75 (by decide) ?_
  refine j_isub (pc := 76) C (v := d) d_Days_countRows_76 (d_back d) ?_
  refine j_put (pc := 77) C pf_Days_59 1 (ws' := [(k, .inr (2, [.int 0, .int 1, .int 1, .int 0, .ref g, .int 0, .ref vn, .ref vg, .ref t, .ref r, .int 0, .int 0, .int 9999, .int 0])), (h, .inr (7, [.int d, .int 0, .int 0, .ref a0, .ref a1, .ref a2, .ref a3, .ref a4, .ref a5, .ref a6]))]) rfl rfl rfl (nl rfl) rfl d_Days_countRows_77 ?_
  refine j_iload (pc := 80) C d_Days_countRows_80 1 rfl ?_
  refine j_if_eqT (pc := 82) C (tgt := 101) d_Days_countRows_82 (by decide) (by decide) ?_
  refine j_aload_n (pc := 101) C d_Days_countRows_101 rfl 4 rfl ?_
  refine j_iload (pc := 102) C d_Days_countRows_102 2 rfl ?_
  refine j_put (pc := 104) C pf_Days_15 1 (ws' := [(k, .inr (2, [.int 0, .int 1, .int 1, .int 0, .ref g, .int 0, .ref vn, .ref vg, .ref t, .ref r, .int 0, .int 0, .int 9999, .int 0])), (h, .inr (7, [.int d, .int 0, .int 0, .ref a0, .ref a1, .ref a2, .ref a3, .ref a4, .ref a5, .ref a6]))]) rfl rfl rfl (nl rfl) rfl d_Days_countRows_104 ?_
  refine j_iinc (pc := 107) C (v := 1) (lv' := [(5, .int 1), (3, .int 1), (4, .int 0), (0, .ref k), (1, .ref h), (2, .int 9)]) d_Days_countRows_107 1 rfl (by decide) (by decide) rfl ?_
  refine j_goto (pc := 110) C (tgt := 17) d_Days_countRows_110 (by decide) ?_
  refine j_iload (pc := 17) C d_Days_countRows_17 0 rfl ?_
  refine j_iconst (pc := 19) C (v := 3) d_Days_countRows_19 (by decide) ?_
  refine j_icmp_geF (pc := 20) C (tgt := 113) d_Days_countRows_20 (by decide) (by decide) ?_
  refine j_aload_n (pc := 23) C d_Days_countRows_23 rfl 3 rfl ?_
  refine j_aload_n (pc := 24) C d_Days_countRows_24 rfl 4 rfl ?_
  refine j_aload_n (pc := 25) C d_Days_countRows_25 rfl 3 rfl ?_
  refine j_aload_n (pc := 26) C d_Days_countRows_26 rfl 4 rfl ?_
  refine j_get (pc := 27) C gf_Days_59 1 rfl rfl d_Days_countRows_27 ?_
  refine j_callVi (pc := 30) C (c_villageOn l D y k g vn vg t r d) kw_Days_109 kv_Lake_villageOn 0 2 rfl rfl ⟨by decide, by decide⟩ ⟨by decide, by decide⟩ (wr := [(h, .inr (7, [.int d, .int 0, .int 0, .ref a0, .ref a1, .ref a2, .ref a3, .ref a4, .ref a5, .ref a6]))]) [0] [1] rfl rfl (by decide) (by decide) (by decide) (As := [.int d]) (rest := [.ref h, .ref k]) rfl (nb rfl) rfl d_Days_countRows_30 (fun r4 _ hr4 => ?_)
  subst hr4
  refine j_ws (ws' := [(h, .inr (7, [.int d, .int 0, .int 0, .ref a0, .ref a1, .ref a2, .ref a3, .ref a4, .ref a5, .ref a6])), (k, .inr (2, [.int 0, .int 1, .int 1, .int 0, .ref g, .int 0, .ref vn, .ref vg, .ref t, .ref r, .int 0, .int 0, .int 9999, .int 0]))]) rfl ?_
  refine j_st (st' := [.int (-1), .ref h, .ref k]) rfl ?_
  refine j_iload (pc := 33) C d_Days_countRows_33 0 rfl ?_
  refine j_iconst (pc := 35) C (v := 0) d_Days_countRows_35 (by decide) ?_
  refine j_callSi (pc := 36) C (c_allows_n l D y k g vn vg t r h (-1) 1 0 (by decide)) kw_Days_43 ks_Days_allows ⟨by decide, by decide⟩ ⟨by decide, by decide⟩ (wr := [(h, .inr (7, [.int d, .int 0, .int 0, .ref a0, .ref a1, .ref a2, .ref a3, .ref a4, .ref a5, .ref a6]))]) [1] [0] rfl rfl (by decide) (by decide) (by decide) (As := [.ref k, .ref h, .int (-1), .int 1, .int 0]) (rest := []) rfl (nb rfl) rfl d_Days_countRows_36 (fun r5 _ hr5 => ?_)
  subst hr5
  refine j_ws (ws' := [(h, .inr (7, [.int d, .int 0, .int 0, .ref a0, .ref a1, .ref a2, .ref a3, .ref a4, .ref a5, .ref a6])), (k, .inr (2, [.int 0, .int 1, .int 1, .int 0, .ref g, .int 0, .ref vn, .ref vg, .ref t, .ref r, .int 0, .int 0, .int 9999, .int 0]))]) rfl ?_
  refine j_st (st' := [.int 0]) rfl ?_
  refine j_if_eqT (pc := 39) C (tgt := 107) d_Days_countRows_39 (by decide) (by decide) ?_
  refine j_iinc (pc := 107) C (v := 2) (lv' := [(5, .int 2), (3, .int 1), (4, .int 0), (0, .ref k), (1, .ref h), (2, .int 9)]) d_Days_countRows_107 0 rfl (by decide) (by decide) rfl ?_
  refine j_goto (pc := 110) C (tgt := 17) d_Days_countRows_110 (by decide) ?_
  refine j_iload (pc := 17) C d_Days_countRows_17 0 rfl ?_
  refine j_iconst (pc := 19) C (v := 3) d_Days_countRows_19 (by decide) ?_
  refine j_icmp_geF (pc := 20) C (tgt := 113) d_Days_countRows_20 (by decide) (by decide) ?_
  refine j_aload_n (pc := 23) C d_Days_countRows_23 rfl 3 rfl ?_
  refine j_aload_n (pc := 24) C d_Days_countRows_24 rfl 4 rfl ?_
  refine j_aload_n (pc := 25) C d_Days_countRows_25 rfl 3 rfl ?_
  refine j_aload_n (pc := 26) C d_Days_countRows_26 rfl 4 rfl ?_
  refine j_get (pc := 27) C gf_Days_59 0 rfl rfl d_Days_countRows_27 ?_
  refine j_callVi (pc := 30) C (c_villageOn l D y k g vn vg t r d) kw_Days_109 kv_Lake_villageOn 0 2 rfl rfl ⟨by decide, by decide⟩ ⟨by decide, by decide⟩ (wr := [(h, .inr (7, [.int d, .int 0, .int 0, .ref a0, .ref a1, .ref a2, .ref a3, .ref a4, .ref a5, .ref a6]))]) [1] [0] rfl rfl (by decide) (by decide) (by decide) (As := [.int d]) (rest := [.ref h, .ref k]) rfl (nb rfl) rfl d_Days_countRows_30 (fun r6 _ hr6 => ?_)
  subst hr6
  refine j_ws (ws' := [(h, .inr (7, [.int d, .int 0, .int 0, .ref a0, .ref a1, .ref a2, .ref a3, .ref a4, .ref a5, .ref a6])), (k, .inr (2, [.int 0, .int 1, .int 1, .int 0, .ref g, .int 0, .ref vn, .ref vg, .ref t, .ref r, .int 0, .int 0, .int 9999, .int 0]))]) rfl ?_
  refine j_st (st' := [.int (-1), .ref h, .ref k]) rfl ?_
  refine j_iload (pc := 33) C d_Days_countRows_33 0 rfl ?_
  refine j_iconst (pc := 35) C (v := 0) d_Days_countRows_35 (by decide) ?_
  refine j_callSi (pc := 36) C (c_allows_n l D y k g vn vg t r h (-1) 2 0 (by decide)) kw_Days_43 ks_Days_allows ⟨by decide, by decide⟩ ⟨by decide, by decide⟩ (wr := [(h, .inr (7, [.int d, .int 0, .int 0, .ref a0, .ref a1, .ref a2, .ref a3, .ref a4, .ref a5, .ref a6]))]) [1] [0] rfl rfl (by decide) (by decide) (by decide) (As := [.ref k, .ref h, .int (-1), .int 2, .int 0]) (rest := []) rfl (nb rfl) rfl d_Days_countRows_36 (fun r7 _ hr7 => ?_)
  subst hr7
  refine j_ws (ws' := [(h, .inr (7, [.int d, .int 0, .int 0, .ref a0, .ref a1, .ref a2, .ref a3, .ref a4, .ref a5, .ref a6])), (k, .inr (2, [.int 0, .int 1, .int 1, .int 0, .ref g, .int 0, .ref vn, .ref vg, .ref t, .ref r, .int 0, .int 0, .int 9999, .int 0]))]) rfl ?_
  refine j_st (st' := [.int 0]) rfl ?_
  refine j_if_eqT (pc := 39) C (tgt := 107) d_Days_countRows_39 (by decide) (by decide) ?_
  refine j_iinc (pc := 107) C (v := 3) (lv' := [(5, .int 3), (3, .int 1), (4, .int 0), (0, .ref k), (1, .ref h), (2, .int 9)]) d_Days_countRows_107 0 rfl (by decide) (by decide) rfl ?_
  refine j_goto (pc := 110) C (tgt := 17) d_Days_countRows_110 (by decide) ?_
  refine j_iload (pc := 17) C d_Days_countRows_17 0 rfl ?_
  refine j_iconst (pc := 19) C (v := 3) d_Days_countRows_19 (by decide) ?_
  refine j_icmp_geT (pc := 20) C (tgt := 113) d_Days_countRows_20 (by decide) (by decide) ?_
  refine j_iload_n (pc := 113) C d_Days_countRows_113 rfl 1 rfl ?_
  exact j_iret (pc := 114) C hr rfl () rfl [1, 0] rfl (by decide) (by decide) (by decide) d_Days_countRows_114
set_option maxHeartbeats 4000000 in
set_option maxRecDepth 100000 in
theorem c_countRows_10 (l : Launch) (D : va_G) (y : Nat → ClassId) (k : Nat) (h : Nat) (g : Nat) (vn : Nat) (vg : Nat) (t : Nat) (r : Nat) (d : Int32) (a0 : Nat) (a1 : Nat) (a2 : Nat) (a3 : Nat) (a4 : Nat) (a5 : Nat) (a6 : Nat)  : CT l D y ⟨"NineBoards$Days", "countRows", "(LNineBoards$Lake;LNineBoards$State;I)I"⟩ prog_3_method_14_code 6 (some .int) ({ frames := 11, cells := 0, slots := 0, locals := 272 } : Room) [.ref k, .ref h, .int 10] [(k, .inr (2, [.int 0, .int 1, .int 1, .int 0, .ref g, .int 0, .ref vn, .ref vg, .ref t, .ref r, .int 0, .int 0, .int 9999, .int 0])), (h, .inr (7, [.int d, .int 0, .int 0, .ref a0, .ref a1, .ref a2, .ref a3, .ref a4, .ref a5, .ref a6]))] (QI D [(k, .inr (2, [.int 0, .int 1, .int 1, .int 0, .ref g, .int 0, .ref vn, .ref vg, .ref t, .ref r, .int 0, .int 0, .int 9999, .int 0])), (h, .inr (7, [.int d, .int 0, .int 0, .ref a0, .ref a1, .ref a2, .ref a3, .ref a4, .ref a5, .ref a6]))] (fun (r : Int32) (_ : Unit) => r = 1) (fun _ => [(k, .inr (2, [.int 0, .int 1, .int 1, .int 0, .ref g, .int 0, .ref vn, .ref vg, .ref t, .ref r, .int 0, .int 0, .int 9999, .int 0])), (h, .inr (7, [.int d, .int 0, .int 0, .ref a0, .ref a1, .ref a2, .ref a3, .ref a4, .ref a5, .ref a6]))])) := by
  refine CT.of (by decide) (nb rfl) ?_
  intro p e s m args below meth c C hr
  refine j_lv (lv' := [(0, .ref k), (1, .ref h), (2, .int 10)]) rfl ?_
  refine j_iload_n (pc := 0) C d_Days_countRows_0 rfl 2 rfl ?_
  refine j_if_gtT (pc := 1) C (tgt := 6) d_Days_countRows_1 (by decide) (by decide) ?_
  refine j_iconst (pc := 6) C (v := 0) d_Days_countRows_6 (by decide) ?_
  refine j_istore_n (pc := 7) C (lv' := [(3, .int 0), (0, .ref k), (1, .ref h), (2, .int 10)]) d_Days_countRows_7 rfl (by decide) rfl ?_
  refine j_aload_n (pc := 8) C d_Days_countRows_8 rfl 2 rfl ?_
  refine j_get (pc := 9) C gf_Days_15 1 rfl rfl d_Days_countRows_9 ?_
  refine j_istore (pc := 12) C (lv' := [(4, .int 0), (3, .int 0), (0, .ref k), (1, .ref h), (2, .int 10)]) d_Days_countRows_12 (by decide) rfl ?_
  refine j_iconst (pc := 14) C (v := 0) d_Days_countRows_14 (by decide) ?_
  refine j_istore (pc := 15) C (lv' := [(5, .int 0), (4, .int 0), (3, .int 0), (0, .ref k), (1, .ref h), (2, .int 10)]) d_Days_countRows_15 (by decide) rfl ?_
  refine j_iload (pc := 17) C d_Days_countRows_17 0 rfl ?_
  refine j_iconst (pc := 19) C (v := 3) d_Days_countRows_19 (by decide) ?_
  refine j_icmp_geF (pc := 20) C (tgt := 113) d_Days_countRows_20 (by decide) (by decide) ?_
  refine j_aload_n (pc := 23) C d_Days_countRows_23 rfl 3 rfl ?_
  refine j_aload_n (pc := 24) C d_Days_countRows_24 rfl 4 rfl ?_
  refine j_aload_n (pc := 25) C d_Days_countRows_25 rfl 3 rfl ?_
  refine j_aload_n (pc := 26) C d_Days_countRows_26 rfl 4 rfl ?_
  refine j_get (pc := 27) C gf_Days_59 1 rfl rfl d_Days_countRows_27 ?_
  refine j_callVi (pc := 30) C (c_villageOn l D y k g vn vg t r d) kw_Days_109 kv_Lake_villageOn 0 2 rfl rfl ⟨by decide, by decide⟩ ⟨by decide, by decide⟩ (wr := [(h, .inr (7, [.int d, .int 0, .int 0, .ref a0, .ref a1, .ref a2, .ref a3, .ref a4, .ref a5, .ref a6]))]) [0] [1] rfl rfl (by decide) (by decide) (by decide) (As := [.int d]) (rest := [.ref h, .ref k]) rfl (nb rfl) rfl d_Days_countRows_30 (fun r1 _ hr1 => ?_)
  subst hr1
  refine j_ws (ws' := [(h, .inr (7, [.int d, .int 0, .int 0, .ref a0, .ref a1, .ref a2, .ref a3, .ref a4, .ref a5, .ref a6])), (k, .inr (2, [.int 0, .int 1, .int 1, .int 0, .ref g, .int 0, .ref vn, .ref vg, .ref t, .ref r, .int 0, .int 0, .int 9999, .int 0]))]) rfl ?_
  refine j_st (st' := [.int (-1), .ref h, .ref k]) rfl ?_
  refine j_iload (pc := 33) C d_Days_countRows_33 0 rfl ?_
  refine j_iconst (pc := 35) C (v := 0) d_Days_countRows_35 (by decide) ?_
  refine j_callSi (pc := 36) C (c_allows_0 l D y k h (-1) 0) kw_Days_43 ks_Days_allows ⟨by decide, by decide⟩ ⟨by decide, by decide⟩ (wr := [(h, .inr (7, [.int d, .int 0, .int 0, .ref a0, .ref a1, .ref a2, .ref a3, .ref a4, .ref a5, .ref a6])), (k, .inr (2, [.int 0, .int 1, .int 1, .int 0, .ref g, .int 0, .ref vn, .ref vg, .ref t, .ref r, .int 0, .int 0, .int 9999, .int 0]))]) [] [0, 1] rfl rfl (by decide) (by decide) (by decide) (As := [.ref k, .ref h, .int (-1), .int 0, .int 0]) (rest := []) rfl (nb rfl) rfl d_Days_countRows_36 (fun r2 _ hr2 => ?_)
  subst hr2
  refine j_ws (ws' := [(h, .inr (7, [.int d, .int 0, .int 0, .ref a0, .ref a1, .ref a2, .ref a3, .ref a4, .ref a5, .ref a6])), (k, .inr (2, [.int 0, .int 1, .int 1, .int 0, .ref g, .int 0, .ref vn, .ref vg, .ref t, .ref r, .int 0, .int 0, .int 9999, .int 0]))]) rfl ?_
  refine j_st (st' := [.int 1]) rfl ?_
  refine j_if_eqF (pc := 39) C (tgt := 107) d_Days_countRows_39 (by decide) (by decide) ?_
  refine j_aload_n (pc := 42) C d_Days_countRows_42 rfl 3 rfl ?_
  refine j_aload_n (pc := 43) C d_Days_countRows_43 rfl 4 rfl ?_
  refine j_iload (pc := 44) C d_Days_countRows_44 0 rfl ?_
  refine j_callSv (pc := 46) C (c_doAct l D y k h) kw_Days_47 ks_Days_doAct ⟨by decide, by decide⟩ ⟨by decide, by decide⟩ (wr := [(h, .inr (7, [.int d, .int 0, .int 0, .ref a0, .ref a1, .ref a2, .ref a3, .ref a4, .ref a5, .ref a6])), (k, .inr (2, [.int 0, .int 1, .int 1, .int 0, .ref g, .int 0, .ref vn, .ref vg, .ref t, .ref r, .int 0, .int 0, .int 9999, .int 0]))]) [] [0, 1] rfl rfl (by decide) (by decide) (by decide) (As := [.ref k, .ref h, .int 0]) (rest := []) rfl (nb rfl) rfl d_Days_countRows_46 (fun _ _ => ?_)
  refine j_ws (ws' := [(h, .inr (7, [.int d, .int 0, .int 0, .ref a0, .ref a1, .ref a2, .ref a3, .ref a4, .ref a5, .ref a6])), (k, .inr (2, [.int 0, .int 1, .int 1, .int 0, .ref g, .int 0, .ref vn, .ref vg, .ref t, .ref r, .int 0, .int 0, .int 9999, .int 0]))]) rfl ?_
  refine j_aload_n (pc := 49) C d_Days_countRows_49 rfl 4 rfl ?_
  refine j_dup (pc := 50) C d_Days_countRows_50 rfl ?_
  refine j_get (pc := 51) C gf_Days_59 0 rfl rfl d_Days_countRows_51 ?_
  refine j_iconst (pc := 54) C (v := 1) d_Days_countRows_54 (by decide) ?_
  refine j_iadd (pc := 55) C (v := d + 1) d_Days_countRows_55 rfl ?_
  refine j_put (pc := 56) C pf_Days_59 0 (ws' := [(h, .inr (7, [.int (d + 1), .int 0, .int 0, .ref a0, .ref a1, .ref a2, .ref a3, .ref a4, .ref a5, .ref a6])), (k, .inr (2, [.int 0, .int 1, .int 1, .int 0, .ref g, .int 0, .ref vn, .ref vg, .ref t, .ref r, .int 0, .int 0, .int 9999, .int 0]))]) rfl rfl rfl (nl rfl) rfl d_Days_countRows_56 ?_
  refine j_iload_n (pc := 59) C d_Days_countRows_59 rfl 2 rfl ?_
  refine j_aload_n (pc := 60) C d_Days_countRows_60 rfl 3 rfl ?_
  refine j_aload_n (pc := 61) C d_Days_countRows_61 rfl 4 rfl ?_
  refine j_iload_n (pc := 62) C d_Days_countRows_62 rfl 5 rfl ?_
  refine j_iconst (pc := 63) C (v := 1) d_Days_countRows_63 (by decide) ?_
  refine j_isub (pc := 64) C (v := 9) d_Days_countRows_64 (by decide) ?_
  refine j_callSi (pc := 65) C (c_countRows_9 l D y k h g vn vg t r (d + 1) a0 a1 a2 a3 a4 a5 a6) kw_Days_159 ks_Days_countRows ⟨by decide, by decide⟩ ⟨by decide, by decide⟩ (wr := []) [1, 0] [] rfl rfl (by decide) (by decide) (by decide) (As := [.ref k, .ref h, .int 9]) (rest := [.int 0]) rfl (nb rfl) rfl d_Days_countRows_65 (fun r3 _ hr3 => ?_)
  subst hr3
  refine j_ws (ws' := [(k, .inr (2, [.int 0, .int 1, .int 1, .int 0, .ref g, .int 0, .ref vn, .ref vg, .ref t, .ref r, .int 0, .int 0, .int 9999, .int 0])), (h, .inr (7, [.int (d + 1), .int 0, .int 0, .ref a0, .ref a1, .ref a2, .ref a3, .ref a4, .ref a5, .ref a6]))]) rfl ?_
  refine j_st (st' := [.int 1, .int 0]) rfl ?_
  refine j_iadd (pc := 68) C (v := 1) d_Days_countRows_68 (by decide) ?_
  refine j_istore_n (pc := 69) C (lv' := [(3, .int 1), (5, .int 0), (4, .int 0), (0, .ref k), (1, .ref h), (2, .int 10)]) d_Days_countRows_69 rfl (by decide) rfl ?_
  refine j_aload_n (pc := 70) C d_Days_countRows_70 rfl 4 rfl ?_
  refine j_dup (pc := 71) C d_Days_countRows_71 rfl ?_
  refine j_get (pc := 72) C gf_Days_59 1 rfl rfl d_Days_countRows_72 ?_
  refine j_iconst (pc := 75) C (v := 1) d_Days_countRows_75 (by decide) ?_
  refine j_isub (pc := 76) C (v := d) d_Days_countRows_76 (d_back d) ?_
  refine j_put (pc := 77) C pf_Days_59 1 (ws' := [(k, .inr (2, [.int 0, .int 1, .int 1, .int 0, .ref g, .int 0, .ref vn, .ref vg, .ref t, .ref r, .int 0, .int 0, .int 9999, .int 0])), (h, .inr (7, [.int d, .int 0, .int 0, .ref a0, .ref a1, .ref a2, .ref a3, .ref a4, .ref a5, .ref a6]))]) rfl rfl rfl (nl rfl) rfl d_Days_countRows_77 ?_
  refine j_iload (pc := 80) C d_Days_countRows_80 1 rfl ?_
  refine j_if_eqT (pc := 82) C (tgt := 101) d_Days_countRows_82 (by decide) (by decide) ?_
  refine j_aload_n (pc := 101) C d_Days_countRows_101 rfl 4 rfl ?_
  refine j_iload (pc := 102) C d_Days_countRows_102 2 rfl ?_
  refine j_put (pc := 104) C pf_Days_15 1 (ws' := [(k, .inr (2, [.int 0, .int 1, .int 1, .int 0, .ref g, .int 0, .ref vn, .ref vg, .ref t, .ref r, .int 0, .int 0, .int 9999, .int 0])), (h, .inr (7, [.int d, .int 0, .int 0, .ref a0, .ref a1, .ref a2, .ref a3, .ref a4, .ref a5, .ref a6]))]) rfl rfl rfl (nl rfl) rfl d_Days_countRows_104 ?_
  refine j_iinc (pc := 107) C (v := 1) (lv' := [(5, .int 1), (3, .int 1), (4, .int 0), (0, .ref k), (1, .ref h), (2, .int 10)]) d_Days_countRows_107 1 rfl (by decide) (by decide) rfl ?_
  refine j_goto (pc := 110) C (tgt := 17) d_Days_countRows_110 (by decide) ?_
  refine j_iload (pc := 17) C d_Days_countRows_17 0 rfl ?_
  refine j_iconst (pc := 19) C (v := 3) d_Days_countRows_19 (by decide) ?_
  refine j_icmp_geF (pc := 20) C (tgt := 113) d_Days_countRows_20 (by decide) (by decide) ?_
  refine j_aload_n (pc := 23) C d_Days_countRows_23 rfl 3 rfl ?_
  refine j_aload_n (pc := 24) C d_Days_countRows_24 rfl 4 rfl ?_
  refine j_aload_n (pc := 25) C d_Days_countRows_25 rfl 3 rfl ?_
  refine j_aload_n (pc := 26) C d_Days_countRows_26 rfl 4 rfl ?_
  refine j_get (pc := 27) C gf_Days_59 1 rfl rfl d_Days_countRows_27 ?_
  refine j_callVi (pc := 30) C (c_villageOn l D y k g vn vg t r d) kw_Days_109 kv_Lake_villageOn 0 2 rfl rfl ⟨by decide, by decide⟩ ⟨by decide, by decide⟩ (wr := [(h, .inr (7, [.int d, .int 0, .int 0, .ref a0, .ref a1, .ref a2, .ref a3, .ref a4, .ref a5, .ref a6]))]) [0] [1] rfl rfl (by decide) (by decide) (by decide) (As := [.int d]) (rest := [.ref h, .ref k]) rfl (nb rfl) rfl d_Days_countRows_30 (fun r4 _ hr4 => ?_)
  subst hr4
  refine j_ws (ws' := [(h, .inr (7, [.int d, .int 0, .int 0, .ref a0, .ref a1, .ref a2, .ref a3, .ref a4, .ref a5, .ref a6])), (k, .inr (2, [.int 0, .int 1, .int 1, .int 0, .ref g, .int 0, .ref vn, .ref vg, .ref t, .ref r, .int 0, .int 0, .int 9999, .int 0]))]) rfl ?_
  refine j_st (st' := [.int (-1), .ref h, .ref k]) rfl ?_
  refine j_iload (pc := 33) C d_Days_countRows_33 0 rfl ?_
  refine j_iconst (pc := 35) C (v := 0) d_Days_countRows_35 (by decide) ?_
  refine j_callSi (pc := 36) C (c_allows_n l D y k g vn vg t r h (-1) 1 0 (by decide)) kw_Days_43 ks_Days_allows ⟨by decide, by decide⟩ ⟨by decide, by decide⟩ (wr := [(h, .inr (7, [.int d, .int 0, .int 0, .ref a0, .ref a1, .ref a2, .ref a3, .ref a4, .ref a5, .ref a6]))]) [1] [0] rfl rfl (by decide) (by decide) (by decide) (As := [.ref k, .ref h, .int (-1), .int 1, .int 0]) (rest := []) rfl (nb rfl) rfl d_Days_countRows_36 (fun r5 _ hr5 => ?_)
  subst hr5
  refine j_ws (ws' := [(h, .inr (7, [.int d, .int 0, .int 0, .ref a0, .ref a1, .ref a2, .ref a3, .ref a4, .ref a5, .ref a6])), (k, .inr (2, [.int 0, .int 1, .int 1, .int 0, .ref g, .int 0, .ref vn, .ref vg, .ref t, .ref r, .int 0, .int 0, .int 9999, .int 0]))]) rfl ?_
  refine j_st (st' := [.int 0]) rfl ?_
  refine j_if_eqT (pc := 39) C (tgt := 107) d_Days_countRows_39 (by decide) (by decide) ?_
  refine j_iinc (pc := 107) C (v := 2) (lv' := [(5, .int 2), (3, .int 1), (4, .int 0), (0, .ref k), (1, .ref h), (2, .int 10)]) d_Days_countRows_107 0 rfl (by decide) (by decide) rfl ?_
  refine j_goto (pc := 110) C (tgt := 17) d_Days_countRows_110 (by decide) ?_
  refine j_iload (pc := 17) C d_Days_countRows_17 0 rfl ?_
  refine j_iconst (pc := 19) C (v := 3) d_Days_countRows_19 (by decide) ?_
  refine j_icmp_geF (pc := 20) C (tgt := 113) d_Days_countRows_20 (by decide) (by decide) ?_
  refine j_aload_n (pc := 23) C d_Days_countRows_23 rfl 3 rfl ?_
  refine j_aload_n (pc := 24) C d_Days_countRows_24 rfl 4 rfl ?_
  refine j_aload_n (pc := 25) C d_Days_countRows_25 rfl 3 rfl ?_
  refine j_aload_n (pc := 26) C d_Days_countRows_26 rfl 4 rfl ?_
  refine j_get (pc := 27) C gf_Days_59 0 rfl rfl d_Days_countRows_27 ?_
  refine j_callVi (pc := 30) C (c_villageOn l D y k g vn vg t r d) kw_Days_109 kv_Lake_villageOn 0 2 rfl rfl ⟨by decide, by decide⟩ ⟨by decide, by decide⟩ (wr := [(h, .inr (7, [.int d, .int 0, .int 0, .ref a0, .ref a1, .ref a2, .ref a3, .ref a4, .ref a5, .ref a6]))]) [1] [0] rfl rfl (by decide) (by decide) (by decide) (As := [.int d]) (rest := [.ref h, .ref k]) rfl (nb rfl) rfl d_Days_countRows_30 (fun r6 _ hr6 => ?_)
  subst hr6
  refine j_ws (ws' := [(h, .inr (7, [.int d, .int 0, .int 0, .ref a0, .ref a1, .ref a2, .ref a3, .ref a4, .ref a5, .ref a6])), (k, .inr (2, [.int 0, .int 1, .int 1, .int 0, .ref g, .int 0, .ref vn, .ref vg, .ref t, .ref r, .int 0, .int 0, .int 9999, .int 0]))]) rfl ?_
  refine j_st (st' := [.int (-1), .ref h, .ref k]) rfl ?_
  refine j_iload (pc := 33) C d_Days_countRows_33 0 rfl ?_
  refine j_iconst (pc := 35) C (v := 0) d_Days_countRows_35 (by decide) ?_
  refine j_callSi (pc := 36) C (c_allows_n l D y k g vn vg t r h (-1) 2 0 (by decide)) kw_Days_43 ks_Days_allows ⟨by decide, by decide⟩ ⟨by decide, by decide⟩ (wr := [(h, .inr (7, [.int d, .int 0, .int 0, .ref a0, .ref a1, .ref a2, .ref a3, .ref a4, .ref a5, .ref a6]))]) [1] [0] rfl rfl (by decide) (by decide) (by decide) (As := [.ref k, .ref h, .int (-1), .int 2, .int 0]) (rest := []) rfl (nb rfl) rfl d_Days_countRows_36 (fun r7 _ hr7 => ?_)
  subst hr7
  refine j_ws (ws' := [(h, .inr (7, [.int d, .int 0, .int 0, .ref a0, .ref a1, .ref a2, .ref a3, .ref a4, .ref a5, .ref a6])), (k, .inr (2, [.int 0, .int 1, .int 1, .int 0, .ref g, .int 0, .ref vn, .ref vg, .ref t, .ref r, .int 0, .int 0, .int 9999, .int 0]))]) rfl ?_
  refine j_st (st' := [.int 0]) rfl ?_
  refine j_if_eqT (pc := 39) C (tgt := 107) d_Days_countRows_39 (by decide) (by decide) ?_
  refine j_iinc (pc := 107) C (v := 3) (lv' := [(5, .int 3), (3, .int 1), (4, .int 0), (0, .ref k), (1, .ref h), (2, .int 10)]) d_Days_countRows_107 0 rfl (by decide) (by decide) rfl ?_
  refine j_goto (pc := 110) C (tgt := 17) d_Days_countRows_110 (by decide) ?_
  refine j_iload (pc := 17) C d_Days_countRows_17 0 rfl ?_
  refine j_iconst (pc := 19) C (v := 3) d_Days_countRows_19 (by decide) ?_
  refine j_icmp_geT (pc := 20) C (tgt := 113) d_Days_countRows_20 (by decide) (by decide) ?_
  refine j_iload_n (pc := 113) C d_Days_countRows_113 rfl 1 rfl ?_
  exact j_iret (pc := 114) C hr rfl () rfl [1, 0] rfl (by decide) (by decide) (by decide) d_Days_countRows_114
set_option maxHeartbeats 4000000 in
set_option maxRecDepth 100000 in
theorem c_countRows_11 (l : Launch) (D : va_G) (y : Nat → ClassId) (k : Nat) (h : Nat) (g : Nat) (vn : Nat) (vg : Nat) (t : Nat) (r : Nat) (d : Int32) (a0 : Nat) (a1 : Nat) (a2 : Nat) (a3 : Nat) (a4 : Nat) (a5 : Nat) (a6 : Nat)  : CT l D y ⟨"NineBoards$Days", "countRows", "(LNineBoards$Lake;LNineBoards$State;I)I"⟩ prog_3_method_14_code 6 (some .int) ({ frames := 12, cells := 0, slots := 0, locals := 297 } : Room) [.ref k, .ref h, .int 11] [(k, .inr (2, [.int 0, .int 1, .int 1, .int 0, .ref g, .int 0, .ref vn, .ref vg, .ref t, .ref r, .int 0, .int 0, .int 9999, .int 0])), (h, .inr (7, [.int d, .int 0, .int 0, .ref a0, .ref a1, .ref a2, .ref a3, .ref a4, .ref a5, .ref a6]))] (QI D [(k, .inr (2, [.int 0, .int 1, .int 1, .int 0, .ref g, .int 0, .ref vn, .ref vg, .ref t, .ref r, .int 0, .int 0, .int 9999, .int 0])), (h, .inr (7, [.int d, .int 0, .int 0, .ref a0, .ref a1, .ref a2, .ref a3, .ref a4, .ref a5, .ref a6]))] (fun (r : Int32) (_ : Unit) => r = 1) (fun _ => [(k, .inr (2, [.int 0, .int 1, .int 1, .int 0, .ref g, .int 0, .ref vn, .ref vg, .ref t, .ref r, .int 0, .int 0, .int 9999, .int 0])), (h, .inr (7, [.int d, .int 0, .int 0, .ref a0, .ref a1, .ref a2, .ref a3, .ref a4, .ref a5, .ref a6]))])) := by
  refine CT.of (by decide) (nb rfl) ?_
  intro p e s m args below meth c C hr
  refine j_lv (lv' := [(0, .ref k), (1, .ref h), (2, .int 11)]) rfl ?_
  refine j_iload_n (pc := 0) C d_Days_countRows_0 rfl 2 rfl ?_
  refine j_if_gtT (pc := 1) C (tgt := 6) d_Days_countRows_1 (by decide) (by decide) ?_
  refine j_iconst (pc := 6) C (v := 0) d_Days_countRows_6 (by decide) ?_
  refine j_istore_n (pc := 7) C (lv' := [(3, .int 0), (0, .ref k), (1, .ref h), (2, .int 11)]) d_Days_countRows_7 rfl (by decide) rfl ?_
  refine j_aload_n (pc := 8) C d_Days_countRows_8 rfl 2 rfl ?_
  refine j_get (pc := 9) C gf_Days_15 1 rfl rfl d_Days_countRows_9 ?_
  refine j_istore (pc := 12) C (lv' := [(4, .int 0), (3, .int 0), (0, .ref k), (1, .ref h), (2, .int 11)]) d_Days_countRows_12 (by decide) rfl ?_
  refine j_iconst (pc := 14) C (v := 0) d_Days_countRows_14 (by decide) ?_
  refine j_istore (pc := 15) C (lv' := [(5, .int 0), (4, .int 0), (3, .int 0), (0, .ref k), (1, .ref h), (2, .int 11)]) d_Days_countRows_15 (by decide) rfl ?_
  refine j_iload (pc := 17) C d_Days_countRows_17 0 rfl ?_
  refine j_iconst (pc := 19) C (v := 3) d_Days_countRows_19 (by decide) ?_
  refine j_icmp_geF (pc := 20) C (tgt := 113) d_Days_countRows_20 (by decide) (by decide) ?_
  refine j_aload_n (pc := 23) C d_Days_countRows_23 rfl 3 rfl ?_
  refine j_aload_n (pc := 24) C d_Days_countRows_24 rfl 4 rfl ?_
  refine j_aload_n (pc := 25) C d_Days_countRows_25 rfl 3 rfl ?_
  refine j_aload_n (pc := 26) C d_Days_countRows_26 rfl 4 rfl ?_
  refine j_get (pc := 27) C gf_Days_59 1 rfl rfl d_Days_countRows_27 ?_
  refine j_callVi (pc := 30) C (c_villageOn l D y k g vn vg t r d) kw_Days_109 kv_Lake_villageOn 0 2 rfl rfl ⟨by decide, by decide⟩ ⟨by decide, by decide⟩ (wr := [(h, .inr (7, [.int d, .int 0, .int 0, .ref a0, .ref a1, .ref a2, .ref a3, .ref a4, .ref a5, .ref a6]))]) [0] [1] rfl rfl (by decide) (by decide) (by decide) (As := [.int d]) (rest := [.ref h, .ref k]) rfl (nb rfl) rfl d_Days_countRows_30 (fun r1 _ hr1 => ?_)
  subst hr1
  refine j_ws (ws' := [(h, .inr (7, [.int d, .int 0, .int 0, .ref a0, .ref a1, .ref a2, .ref a3, .ref a4, .ref a5, .ref a6])), (k, .inr (2, [.int 0, .int 1, .int 1, .int 0, .ref g, .int 0, .ref vn, .ref vg, .ref t, .ref r, .int 0, .int 0, .int 9999, .int 0]))]) rfl ?_
  refine j_st (st' := [.int (-1), .ref h, .ref k]) rfl ?_
  refine j_iload (pc := 33) C d_Days_countRows_33 0 rfl ?_
  refine j_iconst (pc := 35) C (v := 0) d_Days_countRows_35 (by decide) ?_
  refine j_callSi (pc := 36) C (c_allows_0 l D y k h (-1) 0) kw_Days_43 ks_Days_allows ⟨by decide, by decide⟩ ⟨by decide, by decide⟩ (wr := [(h, .inr (7, [.int d, .int 0, .int 0, .ref a0, .ref a1, .ref a2, .ref a3, .ref a4, .ref a5, .ref a6])), (k, .inr (2, [.int 0, .int 1, .int 1, .int 0, .ref g, .int 0, .ref vn, .ref vg, .ref t, .ref r, .int 0, .int 0, .int 9999, .int 0]))]) [] [0, 1] rfl rfl (by decide) (by decide) (by decide) (As := [.ref k, .ref h, .int (-1), .int 0, .int 0]) (rest := []) rfl (nb rfl) rfl d_Days_countRows_36 (fun r2 _ hr2 => ?_)
  subst hr2
  refine j_ws (ws' := [(h, .inr (7, [.int d, .int 0, .int 0, .ref a0, .ref a1, .ref a2, .ref a3, .ref a4, .ref a5, .ref a6])), (k, .inr (2, [.int 0, .int 1, .int 1, .int 0, .ref g, .int 0, .ref vn, .ref vg, .ref t, .ref r, .int 0, .int 0, .int 9999, .int 0]))]) rfl ?_
  refine j_st (st' := [.int 1]) rfl ?_
  refine j_if_eqF (pc := 39) C (tgt := 107) d_Days_countRows_39 (by decide) (by decide) ?_
  refine j_aload_n (pc := 42) C d_Days_countRows_42 rfl 3 rfl ?_
  refine j_aload_n (pc := 43) C d_Days_countRows_43 rfl 4 rfl ?_
  refine j_iload (pc := 44) C d_Days_countRows_44 0 rfl ?_
  refine j_callSv (pc := 46) C (c_doAct l D y k h) kw_Days_47 ks_Days_doAct ⟨by decide, by decide⟩ ⟨by decide, by decide⟩ (wr := [(h, .inr (7, [.int d, .int 0, .int 0, .ref a0, .ref a1, .ref a2, .ref a3, .ref a4, .ref a5, .ref a6])), (k, .inr (2, [.int 0, .int 1, .int 1, .int 0, .ref g, .int 0, .ref vn, .ref vg, .ref t, .ref r, .int 0, .int 0, .int 9999, .int 0]))]) [] [0, 1] rfl rfl (by decide) (by decide) (by decide) (As := [.ref k, .ref h, .int 0]) (rest := []) rfl (nb rfl) rfl d_Days_countRows_46 (fun _ _ => ?_)
  refine j_ws (ws' := [(h, .inr (7, [.int d, .int 0, .int 0, .ref a0, .ref a1, .ref a2, .ref a3, .ref a4, .ref a5, .ref a6])), (k, .inr (2, [.int 0, .int 1, .int 1, .int 0, .ref g, .int 0, .ref vn, .ref vg, .ref t, .ref r, .int 0, .int 0, .int 9999, .int 0]))]) rfl ?_
  refine j_aload_n (pc := 49) C d_Days_countRows_49 rfl 4 rfl ?_
  refine j_dup (pc := 50) C d_Days_countRows_50 rfl ?_
  refine j_get (pc := 51) C gf_Days_59 0 rfl rfl d_Days_countRows_51 ?_
  refine j_iconst (pc := 54) C (v := 1) d_Days_countRows_54 (by decide) ?_
  refine j_iadd (pc := 55) C (v := d + 1) d_Days_countRows_55 rfl ?_
  refine j_put (pc := 56) C pf_Days_59 0 (ws' := [(h, .inr (7, [.int (d + 1), .int 0, .int 0, .ref a0, .ref a1, .ref a2, .ref a3, .ref a4, .ref a5, .ref a6])), (k, .inr (2, [.int 0, .int 1, .int 1, .int 0, .ref g, .int 0, .ref vn, .ref vg, .ref t, .ref r, .int 0, .int 0, .int 9999, .int 0]))]) rfl rfl rfl (nl rfl) rfl d_Days_countRows_56 ?_
  refine j_iload_n (pc := 59) C d_Days_countRows_59 rfl 2 rfl ?_
  refine j_aload_n (pc := 60) C d_Days_countRows_60 rfl 3 rfl ?_
  refine j_aload_n (pc := 61) C d_Days_countRows_61 rfl 4 rfl ?_
  refine j_iload_n (pc := 62) C d_Days_countRows_62 rfl 5 rfl ?_
  refine j_iconst (pc := 63) C (v := 1) d_Days_countRows_63 (by decide) ?_
  refine j_isub (pc := 64) C (v := 10) d_Days_countRows_64 (by decide) ?_
  refine j_callSi (pc := 65) C (c_countRows_10 l D y k h g vn vg t r (d + 1) a0 a1 a2 a3 a4 a5 a6) kw_Days_159 ks_Days_countRows ⟨by decide, by decide⟩ ⟨by decide, by decide⟩ (wr := []) [1, 0] [] rfl rfl (by decide) (by decide) (by decide) (As := [.ref k, .ref h, .int 10]) (rest := [.int 0]) rfl (nb rfl) rfl d_Days_countRows_65 (fun r3 _ hr3 => ?_)
  subst hr3
  refine j_ws (ws' := [(k, .inr (2, [.int 0, .int 1, .int 1, .int 0, .ref g, .int 0, .ref vn, .ref vg, .ref t, .ref r, .int 0, .int 0, .int 9999, .int 0])), (h, .inr (7, [.int (d + 1), .int 0, .int 0, .ref a0, .ref a1, .ref a2, .ref a3, .ref a4, .ref a5, .ref a6]))]) rfl ?_
  refine j_st (st' := [.int 1, .int 0]) rfl ?_
  refine j_iadd (pc := 68) C (v := 1) d_Days_countRows_68 (by decide) ?_
  refine j_istore_n (pc := 69) C (lv' := [(3, .int 1), (5, .int 0), (4, .int 0), (0, .ref k), (1, .ref h), (2, .int 11)]) d_Days_countRows_69 rfl (by decide) rfl ?_
  refine j_aload_n (pc := 70) C d_Days_countRows_70 rfl 4 rfl ?_
  refine j_dup (pc := 71) C d_Days_countRows_71 rfl ?_
  refine j_get (pc := 72) C gf_Days_59 1 rfl rfl d_Days_countRows_72 ?_
  refine j_iconst (pc := 75) C (v := 1) d_Days_countRows_75 (by decide) ?_
  refine j_isub (pc := 76) C (v := d) d_Days_countRows_76 (d_back d) ?_
  refine j_put (pc := 77) C pf_Days_59 1 (ws' := [(k, .inr (2, [.int 0, .int 1, .int 1, .int 0, .ref g, .int 0, .ref vn, .ref vg, .ref t, .ref r, .int 0, .int 0, .int 9999, .int 0])), (h, .inr (7, [.int d, .int 0, .int 0, .ref a0, .ref a1, .ref a2, .ref a3, .ref a4, .ref a5, .ref a6]))]) rfl rfl rfl (nl rfl) rfl d_Days_countRows_77 ?_
  refine j_iload (pc := 80) C d_Days_countRows_80 1 rfl ?_
  refine j_if_eqT (pc := 82) C (tgt := 101) d_Days_countRows_82 (by decide) (by decide) ?_
  refine j_aload_n (pc := 101) C d_Days_countRows_101 rfl 4 rfl ?_
  refine j_iload (pc := 102) C d_Days_countRows_102 2 rfl ?_
  refine j_put (pc := 104) C pf_Days_15 1 (ws' := [(k, .inr (2, [.int 0, .int 1, .int 1, .int 0, .ref g, .int 0, .ref vn, .ref vg, .ref t, .ref r, .int 0, .int 0, .int 9999, .int 0])), (h, .inr (7, [.int d, .int 0, .int 0, .ref a0, .ref a1, .ref a2, .ref a3, .ref a4, .ref a5, .ref a6]))]) rfl rfl rfl (nl rfl) rfl d_Days_countRows_104 ?_
  refine j_iinc (pc := 107) C (v := 1) (lv' := [(5, .int 1), (3, .int 1), (4, .int 0), (0, .ref k), (1, .ref h), (2, .int 11)]) d_Days_countRows_107 1 rfl (by decide) (by decide) rfl ?_
  refine j_goto (pc := 110) C (tgt := 17) d_Days_countRows_110 (by decide) ?_
  refine j_iload (pc := 17) C d_Days_countRows_17 0 rfl ?_
  refine j_iconst (pc := 19) C (v := 3) d_Days_countRows_19 (by decide) ?_
  refine j_icmp_geF (pc := 20) C (tgt := 113) d_Days_countRows_20 (by decide) (by decide) ?_
  refine j_aload_n (pc := 23) C d_Days_countRows_23 rfl 3 rfl ?_
  refine j_aload_n (pc := 24) C d_Days_countRows_24 rfl 4 rfl ?_
  refine j_aload_n (pc := 25) C d_Days_countRows_25 rfl 3 rfl ?_
  refine j_aload_n (pc := 26) C d_Days_countRows_26 rfl 4 rfl ?_
  refine j_get (pc := 27) C gf_Days_59 1 rfl rfl d_Days_countRows_27 ?_
  refine j_callVi (pc := 30) C (c_villageOn l D y k g vn vg t r d) kw_Days_109 kv_Lake_villageOn 0 2 rfl rfl ⟨by decide, by decide⟩ ⟨by decide, by decide⟩ (wr := [(h, .inr (7, [.int d, .int 0, .int 0, .ref a0, .ref a1, .ref a2, .ref a3, .ref a4, .ref a5, .ref a6]))]) [0] [1] rfl rfl (by decide) (by decide) (by decide) (As := [.int d]) (rest := [.ref h, .ref k]) rfl (nb rfl) rfl d_Days_countRows_30 (fun r4 _ hr4 => ?_)
  subst hr4
  refine j_ws (ws' := [(h, .inr (7, [.int d, .int 0, .int 0, .ref a0, .ref a1, .ref a2, .ref a3, .ref a4, .ref a5, .ref a6])), (k, .inr (2, [.int 0, .int 1, .int 1, .int 0, .ref g, .int 0, .ref vn, .ref vg, .ref t, .ref r, .int 0, .int 0, .int 9999, .int 0]))]) rfl ?_
  refine j_st (st' := [.int (-1), .ref h, .ref k]) rfl ?_
  refine j_iload (pc := 33) C d_Days_countRows_33 0 rfl ?_
  refine j_iconst (pc := 35) C (v := 0) d_Days_countRows_35 (by decide) ?_
  refine j_callSi (pc := 36) C (c_allows_n l D y k g vn vg t r h (-1) 1 0 (by decide)) kw_Days_43 ks_Days_allows ⟨by decide, by decide⟩ ⟨by decide, by decide⟩ (wr := [(h, .inr (7, [.int d, .int 0, .int 0, .ref a0, .ref a1, .ref a2, .ref a3, .ref a4, .ref a5, .ref a6]))]) [1] [0] rfl rfl (by decide) (by decide) (by decide) (As := [.ref k, .ref h, .int (-1), .int 1, .int 0]) (rest := []) rfl (nb rfl) rfl d_Days_countRows_36 (fun r5 _ hr5 => ?_)
  subst hr5
  refine j_ws (ws' := [(h, .inr (7, [.int d, .int 0, .int 0, .ref a0, .ref a1, .ref a2, .ref a3, .ref a4, .ref a5, .ref a6])), (k, .inr (2, [.int 0, .int 1, .int 1, .int 0, .ref g, .int 0, .ref vn, .ref vg, .ref t, .ref r, .int 0, .int 0, .int 9999, .int 0]))]) rfl ?_
  refine j_st (st' := [.int 0]) rfl ?_
  refine j_if_eqT (pc := 39) C (tgt := 107) d_Days_countRows_39 (by decide) (by decide) ?_
  refine j_iinc (pc := 107) C (v := 2) (lv' := [(5, .int 2), (3, .int 1), (4, .int 0), (0, .ref k), (1, .ref h), (2, .int 11)]) d_Days_countRows_107 0 rfl (by decide) (by decide) rfl ?_
  refine j_goto (pc := 110) C (tgt := 17) d_Days_countRows_110 (by decide) ?_
  refine j_iload (pc := 17) C d_Days_countRows_17 0 rfl ?_
  refine j_iconst (pc := 19) C (v := 3) d_Days_countRows_19 (by decide) ?_
  refine j_icmp_geF (pc := 20) C (tgt := 113) d_Days_countRows_20 (by decide) (by decide) ?_
  refine j_aload_n (pc := 23) C d_Days_countRows_23 rfl 3 rfl ?_
  refine j_aload_n (pc := 24) C d_Days_countRows_24 rfl 4 rfl ?_
  refine j_aload_n (pc := 25) C d_Days_countRows_25 rfl 3 rfl ?_
  refine j_aload_n (pc := 26) C d_Days_countRows_26 rfl 4 rfl ?_
  refine j_get (pc := 27) C gf_Days_59 0 rfl rfl d_Days_countRows_27 ?_
  refine j_callVi (pc := 30) C (c_villageOn l D y k g vn vg t r d) kw_Days_109 kv_Lake_villageOn 0 2 rfl rfl ⟨by decide, by decide⟩ ⟨by decide, by decide⟩ (wr := [(h, .inr (7, [.int d, .int 0, .int 0, .ref a0, .ref a1, .ref a2, .ref a3, .ref a4, .ref a5, .ref a6]))]) [1] [0] rfl rfl (by decide) (by decide) (by decide) (As := [.int d]) (rest := [.ref h, .ref k]) rfl (nb rfl) rfl d_Days_countRows_30 (fun r6 _ hr6 => ?_)
  subst hr6
  refine j_ws (ws' := [(h, .inr (7, [.int d, .int 0, .int 0, .ref a0, .ref a1, .ref a2, .ref a3, .ref a4, .ref a5, .ref a6])), (k, .inr (2, [.int 0, .int 1, .int 1, .int 0, .ref g, .int 0, .ref vn, .ref vg, .ref t, .ref r, .int 0, .int 0, .int 9999, .int 0]))]) rfl ?_
  refine j_st (st' := [.int (-1), .ref h, .ref k]) rfl ?_
  refine j_iload (pc := 33) C d_Days_countRows_33 0 rfl ?_
  refine j_iconst (pc := 35) C (v := 0) d_Days_countRows_35 (by decide) ?_
  refine j_callSi (pc := 36) C (c_allows_n l D y k g vn vg t r h (-1) 2 0 (by decide)) kw_Days_43 ks_Days_allows ⟨by decide, by decide⟩ ⟨by decide, by decide⟩ (wr := [(h, .inr (7, [.int d, .int 0, .int 0, .ref a0, .ref a1, .ref a2, .ref a3, .ref a4, .ref a5, .ref a6]))]) [1] [0] rfl rfl (by decide) (by decide) (by decide) (As := [.ref k, .ref h, .int (-1), .int 2, .int 0]) (rest := []) rfl (nb rfl) rfl d_Days_countRows_36 (fun r7 _ hr7 => ?_)
  subst hr7
  refine j_ws (ws' := [(h, .inr (7, [.int d, .int 0, .int 0, .ref a0, .ref a1, .ref a2, .ref a3, .ref a4, .ref a5, .ref a6])), (k, .inr (2, [.int 0, .int 1, .int 1, .int 0, .ref g, .int 0, .ref vn, .ref vg, .ref t, .ref r, .int 0, .int 0, .int 9999, .int 0]))]) rfl ?_
  refine j_st (st' := [.int 0]) rfl ?_
  refine j_if_eqT (pc := 39) C (tgt := 107) d_Days_countRows_39 (by decide) (by decide) ?_
  refine j_iinc (pc := 107) C (v := 3) (lv' := [(5, .int 3), (3, .int 1), (4, .int 0), (0, .ref k), (1, .ref h), (2, .int 11)]) d_Days_countRows_107 0 rfl (by decide) (by decide) rfl ?_
  refine j_goto (pc := 110) C (tgt := 17) d_Days_countRows_110 (by decide) ?_
  refine j_iload (pc := 17) C d_Days_countRows_17 0 rfl ?_
  refine j_iconst (pc := 19) C (v := 3) d_Days_countRows_19 (by decide) ?_
  refine j_icmp_geT (pc := 20) C (tgt := 113) d_Days_countRows_20 (by decide) (by decide) ?_
  refine j_iload_n (pc := 113) C d_Days_countRows_113 rfl 1 rfl ?_
  exact j_iret (pc := 114) C hr rfl () rfl [1, 0] rfl (by decide) (by decide) (by decide) d_Days_countRows_114
set_option maxHeartbeats 4000000 in
set_option maxRecDepth 100000 in
theorem c_countRows_12 (l : Launch) (D : va_G) (y : Nat → ClassId) (k : Nat) (h : Nat) (g : Nat) (vn : Nat) (vg : Nat) (t : Nat) (r : Nat) (d : Int32) (a0 : Nat) (a1 : Nat) (a2 : Nat) (a3 : Nat) (a4 : Nat) (a5 : Nat) (a6 : Nat)  : CT l D y ⟨"NineBoards$Days", "countRows", "(LNineBoards$Lake;LNineBoards$State;I)I"⟩ prog_3_method_14_code 6 (some .int) ({ frames := 13, cells := 0, slots := 0, locals := 322 } : Room) [.ref k, .ref h, .int 12] [(k, .inr (2, [.int 0, .int 1, .int 1, .int 0, .ref g, .int 0, .ref vn, .ref vg, .ref t, .ref r, .int 0, .int 0, .int 9999, .int 0])), (h, .inr (7, [.int d, .int 0, .int 0, .ref a0, .ref a1, .ref a2, .ref a3, .ref a4, .ref a5, .ref a6]))] (QI D [(k, .inr (2, [.int 0, .int 1, .int 1, .int 0, .ref g, .int 0, .ref vn, .ref vg, .ref t, .ref r, .int 0, .int 0, .int 9999, .int 0])), (h, .inr (7, [.int d, .int 0, .int 0, .ref a0, .ref a1, .ref a2, .ref a3, .ref a4, .ref a5, .ref a6]))] (fun (r : Int32) (_ : Unit) => r = 1) (fun _ => [(k, .inr (2, [.int 0, .int 1, .int 1, .int 0, .ref g, .int 0, .ref vn, .ref vg, .ref t, .ref r, .int 0, .int 0, .int 9999, .int 0])), (h, .inr (7, [.int d, .int 0, .int 0, .ref a0, .ref a1, .ref a2, .ref a3, .ref a4, .ref a5, .ref a6]))])) := by
  refine CT.of (by decide) (nb rfl) ?_
  intro p e s m args below meth c C hr
  refine j_lv (lv' := [(0, .ref k), (1, .ref h), (2, .int 12)]) rfl ?_
  refine j_iload_n (pc := 0) C d_Days_countRows_0 rfl 2 rfl ?_
  refine j_if_gtT (pc := 1) C (tgt := 6) d_Days_countRows_1 (by decide) (by decide) ?_
  refine j_iconst (pc := 6) C (v := 0) d_Days_countRows_6 (by decide) ?_
  refine j_istore_n (pc := 7) C (lv' := [(3, .int 0), (0, .ref k), (1, .ref h), (2, .int 12)]) d_Days_countRows_7 rfl (by decide) rfl ?_
  refine j_aload_n (pc := 8) C d_Days_countRows_8 rfl 2 rfl ?_
  refine j_get (pc := 9) C gf_Days_15 1 rfl rfl d_Days_countRows_9 ?_
  refine j_istore (pc := 12) C (lv' := [(4, .int 0), (3, .int 0), (0, .ref k), (1, .ref h), (2, .int 12)]) d_Days_countRows_12 (by decide) rfl ?_
  refine j_iconst (pc := 14) C (v := 0) d_Days_countRows_14 (by decide) ?_
  refine j_istore (pc := 15) C (lv' := [(5, .int 0), (4, .int 0), (3, .int 0), (0, .ref k), (1, .ref h), (2, .int 12)]) d_Days_countRows_15 (by decide) rfl ?_
  refine j_iload (pc := 17) C d_Days_countRows_17 0 rfl ?_
  refine j_iconst (pc := 19) C (v := 3) d_Days_countRows_19 (by decide) ?_
  refine j_icmp_geF (pc := 20) C (tgt := 113) d_Days_countRows_20 (by decide) (by decide) ?_
  refine j_aload_n (pc := 23) C d_Days_countRows_23 rfl 3 rfl ?_
  refine j_aload_n (pc := 24) C d_Days_countRows_24 rfl 4 rfl ?_
  refine j_aload_n (pc := 25) C d_Days_countRows_25 rfl 3 rfl ?_
  refine j_aload_n (pc := 26) C d_Days_countRows_26 rfl 4 rfl ?_
  refine j_get (pc := 27) C gf_Days_59 1 rfl rfl d_Days_countRows_27 ?_
  refine j_callVi (pc := 30) C (c_villageOn l D y k g vn vg t r d) kw_Days_109 kv_Lake_villageOn 0 2 rfl rfl ⟨by decide, by decide⟩ ⟨by decide, by decide⟩ (wr := [(h, .inr (7, [.int d, .int 0, .int 0, .ref a0, .ref a1, .ref a2, .ref a3, .ref a4, .ref a5, .ref a6]))]) [0] [1] rfl rfl (by decide) (by decide) (by decide) (As := [.int d]) (rest := [.ref h, .ref k]) rfl (nb rfl) rfl d_Days_countRows_30 (fun r1 _ hr1 => ?_)
  subst hr1
  refine j_ws (ws' := [(h, .inr (7, [.int d, .int 0, .int 0, .ref a0, .ref a1, .ref a2, .ref a3, .ref a4, .ref a5, .ref a6])), (k, .inr (2, [.int 0, .int 1, .int 1, .int 0, .ref g, .int 0, .ref vn, .ref vg, .ref t, .ref r, .int 0, .int 0, .int 9999, .int 0]))]) rfl ?_
  refine j_st (st' := [.int (-1), .ref h, .ref k]) rfl ?_
  refine j_iload (pc := 33) C d_Days_countRows_33 0 rfl ?_
  refine j_iconst (pc := 35) C (v := 0) d_Days_countRows_35 (by decide) ?_
  refine j_callSi (pc := 36) C (c_allows_0 l D y k h (-1) 0) kw_Days_43 ks_Days_allows ⟨by decide, by decide⟩ ⟨by decide, by decide⟩ (wr := [(h, .inr (7, [.int d, .int 0, .int 0, .ref a0, .ref a1, .ref a2, .ref a3, .ref a4, .ref a5, .ref a6])), (k, .inr (2, [.int 0, .int 1, .int 1, .int 0, .ref g, .int 0, .ref vn, .ref vg, .ref t, .ref r, .int 0, .int 0, .int 9999, .int 0]))]) [] [0, 1] rfl rfl (by decide) (by decide) (by decide) (As := [.ref k, .ref h, .int (-1), .int 0, .int 0]) (rest := []) rfl (nb rfl) rfl d_Days_countRows_36 (fun r2 _ hr2 => ?_)
  subst hr2
  refine j_ws (ws' := [(h, .inr (7, [.int d, .int 0, .int 0, .ref a0, .ref a1, .ref a2, .ref a3, .ref a4, .ref a5, .ref a6])), (k, .inr (2, [.int 0, .int 1, .int 1, .int 0, .ref g, .int 0, .ref vn, .ref vg, .ref t, .ref r, .int 0, .int 0, .int 9999, .int 0]))]) rfl ?_
  refine j_st (st' := [.int 1]) rfl ?_
  refine j_if_eqF (pc := 39) C (tgt := 107) d_Days_countRows_39 (by decide) (by decide) ?_
  refine j_aload_n (pc := 42) C d_Days_countRows_42 rfl 3 rfl ?_
  refine j_aload_n (pc := 43) C d_Days_countRows_43 rfl 4 rfl ?_
  refine j_iload (pc := 44) C d_Days_countRows_44 0 rfl ?_
  refine j_callSv (pc := 46) C (c_doAct l D y k h) kw_Days_47 ks_Days_doAct ⟨by decide, by decide⟩ ⟨by decide, by decide⟩ (wr := [(h, .inr (7, [.int d, .int 0, .int 0, .ref a0, .ref a1, .ref a2, .ref a3, .ref a4, .ref a5, .ref a6])), (k, .inr (2, [.int 0, .int 1, .int 1, .int 0, .ref g, .int 0, .ref vn, .ref vg, .ref t, .ref r, .int 0, .int 0, .int 9999, .int 0]))]) [] [0, 1] rfl rfl (by decide) (by decide) (by decide) (As := [.ref k, .ref h, .int 0]) (rest := []) rfl (nb rfl) rfl d_Days_countRows_46 (fun _ _ => ?_)
  refine j_ws (ws' := [(h, .inr (7, [.int d, .int 0, .int 0, .ref a0, .ref a1, .ref a2, .ref a3, .ref a4, .ref a5, .ref a6])), (k, .inr (2, [.int 0, .int 1, .int 1, .int 0, .ref g, .int 0, .ref vn, .ref vg, .ref t, .ref r, .int 0, .int 0, .int 9999, .int 0]))]) rfl ?_
  refine j_aload_n (pc := 49) C d_Days_countRows_49 rfl 4 rfl ?_
  refine j_dup (pc := 50) C d_Days_countRows_50 rfl ?_
  refine j_get (pc := 51) C gf_Days_59 0 rfl rfl d_Days_countRows_51 ?_
  refine j_iconst (pc := 54) C (v := 1) d_Days_countRows_54 (by decide) ?_
  refine j_iadd (pc := 55) C (v := d + 1) d_Days_countRows_55 rfl ?_
  refine j_put (pc := 56) C pf_Days_59 0 (ws' := [(h, .inr (7, [.int (d + 1), .int 0, .int 0, .ref a0, .ref a1, .ref a2, .ref a3, .ref a4, .ref a5, .ref a6])), (k, .inr (2, [.int 0, .int 1, .int 1, .int 0, .ref g, .int 0, .ref vn, .ref vg, .ref t, .ref r, .int 0, .int 0, .int 9999, .int 0]))]) rfl rfl rfl (nl rfl) rfl d_Days_countRows_56 ?_
  refine j_iload_n (pc := 59) C d_Days_countRows_59 rfl 2 rfl ?_
  refine j_aload_n (pc := 60) C d_Days_countRows_60 rfl 3 rfl ?_
  refine j_aload_n (pc := 61) C d_Days_countRows_61 rfl 4 rfl ?_
  refine j_iload_n (pc := 62) C d_Days_countRows_62 rfl 5 rfl ?_
  refine j_iconst (pc := 63) C (v := 1) d_Days_countRows_63 (by decide) ?_
  refine j_isub (pc := 64) C (v := 11) d_Days_countRows_64 (by decide) ?_
  refine j_callSi (pc := 65) C (c_countRows_11 l D y k h g vn vg t r (d + 1) a0 a1 a2 a3 a4 a5 a6) kw_Days_159 ks_Days_countRows ⟨by decide, by decide⟩ ⟨by decide, by decide⟩ (wr := []) [1, 0] [] rfl rfl (by decide) (by decide) (by decide) (As := [.ref k, .ref h, .int 11]) (rest := [.int 0]) rfl (nb rfl) rfl d_Days_countRows_65 (fun r3 _ hr3 => ?_)
  subst hr3
  refine j_ws (ws' := [(k, .inr (2, [.int 0, .int 1, .int 1, .int 0, .ref g, .int 0, .ref vn, .ref vg, .ref t, .ref r, .int 0, .int 0, .int 9999, .int 0])), (h, .inr (7, [.int (d + 1), .int 0, .int 0, .ref a0, .ref a1, .ref a2, .ref a3, .ref a4, .ref a5, .ref a6]))]) rfl ?_
  refine j_st (st' := [.int 1, .int 0]) rfl ?_
  refine j_iadd (pc := 68) C (v := 1) d_Days_countRows_68 (by decide) ?_
  refine j_istore_n (pc := 69) C (lv' := [(3, .int 1), (5, .int 0), (4, .int 0), (0, .ref k), (1, .ref h), (2, .int 12)]) d_Days_countRows_69 rfl (by decide) rfl ?_
  refine j_aload_n (pc := 70) C d_Days_countRows_70 rfl 4 rfl ?_
  refine j_dup (pc := 71) C d_Days_countRows_71 rfl ?_
  refine j_get (pc := 72) C gf_Days_59 1 rfl rfl d_Days_countRows_72 ?_
  refine j_iconst (pc := 75) C (v := 1) d_Days_countRows_75 (by decide) ?_
  refine j_isub (pc := 76) C (v := d) d_Days_countRows_76 (d_back d) ?_
  refine j_put (pc := 77) C pf_Days_59 1 (ws' := [(k, .inr (2, [.int 0, .int 1, .int 1, .int 0, .ref g, .int 0, .ref vn, .ref vg, .ref t, .ref r, .int 0, .int 0, .int 9999, .int 0])), (h, .inr (7, [.int d, .int 0, .int 0, .ref a0, .ref a1, .ref a2, .ref a3, .ref a4, .ref a5, .ref a6]))]) rfl rfl rfl (nl rfl) rfl d_Days_countRows_77 ?_
  refine j_iload (pc := 80) C d_Days_countRows_80 1 rfl ?_
  refine j_if_eqT (pc := 82) C (tgt := 101) d_Days_countRows_82 (by decide) (by decide) ?_
  refine j_aload_n (pc := 101) C d_Days_countRows_101 rfl 4 rfl ?_
  refine j_iload (pc := 102) C d_Days_countRows_102 2 rfl ?_
  refine j_put (pc := 104) C pf_Days_15 1 (ws' := [(k, .inr (2, [.int 0, .int 1, .int 1, .int 0, .ref g, .int 0, .ref vn, .ref vg, .ref t, .ref r, .int 0, .int 0, .int 9999, .int 0])), (h, .inr (7, [.int d, .int 0, .int 0, .ref a0, .ref a1, .ref a2, .ref a3, .ref a4, .ref a5, .ref a6]))]) rfl rfl rfl (nl rfl) rfl d_Days_countRows_104 ?_
  refine j_iinc (pc := 107) C (v := 1) (lv' := [(5, .int 1), (3, .int 1), (4, .int 0), (0, .ref k), (1, .ref h), (2, .int 12)]) d_Days_countRows_107 1 rfl (by decide) (by decide) rfl ?_
  refine j_goto (pc := 110) C (tgt := 17) d_Days_countRows_110 (by decide) ?_
  refine j_iload (pc := 17) C d_Days_countRows_17 0 rfl ?_
  refine j_iconst (pc := 19) C (v := 3) d_Days_countRows_19 (by decide) ?_
  refine j_icmp_geF (pc := 20) C (tgt := 113) d_Days_countRows_20 (by decide) (by decide) ?_
  refine j_aload_n (pc := 23) C d_Days_countRows_23 rfl 3 rfl ?_
  refine j_aload_n (pc := 24) C d_Days_countRows_24 rfl 4 rfl ?_
  refine j_aload_n (pc := 25) C d_Days_countRows_25 rfl 3 rfl ?_
  refine j_aload_n (pc := 26) C d_Days_countRows_26 rfl 4 rfl ?_
  refine j_get (pc := 27) C gf_Days_59 1 rfl rfl d_Days_countRows_27 ?_
  refine j_callVi (pc := 30) C (c_villageOn l D y k g vn vg t r d) kw_Days_109 kv_Lake_villageOn 0 2 rfl rfl ⟨by decide, by decide⟩ ⟨by decide, by decide⟩ (wr := [(h, .inr (7, [.int d, .int 0, .int 0, .ref a0, .ref a1, .ref a2, .ref a3, .ref a4, .ref a5, .ref a6]))]) [0] [1] rfl rfl (by decide) (by decide) (by decide) (As := [.int d]) (rest := [.ref h, .ref k]) rfl (nb rfl) rfl d_Days_countRows_30 (fun r4 _ hr4 => ?_)
  subst hr4
  refine j_ws (ws' := [(h, .inr (7, [.int d, .int 0, .int 0, .ref a0, .ref a1, .ref a2, .ref a3, .ref a4, .ref a5, .ref a6])), (k, .inr (2, [.int 0, .int 1, .int 1, .int 0, .ref g, .int 0, .ref vn, .ref vg, .ref t, .ref r, .int 0, .int 0, .int 9999, .int 0]))]) rfl ?_
  refine j_st (st' := [.int (-1), .ref h, .ref k]) rfl ?_
  refine j_iload (pc := 33) C d_Days_countRows_33 0 rfl ?_
  refine j_iconst (pc := 35) C (v := 0) d_Days_countRows_35 (by decide) ?_
  refine j_callSi (pc := 36) C (c_allows_n l D y k g vn vg t r h (-1) 1 0 (by decide)) kw_Days_43 ks_Days_allows ⟨by decide, by decide⟩ ⟨by decide, by decide⟩ (wr := [(h, .inr (7, [.int d, .int 0, .int 0, .ref a0, .ref a1, .ref a2, .ref a3, .ref a4, .ref a5, .ref a6]))]) [1] [0] rfl rfl (by decide) (by decide) (by decide) (As := [.ref k, .ref h, .int (-1), .int 1, .int 0]) (rest := []) rfl (nb rfl) rfl d_Days_countRows_36 (fun r5 _ hr5 => ?_)
  subst hr5
  refine j_ws (ws' := [(h, .inr (7, [.int d, .int 0, .int 0, .ref a0, .ref a1, .ref a2, .ref a3, .ref a4, .ref a5, .ref a6])), (k, .inr (2, [.int 0, .int 1, .int 1, .int 0, .ref g, .int 0, .ref vn, .ref vg, .ref t, .ref r, .int 0, .int 0, .int 9999, .int 0]))]) rfl ?_
  refine j_st (st' := [.int 0]) rfl ?_
  refine j_if_eqT (pc := 39) C (tgt := 107) d_Days_countRows_39 (by decide) (by decide) ?_
  refine j_iinc (pc := 107) C (v := 2) (lv' := [(5, .int 2), (3, .int 1), (4, .int 0), (0, .ref k), (1, .ref h), (2, .int 12)]) d_Days_countRows_107 0 rfl (by decide) (by decide) rfl ?_
  refine j_goto (pc := 110) C (tgt := 17) d_Days_countRows_110 (by decide) ?_
  refine j_iload (pc := 17) C d_Days_countRows_17 0 rfl ?_
  refine j_iconst (pc := 19) C (v := 3) d_Days_countRows_19 (by decide) ?_
  refine j_icmp_geF (pc := 20) C (tgt := 113) d_Days_countRows_20 (by decide) (by decide) ?_
  refine j_aload_n (pc := 23) C d_Days_countRows_23 rfl 3 rfl ?_
  refine j_aload_n (pc := 24) C d_Days_countRows_24 rfl 4 rfl ?_
  refine j_aload_n (pc := 25) C d_Days_countRows_25 rfl 3 rfl ?_
  refine j_aload_n (pc := 26) C d_Days_countRows_26 rfl 4 rfl ?_
  refine j_get (pc := 27) C gf_Days_59 0 rfl rfl d_Days_countRows_27 ?_
  refine j_callVi (pc := 30) C (c_villageOn l D y k g vn vg t r d) kw_Days_109 kv_Lake_villageOn 0 2 rfl rfl ⟨by decide, by decide⟩ ⟨by decide, by decide⟩ (wr := [(h, .inr (7, [.int d, .int 0, .int 0, .ref a0, .ref a1, .ref a2, .ref a3, .ref a4, .ref a5, .ref a6]))]) [1] [0] rfl rfl (by decide) (by decide) (by decide) (As := [.int d]) (rest := [.ref h, .ref k]) rfl (nb rfl) rfl d_Days_countRows_30 (fun r6 _ hr6 => ?_)
  subst hr6
  refine j_ws (ws' := [(h, .inr (7, [.int d, .int 0, .int 0, .ref a0, .ref a1, .ref a2, .ref a3, .ref a4, .ref a5, .ref a6])), (k, .inr (2, [.int 0, .int 1, .int 1, .int 0, .ref g, .int 0, .ref vn, .ref vg, .ref t, .ref r, .int 0, .int 0, .int 9999, .int 0]))]) rfl ?_
  refine j_st (st' := [.int (-1), .ref h, .ref k]) rfl ?_
  refine j_iload (pc := 33) C d_Days_countRows_33 0 rfl ?_
  refine j_iconst (pc := 35) C (v := 0) d_Days_countRows_35 (by decide) ?_
  refine j_callSi (pc := 36) C (c_allows_n l D y k g vn vg t r h (-1) 2 0 (by decide)) kw_Days_43 ks_Days_allows ⟨by decide, by decide⟩ ⟨by decide, by decide⟩ (wr := [(h, .inr (7, [.int d, .int 0, .int 0, .ref a0, .ref a1, .ref a2, .ref a3, .ref a4, .ref a5, .ref a6]))]) [1] [0] rfl rfl (by decide) (by decide) (by decide) (As := [.ref k, .ref h, .int (-1), .int 2, .int 0]) (rest := []) rfl (nb rfl) rfl d_Days_countRows_36 (fun r7 _ hr7 => ?_)
  subst hr7
  refine j_ws (ws' := [(h, .inr (7, [.int d, .int 0, .int 0, .ref a0, .ref a1, .ref a2, .ref a3, .ref a4, .ref a5, .ref a6])), (k, .inr (2, [.int 0, .int 1, .int 1, .int 0, .ref g, .int 0, .ref vn, .ref vg, .ref t, .ref r, .int 0, .int 0, .int 9999, .int 0]))]) rfl ?_
  refine j_st (st' := [.int 0]) rfl ?_
  refine j_if_eqT (pc := 39) C (tgt := 107) d_Days_countRows_39 (by decide) (by decide) ?_
  refine j_iinc (pc := 107) C (v := 3) (lv' := [(5, .int 3), (3, .int 1), (4, .int 0), (0, .ref k), (1, .ref h), (2, .int 12)]) d_Days_countRows_107 0 rfl (by decide) (by decide) rfl ?_
  refine j_goto (pc := 110) C (tgt := 17) d_Days_countRows_110 (by decide) ?_
  refine j_iload (pc := 17) C d_Days_countRows_17 0 rfl ?_
  refine j_iconst (pc := 19) C (v := 3) d_Days_countRows_19 (by decide) ?_
  refine j_icmp_geT (pc := 20) C (tgt := 113) d_Days_countRows_20 (by decide) (by decide) ?_
  refine j_iload_n (pc := 113) C d_Days_countRows_113 rfl 1 rfl ?_
  exact j_iret (pc := 114) C hr rfl () rfl [1, 0] rfl (by decide) (by decide) (by decide) d_Days_countRows_114
theorem d_Nine_rows_0 : decode prog_1_method_21_code 0 = .ok (.iload_n 1, 1) := by decide +kernel
theorem d_Nine_rows_1 : decode prog_1_method_21_code 1 = .ok (.iconst 1, 1) := by decide +kernel
theorem d_Nine_rows_2 : decode prog_1_method_21_code 2 = .ok (.if_icmp .lt 24, 3) := by decide +kernel
theorem d_Nine_rows_26 : decode prog_1_method_21_code 26 = .ok (.iconst (-1), 1) := by decide +kernel
theorem d_Nine_rows_27 : decode prog_1_method_21_code 27 = .ok (.ireturn, 1) := by decide +kernel
theorem d_Nine_rows_5 : decode prog_1_method_21_code 5 = .ok (.iload_n 1, 1) := by decide +kernel
theorem d_Nine_rows_6 : decode prog_1_method_21_code 6 = .ok (.bipush 12, 2) := by decide +kernel
theorem d_Nine_rows_8 : decode prog_1_method_21_code 8 = .ok (.if_icmp .gt 18, 3) := by decide +kernel
theorem d_Nine_rows_11 : decode prog_1_method_21_code 11 = .ok (.aload_n 0, 1) := by decide +kernel
theorem d_Nine_rows_12 : decode prog_1_method_21_code 12 = .ok (.getfield 24, 3) := by decide +kernel
theorem d_Nine_rows_15 : decode prog_1_method_21_code 15 = .ok (.getfield 124, 3) := by decide +kernel
theorem d_Nine_rows_18 : decode prog_1_method_21_code 18 = .ok (.iload_n 1, 1) := by decide +kernel
theorem d_Nine_rows_19 : decode prog_1_method_21_code 19 = .ok (.iadd, 1) := by decide +kernel
theorem d_Nine_rows_20 : decode prog_1_method_21_code 20 = .ok (.sipush 999, 3) := by decide +kernel
theorem d_Nine_rows_23 : decode prog_1_method_21_code 23 = .ok (.if_icmp .le 5, 3) := by decide +kernel
theorem d_Nine_rows_28 : decode prog_1_method_21_code 28 = .ok (.aload_n 0, 1) := by decide +kernel
theorem d_Nine_rows_29 : decode prog_1_method_21_code 29 = .ok (.getfield 28, 3) := by decide +kernel
theorem d_Nine_rows_32 : decode prog_1_method_21_code 32 = .ok (.aload_n 0, 1) := by decide +kernel
theorem d_Nine_rows_33 : decode prog_1_method_21_code 33 = .ok (.getfield 24, 3) := by decide +kernel
theorem d_Nine_rows_36 : decode prog_1_method_21_code 36 = .ok (.invokevirtual 160, 3) := by decide +kernel
theorem d_Nine_rows_39 : decode prog_1_method_21_code 39 = .ok (.aload_n 0, 1) := by decide +kernel
theorem d_Nine_rows_40 : decode prog_1_method_21_code 40 = .ok (.getfield 41, 3) := by decide +kernel
theorem d_Nine_rows_43 : decode prog_1_method_21_code 43 = .ok (.aload_n 0, 1) := by decide +kernel
theorem d_Nine_rows_44 : decode prog_1_method_21_code 44 = .ok (.getfield 28, 3) := by decide +kernel
theorem d_Nine_rows_47 : decode prog_1_method_21_code 47 = .ok (.iload_n 1, 1) := by decide +kernel
theorem d_Nine_rows_48 : decode prog_1_method_21_code 48 = .ok (.invokestatic 243, 3) := by decide +kernel
theorem kw_Nine_243 : KN "NineBoards" 243 ⟨"NineBoards$Days", "countRows", "(LNineBoards$Lake;LNineBoards$State;I)I"⟩ prog_3_method_14_code 6 (some .int) 3 := ⟨(mt_1 (List.mem_of_getElem? (i := 18) rfl) rfl), (mt_4 (List.mem_of_getElem? (i := 159) rfl) rfl), by decide +kernel⟩
theorem d_Nine_rows_51 : decode prog_1_method_21_code 51 = .ok (.ireturn, 1) := by decide +kernel
set_option maxHeartbeats 4000000 in
set_option maxRecDepth 100000 in
theorem c_N_rows (l : Launch) (D : va_G) (y : Nat → ClassId) (x : Nat) (tp : Nat) (pi : Nat) (nw : Nat) (tr : Nat) (ps : Nat) (k : Nat) (k2 : Nat) (rd : Nat) (pl : Nat) (g : Nat) (vn : Nat) (vg : Nat) (t : Nat) (r : Nat) (dt : Int32) (m0 : Nat) (m1 : Nat) (m2 : Nat) (m3 : Nat) (m4 : Nat) (m5 : Nat) (m6 : Nat) (n0 : Nat) (n1 : Nat) (n2 : Nat) (n3 : Nat) (n4 : Nat) (n5 : Nat) (n6 : Nat) (n : Int32)  : CT l D y ⟨"NineBoards", "rows", "(I)I"⟩ prog_1_method_21_code 2 (some .int) ({ frames := 14, cells := 0, slots := 0, locals := 347 } : Room) [.ref x, .int n] [(x, .inr (9, [.ref tp, .ref pi, .ref nw, .ref tr, .ref ps, .ref k, .ref k2, .ref rd, .ref pl, .int 1])), (k, .inr (2, [.int 0, .int 1, .int 1, .int 0, .ref g, .int 0, .ref vn, .ref vg, .ref t, .ref r, .int 0, .int 0, .int 9999, .int 0])), (tr, .inr (7, [.int dt, .int 0, .int 0, .ref m0, .ref m1, .ref m2, .ref m3, .ref m4, .ref m5, .ref m6])), (m0, .inl (y 0, 9, .inl (fun _ => 0))), (m1, .inl (y 0, 9, .inl (fun _ => 0))), (m2, .inl (y 1, 9, .inr (.inl (fun _ => 0)))), (m3, .inl (y 0, 6, .inl (fun _ => 0))), (m4, .inl (y 0, 6, .inl (fun _ => 0))), (m5, .inl (y 0, 16, .inl (fun _ => 0))), (m6, .inl (y 1, 5, .inr (.inl (fun _ => 0)))), (nw, .inr (7, [.int 0, .int 0, .int 0, .ref n0, .ref n1, .ref n2, .ref n3, .ref n4, .ref n5, .ref n6])), (n0, .inl (y 0, 9, .inl (fun _ => 0))), (n1, .inl (y 0, 9, .inl (fun _ => 0))), (n2, .inl (y 1, 9, .inr (.inl (fun _ => 0)))), (n3, .inl (y 0, 6, .inl (fun _ => 0))), (n4, .inl (y 0, 6, .inl (fun _ => 0))), (n5, .inl (y 0, 16, .inl (fun _ => 0))), (n6, .inl (y 1, 5, .inr (.inl (fun _ => 0))))] (QI D [(x, .inr (9, [.ref tp, .ref pi, .ref nw, .ref tr, .ref ps, .ref k, .ref k2, .ref rd, .ref pl, .int 1])), (k, .inr (2, [.int 0, .int 1, .int 1, .int 0, .ref g, .int 0, .ref vn, .ref vg, .ref t, .ref r, .int 0, .int 0, .int 9999, .int 0])), (tr, .inr (7, [.int dt, .int 0, .int 0, .ref m0, .ref m1, .ref m2, .ref m3, .ref m4, .ref m5, .ref m6])), (m0, .inl (y 0, 9, .inl (fun _ => 0))), (m1, .inl (y 0, 9, .inl (fun _ => 0))), (m2, .inl (y 1, 9, .inr (.inl (fun _ => 0)))), (m3, .inl (y 0, 6, .inl (fun _ => 0))), (m4, .inl (y 0, 6, .inl (fun _ => 0))), (m5, .inl (y 0, 16, .inl (fun _ => 0))), (m6, .inl (y 1, 5, .inr (.inl (fun _ => 0)))), (nw, .inr (7, [.int 0, .int 0, .int 0, .ref n0, .ref n1, .ref n2, .ref n3, .ref n4, .ref n5, .ref n6])), (n0, .inl (y 0, 9, .inl (fun _ => 0))), (n1, .inl (y 0, 9, .inl (fun _ => 0))), (n2, .inl (y 1, 9, .inr (.inl (fun _ => 0)))), (n3, .inl (y 0, 6, .inl (fun _ => 0))), (n4, .inl (y 0, 6, .inl (fun _ => 0))), (n5, .inl (y 0, 16, .inl (fun _ => 0))), (n6, .inl (y 1, 5, .inr (.inl (fun _ => 0))))] (fun (r : Int32) (_ : Unit) => r = if 1 ≤ n.toInt ∧ n.toInt ≤ 12 then 1 else -1) (fun _ => [])) := by
  refine CT.of (by decide) (nb rfl) ?_
  intro p e s m args below meth c C hr
  refine j_lv (lv' := [(0, .ref x), (1, .int n)]) rfl ?_
  refine j_iload_n (pc := 0) C d_Nine_rows_0 rfl 1 rfl ?_
  refine j_iconst (pc := 1) C (v := 1) d_Nine_rows_1 (by decide) ?_
  refine j_icmp_lt (pc := 2) C (tgt := 26) d_Nine_rows_2 (by decide) (fun c1 => ?_) (fun c1 => ?_)
  · refine j_iconst (pc := 26) C (v := (-1)) d_Nine_rows_26 (by decide) ?_
    exact j_iret (pc := 27) C hr rfl () (by simp only [Int32.lt_iff_toInt_lt, Int32.le_iff_toInt_le, ← Int32.toInt_inj, (by decide : Int32.toInt 1 = 1)] at c1; (first | rw [if_pos (by omega)] | rw [if_neg (by omega)])) [] rfl (by decide) (by decide) (by decide) d_Nine_rows_27
  · refine j_iload_n (pc := 5) C d_Nine_rows_5 rfl 1 rfl ?_
    refine j_bipush (pc := 6) C (v := 12) d_Nine_rows_6 (by decide) ?_
    refine j_icmp_gt (pc := 8) C (tgt := 26) d_Nine_rows_8 (by decide) (fun c2 => ?_) (fun c2 => ?_)
    · refine j_iconst (pc := 26) C (v := (-1)) d_Nine_rows_26 (by decide) ?_
      exact j_iret (pc := 27) C hr rfl () (by simp only [Int32.lt_iff_toInt_lt, Int32.le_iff_toInt_le, ← Int32.toInt_inj, (by decide : Int32.toInt 1 = 1), (by decide : Int32.toInt 12 = 12)] at c1 c2; (first | rw [if_pos (by omega)] | rw [if_neg (by omega)])) [] rfl (by decide) (by decide) (by decide) d_Nine_rows_27
    · by_cases e3_0 : n = 1
      · subst e3_0
        refine j_aload_n (pc := 11) C d_Nine_rows_11 rfl 0 rfl ?_
        refine j_get (pc := 12) C gf_Nine_24 0 rfl rfl d_Nine_rows_12 ?_
        refine j_get (pc := 15) C gf_Nine_124 10 rfl rfl d_Nine_rows_15 ?_
        refine j_iload_n (pc := 18) C d_Nine_rows_18 rfl 1 rfl ?_
        refine j_iadd (pc := 19) C (v := 1) d_Nine_rows_19 (by decide) ?_
        refine j_sipush (pc := 20) C (v := 999) d_Nine_rows_20 (by decide) ?_
        refine j_icmp_leT (pc := 23) C (tgt := 28) d_Nine_rows_23 (by decide) (by decide) ?_
        refine j_aload_n (pc := 28) C d_Nine_rows_28 rfl 0 rfl ?_
        refine j_get (pc := 29) C gf_Nine_28 0 rfl rfl d_Nine_rows_29 ?_
        refine j_aload_n (pc := 32) C d_Nine_rows_32 rfl 0 rfl ?_
        refine j_get (pc := 33) C gf_Nine_24 0 rfl rfl d_Nine_rows_33 ?_
        refine j_callVv (pc := 36) C (c_take l D y tr m0 m1 m2 m3 m4 m5 m6 dt nw n0 n1 n2 n3 n4 n5 n6 0) kw_Nine_160 kv_State_take 0 7 rfl rfl ⟨by decide, by decide⟩ ⟨by decide, by decide⟩ (wr := [(x, .inr (9, [.ref tp, .ref pi, .ref nw, .ref tr, .ref ps, .ref k, .ref k2, .ref rd, .ref pl, .int 1])), (k, .inr (2, [.int 0, .int 1, .int 1, .int 0, .ref g, .int 0, .ref vn, .ref vg, .ref t, .ref r, .int 0, .int 0, .int 9999, .int 0]))]) [2, 3, 4, 5, 6, 7, 8, 9, 10, 11, 12, 13, 14, 15, 16, 17] [0, 1] rfl rfl (by decide) (by decide) (by decide) (As := [.ref nw]) (rest := []) rfl (nb rfl) rfl d_Nine_rows_36 (fun _ _ => ?_)
        refine j_ws (ws' := [(x, .inr (9, [.ref tp, .ref pi, .ref nw, .ref tr, .ref ps, .ref k, .ref k2, .ref rd, .ref pl, .int 1])), (k, .inr (2, [.int 0, .int 1, .int 1, .int 0, .ref g, .int 0, .ref vn, .ref vg, .ref t, .ref r, .int 0, .int 0, .int 9999, .int 0])), (tr, .inr (7, [.int 0, .int 0, .int 0, .ref m0, .ref m1, .ref m2, .ref m3, .ref m4, .ref m5, .ref m6])), (m0, .inl (y 0, 9, .inl (fun _ => 0))), (m1, .inl (y 0, 9, .inl (fun _ => 0))), (m2, .inl (y 1, 9, .inr (.inl (fun _ => 0)))), (m3, .inl (y 0, 6, .inl (fun _ => 0))), (m4, .inl (y 0, 6, .inl (fun _ => 0))), (m5, .inl (y 0, 16, .inl (fun _ => 0))), (m6, .inl (y 1, 5, .inr (.inl (fun _ => 0)))), (nw, .inr (7, [.int 0, .int 0, .int 0, .ref n0, .ref n1, .ref n2, .ref n3, .ref n4, .ref n5, .ref n6])), (n0, .inl (y 0, 9, .inl (fun _ => 0))), (n1, .inl (y 0, 9, .inl (fun _ => 0))), (n2, .inl (y 1, 9, .inr (.inl (fun _ => 0)))), (n3, .inl (y 0, 6, .inl (fun _ => 0))), (n4, .inl (y 0, 6, .inl (fun _ => 0))), (n5, .inl (y 0, 16, .inl (fun _ => 0))), (n6, .inl (y 1, 5, .inr (.inl (fun _ => 0))))]) rfl ?_
        refine j_aload_n (pc := 39) C d_Nine_rows_39 rfl 0 rfl ?_
        refine j_get (pc := 40) C gf_Nine_41 0 rfl rfl d_Nine_rows_40 ?_
        refine j_aload_n (pc := 43) C d_Nine_rows_43 rfl 0 rfl ?_
        refine j_get (pc := 44) C gf_Nine_28 0 rfl rfl d_Nine_rows_44 ?_
        refine j_iload_n (pc := 47) C d_Nine_rows_47 rfl 1 rfl ?_
        refine j_callSNi (pc := 48) C (c_countRows_1 l D y k tr g vn vg t r 0 m0 m1 m2 m3 m4 m5 m6) kw_Nine_243 ks_Days_countRows C.N.2.2.2.2.2.2.2 ⟨by decide, by decide⟩ ⟨by decide, by decide⟩ (wr := [(x, .inr (9, [.ref tp, .ref pi, .ref nw, .ref tr, .ref ps, .ref k, .ref k2, .ref rd, .ref pl, .int 1])), (m0, .inl (y 0, 9, .inl (fun _ => 0))), (m1, .inl (y 0, 9, .inl (fun _ => 0))), (m2, .inl (y 1, 9, .inr (.inl (fun _ => 0)))), (m3, .inl (y 0, 6, .inl (fun _ => 0))), (m4, .inl (y 0, 6, .inl (fun _ => 0))), (m5, .inl (y 0, 16, .inl (fun _ => 0))), (m6, .inl (y 1, 5, .inr (.inl (fun _ => 0)))), (nw, .inr (7, [.int 0, .int 0, .int 0, .ref n0, .ref n1, .ref n2, .ref n3, .ref n4, .ref n5, .ref n6])), (n0, .inl (y 0, 9, .inl (fun _ => 0))), (n1, .inl (y 0, 9, .inl (fun _ => 0))), (n2, .inl (y 1, 9, .inr (.inl (fun _ => 0)))), (n3, .inl (y 0, 6, .inl (fun _ => 0))), (n4, .inl (y 0, 6, .inl (fun _ => 0))), (n5, .inl (y 0, 16, .inl (fun _ => 0))), (n6, .inl (y 1, 5, .inr (.inl (fun _ => 0))))]) [1, 2] [0, 3, 4, 5, 6, 7, 8, 9, 10, 11, 12, 13, 14, 15, 16, 17] rfl rfl (by decide) (by decide) (by decide) (As := [.ref k, .ref tr, .int 1]) (rest := []) rfl (nb rfl) rfl d_Nine_rows_48 (fun r4 _ hr4 => ?_)
        subst hr4
        refine j_ws (ws' := [(x, .inr (9, [.ref tp, .ref pi, .ref nw, .ref tr, .ref ps, .ref k, .ref k2, .ref rd, .ref pl, .int 1])), (m0, .inl (y 0, 9, .inl (fun _ => 0))), (m1, .inl (y 0, 9, .inl (fun _ => 0))), (m2, .inl (y 1, 9, .inr (.inl (fun _ => 0)))), (m3, .inl (y 0, 6, .inl (fun _ => 0))), (m4, .inl (y 0, 6, .inl (fun _ => 0))), (m5, .inl (y 0, 16, .inl (fun _ => 0))), (m6, .inl (y 1, 5, .inr (.inl (fun _ => 0)))), (nw, .inr (7, [.int 0, .int 0, .int 0, .ref n0, .ref n1, .ref n2, .ref n3, .ref n4, .ref n5, .ref n6])), (n0, .inl (y 0, 9, .inl (fun _ => 0))), (n1, .inl (y 0, 9, .inl (fun _ => 0))), (n2, .inl (y 1, 9, .inr (.inl (fun _ => 0)))), (n3, .inl (y 0, 6, .inl (fun _ => 0))), (n4, .inl (y 0, 6, .inl (fun _ => 0))), (n5, .inl (y 0, 16, .inl (fun _ => 0))), (n6, .inl (y 1, 5, .inr (.inl (fun _ => 0)))), (k, .inr (2, [.int 0, .int 1, .int 1, .int 0, .ref g, .int 0, .ref vn, .ref vg, .ref t, .ref r, .int 0, .int 0, .int 9999, .int 0])), (tr, .inr (7, [.int 0, .int 0, .int 0, .ref m0, .ref m1, .ref m2, .ref m3, .ref m4, .ref m5, .ref m6]))]) rfl ?_
        refine j_st (st' := [.int 1]) rfl ?_
        exact j_iret (pc := 51) C hr rfl () (by decide) [] rfl (by decide) (by decide) (by decide) d_Nine_rows_51
      · by_cases e3_1 : n = 2
        · subst e3_1
          refine j_aload_n (pc := 11) C d_Nine_rows_11 rfl 0 rfl ?_
          refine j_get (pc := 12) C gf_Nine_24 0 rfl rfl d_Nine_rows_12 ?_
          refine j_get (pc := 15) C gf_Nine_124 10 rfl rfl d_Nine_rows_15 ?_
          refine j_iload_n (pc := 18) C d_Nine_rows_18 rfl 1 rfl ?_
          refine j_iadd (pc := 19) C (v := 2) d_Nine_rows_19 (by decide) ?_
          refine j_sipush (pc := 20) C (v := 999) d_Nine_rows_20 (by decide) ?_
          refine j_icmp_leT (pc := 23) C (tgt := 28) d_Nine_rows_23 (by decide) (by decide) ?_
          refine j_aload_n (pc := 28) C d_Nine_rows_28 rfl 0 rfl ?_
          refine j_get (pc := 29) C gf_Nine_28 0 rfl rfl d_Nine_rows_29 ?_
          refine j_aload_n (pc := 32) C d_Nine_rows_32 rfl 0 rfl ?_
          refine j_get (pc := 33) C gf_Nine_24 0 rfl rfl d_Nine_rows_33 ?_
          refine j_callVv (pc := 36) C (c_take l D y tr m0 m1 m2 m3 m4 m5 m6 dt nw n0 n1 n2 n3 n4 n5 n6 0) kw_Nine_160 kv_State_take 0 7 rfl rfl ⟨by decide, by decide⟩ ⟨by decide, by decide⟩ (wr := [(x, .inr (9, [.ref tp, .ref pi, .ref nw, .ref tr, .ref ps, .ref k, .ref k2, .ref rd, .ref pl, .int 1])), (k, .inr (2, [.int 0, .int 1, .int 1, .int 0, .ref g, .int 0, .ref vn, .ref vg, .ref t, .ref r, .int 0, .int 0, .int 9999, .int 0]))]) [2, 3, 4, 5, 6, 7, 8, 9, 10, 11, 12, 13, 14, 15, 16, 17] [0, 1] rfl rfl (by decide) (by decide) (by decide) (As := [.ref nw]) (rest := []) rfl (nb rfl) rfl d_Nine_rows_36 (fun _ _ => ?_)
          refine j_ws (ws' := [(x, .inr (9, [.ref tp, .ref pi, .ref nw, .ref tr, .ref ps, .ref k, .ref k2, .ref rd, .ref pl, .int 1])), (k, .inr (2, [.int 0, .int 1, .int 1, .int 0, .ref g, .int 0, .ref vn, .ref vg, .ref t, .ref r, .int 0, .int 0, .int 9999, .int 0])), (tr, .inr (7, [.int 0, .int 0, .int 0, .ref m0, .ref m1, .ref m2, .ref m3, .ref m4, .ref m5, .ref m6])), (m0, .inl (y 0, 9, .inl (fun _ => 0))), (m1, .inl (y 0, 9, .inl (fun _ => 0))), (m2, .inl (y 1, 9, .inr (.inl (fun _ => 0)))), (m3, .inl (y 0, 6, .inl (fun _ => 0))), (m4, .inl (y 0, 6, .inl (fun _ => 0))), (m5, .inl (y 0, 16, .inl (fun _ => 0))), (m6, .inl (y 1, 5, .inr (.inl (fun _ => 0)))), (nw, .inr (7, [.int 0, .int 0, .int 0, .ref n0, .ref n1, .ref n2, .ref n3, .ref n4, .ref n5, .ref n6])), (n0, .inl (y 0, 9, .inl (fun _ => 0))), (n1, .inl (y 0, 9, .inl (fun _ => 0))), (n2, .inl (y 1, 9, .inr (.inl (fun _ => 0)))), (n3, .inl (y 0, 6, .inl (fun _ => 0))), (n4, .inl (y 0, 6, .inl (fun _ => 0))), (n5, .inl (y 0, 16, .inl (fun _ => 0))), (n6, .inl (y 1, 5, .inr (.inl (fun _ => 0))))]) rfl ?_
          refine j_aload_n (pc := 39) C d_Nine_rows_39 rfl 0 rfl ?_
          refine j_get (pc := 40) C gf_Nine_41 0 rfl rfl d_Nine_rows_40 ?_
          refine j_aload_n (pc := 43) C d_Nine_rows_43 rfl 0 rfl ?_
          refine j_get (pc := 44) C gf_Nine_28 0 rfl rfl d_Nine_rows_44 ?_
          refine j_iload_n (pc := 47) C d_Nine_rows_47 rfl 1 rfl ?_
          refine j_callSNi (pc := 48) C (c_countRows_2 l D y k tr g vn vg t r 0 m0 m1 m2 m3 m4 m5 m6) kw_Nine_243 ks_Days_countRows C.N.2.2.2.2.2.2.2 ⟨by decide, by decide⟩ ⟨by decide, by decide⟩ (wr := [(x, .inr (9, [.ref tp, .ref pi, .ref nw, .ref tr, .ref ps, .ref k, .ref k2, .ref rd, .ref pl, .int 1])), (m0, .inl (y 0, 9, .inl (fun _ => 0))), (m1, .inl (y 0, 9, .inl (fun _ => 0))), (m2, .inl (y 1, 9, .inr (.inl (fun _ => 0)))), (m3, .inl (y 0, 6, .inl (fun _ => 0))), (m4, .inl (y 0, 6, .inl (fun _ => 0))), (m5, .inl (y 0, 16, .inl (fun _ => 0))), (m6, .inl (y 1, 5, .inr (.inl (fun _ => 0)))), (nw, .inr (7, [.int 0, .int 0, .int 0, .ref n0, .ref n1, .ref n2, .ref n3, .ref n4, .ref n5, .ref n6])), (n0, .inl (y 0, 9, .inl (fun _ => 0))), (n1, .inl (y 0, 9, .inl (fun _ => 0))), (n2, .inl (y 1, 9, .inr (.inl (fun _ => 0)))), (n3, .inl (y 0, 6, .inl (fun _ => 0))), (n4, .inl (y 0, 6, .inl (fun _ => 0))), (n5, .inl (y 0, 16, .inl (fun _ => 0))), (n6, .inl (y 1, 5, .inr (.inl (fun _ => 0))))]) [1, 2] [0, 3, 4, 5, 6, 7, 8, 9, 10, 11, 12, 13, 14, 15, 16, 17] rfl rfl (by decide) (by decide) (by decide) (As := [.ref k, .ref tr, .int 2]) (rest := []) rfl (nb rfl) rfl d_Nine_rows_48 (fun r5 _ hr5 => ?_)
          subst hr5
          refine j_ws (ws' := [(x, .inr (9, [.ref tp, .ref pi, .ref nw, .ref tr, .ref ps, .ref k, .ref k2, .ref rd, .ref pl, .int 1])), (m0, .inl (y 0, 9, .inl (fun _ => 0))), (m1, .inl (y 0, 9, .inl (fun _ => 0))), (m2, .inl (y 1, 9, .inr (.inl (fun _ => 0)))), (m3, .inl (y 0, 6, .inl (fun _ => 0))), (m4, .inl (y 0, 6, .inl (fun _ => 0))), (m5, .inl (y 0, 16, .inl (fun _ => 0))), (m6, .inl (y 1, 5, .inr (.inl (fun _ => 0)))), (nw, .inr (7, [.int 0, .int 0, .int 0, .ref n0, .ref n1, .ref n2, .ref n3, .ref n4, .ref n5, .ref n6])), (n0, .inl (y 0, 9, .inl (fun _ => 0))), (n1, .inl (y 0, 9, .inl (fun _ => 0))), (n2, .inl (y 1, 9, .inr (.inl (fun _ => 0)))), (n3, .inl (y 0, 6, .inl (fun _ => 0))), (n4, .inl (y 0, 6, .inl (fun _ => 0))), (n5, .inl (y 0, 16, .inl (fun _ => 0))), (n6, .inl (y 1, 5, .inr (.inl (fun _ => 0)))), (k, .inr (2, [.int 0, .int 1, .int 1, .int 0, .ref g, .int 0, .ref vn, .ref vg, .ref t, .ref r, .int 0, .int 0, .int 9999, .int 0])), (tr, .inr (7, [.int 0, .int 0, .int 0, .ref m0, .ref m1, .ref m2, .ref m3, .ref m4, .ref m5, .ref m6]))]) rfl ?_
          refine j_st (st' := [.int 1]) rfl ?_
          exact j_iret (pc := 51) C hr rfl () (by decide) [] rfl (by decide) (by decide) (by decide) d_Nine_rows_51
        · by_cases e3_2 : n = 3
          · subst e3_2
            refine j_aload_n (pc := 11) C d_Nine_rows_11 rfl 0 rfl ?_
            refine j_get (pc := 12) C gf_Nine_24 0 rfl rfl d_Nine_rows_12 ?_
            refine j_get (pc := 15) C gf_Nine_124 10 rfl rfl d_Nine_rows_15 ?_
            refine j_iload_n (pc := 18) C d_Nine_rows_18 rfl 1 rfl ?_
            refine j_iadd (pc := 19) C (v := 3) d_Nine_rows_19 (by decide) ?_
            refine j_sipush (pc := 20) C (v := 999) d_Nine_rows_20 (by decide) ?_
            refine j_icmp_leT (pc := 23) C (tgt := 28) d_Nine_rows_23 (by decide) (by decide) ?_
            refine j_aload_n (pc := 28) C d_Nine_rows_28 rfl 0 rfl ?_
            refine j_get (pc := 29) C gf_Nine_28 0 rfl rfl d_Nine_rows_29 ?_
            refine j_aload_n (pc := 32) C d_Nine_rows_32 rfl 0 rfl ?_
            refine j_get (pc := 33) C gf_Nine_24 0 rfl rfl d_Nine_rows_33 ?_
            refine j_callVv (pc := 36) C (c_take l D y tr m0 m1 m2 m3 m4 m5 m6 dt nw n0 n1 n2 n3 n4 n5 n6 0) kw_Nine_160 kv_State_take 0 7 rfl rfl ⟨by decide, by decide⟩ ⟨by decide, by decide⟩ (wr := [(x, .inr (9, [.ref tp, .ref pi, .ref nw, .ref tr, .ref ps, .ref k, .ref k2, .ref rd, .ref pl, .int 1])), (k, .inr (2, [.int 0, .int 1, .int 1, .int 0, .ref g, .int 0, .ref vn, .ref vg, .ref t, .ref r, .int 0, .int 0, .int 9999, .int 0]))]) [2, 3, 4, 5, 6, 7, 8, 9, 10, 11, 12, 13, 14, 15, 16, 17] [0, 1] rfl rfl (by decide) (by decide) (by decide) (As := [.ref nw]) (rest := []) rfl (nb rfl) rfl d_Nine_rows_36 (fun _ _ => ?_)
            refine j_ws (ws' := [(x, .inr (9, [.ref tp, .ref pi, .ref nw, .ref tr, .ref ps, .ref k, .ref k2, .ref rd, .ref pl, .int 1])), (k, .inr (2, [.int 0, .int 1, .int 1, .int 0, .ref g, .int 0, .ref vn, .ref vg, .ref t, .ref r, .int 0, .int 0, .int 9999, .int 0])), (tr, .inr (7, [.int 0, .int 0, .int 0, .ref m0, .ref m1, .ref m2, .ref m3, .ref m4, .ref m5, .ref m6])), (m0, .inl (y 0, 9, .inl (fun _ => 0))), (m1, .inl (y 0, 9, .inl (fun _ => 0))), (m2, .inl (y 1, 9, .inr (.inl (fun _ => 0)))), (m3, .inl (y 0, 6, .inl (fun _ => 0))), (m4, .inl (y 0, 6, .inl (fun _ => 0))), (m5, .inl (y 0, 16, .inl (fun _ => 0))), (m6, .inl (y 1, 5, .inr (.inl (fun _ => 0)))), (nw, .inr (7, [.int 0, .int 0, .int 0, .ref n0, .ref n1, .ref n2, .ref n3, .ref n4, .ref n5, .ref n6])), (n0, .inl (y 0, 9, .inl (fun _ => 0))), (n1, .inl (y 0, 9, .inl (fun _ => 0))), (n2, .inl (y 1, 9, .inr (.inl (fun _ => 0)))), (n3, .inl (y 0, 6, .inl (fun _ => 0))), (n4, .inl (y 0, 6, .inl (fun _ => 0))), (n5, .inl (y 0, 16, .inl (fun _ => 0))), (n6, .inl (y 1, 5, .inr (.inl (fun _ => 0))))]) rfl ?_
            refine j_aload_n (pc := 39) C d_Nine_rows_39 rfl 0 rfl ?_
            refine j_get (pc := 40) C gf_Nine_41 0 rfl rfl d_Nine_rows_40 ?_
            refine j_aload_n (pc := 43) C d_Nine_rows_43 rfl 0 rfl ?_
            refine j_get (pc := 44) C gf_Nine_28 0 rfl rfl d_Nine_rows_44 ?_
            refine j_iload_n (pc := 47) C d_Nine_rows_47 rfl 1 rfl ?_
            refine j_callSNi (pc := 48) C (c_countRows_3 l D y k tr g vn vg t r 0 m0 m1 m2 m3 m4 m5 m6) kw_Nine_243 ks_Days_countRows C.N.2.2.2.2.2.2.2 ⟨by decide, by decide⟩ ⟨by decide, by decide⟩ (wr := [(x, .inr (9, [.ref tp, .ref pi, .ref nw, .ref tr, .ref ps, .ref k, .ref k2, .ref rd, .ref pl, .int 1])), (m0, .inl (y 0, 9, .inl (fun _ => 0))), (m1, .inl (y 0, 9, .inl (fun _ => 0))), (m2, .inl (y 1, 9, .inr (.inl (fun _ => 0)))), (m3, .inl (y 0, 6, .inl (fun _ => 0))), (m4, .inl (y 0, 6, .inl (fun _ => 0))), (m5, .inl (y 0, 16, .inl (fun _ => 0))), (m6, .inl (y 1, 5, .inr (.inl (fun _ => 0)))), (nw, .inr (7, [.int 0, .int 0, .int 0, .ref n0, .ref n1, .ref n2, .ref n3, .ref n4, .ref n5, .ref n6])), (n0, .inl (y 0, 9, .inl (fun _ => 0))), (n1, .inl (y 0, 9, .inl (fun _ => 0))), (n2, .inl (y 1, 9, .inr (.inl (fun _ => 0)))), (n3, .inl (y 0, 6, .inl (fun _ => 0))), (n4, .inl (y 0, 6, .inl (fun _ => 0))), (n5, .inl (y 0, 16, .inl (fun _ => 0))), (n6, .inl (y 1, 5, .inr (.inl (fun _ => 0))))]) [1, 2] [0, 3, 4, 5, 6, 7, 8, 9, 10, 11, 12, 13, 14, 15, 16, 17] rfl rfl (by decide) (by decide) (by decide) (As := [.ref k, .ref tr, .int 3]) (rest := []) rfl (nb rfl) rfl d_Nine_rows_48 (fun r6 _ hr6 => ?_)
            subst hr6
            refine j_ws (ws' := [(x, .inr (9, [.ref tp, .ref pi, .ref nw, .ref tr, .ref ps, .ref k, .ref k2, .ref rd, .ref pl, .int 1])), (m0, .inl (y 0, 9, .inl (fun _ => 0))), (m1, .inl (y 0, 9, .inl (fun _ => 0))), (m2, .inl (y 1, 9, .inr (.inl (fun _ => 0)))), (m3, .inl (y 0, 6, .inl (fun _ => 0))), (m4, .inl (y 0, 6, .inl (fun _ => 0))), (m5, .inl (y 0, 16, .inl (fun _ => 0))), (m6, .inl (y 1, 5, .inr (.inl (fun _ => 0)))), (nw, .inr (7, [.int 0, .int 0, .int 0, .ref n0, .ref n1, .ref n2, .ref n3, .ref n4, .ref n5, .ref n6])), (n0, .inl (y 0, 9, .inl (fun _ => 0))), (n1, .inl (y 0, 9, .inl (fun _ => 0))), (n2, .inl (y 1, 9, .inr (.inl (fun _ => 0)))), (n3, .inl (y 0, 6, .inl (fun _ => 0))), (n4, .inl (y 0, 6, .inl (fun _ => 0))), (n5, .inl (y 0, 16, .inl (fun _ => 0))), (n6, .inl (y 1, 5, .inr (.inl (fun _ => 0)))), (k, .inr (2, [.int 0, .int 1, .int 1, .int 0, .ref g, .int 0, .ref vn, .ref vg, .ref t, .ref r, .int 0, .int 0, .int 9999, .int 0])), (tr, .inr (7, [.int 0, .int 0, .int 0, .ref m0, .ref m1, .ref m2, .ref m3, .ref m4, .ref m5, .ref m6]))]) rfl ?_
            refine j_st (st' := [.int 1]) rfl ?_
            exact j_iret (pc := 51) C hr rfl () (by decide) [] rfl (by decide) (by decide) (by decide) d_Nine_rows_51
          · by_cases e3_3 : n = 4
            · subst e3_3
              refine j_aload_n (pc := 11) C d_Nine_rows_11 rfl 0 rfl ?_
              refine j_get (pc := 12) C gf_Nine_24 0 rfl rfl d_Nine_rows_12 ?_
              refine j_get (pc := 15) C gf_Nine_124 10 rfl rfl d_Nine_rows_15 ?_
              refine j_iload_n (pc := 18) C d_Nine_rows_18 rfl 1 rfl ?_
              refine j_iadd (pc := 19) C (v := 4) d_Nine_rows_19 (by decide) ?_
              refine j_sipush (pc := 20) C (v := 999) d_Nine_rows_20 (by decide) ?_
              refine j_icmp_leT (pc := 23) C (tgt := 28) d_Nine_rows_23 (by decide) (by decide) ?_
              refine j_aload_n (pc := 28) C d_Nine_rows_28 rfl 0 rfl ?_
              refine j_get (pc := 29) C gf_Nine_28 0 rfl rfl d_Nine_rows_29 ?_
              refine j_aload_n (pc := 32) C d_Nine_rows_32 rfl 0 rfl ?_
              refine j_get (pc := 33) C gf_Nine_24 0 rfl rfl d_Nine_rows_33 ?_
              refine j_callVv (pc := 36) C (c_take l D y tr m0 m1 m2 m3 m4 m5 m6 dt nw n0 n1 n2 n3 n4 n5 n6 0) kw_Nine_160 kv_State_take 0 7 rfl rfl ⟨by decide, by decide⟩ ⟨by decide, by decide⟩ (wr := [(x, .inr (9, [.ref tp, .ref pi, .ref nw, .ref tr, .ref ps, .ref k, .ref k2, .ref rd, .ref pl, .int 1])), (k, .inr (2, [.int 0, .int 1, .int 1, .int 0, .ref g, .int 0, .ref vn, .ref vg, .ref t, .ref r, .int 0, .int 0, .int 9999, .int 0]))]) [2, 3, 4, 5, 6, 7, 8, 9, 10, 11, 12, 13, 14, 15, 16, 17] [0, 1] rfl rfl (by decide) (by decide) (by decide) (As := [.ref nw]) (rest := []) rfl (nb rfl) rfl d_Nine_rows_36 (fun _ _ => ?_)
              refine j_ws (ws' := [(x, .inr (9, [.ref tp, .ref pi, .ref nw, .ref tr, .ref ps, .ref k, .ref k2, .ref rd, .ref pl, .int 1])), (k, .inr (2, [.int 0, .int 1, .int 1, .int 0, .ref g, .int 0, .ref vn, .ref vg, .ref t, .ref r, .int 0, .int 0, .int 9999, .int 0])), (tr, .inr (7, [.int 0, .int 0, .int 0, .ref m0, .ref m1, .ref m2, .ref m3, .ref m4, .ref m5, .ref m6])), (m0, .inl (y 0, 9, .inl (fun _ => 0))), (m1, .inl (y 0, 9, .inl (fun _ => 0))), (m2, .inl (y 1, 9, .inr (.inl (fun _ => 0)))), (m3, .inl (y 0, 6, .inl (fun _ => 0))), (m4, .inl (y 0, 6, .inl (fun _ => 0))), (m5, .inl (y 0, 16, .inl (fun _ => 0))), (m6, .inl (y 1, 5, .inr (.inl (fun _ => 0)))), (nw, .inr (7, [.int 0, .int 0, .int 0, .ref n0, .ref n1, .ref n2, .ref n3, .ref n4, .ref n5, .ref n6])), (n0, .inl (y 0, 9, .inl (fun _ => 0))), (n1, .inl (y 0, 9, .inl (fun _ => 0))), (n2, .inl (y 1, 9, .inr (.inl (fun _ => 0)))), (n3, .inl (y 0, 6, .inl (fun _ => 0))), (n4, .inl (y 0, 6, .inl (fun _ => 0))), (n5, .inl (y 0, 16, .inl (fun _ => 0))), (n6, .inl (y 1, 5, .inr (.inl (fun _ => 0))))]) rfl ?_
              refine j_aload_n (pc := 39) C d_Nine_rows_39 rfl 0 rfl ?_
              refine j_get (pc := 40) C gf_Nine_41 0 rfl rfl d_Nine_rows_40 ?_
              refine j_aload_n (pc := 43) C d_Nine_rows_43 rfl 0 rfl ?_
              refine j_get (pc := 44) C gf_Nine_28 0 rfl rfl d_Nine_rows_44 ?_
              refine j_iload_n (pc := 47) C d_Nine_rows_47 rfl 1 rfl ?_
              refine j_callSNi (pc := 48) C (c_countRows_4 l D y k tr g vn vg t r 0 m0 m1 m2 m3 m4 m5 m6) kw_Nine_243 ks_Days_countRows C.N.2.2.2.2.2.2.2 ⟨by decide, by decide⟩ ⟨by decide, by decide⟩ (wr := [(x, .inr (9, [.ref tp, .ref pi, .ref nw, .ref tr, .ref ps, .ref k, .ref k2, .ref rd, .ref pl, .int 1])), (m0, .inl (y 0, 9, .inl (fun _ => 0))), (m1, .inl (y 0, 9, .inl (fun _ => 0))), (m2, .inl (y 1, 9, .inr (.inl (fun _ => 0)))), (m3, .inl (y 0, 6, .inl (fun _ => 0))), (m4, .inl (y 0, 6, .inl (fun _ => 0))), (m5, .inl (y 0, 16, .inl (fun _ => 0))), (m6, .inl (y 1, 5, .inr (.inl (fun _ => 0)))), (nw, .inr (7, [.int 0, .int 0, .int 0, .ref n0, .ref n1, .ref n2, .ref n3, .ref n4, .ref n5, .ref n6])), (n0, .inl (y 0, 9, .inl (fun _ => 0))), (n1, .inl (y 0, 9, .inl (fun _ => 0))), (n2, .inl (y 1, 9, .inr (.inl (fun _ => 0)))), (n3, .inl (y 0, 6, .inl (fun _ => 0))), (n4, .inl (y 0, 6, .inl (fun _ => 0))), (n5, .inl (y 0, 16, .inl (fun _ => 0))), (n6, .inl (y 1, 5, .inr (.inl (fun _ => 0))))]) [1, 2] [0, 3, 4, 5, 6, 7, 8, 9, 10, 11, 12, 13, 14, 15, 16, 17] rfl rfl (by decide) (by decide) (by decide) (As := [.ref k, .ref tr, .int 4]) (rest := []) rfl (nb rfl) rfl d_Nine_rows_48 (fun r7 _ hr7 => ?_)
              subst hr7
              refine j_ws (ws' := [(x, .inr (9, [.ref tp, .ref pi, .ref nw, .ref tr, .ref ps, .ref k, .ref k2, .ref rd, .ref pl, .int 1])), (m0, .inl (y 0, 9, .inl (fun _ => 0))), (m1, .inl (y 0, 9, .inl (fun _ => 0))), (m2, .inl (y 1, 9, .inr (.inl (fun _ => 0)))), (m3, .inl (y 0, 6, .inl (fun _ => 0))), (m4, .inl (y 0, 6, .inl (fun _ => 0))), (m5, .inl (y 0, 16, .inl (fun _ => 0))), (m6, .inl (y 1, 5, .inr (.inl (fun _ => 0)))), (nw, .inr (7, [.int 0, .int 0, .int 0, .ref n0, .ref n1, .ref n2, .ref n3, .ref n4, .ref n5, .ref n6])), (n0, .inl (y 0, 9, .inl (fun _ => 0))), (n1, .inl (y 0, 9, .inl (fun _ => 0))), (n2, .inl (y 1, 9, .inr (.inl (fun _ => 0)))), (n3, .inl (y 0, 6, .inl (fun _ => 0))), (n4, .inl (y 0, 6, .inl (fun _ => 0))), (n5, .inl (y 0, 16, .inl (fun _ => 0))), (n6, .inl (y 1, 5, .inr (.inl (fun _ => 0)))), (k, .inr (2, [.int 0, .int 1, .int 1, .int 0, .ref g, .int 0, .ref vn, .ref vg, .ref t, .ref r, .int 0, .int 0, .int 9999, .int 0])), (tr, .inr (7, [.int 0, .int 0, .int 0, .ref m0, .ref m1, .ref m2, .ref m3, .ref m4, .ref m5, .ref m6]))]) rfl ?_
              refine j_st (st' := [.int 1]) rfl ?_
              exact j_iret (pc := 51) C hr rfl () (by decide) [] rfl (by decide) (by decide) (by decide) d_Nine_rows_51
            · by_cases e3_4 : n = 5
              · subst e3_4
                refine j_aload_n (pc := 11) C d_Nine_rows_11 rfl 0 rfl ?_
                refine j_get (pc := 12) C gf_Nine_24 0 rfl rfl d_Nine_rows_12 ?_
                refine j_get (pc := 15) C gf_Nine_124 10 rfl rfl d_Nine_rows_15 ?_
                refine j_iload_n (pc := 18) C d_Nine_rows_18 rfl 1 rfl ?_
                refine j_iadd (pc := 19) C (v := 5) d_Nine_rows_19 (by decide) ?_
                refine j_sipush (pc := 20) C (v := 999) d_Nine_rows_20 (by decide) ?_
                refine j_icmp_leT (pc := 23) C (tgt := 28) d_Nine_rows_23 (by decide) (by decide) ?_
                refine j_aload_n (pc := 28) C d_Nine_rows_28 rfl 0 rfl ?_
                refine j_get (pc := 29) C gf_Nine_28 0 rfl rfl d_Nine_rows_29 ?_
                refine j_aload_n (pc := 32) C d_Nine_rows_32 rfl 0 rfl ?_
                refine j_get (pc := 33) C gf_Nine_24 0 rfl rfl d_Nine_rows_33 ?_
                refine j_callVv (pc := 36) C (c_take l D y tr m0 m1 m2 m3 m4 m5 m6 dt nw n0 n1 n2 n3 n4 n5 n6 0) kw_Nine_160 kv_State_take 0 7 rfl rfl ⟨by decide, by decide⟩ ⟨by decide, by decide⟩ (wr := [(x, .inr (9, [.ref tp, .ref pi, .ref nw, .ref tr, .ref ps, .ref k, .ref k2, .ref rd, .ref pl, .int 1])), (k, .inr (2, [.int 0, .int 1, .int 1, .int 0, .ref g, .int 0, .ref vn, .ref vg, .ref t, .ref r, .int 0, .int 0, .int 9999, .int 0]))]) [2, 3, 4, 5, 6, 7, 8, 9, 10, 11, 12, 13, 14, 15, 16, 17] [0, 1] rfl rfl (by decide) (by decide) (by decide) (As := [.ref nw]) (rest := []) rfl (nb rfl) rfl d_Nine_rows_36 (fun _ _ => ?_)
                refine j_ws (ws' := [(x, .inr (9, [.ref tp, .ref pi, .ref nw, .ref tr, .ref ps, .ref k, .ref k2, .ref rd, .ref pl, .int 1])), (k, .inr (2, [.int 0, .int 1, .int 1, .int 0, .ref g, .int 0, .ref vn, .ref vg, .ref t, .ref r, .int 0, .int 0, .int 9999, .int 0])), (tr, .inr (7, [.int 0, .int 0, .int 0, .ref m0, .ref m1, .ref m2, .ref m3, .ref m4, .ref m5, .ref m6])), (m0, .inl (y 0, 9, .inl (fun _ => 0))), (m1, .inl (y 0, 9, .inl (fun _ => 0))), (m2, .inl (y 1, 9, .inr (.inl (fun _ => 0)))), (m3, .inl (y 0, 6, .inl (fun _ => 0))), (m4, .inl (y 0, 6, .inl (fun _ => 0))), (m5, .inl (y 0, 16, .inl (fun _ => 0))), (m6, .inl (y 1, 5, .inr (.inl (fun _ => 0)))), (nw, .inr (7, [.int 0, .int 0, .int 0, .ref n0, .ref n1, .ref n2, .ref n3, .ref n4, .ref n5, .ref n6])), (n0, .inl (y 0, 9, .inl (fun _ => 0))), (n1, .inl (y 0, 9, .inl (fun _ => 0))), (n2, .inl (y 1, 9, .inr (.inl (fun _ => 0)))), (n3, .inl (y 0, 6, .inl (fun _ => 0))), (n4, .inl (y 0, 6, .inl (fun _ => 0))), (n5, .inl (y 0, 16, .inl (fun _ => 0))), (n6, .inl (y 1, 5, .inr (.inl (fun _ => 0))))]) rfl ?_
                refine j_aload_n (pc := 39) C d_Nine_rows_39 rfl 0 rfl ?_
                refine j_get (pc := 40) C gf_Nine_41 0 rfl rfl d_Nine_rows_40 ?_
                refine j_aload_n (pc := 43) C d_Nine_rows_43 rfl 0 rfl ?_
                refine j_get (pc := 44) C gf_Nine_28 0 rfl rfl d_Nine_rows_44 ?_
                refine j_iload_n (pc := 47) C d_Nine_rows_47 rfl 1 rfl ?_
                refine j_callSNi (pc := 48) C (c_countRows_5 l D y k tr g vn vg t r 0 m0 m1 m2 m3 m4 m5 m6) kw_Nine_243 ks_Days_countRows C.N.2.2.2.2.2.2.2 ⟨by decide, by decide⟩ ⟨by decide, by decide⟩ (wr := [(x, .inr (9, [.ref tp, .ref pi, .ref nw, .ref tr, .ref ps, .ref k, .ref k2, .ref rd, .ref pl, .int 1])), (m0, .inl (y 0, 9, .inl (fun _ => 0))), (m1, .inl (y 0, 9, .inl (fun _ => 0))), (m2, .inl (y 1, 9, .inr (.inl (fun _ => 0)))), (m3, .inl (y 0, 6, .inl (fun _ => 0))), (m4, .inl (y 0, 6, .inl (fun _ => 0))), (m5, .inl (y 0, 16, .inl (fun _ => 0))), (m6, .inl (y 1, 5, .inr (.inl (fun _ => 0)))), (nw, .inr (7, [.int 0, .int 0, .int 0, .ref n0, .ref n1, .ref n2, .ref n3, .ref n4, .ref n5, .ref n6])), (n0, .inl (y 0, 9, .inl (fun _ => 0))), (n1, .inl (y 0, 9, .inl (fun _ => 0))), (n2, .inl (y 1, 9, .inr (.inl (fun _ => 0)))), (n3, .inl (y 0, 6, .inl (fun _ => 0))), (n4, .inl (y 0, 6, .inl (fun _ => 0))), (n5, .inl (y 0, 16, .inl (fun _ => 0))), (n6, .inl (y 1, 5, .inr (.inl (fun _ => 0))))]) [1, 2] [0, 3, 4, 5, 6, 7, 8, 9, 10, 11, 12, 13, 14, 15, 16, 17] rfl rfl (by decide) (by decide) (by decide) (As := [.ref k, .ref tr, .int 5]) (rest := []) rfl (nb rfl) rfl d_Nine_rows_48 (fun r8 _ hr8 => ?_)
                subst hr8
                refine j_ws (ws' := [(x, .inr (9, [.ref tp, .ref pi, .ref nw, .ref tr, .ref ps, .ref k, .ref k2, .ref rd, .ref pl, .int 1])), (m0, .inl (y 0, 9, .inl (fun _ => 0))), (m1, .inl (y 0, 9, .inl (fun _ => 0))), (m2, .inl (y 1, 9, .inr (.inl (fun _ => 0)))), (m3, .inl (y 0, 6, .inl (fun _ => 0))), (m4, .inl (y 0, 6, .inl (fun _ => 0))), (m5, .inl (y 0, 16, .inl (fun _ => 0))), (m6, .inl (y 1, 5, .inr (.inl (fun _ => 0)))), (nw, .inr (7, [.int 0, .int 0, .int 0, .ref n0, .ref n1, .ref n2, .ref n3, .ref n4, .ref n5, .ref n6])), (n0, .inl (y 0, 9, .inl (fun _ => 0))), (n1, .inl (y 0, 9, .inl (fun _ => 0))), (n2, .inl (y 1, 9, .inr (.inl (fun _ => 0)))), (n3, .inl (y 0, 6, .inl (fun _ => 0))), (n4, .inl (y 0, 6, .inl (fun _ => 0))), (n5, .inl (y 0, 16, .inl (fun _ => 0))), (n6, .inl (y 1, 5, .inr (.inl (fun _ => 0)))), (k, .inr (2, [.int 0, .int 1, .int 1, .int 0, .ref g, .int 0, .ref vn, .ref vg, .ref t, .ref r, .int 0, .int 0, .int 9999, .int 0])), (tr, .inr (7, [.int 0, .int 0, .int 0, .ref m0, .ref m1, .ref m2, .ref m3, .ref m4, .ref m5, .ref m6]))]) rfl ?_
                refine j_st (st' := [.int 1]) rfl ?_
                exact j_iret (pc := 51) C hr rfl () (by decide) [] rfl (by decide) (by decide) (by decide) d_Nine_rows_51
              · by_cases e3_5 : n = 6
                · subst e3_5
                  refine j_aload_n (pc := 11) C d_Nine_rows_11 rfl 0 rfl ?_
                  refine j_get (pc := 12) C gf_Nine_24 0 rfl rfl d_Nine_rows_12 ?_
                  refine j_get (pc := 15) C gf_Nine_124 10 rfl rfl d_Nine_rows_15 ?_
                  refine j_iload_n (pc := 18) C d_Nine_rows_18 rfl 1 rfl ?_
                  refine j_iadd (pc := 19) C (v := 6) d_Nine_rows_19 (by decide) ?_
                  refine j_sipush (pc := 20) C (v := 999) d_Nine_rows_20 (by decide) ?_
                  refine j_icmp_leT (pc := 23) C (tgt := 28) d_Nine_rows_23 (by decide) (by decide) ?_
                  refine j_aload_n (pc := 28) C d_Nine_rows_28 rfl 0 rfl ?_
                  refine j_get (pc := 29) C gf_Nine_28 0 rfl rfl d_Nine_rows_29 ?_
                  refine j_aload_n (pc := 32) C d_Nine_rows_32 rfl 0 rfl ?_
                  refine j_get (pc := 33) C gf_Nine_24 0 rfl rfl d_Nine_rows_33 ?_
                  refine j_callVv (pc := 36) C (c_take l D y tr m0 m1 m2 m3 m4 m5 m6 dt nw n0 n1 n2 n3 n4 n5 n6 0) kw_Nine_160 kv_State_take 0 7 rfl rfl ⟨by decide, by decide⟩ ⟨by decide, by decide⟩ (wr := [(x, .inr (9, [.ref tp, .ref pi, .ref nw, .ref tr, .ref ps, .ref k, .ref k2, .ref rd, .ref pl, .int 1])), (k, .inr (2, [.int 0, .int 1, .int 1, .int 0, .ref g, .int 0, .ref vn, .ref vg, .ref t, .ref r, .int 0, .int 0, .int 9999, .int 0]))]) [2, 3, 4, 5, 6, 7, 8, 9, 10, 11, 12, 13, 14, 15, 16, 17] [0, 1] rfl rfl (by decide) (by decide) (by decide) (As := [.ref nw]) (rest := []) rfl (nb rfl) rfl d_Nine_rows_36 (fun _ _ => ?_)
                  refine j_ws (ws' := [(x, .inr (9, [.ref tp, .ref pi, .ref nw, .ref tr, .ref ps, .ref k, .ref k2, .ref rd, .ref pl, .int 1])), (k, .inr (2, [.int 0, .int 1, .int 1, .int 0, .ref g, .int 0, .ref vn, .ref vg, .ref t, .ref r, .int 0, .int 0, .int 9999, .int 0])), (tr, .inr (7, [.int 0, .int 0, .int 0, .ref m0, .ref m1, .ref m2, .ref m3, .ref m4, .ref m5, .ref m6])), (m0, .inl (y 0, 9, .inl (fun _ => 0))), (m1, .inl (y 0, 9, .inl (fun _ => 0))), (m2, .inl (y 1, 9, .inr (.inl (fun _ => 0)))), (m3, .inl (y 0, 6, .inl (fun _ => 0))), (m4, .inl (y 0, 6, .inl (fun _ => 0))), (m5, .inl (y 0, 16, .inl (fun _ => 0))), (m6, .inl (y 1, 5, .inr (.inl (fun _ => 0)))), (nw, .inr (7, [.int 0, .int 0, .int 0, .ref n0, .ref n1, .ref n2, .ref n3, .ref n4, .ref n5, .ref n6])), (n0, .inl (y 0, 9, .inl (fun _ => 0))), (n1, .inl (y 0, 9, .inl (fun _ => 0))), (n2, .inl (y 1, 9, .inr (.inl (fun _ => 0)))), (n3, .inl (y 0, 6, .inl (fun _ => 0))), (n4, .inl (y 0, 6, .inl (fun _ => 0))), (n5, .inl (y 0, 16, .inl (fun _ => 0))), (n6, .inl (y 1, 5, .inr (.inl (fun _ => 0))))]) rfl ?_
                  refine j_aload_n (pc := 39) C d_Nine_rows_39 rfl 0 rfl ?_
                  refine j_get (pc := 40) C gf_Nine_41 0 rfl rfl d_Nine_rows_40 ?_
                  refine j_aload_n (pc := 43) C d_Nine_rows_43 rfl 0 rfl ?_
                  refine j_get (pc := 44) C gf_Nine_28 0 rfl rfl d_Nine_rows_44 ?_
                  refine j_iload_n (pc := 47) C d_Nine_rows_47 rfl 1 rfl ?_
                  refine j_callSNi (pc := 48) C (c_countRows_6 l D y k tr g vn vg t r 0 m0 m1 m2 m3 m4 m5 m6) kw_Nine_243 ks_Days_countRows C.N.2.2.2.2.2.2.2 ⟨by decide, by decide⟩ ⟨by decide, by decide⟩ (wr := [(x, .inr (9, [.ref tp, .ref pi, .ref nw, .ref tr, .ref ps, .ref k, .ref k2, .ref rd, .ref pl, .int 1])), (m0, .inl (y 0, 9, .inl (fun _ => 0))), (m1, .inl (y 0, 9, .inl (fun _ => 0))), (m2, .inl (y 1, 9, .inr (.inl (fun _ => 0)))), (m3, .inl (y 0, 6, .inl (fun _ => 0))), (m4, .inl (y 0, 6, .inl (fun _ => 0))), (m5, .inl (y 0, 16, .inl (fun _ => 0))), (m6, .inl (y 1, 5, .inr (.inl (fun _ => 0)))), (nw, .inr (7, [.int 0, .int 0, .int 0, .ref n0, .ref n1, .ref n2, .ref n3, .ref n4, .ref n5, .ref n6])), (n0, .inl (y 0, 9, .inl (fun _ => 0))), (n1, .inl (y 0, 9, .inl (fun _ => 0))), (n2, .inl (y 1, 9, .inr (.inl (fun _ => 0)))), (n3, .inl (y 0, 6, .inl (fun _ => 0))), (n4, .inl (y 0, 6, .inl (fun _ => 0))), (n5, .inl (y 0, 16, .inl (fun _ => 0))), (n6, .inl (y 1, 5, .inr (.inl (fun _ => 0))))]) [1, 2] [0, 3, 4, 5, 6, 7, 8, 9, 10, 11, 12, 13, 14, 15, 16, 17] rfl rfl (by decide) (by decide) (by decide) (As := [.ref k, .ref tr, .int 6]) (rest := []) rfl (nb rfl) rfl d_Nine_rows_48 (fun r9 _ hr9 => ?_)
                  subst hr9
                  refine j_ws (ws' := [(x, .inr (9, [.ref tp, .ref pi, .ref nw, .ref tr, .ref ps, .ref k, .ref k2, .ref rd, .ref pl, .int 1])), (m0, .inl (y 0, 9, .inl (fun _ => 0))), (m1, .inl (y 0, 9, .inl (fun _ => 0))), (m2, .inl (y 1, 9, .inr (.inl (fun _ => 0)))), (m3, .inl (y 0, 6, .inl (fun _ => 0))), (m4, .inl (y 0, 6, .inl (fun _ => 0))), (m5, .inl (y 0, 16, .inl (fun _ => 0))), (m6, .inl (y 1, 5, .inr (.inl (fun _ => 0)))), (nw, .inr (7, [.int 0, .int 0, .int 0, .ref n0, .ref n1, .ref n2, .ref n3, .ref n4, .ref n5, .ref n6])), (n0, .inl (y 0, 9, .inl (fun _ => 0))), (n1, .inl (y 0, 9, .inl (fun _ => 0))), (n2, .inl (y 1, 9, .inr (.inl (fun _ => 0)))), (n3, .inl (y 0, 6, .inl (fun _ => 0))), (n4, .inl (y 0, 6, .inl (fun _ => 0))), (n5, .inl (y 0, 16, .inl (fun _ => 0))), (n6, .inl (y 1, 5, .inr (.inl (fun _ => 0)))), (k, .inr (2, [.int 0, .int 1, .int 1, .int 0, .ref g, .int 0, .ref vn, .ref vg, .ref t, .ref r, .int 0, .int 0, .int 9999, .int 0])), (tr, .inr (7, [.int 0, .int 0, .int 0, .ref m0, .ref m1, .ref m2, .ref m3, .ref m4, .ref m5, .ref m6]))]) rfl ?_
                  refine j_st (st' := [.int 1]) rfl ?_
                  exact j_iret (pc := 51) C hr rfl () (by decide) [] rfl (by decide) (by decide) (by decide) d_Nine_rows_51
                · by_cases e3_6 : n = 7
                  · subst e3_6
                    refine j_aload_n (pc := 11) C d_Nine_rows_11 rfl 0 rfl ?_
                    refine j_get (pc := 12) C gf_Nine_24 0 rfl rfl d_Nine_rows_12 ?_
                    refine j_get (pc := 15) C gf_Nine_124 10 rfl rfl d_Nine_rows_15 ?_
                    refine j_iload_n (pc := 18) C d_Nine_rows_18 rfl 1 rfl ?_
                    refine j_iadd (pc := 19) C (v := 7) d_Nine_rows_19 (by decide) ?_
                    refine j_sipush (pc := 20) C (v := 999) d_Nine_rows_20 (by decide) ?_
                    refine j_icmp_leT (pc := 23) C (tgt := 28) d_Nine_rows_23 (by decide) (by decide) ?_
                    refine j_aload_n (pc := 28) C d_Nine_rows_28 rfl 0 rfl ?_
                    refine j_get (pc := 29) C gf_Nine_28 0 rfl rfl d_Nine_rows_29 ?_
                    refine j_aload_n (pc := 32) C d_Nine_rows_32 rfl 0 rfl ?_
                    refine j_get (pc := 33) C gf_Nine_24 0 rfl rfl d_Nine_rows_33 ?_
                    refine j_callVv (pc := 36) C (c_take l D y tr m0 m1 m2 m3 m4 m5 m6 dt nw n0 n1 n2 n3 n4 n5 n6 0) kw_Nine_160 kv_State_take 0 7 rfl rfl ⟨by decide, by decide⟩ ⟨by decide, by decide⟩ (wr := [(x, .inr (9, [.ref tp, .ref pi, .ref nw, .ref tr, .ref ps, .ref k, .ref k2, .ref rd, .ref pl, .int 1])), (k, .inr (2, [.int 0, .int 1, .int 1, .int 0, .ref g, .int 0, .ref vn, .ref vg, .ref t, .ref r, .int 0, .int 0, .int 9999, .int 0]))]) [2, 3, 4, 5, 6, 7, 8, 9, 10, 11, 12, 13, 14, 15, 16, 17] [0, 1] rfl rfl (by decide) (by decide) (by decide) (As := [.ref nw]) (rest := []) rfl (nb rfl) rfl d_Nine_rows_36 (fun _ _ => ?_)
                    refine j_ws (ws' := [(x, .inr (9, [.ref tp, .ref pi, .ref nw, .ref tr, .ref ps, .ref k, .ref k2, .ref rd, .ref pl, .int 1])), (k, .inr (2, [.int 0, .int 1, .int 1, .int 0, .ref g, .int 0, .ref vn, .ref vg, .ref t, .ref r, .int 0, .int 0, .int 9999, .int 0])), (tr, .inr (7, [.int 0, .int 0, .int 0, .ref m0, .ref m1, .ref m2, .ref m3, .ref m4, .ref m5, .ref m6])), (m0, .inl (y 0, 9, .inl (fun _ => 0))), (m1, .inl (y 0, 9, .inl (fun _ => 0))), (m2, .inl (y 1, 9, .inr (.inl (fun _ => 0)))), (m3, .inl (y 0, 6, .inl (fun _ => 0))), (m4, .inl (y 0, 6, .inl (fun _ => 0))), (m5, .inl (y 0, 16, .inl (fun _ => 0))), (m6, .inl (y 1, 5, .inr (.inl (fun _ => 0)))), (nw, .inr (7, [.int 0, .int 0, .int 0, .ref n0, .ref n1, .ref n2, .ref n3, .ref n4, .ref n5, .ref n6])), (n0, .inl (y 0, 9, .inl (fun _ => 0))), (n1, .inl (y 0, 9, .inl (fun _ => 0))), (n2, .inl (y 1, 9, .inr (.inl (fun _ => 0)))), (n3, .inl (y 0, 6, .inl (fun _ => 0))), (n4, .inl (y 0, 6, .inl (fun _ => 0))), (n5, .inl (y 0, 16, .inl (fun _ => 0))), (n6, .inl (y 1, 5, .inr (.inl (fun _ => 0))))]) rfl ?_
                    refine j_aload_n (pc := 39) C d_Nine_rows_39 rfl 0 rfl ?_
                    refine j_get (pc := 40) C gf_Nine_41 0 rfl rfl d_Nine_rows_40 ?_
                    refine j_aload_n (pc := 43) C d_Nine_rows_43 rfl 0 rfl ?_
                    refine j_get (pc := 44) C gf_Nine_28 0 rfl rfl d_Nine_rows_44 ?_
                    refine j_iload_n (pc := 47) C d_Nine_rows_47 rfl 1 rfl ?_
                    refine j_callSNi (pc := 48) C (c_countRows_7 l D y k tr g vn vg t r 0 m0 m1 m2 m3 m4 m5 m6) kw_Nine_243 ks_Days_countRows C.N.2.2.2.2.2.2.2 ⟨by decide, by decide⟩ ⟨by decide, by decide⟩ (wr := [(x, .inr (9, [.ref tp, .ref pi, .ref nw, .ref tr, .ref ps, .ref k, .ref k2, .ref rd, .ref pl, .int 1])), (m0, .inl (y 0, 9, .inl (fun _ => 0))), (m1, .inl (y 0, 9, .inl (fun _ => 0))), (m2, .inl (y 1, 9, .inr (.inl (fun _ => 0)))), (m3, .inl (y 0, 6, .inl (fun _ => 0))), (m4, .inl (y 0, 6, .inl (fun _ => 0))), (m5, .inl (y 0, 16, .inl (fun _ => 0))), (m6, .inl (y 1, 5, .inr (.inl (fun _ => 0)))), (nw, .inr (7, [.int 0, .int 0, .int 0, .ref n0, .ref n1, .ref n2, .ref n3, .ref n4, .ref n5, .ref n6])), (n0, .inl (y 0, 9, .inl (fun _ => 0))), (n1, .inl (y 0, 9, .inl (fun _ => 0))), (n2, .inl (y 1, 9, .inr (.inl (fun _ => 0)))), (n3, .inl (y 0, 6, .inl (fun _ => 0))), (n4, .inl (y 0, 6, .inl (fun _ => 0))), (n5, .inl (y 0, 16, .inl (fun _ => 0))), (n6, .inl (y 1, 5, .inr (.inl (fun _ => 0))))]) [1, 2] [0, 3, 4, 5, 6, 7, 8, 9, 10, 11, 12, 13, 14, 15, 16, 17] rfl rfl (by decide) (by decide) (by decide) (As := [.ref k, .ref tr, .int 7]) (rest := []) rfl (nb rfl) rfl d_Nine_rows_48 (fun r10 _ hr10 => ?_)
                    subst hr10
                    refine j_ws (ws' := [(x, .inr (9, [.ref tp, .ref pi, .ref nw, .ref tr, .ref ps, .ref k, .ref k2, .ref rd, .ref pl, .int 1])), (m0, .inl (y 0, 9, .inl (fun _ => 0))), (m1, .inl (y 0, 9, .inl (fun _ => 0))), (m2, .inl (y 1, 9, .inr (.inl (fun _ => 0)))), (m3, .inl (y 0, 6, .inl (fun _ => 0))), (m4, .inl (y 0, 6, .inl (fun _ => 0))), (m5, .inl (y 0, 16, .inl (fun _ => 0))), (m6, .inl (y 1, 5, .inr (.inl (fun _ => 0)))), (nw, .inr (7, [.int 0, .int 0, .int 0, .ref n0, .ref n1, .ref n2, .ref n3, .ref n4, .ref n5, .ref n6])), (n0, .inl (y 0, 9, .inl (fun _ => 0))), (n1, .inl (y 0, 9, .inl (fun _ => 0))), (n2, .inl (y 1, 9, .inr (.inl (fun _ => 0)))), (n3, .inl (y 0, 6, .inl (fun _ => 0))), (n4, .inl (y 0, 6, .inl (fun _ => 0))), (n5, .inl (y 0, 16, .inl (fun _ => 0))), (n6, .inl (y 1, 5, .inr (.inl (fun _ => 0)))), (k, .inr (2, [.int 0, .int 1, .int 1, .int 0, .ref g, .int 0, .ref vn, .ref vg, .ref t, .ref r, .int 0, .int 0, .int 9999, .int 0])), (tr, .inr (7, [.int 0, .int 0, .int 0, .ref m0, .ref m1, .ref m2, .ref m3, .ref m4, .ref m5, .ref m6]))]) rfl ?_
                    refine j_st (st' := [.int 1]) rfl ?_
                    exact j_iret (pc := 51) C hr rfl () (by decide) [] rfl (by decide) (by decide) (by decide) d_Nine_rows_51
                  · by_cases e3_7 : n = 8
                    · subst e3_7
                      refine j_aload_n (pc := 11) C d_Nine_rows_11 rfl 0 rfl ?_
                      refine j_get (pc := 12) C gf_Nine_24 0 rfl rfl d_Nine_rows_12 ?_
                      refine j_get (pc := 15) C gf_Nine_124 10 rfl rfl d_Nine_rows_15 ?_
                      refine j_iload_n (pc := 18) C d_Nine_rows_18 rfl 1 rfl ?_
                      refine j_iadd (pc := 19) C (v := 8) d_Nine_rows_19 (by decide) ?_
                      refine j_sipush (pc := 20) C (v := 999) d_Nine_rows_20 (by decide) ?_
                      refine j_icmp_leT (pc := 23) C (tgt := 28) d_Nine_rows_23 (by decide) (by decide) ?_
                      refine j_aload_n (pc := 28) C d_Nine_rows_28 rfl 0 rfl ?_
                      refine j_get (pc := 29) C gf_Nine_28 0 rfl rfl d_Nine_rows_29 ?_
                      refine j_aload_n (pc := 32) C d_Nine_rows_32 rfl 0 rfl ?_
                      refine j_get (pc := 33) C gf_Nine_24 0 rfl rfl d_Nine_rows_33 ?_
                      refine j_callVv (pc := 36) C (c_take l D y tr m0 m1 m2 m3 m4 m5 m6 dt nw n0 n1 n2 n3 n4 n5 n6 0) kw_Nine_160 kv_State_take 0 7 rfl rfl ⟨by decide, by decide⟩ ⟨by decide, by decide⟩ (wr := [(x, .inr (9, [.ref tp, .ref pi, .ref nw, .ref tr, .ref ps, .ref k, .ref k2, .ref rd, .ref pl, .int 1])), (k, .inr (2, [.int 0, .int 1, .int 1, .int 0, .ref g, .int 0, .ref vn, .ref vg, .ref t, .ref r, .int 0, .int 0, .int 9999, .int 0]))]) [2, 3, 4, 5, 6, 7, 8, 9, 10, 11, 12, 13, 14, 15, 16, 17] [0, 1] rfl rfl (by decide) (by decide) (by decide) (As := [.ref nw]) (rest := []) rfl (nb rfl) rfl d_Nine_rows_36 (fun _ _ => ?_)
                      refine j_ws (ws' := [(x, .inr (9, [.ref tp, .ref pi, .ref nw, .ref tr, .ref ps, .ref k, .ref k2, .ref rd, .ref pl, .int 1])), (k, .inr (2, [.int 0, .int 1, .int 1, .int 0, .ref g, .int 0, .ref vn, .ref vg, .ref t, .ref r, .int 0, .int 0, .int 9999, .int 0])), (tr, .inr (7, [.int 0, .int 0, .int 0, .ref m0, .ref m1, .ref m2, .ref m3, .ref m4, .ref m5, .ref m6])), (m0, .inl (y 0, 9, .inl (fun _ => 0))), (m1, .inl (y 0, 9, .inl (fun _ => 0))), (m2, .inl (y 1, 9, .inr (.inl (fun _ => 0)))), (m3, .inl (y 0, 6, .inl (fun _ => 0))), (m4, .inl (y 0, 6, .inl (fun _ => 0))), (m5, .inl (y 0, 16, .inl (fun _ => 0))), (m6, .inl (y 1, 5, .inr (.inl (fun _ => 0)))), (nw, .inr (7, [.int 0, .int 0, .int 0, .ref n0, .ref n1, .ref n2, .ref n3, .ref n4, .ref n5, .ref n6])), (n0, .inl (y 0, 9, .inl (fun _ => 0))), (n1, .inl (y 0, 9, .inl (fun _ => 0))), (n2, .inl (y 1, 9, .inr (.inl (fun _ => 0)))), (n3, .inl (y 0, 6, .inl (fun _ => 0))), (n4, .inl (y 0, 6, .inl (fun _ => 0))), (n5, .inl (y 0, 16, .inl (fun _ => 0))), (n6, .inl (y 1, 5, .inr (.inl (fun _ => 0))))]) rfl ?_
                      refine j_aload_n (pc := 39) C d_Nine_rows_39 rfl 0 rfl ?_
                      refine j_get (pc := 40) C gf_Nine_41 0 rfl rfl d_Nine_rows_40 ?_
                      refine j_aload_n (pc := 43) C d_Nine_rows_43 rfl 0 rfl ?_
                      refine j_get (pc := 44) C gf_Nine_28 0 rfl rfl d_Nine_rows_44 ?_
                      refine j_iload_n (pc := 47) C d_Nine_rows_47 rfl 1 rfl ?_
                      refine j_callSNi (pc := 48) C (c_countRows_8 l D y k tr g vn vg t r 0 m0 m1 m2 m3 m4 m5 m6) kw_Nine_243 ks_Days_countRows C.N.2.2.2.2.2.2.2 ⟨by decide, by decide⟩ ⟨by decide, by decide⟩ (wr := [(x, .inr (9, [.ref tp, .ref pi, .ref nw, .ref tr, .ref ps, .ref k, .ref k2, .ref rd, .ref pl, .int 1])), (m0, .inl (y 0, 9, .inl (fun _ => 0))), (m1, .inl (y 0, 9, .inl (fun _ => 0))), (m2, .inl (y 1, 9, .inr (.inl (fun _ => 0)))), (m3, .inl (y 0, 6, .inl (fun _ => 0))), (m4, .inl (y 0, 6, .inl (fun _ => 0))), (m5, .inl (y 0, 16, .inl (fun _ => 0))), (m6, .inl (y 1, 5, .inr (.inl (fun _ => 0)))), (nw, .inr (7, [.int 0, .int 0, .int 0, .ref n0, .ref n1, .ref n2, .ref n3, .ref n4, .ref n5, .ref n6])), (n0, .inl (y 0, 9, .inl (fun _ => 0))), (n1, .inl (y 0, 9, .inl (fun _ => 0))), (n2, .inl (y 1, 9, .inr (.inl (fun _ => 0)))), (n3, .inl (y 0, 6, .inl (fun _ => 0))), (n4, .inl (y 0, 6, .inl (fun _ => 0))), (n5, .inl (y 0, 16, .inl (fun _ => 0))), (n6, .inl (y 1, 5, .inr (.inl (fun _ => 0))))]) [1, 2] [0, 3, 4, 5, 6, 7, 8, 9, 10, 11, 12, 13, 14, 15, 16, 17] rfl rfl (by decide) (by decide) (by decide) (As := [.ref k, .ref tr, .int 8]) (rest := []) rfl (nb rfl) rfl d_Nine_rows_48 (fun r11 _ hr11 => ?_)
                      subst hr11
                      refine j_ws (ws' := [(x, .inr (9, [.ref tp, .ref pi, .ref nw, .ref tr, .ref ps, .ref k, .ref k2, .ref rd, .ref pl, .int 1])), (m0, .inl (y 0, 9, .inl (fun _ => 0))), (m1, .inl (y 0, 9, .inl (fun _ => 0))), (m2, .inl (y 1, 9, .inr (.inl (fun _ => 0)))), (m3, .inl (y 0, 6, .inl (fun _ => 0))), (m4, .inl (y 0, 6, .inl (fun _ => 0))), (m5, .inl (y 0, 16, .inl (fun _ => 0))), (m6, .inl (y 1, 5, .inr (.inl (fun _ => 0)))), (nw, .inr (7, [.int 0, .int 0, .int 0, .ref n0, .ref n1, .ref n2, .ref n3, .ref n4, .ref n5, .ref n6])), (n0, .inl (y 0, 9, .inl (fun _ => 0))), (n1, .inl (y 0, 9, .inl (fun _ => 0))), (n2, .inl (y 1, 9, .inr (.inl (fun _ => 0)))), (n3, .inl (y 0, 6, .inl (fun _ => 0))), (n4, .inl (y 0, 6, .inl (fun _ => 0))), (n5, .inl (y 0, 16, .inl (fun _ => 0))), (n6, .inl (y 1, 5, .inr (.inl (fun _ => 0)))), (k, .inr (2, [.int 0, .int 1, .int 1, .int 0, .ref g, .int 0, .ref vn, .ref vg, .ref t, .ref r, .int 0, .int 0, .int 9999, .int 0])), (tr, .inr (7, [.int 0, .int 0, .int 0, .ref m0, .ref m1, .ref m2, .ref m3, .ref m4, .ref m5, .ref m6]))]) rfl ?_
                      refine j_st (st' := [.int 1]) rfl ?_
                      exact j_iret (pc := 51) C hr rfl () (by decide) [] rfl (by decide) (by decide) (by decide) d_Nine_rows_51
                    · by_cases e3_8 : n = 9
                      · subst e3_8
                        refine j_aload_n (pc := 11) C d_Nine_rows_11 rfl 0 rfl ?_
                        refine j_get (pc := 12) C gf_Nine_24 0 rfl rfl d_Nine_rows_12 ?_
                        refine j_get (pc := 15) C gf_Nine_124 10 rfl rfl d_Nine_rows_15 ?_
                        refine j_iload_n (pc := 18) C d_Nine_rows_18 rfl 1 rfl ?_
                        refine j_iadd (pc := 19) C (v := 9) d_Nine_rows_19 (by decide) ?_
                        refine j_sipush (pc := 20) C (v := 999) d_Nine_rows_20 (by decide) ?_
                        refine j_icmp_leT (pc := 23) C (tgt := 28) d_Nine_rows_23 (by decide) (by decide) ?_
                        refine j_aload_n (pc := 28) C d_Nine_rows_28 rfl 0 rfl ?_
                        refine j_get (pc := 29) C gf_Nine_28 0 rfl rfl d_Nine_rows_29 ?_
                        refine j_aload_n (pc := 32) C d_Nine_rows_32 rfl 0 rfl ?_
                        refine j_get (pc := 33) C gf_Nine_24 0 rfl rfl d_Nine_rows_33 ?_
                        refine j_callVv (pc := 36) C (c_take l D y tr m0 m1 m2 m3 m4 m5 m6 dt nw n0 n1 n2 n3 n4 n5 n6 0) kw_Nine_160 kv_State_take 0 7 rfl rfl ⟨by decide, by decide⟩ ⟨by decide, by decide⟩ (wr := [(x, .inr (9, [.ref tp, .ref pi, .ref nw, .ref tr, .ref ps, .ref k, .ref k2, .ref rd, .ref pl, .int 1])), (k, .inr (2, [.int 0, .int 1, .int 1, .int 0, .ref g, .int 0, .ref vn, .ref vg, .ref t, .ref r, .int 0, .int 0, .int 9999, .int 0]))]) [2, 3, 4, 5, 6, 7, 8, 9, 10, 11, 12, 13, 14, 15, 16, 17] [0, 1] rfl rfl (by decide) (by decide) (by decide) (As := [.ref nw]) (rest := []) rfl (nb rfl) rfl d_Nine_rows_36 (fun _ _ => ?_)
                        refine j_ws (ws' := [(x, .inr (9, [.ref tp, .ref pi, .ref nw, .ref tr, .ref ps, .ref k, .ref k2, .ref rd, .ref pl, .int 1])), (k, .inr (2, [.int 0, .int 1, .int 1, .int 0, .ref g, .int 0, .ref vn, .ref vg, .ref t, .ref r, .int 0, .int 0, .int 9999, .int 0])), (tr, .inr (7, [.int 0, .int 0, .int 0, .ref m0, .ref m1, .ref m2, .ref m3, .ref m4, .ref m5, .ref m6])), (m0, .inl (y 0, 9, .inl (fun _ => 0))), (m1, .inl (y 0, 9, .inl (fun _ => 0))), (m2, .inl (y 1, 9, .inr (.inl (fun _ => 0)))), (m3, .inl (y 0, 6, .inl (fun _ => 0))), (m4, .inl (y 0, 6, .inl (fun _ => 0))), (m5, .inl (y 0, 16, .inl (fun _ => 0))), (m6, .inl (y 1, 5, .inr (.inl (fun _ => 0)))), (nw, .inr (7, [.int 0, .int 0, .int 0, .ref n0, .ref n1, .ref n2, .ref n3, .ref n4, .ref n5, .ref n6])), (n0, .inl (y 0, 9, .inl (fun _ => 0))), (n1, .inl (y 0, 9, .inl (fun _ => 0))), (n2, .inl (y 1, 9, .inr (.inl (fun _ => 0)))), (n3, .inl (y 0, 6, .inl (fun _ => 0))), (n4, .inl (y 0, 6, .inl (fun _ => 0))), (n5, .inl (y 0, 16, .inl (fun _ => 0))), (n6, .inl (y 1, 5, .inr (.inl (fun _ => 0))))]) rfl ?_
                        refine j_aload_n (pc := 39) C d_Nine_rows_39 rfl 0 rfl ?_
                        refine j_get (pc := 40) C gf_Nine_41 0 rfl rfl d_Nine_rows_40 ?_
                        refine j_aload_n (pc := 43) C d_Nine_rows_43 rfl 0 rfl ?_
                        refine j_get (pc := 44) C gf_Nine_28 0 rfl rfl d_Nine_rows_44 ?_
                        refine j_iload_n (pc := 47) C d_Nine_rows_47 rfl 1 rfl ?_
                        refine j_callSNi (pc := 48) C (c_countRows_9 l D y k tr g vn vg t r 0 m0 m1 m2 m3 m4 m5 m6) kw_Nine_243 ks_Days_countRows C.N.2.2.2.2.2.2.2 ⟨by decide, by decide⟩ ⟨by decide, by decide⟩ (wr := [(x, .inr (9, [.ref tp, .ref pi, .ref nw, .ref tr, .ref ps, .ref k, .ref k2, .ref rd, .ref pl, .int 1])), (m0, .inl (y 0, 9, .inl (fun _ => 0))), (m1, .inl (y 0, 9, .inl (fun _ => 0))), (m2, .inl (y 1, 9, .inr (.inl (fun _ => 0)))), (m3, .inl (y 0, 6, .inl (fun _ => 0))), (m4, .inl (y 0, 6, .inl (fun _ => 0))), (m5, .inl (y 0, 16, .inl (fun _ => 0))), (m6, .inl (y 1, 5, .inr (.inl (fun _ => 0)))), (nw, .inr (7, [.int 0, .int 0, .int 0, .ref n0, .ref n1, .ref n2, .ref n3, .ref n4, .ref n5, .ref n6])), (n0, .inl (y 0, 9, .inl (fun _ => 0))), (n1, .inl (y 0, 9, .inl (fun _ => 0))), (n2, .inl (y 1, 9, .inr (.inl (fun _ => 0)))), (n3, .inl (y 0, 6, .inl (fun _ => 0))), (n4, .inl (y 0, 6, .inl (fun _ => 0))), (n5, .inl (y 0, 16, .inl (fun _ => 0))), (n6, .inl (y 1, 5, .inr (.inl (fun _ => 0))))]) [1, 2] [0, 3, 4, 5, 6, 7, 8, 9, 10, 11, 12, 13, 14, 15, 16, 17] rfl rfl (by decide) (by decide) (by decide) (As := [.ref k, .ref tr, .int 9]) (rest := []) rfl (nb rfl) rfl d_Nine_rows_48 (fun r12 _ hr12 => ?_)
                        subst hr12
                        refine j_ws (ws' := [(x, .inr (9, [.ref tp, .ref pi, .ref nw, .ref tr, .ref ps, .ref k, .ref k2, .ref rd, .ref pl, .int 1])), (m0, .inl (y 0, 9, .inl (fun _ => 0))), (m1, .inl (y 0, 9, .inl (fun _ => 0))), (m2, .inl (y 1, 9, .inr (.inl (fun _ => 0)))), (m3, .inl (y 0, 6, .inl (fun _ => 0))), (m4, .inl (y 0, 6, .inl (fun _ => 0))), (m5, .inl (y 0, 16, .inl (fun _ => 0))), (m6, .inl (y 1, 5, .inr (.inl (fun _ => 0)))), (nw, .inr (7, [.int 0, .int 0, .int 0, .ref n0, .ref n1, .ref n2, .ref n3, .ref n4, .ref n5, .ref n6])), (n0, .inl (y 0, 9, .inl (fun _ => 0))), (n1, .inl (y 0, 9, .inl (fun _ => 0))), (n2, .inl (y 1, 9, .inr (.inl (fun _ => 0)))), (n3, .inl (y 0, 6, .inl (fun _ => 0))), (n4, .inl (y 0, 6, .inl (fun _ => 0))), (n5, .inl (y 0, 16, .inl (fun _ => 0))), (n6, .inl (y 1, 5, .inr (.inl (fun _ => 0)))), (k, .inr (2, [.int 0, .int 1, .int 1, .int 0, .ref g, .int 0, .ref vn, .ref vg, .ref t, .ref r, .int 0, .int 0, .int 9999, .int 0])), (tr, .inr (7, [.int 0, .int 0, .int 0, .ref m0, .ref m1, .ref m2, .ref m3, .ref m4, .ref m5, .ref m6]))]) rfl ?_
                        refine j_st (st' := [.int 1]) rfl ?_
                        exact j_iret (pc := 51) C hr rfl () (by decide) [] rfl (by decide) (by decide) (by decide) d_Nine_rows_51
                      · by_cases e3_9 : n = 10
                        · subst e3_9
                          refine j_aload_n (pc := 11) C d_Nine_rows_11 rfl 0 rfl ?_
                          refine j_get (pc := 12) C gf_Nine_24 0 rfl rfl d_Nine_rows_12 ?_
                          refine j_get (pc := 15) C gf_Nine_124 10 rfl rfl d_Nine_rows_15 ?_
                          refine j_iload_n (pc := 18) C d_Nine_rows_18 rfl 1 rfl ?_
                          refine j_iadd (pc := 19) C (v := 10) d_Nine_rows_19 (by decide) ?_
                          refine j_sipush (pc := 20) C (v := 999) d_Nine_rows_20 (by decide) ?_
                          refine j_icmp_leT (pc := 23) C (tgt := 28) d_Nine_rows_23 (by decide) (by decide) ?_
                          refine j_aload_n (pc := 28) C d_Nine_rows_28 rfl 0 rfl ?_
                          refine j_get (pc := 29) C gf_Nine_28 0 rfl rfl d_Nine_rows_29 ?_
                          refine j_aload_n (pc := 32) C d_Nine_rows_32 rfl 0 rfl ?_
                          refine j_get (pc := 33) C gf_Nine_24 0 rfl rfl d_Nine_rows_33 ?_
                          refine j_callVv (pc := 36) C (c_take l D y tr m0 m1 m2 m3 m4 m5 m6 dt nw n0 n1 n2 n3 n4 n5 n6 0) kw_Nine_160 kv_State_take 0 7 rfl rfl ⟨by decide, by decide⟩ ⟨by decide, by decide⟩ (wr := [(x, .inr (9, [.ref tp, .ref pi, .ref nw, .ref tr, .ref ps, .ref k, .ref k2, .ref rd, .ref pl, .int 1])), (k, .inr (2, [.int 0, .int 1, .int 1, .int 0, .ref g, .int 0, .ref vn, .ref vg, .ref t, .ref r, .int 0, .int 0, .int 9999, .int 0]))]) [2, 3, 4, 5, 6, 7, 8, 9, 10, 11, 12, 13, 14, 15, 16, 17] [0, 1] rfl rfl (by decide) (by decide) (by decide) (As := [.ref nw]) (rest := []) rfl (nb rfl) rfl d_Nine_rows_36 (fun _ _ => ?_)
                          refine j_ws (ws' := [(x, .inr (9, [.ref tp, .ref pi, .ref nw, .ref tr, .ref ps, .ref k, .ref k2, .ref rd, .ref pl, .int 1])), (k, .inr (2, [.int 0, .int 1, .int 1, .int 0, .ref g, .int 0, .ref vn, .ref vg, .ref t, .ref r, .int 0, .int 0, .int 9999, .int 0])), (tr, .inr (7, [.int 0, .int 0, .int 0, .ref m0, .ref m1, .ref m2, .ref m3, .ref m4, .ref m5, .ref m6])), (m0, .inl (y 0, 9, .inl (fun _ => 0))), (m1, .inl (y 0, 9, .inl (fun _ => 0))), (m2, .inl (y 1, 9, .inr (.inl (fun _ => 0)))), (m3, .inl (y 0, 6, .inl (fun _ => 0))), (m4, .inl (y 0, 6, .inl (fun _ => 0))), (m5, .inl (y 0, 16, .inl (fun _ => 0))), (m6, .inl (y 1, 5, .inr (.inl (fun _ => 0)))), (nw, .inr (7, [.int 0, .int 0, .int 0, .ref n0, .ref n1, .ref n2, .ref n3, .ref n4, .ref n5, .ref n6])), (n0, .inl (y 0, 9, .inl (fun _ => 0))), (n1, .inl (y 0, 9, .inl (fun _ => 0))), (n2, .inl (y 1, 9, .inr (.inl (fun _ => 0)))), (n3, .inl (y 0, 6, .inl (fun _ => 0))), (n4, .inl (y 0, 6, .inl (fun _ => 0))), (n5, .inl (y 0, 16, .inl (fun _ => 0))), (n6, .inl (y 1, 5, .inr (.inl (fun _ => 0))))]) rfl ?_
                          refine j_aload_n (pc := 39) C d_Nine_rows_39 rfl 0 rfl ?_
                          refine j_get (pc := 40) C gf_Nine_41 0 rfl rfl d_Nine_rows_40 ?_
                          refine j_aload_n (pc := 43) C d_Nine_rows_43 rfl 0 rfl ?_
                          refine j_get (pc := 44) C gf_Nine_28 0 rfl rfl d_Nine_rows_44 ?_
                          refine j_iload_n (pc := 47) C d_Nine_rows_47 rfl 1 rfl ?_
                          refine j_callSNi (pc := 48) C (c_countRows_10 l D y k tr g vn vg t r 0 m0 m1 m2 m3 m4 m5 m6) kw_Nine_243 ks_Days_countRows C.N.2.2.2.2.2.2.2 ⟨by decide, by decide⟩ ⟨by decide, by decide⟩ (wr := [(x, .inr (9, [.ref tp, .ref pi, .ref nw, .ref tr, .ref ps, .ref k, .ref k2, .ref rd, .ref pl, .int 1])), (m0, .inl (y 0, 9, .inl (fun _ => 0))), (m1, .inl (y 0, 9, .inl (fun _ => 0))), (m2, .inl (y 1, 9, .inr (.inl (fun _ => 0)))), (m3, .inl (y 0, 6, .inl (fun _ => 0))), (m4, .inl (y 0, 6, .inl (fun _ => 0))), (m5, .inl (y 0, 16, .inl (fun _ => 0))), (m6, .inl (y 1, 5, .inr (.inl (fun _ => 0)))), (nw, .inr (7, [.int 0, .int 0, .int 0, .ref n0, .ref n1, .ref n2, .ref n3, .ref n4, .ref n5, .ref n6])), (n0, .inl (y 0, 9, .inl (fun _ => 0))), (n1, .inl (y 0, 9, .inl (fun _ => 0))), (n2, .inl (y 1, 9, .inr (.inl (fun _ => 0)))), (n3, .inl (y 0, 6, .inl (fun _ => 0))), (n4, .inl (y 0, 6, .inl (fun _ => 0))), (n5, .inl (y 0, 16, .inl (fun _ => 0))), (n6, .inl (y 1, 5, .inr (.inl (fun _ => 0))))]) [1, 2] [0, 3, 4, 5, 6, 7, 8, 9, 10, 11, 12, 13, 14, 15, 16, 17] rfl rfl (by decide) (by decide) (by decide) (As := [.ref k, .ref tr, .int 10]) (rest := []) rfl (nb rfl) rfl d_Nine_rows_48 (fun r13 _ hr13 => ?_)
                          subst hr13
                          refine j_ws (ws' := [(x, .inr (9, [.ref tp, .ref pi, .ref nw, .ref tr, .ref ps, .ref k, .ref k2, .ref rd, .ref pl, .int 1])), (m0, .inl (y 0, 9, .inl (fun _ => 0))), (m1, .inl (y 0, 9, .inl (fun _ => 0))), (m2, .inl (y 1, 9, .inr (.inl (fun _ => 0)))), (m3, .inl (y 0, 6, .inl (fun _ => 0))), (m4, .inl (y 0, 6, .inl (fun _ => 0))), (m5, .inl (y 0, 16, .inl (fun _ => 0))), (m6, .inl (y 1, 5, .inr (.inl (fun _ => 0)))), (nw, .inr (7, [.int 0, .int 0, .int 0, .ref n0, .ref n1, .ref n2, .ref n3, .ref n4, .ref n5, .ref n6])), (n0, .inl (y 0, 9, .inl (fun _ => 0))), (n1, .inl (y 0, 9, .inl (fun _ => 0))), (n2, .inl (y 1, 9, .inr (.inl (fun _ => 0)))), (n3, .inl (y 0, 6, .inl (fun _ => 0))), (n4, .inl (y 0, 6, .inl (fun _ => 0))), (n5, .inl (y 0, 16, .inl (fun _ => 0))), (n6, .inl (y 1, 5, .inr (.inl (fun _ => 0)))), (k, .inr (2, [.int 0, .int 1, .int 1, .int 0, .ref g, .int 0, .ref vn, .ref vg, .ref t, .ref r, .int 0, .int 0, .int 9999, .int 0])), (tr, .inr (7, [.int 0, .int 0, .int 0, .ref m0, .ref m1, .ref m2, .ref m3, .ref m4, .ref m5, .ref m6]))]) rfl ?_
                          refine j_st (st' := [.int 1]) rfl ?_
                          exact j_iret (pc := 51) C hr rfl () (by decide) [] rfl (by decide) (by decide) (by decide) d_Nine_rows_51
                        · by_cases e3_10 : n = 11
                          · subst e3_10
                            refine j_aload_n (pc := 11) C d_Nine_rows_11 rfl 0 rfl ?_
                            refine j_get (pc := 12) C gf_Nine_24 0 rfl rfl d_Nine_rows_12 ?_
                            refine j_get (pc := 15) C gf_Nine_124 10 rfl rfl d_Nine_rows_15 ?_
                            refine j_iload_n (pc := 18) C d_Nine_rows_18 rfl 1 rfl ?_
                            refine j_iadd (pc := 19) C (v := 11) d_Nine_rows_19 (by decide) ?_
                            refine j_sipush (pc := 20) C (v := 999) d_Nine_rows_20 (by decide) ?_
                            refine j_icmp_leT (pc := 23) C (tgt := 28) d_Nine_rows_23 (by decide) (by decide) ?_
                            refine j_aload_n (pc := 28) C d_Nine_rows_28 rfl 0 rfl ?_
                            refine j_get (pc := 29) C gf_Nine_28 0 rfl rfl d_Nine_rows_29 ?_
                            refine j_aload_n (pc := 32) C d_Nine_rows_32 rfl 0 rfl ?_
                            refine j_get (pc := 33) C gf_Nine_24 0 rfl rfl d_Nine_rows_33 ?_
                            refine j_callVv (pc := 36) C (c_take l D y tr m0 m1 m2 m3 m4 m5 m6 dt nw n0 n1 n2 n3 n4 n5 n6 0) kw_Nine_160 kv_State_take 0 7 rfl rfl ⟨by decide, by decide⟩ ⟨by decide, by decide⟩ (wr := [(x, .inr (9, [.ref tp, .ref pi, .ref nw, .ref tr, .ref ps, .ref k, .ref k2, .ref rd, .ref pl, .int 1])), (k, .inr (2, [.int 0, .int 1, .int 1, .int 0, .ref g, .int 0, .ref vn, .ref vg, .ref t, .ref r, .int 0, .int 0, .int 9999, .int 0]))]) [2, 3, 4, 5, 6, 7, 8, 9, 10, 11, 12, 13, 14, 15, 16, 17] [0, 1] rfl rfl (by decide) (by decide) (by decide) (As := [.ref nw]) (rest := []) rfl (nb rfl) rfl d_Nine_rows_36 (fun _ _ => ?_)
                            refine j_ws (ws' := [(x, .inr (9, [.ref tp, .ref pi, .ref nw, .ref tr, .ref ps, .ref k, .ref k2, .ref rd, .ref pl, .int 1])), (k, .inr (2, [.int 0, .int 1, .int 1, .int 0, .ref g, .int 0, .ref vn, .ref vg, .ref t, .ref r, .int 0, .int 0, .int 9999, .int 0])), (tr, .inr (7, [.int 0, .int 0, .int 0, .ref m0, .ref m1, .ref m2, .ref m3, .ref m4, .ref m5, .ref m6])), (m0, .inl (y 0, 9, .inl (fun _ => 0))), (m1, .inl (y 0, 9, .inl (fun _ => 0))), (m2, .inl (y 1, 9, .inr (.inl (fun _ => 0)))), (m3, .inl (y 0, 6, .inl (fun _ => 0))), (m4, .inl (y 0, 6, .inl (fun _ => 0))), (m5, .inl (y 0, 16, .inl (fun _ => 0))), (m6, .inl (y 1, 5, .inr (.inl (fun _ => 0)))), (nw, .inr (7, [.int 0, .int 0, .int 0, .ref n0, .ref n1, .ref n2, .ref n3, .ref n4, .ref n5, .ref n6])), (n0, .inl (y 0, 9, .inl (fun _ => 0))), (n1, .inl (y 0, 9, .inl (fun _ => 0))), (n2, .inl (y 1, 9, .inr (.inl (fun _ => 0)))), (n3, .inl (y 0, 6, .inl (fun _ => 0))), (n4, .inl (y 0, 6, .inl (fun _ => 0))), (n5, .inl (y 0, 16, .inl (fun _ => 0))), (n6, .inl (y 1, 5, .inr (.inl (fun _ => 0))))]) rfl ?_
                            refine j_aload_n (pc := 39) C d_Nine_rows_39 rfl 0 rfl ?_
                            refine j_get (pc := 40) C gf_Nine_41 0 rfl rfl d_Nine_rows_40 ?_
                            refine j_aload_n (pc := 43) C d_Nine_rows_43 rfl 0 rfl ?_
                            refine j_get (pc := 44) C gf_Nine_28 0 rfl rfl d_Nine_rows_44 ?_
                            refine j_iload_n (pc := 47) C d_Nine_rows_47 rfl 1 rfl ?_
                            refine j_callSNi (pc := 48) C (c_countRows_11 l D y k tr g vn vg t r 0 m0 m1 m2 m3 m4 m5 m6) kw_Nine_243 ks_Days_countRows C.N.2.2.2.2.2.2.2 ⟨by decide, by decide⟩ ⟨by decide, by decide⟩ (wr := [(x, .inr (9, [.ref tp, .ref pi, .ref nw, .ref tr, .ref ps, .ref k, .ref k2, .ref rd, .ref pl, .int 1])), (m0, .inl (y 0, 9, .inl (fun _ => 0))), (m1, .inl (y 0, 9, .inl (fun _ => 0))), (m2, .inl (y 1, 9, .inr (.inl (fun _ => 0)))), (m3, .inl (y 0, 6, .inl (fun _ => 0))), (m4, .inl (y 0, 6, .inl (fun _ => 0))), (m5, .inl (y 0, 16, .inl (fun _ => 0))), (m6, .inl (y 1, 5, .inr (.inl (fun _ => 0)))), (nw, .inr (7, [.int 0, .int 0, .int 0, .ref n0, .ref n1, .ref n2, .ref n3, .ref n4, .ref n5, .ref n6])), (n0, .inl (y 0, 9, .inl (fun _ => 0))), (n1, .inl (y 0, 9, .inl (fun _ => 0))), (n2, .inl (y 1, 9, .inr (.inl (fun _ => 0)))), (n3, .inl (y 0, 6, .inl (fun _ => 0))), (n4, .inl (y 0, 6, .inl (fun _ => 0))), (n5, .inl (y 0, 16, .inl (fun _ => 0))), (n6, .inl (y 1, 5, .inr (.inl (fun _ => 0))))]) [1, 2] [0, 3, 4, 5, 6, 7, 8, 9, 10, 11, 12, 13, 14, 15, 16, 17] rfl rfl (by decide) (by decide) (by decide) (As := [.ref k, .ref tr, .int 11]) (rest := []) rfl (nb rfl) rfl d_Nine_rows_48 (fun r14 _ hr14 => ?_)
                            subst hr14
                            refine j_ws (ws' := [(x, .inr (9, [.ref tp, .ref pi, .ref nw, .ref tr, .ref ps, .ref k, .ref k2, .ref rd, .ref pl, .int 1])), (m0, .inl (y 0, 9, .inl (fun _ => 0))), (m1, .inl (y 0, 9, .inl (fun _ => 0))), (m2, .inl (y 1, 9, .inr (.inl (fun _ => 0)))), (m3, .inl (y 0, 6, .inl (fun _ => 0))), (m4, .inl (y 0, 6, .inl (fun _ => 0))), (m5, .inl (y 0, 16, .inl (fun _ => 0))), (m6, .inl (y 1, 5, .inr (.inl (fun _ => 0)))), (nw, .inr (7, [.int 0, .int 0, .int 0, .ref n0, .ref n1, .ref n2, .ref n3, .ref n4, .ref n5, .ref n6])), (n0, .inl (y 0, 9, .inl (fun _ => 0))), (n1, .inl (y 0, 9, .inl (fun _ => 0))), (n2, .inl (y 1, 9, .inr (.inl (fun _ => 0)))), (n3, .inl (y 0, 6, .inl (fun _ => 0))), (n4, .inl (y 0, 6, .inl (fun _ => 0))), (n5, .inl (y 0, 16, .inl (fun _ => 0))), (n6, .inl (y 1, 5, .inr (.inl (fun _ => 0)))), (k, .inr (2, [.int 0, .int 1, .int 1, .int 0, .ref g, .int 0, .ref vn, .ref vg, .ref t, .ref r, .int 0, .int 0, .int 9999, .int 0])), (tr, .inr (7, [.int 0, .int 0, .int 0, .ref m0, .ref m1, .ref m2, .ref m3, .ref m4, .ref m5, .ref m6]))]) rfl ?_
                            refine j_st (st' := [.int 1]) rfl ?_
                            exact j_iret (pc := 51) C hr rfl () (by decide) [] rfl (by decide) (by decide) (by decide) d_Nine_rows_51
                          · by_cases e3_11 : n = 12
                            · subst e3_11
                              refine j_aload_n (pc := 11) C d_Nine_rows_11 rfl 0 rfl ?_
                              refine j_get (pc := 12) C gf_Nine_24 0 rfl rfl d_Nine_rows_12 ?_
                              refine j_get (pc := 15) C gf_Nine_124 10 rfl rfl d_Nine_rows_15 ?_
                              refine j_iload_n (pc := 18) C d_Nine_rows_18 rfl 1 rfl ?_
                              refine j_iadd (pc := 19) C (v := 12) d_Nine_rows_19 (by decide) ?_
                              refine j_sipush (pc := 20) C (v := 999) d_Nine_rows_20 (by decide) ?_
                              refine j_icmp_leT (pc := 23) C (tgt := 28) d_Nine_rows_23 (by decide) (by decide) ?_
                              refine j_aload_n (pc := 28) C d_Nine_rows_28 rfl 0 rfl ?_
                              refine j_get (pc := 29) C gf_Nine_28 0 rfl rfl d_Nine_rows_29 ?_
                              refine j_aload_n (pc := 32) C d_Nine_rows_32 rfl 0 rfl ?_
                              refine j_get (pc := 33) C gf_Nine_24 0 rfl rfl d_Nine_rows_33 ?_
                              refine j_callVv (pc := 36) C (c_take l D y tr m0 m1 m2 m3 m4 m5 m6 dt nw n0 n1 n2 n3 n4 n5 n6 0) kw_Nine_160 kv_State_take 0 7 rfl rfl ⟨by decide, by decide⟩ ⟨by decide, by decide⟩ (wr := [(x, .inr (9, [.ref tp, .ref pi, .ref nw, .ref tr, .ref ps, .ref k, .ref k2, .ref rd, .ref pl, .int 1])), (k, .inr (2, [.int 0, .int 1, .int 1, .int 0, .ref g, .int 0, .ref vn, .ref vg, .ref t, .ref r, .int 0, .int 0, .int 9999, .int 0]))]) [2, 3, 4, 5, 6, 7, 8, 9, 10, 11, 12, 13, 14, 15, 16, 17] [0, 1] rfl rfl (by decide) (by decide) (by decide) (As := [.ref nw]) (rest := []) rfl (nb rfl) rfl d_Nine_rows_36 (fun _ _ => ?_)
                              refine j_ws (ws' := [(x, .inr (9, [.ref tp, .ref pi, .ref nw, .ref tr, .ref ps, .ref k, .ref k2, .ref rd, .ref pl, .int 1])), (k, .inr (2, [.int 0, .int 1, .int 1, .int 0, .ref g, .int 0, .ref vn, .ref vg, .ref t, .ref r, .int 0, .int 0, .int 9999, .int 0])), (tr, .inr (7, [.int 0, .int 0, .int 0, .ref m0, .ref m1, .ref m2, .ref m3, .ref m4, .ref m5, .ref m6])), (m0, .inl (y 0, 9, .inl (fun _ => 0))), (m1, .inl (y 0, 9, .inl (fun _ => 0))), (m2, .inl (y 1, 9, .inr (.inl (fun _ => 0)))), (m3, .inl (y 0, 6, .inl (fun _ => 0))), (m4, .inl (y 0, 6, .inl (fun _ => 0))), (m5, .inl (y 0, 16, .inl (fun _ => 0))), (m6, .inl (y 1, 5, .inr (.inl (fun _ => 0)))), (nw, .inr (7, [.int 0, .int 0, .int 0, .ref n0, .ref n1, .ref n2, .ref n3, .ref n4, .ref n5, .ref n6])), (n0, .inl (y 0, 9, .inl (fun _ => 0))), (n1, .inl (y 0, 9, .inl (fun _ => 0))), (n2, .inl (y 1, 9, .inr (.inl (fun _ => 0)))), (n3, .inl (y 0, 6, .inl (fun _ => 0))), (n4, .inl (y 0, 6, .inl (fun _ => 0))), (n5, .inl (y 0, 16, .inl (fun _ => 0))), (n6, .inl (y 1, 5, .inr (.inl (fun _ => 0))))]) rfl ?_
                              refine j_aload_n (pc := 39) C d_Nine_rows_39 rfl 0 rfl ?_
                              refine j_get (pc := 40) C gf_Nine_41 0 rfl rfl d_Nine_rows_40 ?_
                              refine j_aload_n (pc := 43) C d_Nine_rows_43 rfl 0 rfl ?_
                              refine j_get (pc := 44) C gf_Nine_28 0 rfl rfl d_Nine_rows_44 ?_
                              refine j_iload_n (pc := 47) C d_Nine_rows_47 rfl 1 rfl ?_
                              refine j_callSNi (pc := 48) C (c_countRows_12 l D y k tr g vn vg t r 0 m0 m1 m2 m3 m4 m5 m6) kw_Nine_243 ks_Days_countRows C.N.2.2.2.2.2.2.2 ⟨by decide, by decide⟩ ⟨by decide, by decide⟩ (wr := [(x, .inr (9, [.ref tp, .ref pi, .ref nw, .ref tr, .ref ps, .ref k, .ref k2, .ref rd, .ref pl, .int 1])), (m0, .inl (y 0, 9, .inl (fun _ => 0))), (m1, .inl (y 0, 9, .inl (fun _ => 0))), (m2, .inl (y 1, 9, .inr (.inl (fun _ => 0)))), (m3, .inl (y 0, 6, .inl (fun _ => 0))), (m4, .inl (y 0, 6, .inl (fun _ => 0))), (m5, .inl (y 0, 16, .inl (fun _ => 0))), (m6, .inl (y 1, 5, .inr (.inl (fun _ => 0)))), (nw, .inr (7, [.int 0, .int 0, .int 0, .ref n0, .ref n1, .ref n2, .ref n3, .ref n4, .ref n5, .ref n6])), (n0, .inl (y 0, 9, .inl (fun _ => 0))), (n1, .inl (y 0, 9, .inl (fun _ => 0))), (n2, .inl (y 1, 9, .inr (.inl (fun _ => 0)))), (n3, .inl (y 0, 6, .inl (fun _ => 0))), (n4, .inl (y 0, 6, .inl (fun _ => 0))), (n5, .inl (y 0, 16, .inl (fun _ => 0))), (n6, .inl (y 1, 5, .inr (.inl (fun _ => 0))))]) [1, 2] [0, 3, 4, 5, 6, 7, 8, 9, 10, 11, 12, 13, 14, 15, 16, 17] rfl rfl (by decide) (by decide) (by decide) (As := [.ref k, .ref tr, .int 12]) (rest := []) rfl (nb rfl) rfl d_Nine_rows_48 (fun r15 _ hr15 => ?_)
                              subst hr15
                              refine j_ws (ws' := [(x, .inr (9, [.ref tp, .ref pi, .ref nw, .ref tr, .ref ps, .ref k, .ref k2, .ref rd, .ref pl, .int 1])), (m0, .inl (y 0, 9, .inl (fun _ => 0))), (m1, .inl (y 0, 9, .inl (fun _ => 0))), (m2, .inl (y 1, 9, .inr (.inl (fun _ => 0)))), (m3, .inl (y 0, 6, .inl (fun _ => 0))), (m4, .inl (y 0, 6, .inl (fun _ => 0))), (m5, .inl (y 0, 16, .inl (fun _ => 0))), (m6, .inl (y 1, 5, .inr (.inl (fun _ => 0)))), (nw, .inr (7, [.int 0, .int 0, .int 0, .ref n0, .ref n1, .ref n2, .ref n3, .ref n4, .ref n5, .ref n6])), (n0, .inl (y 0, 9, .inl (fun _ => 0))), (n1, .inl (y 0, 9, .inl (fun _ => 0))), (n2, .inl (y 1, 9, .inr (.inl (fun _ => 0)))), (n3, .inl (y 0, 6, .inl (fun _ => 0))), (n4, .inl (y 0, 6, .inl (fun _ => 0))), (n5, .inl (y 0, 16, .inl (fun _ => 0))), (n6, .inl (y 1, 5, .inr (.inl (fun _ => 0)))), (k, .inr (2, [.int 0, .int 1, .int 1, .int 0, .ref g, .int 0, .ref vn, .ref vg, .ref t, .ref r, .int 0, .int 0, .int 9999, .int 0])), (tr, .inr (7, [.int 0, .int 0, .int 0, .ref m0, .ref m1, .ref m2, .ref m3, .ref m4, .ref m5, .ref m6]))]) rfl ?_
                              refine j_st (st' := [.int 1]) rfl ?_
                              exact j_iret (pc := 51) C hr rfl () (by decide) [] rfl (by decide) (by decide) (by decide) d_Nine_rows_51
                            · exfalso; simp only [Int32.lt_iff_toInt_lt, Int32.le_iff_toInt_le, ← Int32.toInt_inj, (by decide : Int32.toInt 0 = 0), (by decide : Int32.toInt 1 = 1), (by decide : Int32.toInt 2 = 2), (by decide : Int32.toInt 3 = 3), (by decide : Int32.toInt 4 = 4), (by decide : Int32.toInt 5 = 5), (by decide : Int32.toInt 6 = 6), (by decide : Int32.toInt 7 = 7), (by decide : Int32.toInt 8 = 8), (by decide : Int32.toInt 9 = 9), (by decide : Int32.toInt 10 = 10), (by decide : Int32.toInt 11 = 11), (by decide : Int32.toInt 12 = 12), (by decide : Int32.toInt 999 = 999)] at c1 c2 e3_0 e3_1 e3_2 e3_3 e3_4 e3_5 e3_6 e3_7 e3_8 e3_9 e3_10 e3_11; omega
