theorem d_Days_countRows_0 : decode prog_3_method_14_code 0 = .ok (.iload_n 2, 1) := by decide +kernel
theorem d_Days_countRows_1 : decode prog_3_method_14_code 1 = .ok (.ifCond .gt 5, 3) := by decide +kernel
theorem d_Days_countRows_4 : decode prog_3_method_14_code 4 = .ok (.iconst 1, 1) := by decide +kernel
theorem d_Days_countRows_5 : decode prog_3_method_14_code 5 = .ok (.ireturn, 1) := by decide +kernel
set_option maxHeartbeats 4000000 in
set_option maxRecDepth 100000 in
theorem c_countRows_0 (l : Launch) (D : va_G) (y : Nat → ClassId) (ad : Nat → Nat) (d : LD) (n4 : Nat) (h : Nat) (sa : Nat → Nat) (sd : Int32) (sw : Int32) (sl : Int32) (f0 : Nat → Int32) (k : Nat) (h4 : d.1 4 = nI n4) (b4 : n4 ≤ 6) (hJ : ∀ j, j < 9 → d.2 6 j = -1 ∨ ∃ q, q < 9 ∧ d.2 6 j = nI q) (hV : ∀ j, j < n4 → ∃ q, q < 9 ∧ d.2 8 j = nI q) (hk : k ≤ 0) : CT l D y ⟨"NineBoards$Days", "countRows", "(LNineBoards$Lake;LNineBoards$State;I)I"⟩ prog_3_method_14_code 6 (some .int) ({ frames := 0, cells := 0, slots := 0, locals := 0 } : Room) [.ref (ad 0), .ref h, .int (nI k)] [(ad 0, .inr (2, [.int (d.1 0), .int (d.1 1), .int (d.1 2), .int (d.1 3), .ref (ad 1), .int (d.1 4), .ref (ad 11), .ref (ad 12), .ref (ad 2), .ref (ad 3), .int (d.1 5), .int (d.1 6), .int (d.1 7), .int (d.1 8)])), (ad 1, .inr (1, [.int (d.1 9), .ref (ad 4), .ref (ad 5), .ref (ad 6), .ref (ad 7), .ref (ad 8), .ref (ad 9), .ref (ad 10)])), (ad 10, .inl (y 0, 9, .inl (d.2 6))), (ad 12, .inl (y 0, 6, .inl (d.2 8))), (h, .inr (7, [.int sd, .int sw, .int sl, .ref (sa 0), .ref (sa 1), .ref (sa 2), .ref (sa 3), .ref (sa 4), .ref (sa 5), .ref (sa 6)])), (sa 0, .inl (y 0, 9, .inl f0))] (QI D [(ad 0, .inr (2, [.int (d.1 0), .int (d.1 1), .int (d.1 2), .int (d.1 3), .ref (ad 1), .int (d.1 4), .ref (ad 11), .ref (ad 12), .ref (ad 2), .ref (ad 3), .int (d.1 5), .int (d.1 6), .int (d.1 7), .int (d.1 8)])), (ad 1, .inr (1, [.int (d.1 9), .ref (ad 4), .ref (ad 5), .ref (ad 6), .ref (ad 7), .ref (ad 8), .ref (ad 9), .ref (ad 10)])), (ad 10, .inl (y 0, 9, .inl (d.2 6))), (ad 12, .inl (y 0, 6, .inl (d.2 8))), (h, .inr (7, [.int sd, .int sw, .int sl, .ref (sa 0), .ref (sa 1), .ref (sa 2), .ref (sa 3), .ref (sa 4), .ref (sa 5), .ref (sa 6)])), (sa 0, .inl (y 0, 9, .inl f0))] (fun (r : Int32) (u : Int32 × Int32 × (Nat → Int32)) => True) (fun u => [(ad 0, .inr (2, [.int (d.1 0), .int (d.1 1), .int (d.1 2), .int (d.1 3), .ref (ad 1), .int (d.1 4), .ref (ad 11), .ref (ad 12), .ref (ad 2), .ref (ad 3), .int (d.1 5), .int (d.1 6), .int (d.1 7), .int (d.1 8)])), (ad 1, .inr (1, [.int (d.1 9), .ref (ad 4), .ref (ad 5), .ref (ad 6), .ref (ad 7), .ref (ad 8), .ref (ad 9), .ref (ad 10)])), (ad 10, .inl (y 0, 9, .inl (d.2 6))), (ad 12, .inl (y 0, 6, .inl (d.2 8))), (h, .inr (7, [.int u.1, .int sw, .int u.2.1, .ref (sa 0), .ref (sa 1), .ref (sa 2), .ref (sa 3), .ref (sa 4), .ref (sa 5), .ref (sa 6)])), (sa 0, .inl (y 0, 9, .inl u.2.2))])) := by
  refine CT.of (by decide) (nb rfl) ?_
  intro p e s m args below meth c C hr
  refine j_lv (lv' := [(0, .ref (ad 0)), (1, .ref h), (2, .int (nI k))]) rfl ?_
  refine j_iload_n (pc := 0) C d_Days_countRows_0 rfl 2 rfl ?_
  refine j_if_gtF (pc := 1) C (tgt := 6) d_Days_countRows_1 (by decide) (show ¬ 0 < nI k from by rw [show k = 0 by omega]; decide) ?_
  refine j_iconst (pc := 4) C (v := 1) d_Days_countRows_4 (by decide) ?_
  exact j_iret (pc := 5) C hr rfl (sd, sl, f0) trivial [0, 1, 2, 3, 4, 5] rfl (by decide) (by decide) (by decide) d_Days_countRows_5
theorem d_Days_countRows_17 : decode prog_3_method_14_code 17 = .ok (.iload 5, 2) := by decide +kernel
theorem d_Days_countRows_19 : decode prog_3_method_14_code 19 = .ok (.iconst 3, 1) := by decide +kernel
theorem d_Days_countRows_20 : decode prog_3_method_14_code 20 = .ok (.if_icmp .ge 93, 3) := by decide +kernel
theorem d_Days_countRows_23 : decode prog_3_method_14_code 23 = .ok (.aload_n 0, 1) := by decide +kernel
theorem d_Days_countRows_24 : decode prog_3_method_14_code 24 = .ok (.aload_n 1, 1) := by decide +kernel
theorem d_Days_countRows_25 : decode prog_3_method_14_code 25 = .ok (.aload_n 0, 1) := by decide +kernel
theorem d_Days_countRows_26 : decode prog_3_method_14_code 26 = .ok (.aload_n 1, 1) := by decide +kernel
theorem d_Days_countRows_27 : decode prog_3_method_14_code 27 = .ok (.getfield 59, 3) := by decide +kernel
theorem d_Days_countRows_30 : decode prog_3_method_14_code 30 = .ok (.invokevirtual 109, 3) := by decide +kernel
theorem d_Days_countRows_33 : decode prog_3_method_14_code 33 = .ok (.iload 5, 2) := by decide +kernel
theorem d_Days_countRows_35 : decode prog_3_method_14_code 35 = .ok (.iconst 0, 1) := by decide +kernel
theorem d_Days_countRows_36 : decode prog_3_method_14_code 36 = .ok (.invokestatic 43, 3) := by decide +kernel
theorem d_Days_countRows_39 : decode prog_3_method_14_code 39 = .ok (.ifCond .eq 68, 3) := by decide +kernel
theorem d_Days_countRows_107 : decode prog_3_method_14_code 107 = .ok (.iinc 5 1, 3) := by decide +kernel
theorem d_Days_countRows_110 : decode prog_3_method_14_code 110 = .ok (.goto (-93), 3) := by decide +kernel
theorem d_Days_countRows_42 : decode prog_3_method_14_code 42 = .ok (.aload_n 0, 1) := by decide +kernel
theorem d_Days_countRows_43 : decode prog_3_method_14_code 43 = .ok (.aload_n 1, 1) := by decide +kernel
theorem d_Days_countRows_44 : decode prog_3_method_14_code 44 = .ok (.iload 5, 2) := by decide +kernel
theorem d_Days_countRows_46 : decode prog_3_method_14_code 46 = .ok (.invokestatic 47, 3) := by decide +kernel
theorem d_Days_countRows_49 : decode prog_3_method_14_code 49 = .ok (.aload_n 1, 1) := by decide +kernel
theorem d_Days_countRows_50 : decode prog_3_method_14_code 50 = .ok (.dup, 1) := by decide +kernel
theorem d_Days_countRows_51 : decode prog_3_method_14_code 51 = .ok (.getfield 59, 3) := by decide +kernel
theorem d_Days_countRows_54 : decode prog_3_method_14_code 54 = .ok (.iconst 1, 1) := by decide +kernel
theorem d_Days_countRows_55 : decode prog_3_method_14_code 55 = .ok (.iadd, 1) := by decide +kernel
theorem d_Days_countRows_56 : decode prog_3_method_14_code 56 = .ok (.putfield 59, 3) := by decide +kernel
theorem d_Days_countRows_59 : decode prog_3_method_14_code 59 = .ok (.iload_n 3, 1) := by decide +kernel
theorem d_Days_countRows_60 : decode prog_3_method_14_code 60 = .ok (.aload_n 0, 1) := by decide +kernel
theorem d_Days_countRows_61 : decode prog_3_method_14_code 61 = .ok (.aload_n 1, 1) := by decide +kernel
theorem d_Days_countRows_62 : decode prog_3_method_14_code 62 = .ok (.iload_n 2, 1) := by decide +kernel
theorem d_Days_countRows_63 : decode prog_3_method_14_code 63 = .ok (.iconst 1, 1) := by decide +kernel
theorem d_Days_countRows_64 : decode prog_3_method_14_code 64 = .ok (.isub, 1) := by decide +kernel
theorem d_Days_countRows_65 : decode prog_3_method_14_code 65 = .ok (.invokestatic 159, 3) := by decide +kernel
theorem kw_Days_159 : KW "NineBoards$Days" 159 ⟨"NineBoards$Days", "countRows", "(LNineBoards$Lake;LNineBoards$State;I)I"⟩ prog_3_method_14_code 6 (some .int) 3 := ⟨(mt_4 (List.mem_of_getElem? (i := 160) rfl) rfl), (mt_1 (List.mem_of_getElem? (i := 18) rfl) rfl), (mt_4 (List.mem_of_getElem? (i := 159) rfl) rfl), by decide +kernel⟩
theorem ks_Days_countRows : Cond.static ⟨"NineBoards$Days", "countRows", "(LNineBoards$Lake;LNineBoards$State;I)I"⟩ ∈ TB := (mt_4 (List.mem_of_getElem? (i := 158) rfl) rfl)
theorem d_Days_countRows_68 : decode prog_3_method_14_code 68 = .ok (.iadd, 1) := by decide +kernel
theorem d_Days_countRows_69 : decode prog_3_method_14_code 69 = .ok (.istore_n 3, 1) := by decide +kernel
theorem d_Days_countRows_70 : decode prog_3_method_14_code 70 = .ok (.aload_n 1, 1) := by decide +kernel
theorem d_Days_countRows_71 : decode prog_3_method_14_code 71 = .ok (.dup, 1) := by decide +kernel
theorem d_Days_countRows_72 : decode prog_3_method_14_code 72 = .ok (.getfield 59, 3) := by decide +kernel
theorem d_Days_countRows_75 : decode prog_3_method_14_code 75 = .ok (.iconst 1, 1) := by decide +kernel
theorem d_Days_countRows_76 : decode prog_3_method_14_code 76 = .ok (.isub, 1) := by decide +kernel
theorem d_Days_countRows_77 : decode prog_3_method_14_code 77 = .ok (.putfield 59, 3) := by decide +kernel
theorem d_Days_countRows_80 : decode prog_3_method_14_code 80 = .ok (.iload 5, 2) := by decide +kernel
theorem d_Days_countRows_82 : decode prog_3_method_14_code 82 = .ok (.ifCond .eq 19, 3) := by decide +kernel
theorem d_Days_countRows_101 : decode prog_3_method_14_code 101 = .ok (.aload_n 1, 1) := by decide +kernel
theorem d_Days_countRows_102 : decode prog_3_method_14_code 102 = .ok (.iload 4, 2) := by decide +kernel
theorem d_Days_countRows_104 : decode prog_3_method_14_code 104 = .ok (.putfield 15, 3) := by decide +kernel
theorem d_Days_countRows_85 : decode prog_3_method_14_code 85 = .ok (.aload_n 0, 1) := by decide +kernel
theorem d_Days_countRows_86 : decode prog_3_method_14_code 86 = .ok (.aload_n 1, 1) := by decide +kernel
theorem d_Days_countRows_87 : decode prog_3_method_14_code 87 = .ok (.iload 5, 2) := by decide +kernel
theorem d_Days_countRows_89 : decode prog_3_method_14_code 89 = .ok (.iconst 1, 1) := by decide +kernel
theorem d_Days_countRows_90 : decode prog_3_method_14_code 90 = .ok (.if_icmp .ne 7, 3) := by decide +kernel
theorem d_Days_countRows_97 : decode prog_3_method_14_code 97 = .ok (.iconst (-1), 1) := by decide +kernel
theorem d_Days_countRows_98 : decode prog_3_method_14_code 98 = .ok (.invokestatic 106, 3) := by decide +kernel
theorem d_Days_countRows_93 : decode prog_3_method_14_code 93 = .ok (.iconst 1, 1) := by decide +kernel
theorem d_Days_countRows_94 : decode prog_3_method_14_code 94 = .ok (.goto 4, 3) := by decide +kernel
theorem d_Days_countRows_6 : decode prog_3_method_14_code 6 = .ok (.iconst 0, 1) := by decide +kernel
theorem d_Days_countRows_7 : decode prog_3_method_14_code 7 = .ok (.istore_n 3, 1) := by decide +kernel
theorem d_Days_countRows_8 : decode prog_3_method_14_code 8 = .ok (.aload_n 1, 1) := by decide +kernel
theorem d_Days_countRows_9 : decode prog_3_method_14_code 9 = .ok (.getfield 15, 3) := by decide +kernel
theorem d_Days_countRows_12 : decode prog_3_method_14_code 12 = .ok (.istore 4, 2) := by decide +kernel
theorem d_Days_countRows_14 : decode prog_3_method_14_code 14 = .ok (.iconst 0, 1) := by decide +kernel
theorem d_Days_countRows_15 : decode prog_3_method_14_code 15 = .ok (.istore 5, 2) := by decide +kernel
theorem d_Days_countRows_113 : decode prog_3_method_14_code 113 = .ok (.iload_n 3, 1) := by decide +kernel
theorem d_Days_countRows_114 : decode prog_3_method_14_code 114 = .ok (.ireturn, 1) := by decide +kernel
set_option maxHeartbeats 4000000 in
set_option maxRecDepth 100000 in
theorem lp_rows_1 {p : Program} {l : Launch} {e : Env} {s : State} {m : MethodId} {args : Array Value} {below : List Frame} {meth : Method} {c : Code} {Q : State → Prop} {D : va_G} {y : Nat → ClassId} {A : Nat → Prop} (C : Cx p s m args meth c D y A prog_3_method_14_code 6 "NineBoards$Days" "countRows") (ad : Nat → Nat) (d : LD) (n4 : Nat) (h : Nat) (sa : Nat → Nat) (sw : Int32) (q : Nat) (la : Int32) (h4 : d.1 4 = nI n4) (b4 : n4 ≤ 6) (hJ : ∀ j, j < 9 → d.2 6 j = -1 ∨ ∃ q, q < 9 ∧ d.2 6 j = nI q) (hV : ∀ j, j < n4 → ∃ q, q < 9 ∧ d.2 8 j = nI q) (hq : q + 1 ≤ 1) (kx : ∀ (rs sd sl : Int32) (f0 : Nat → Int32), J p l e ({ frames := 4, cells := 0, slots := 0, locals := 90 } : Room) s m args below meth c Q D A 6 [(ad 0, .inr (2, [.int (d.1 0), .int (d.1 1), .int (d.1 2), .int (d.1 3), .ref (ad 1), .int (d.1 4), .ref (ad 11), .ref (ad 12), .ref (ad 2), .ref (ad 3), .int (d.1 5), .int (d.1 6), .int (d.1 7), .int (d.1 8)])), (ad 1, .inr (1, [.int (d.1 9), .ref (ad 4), .ref (ad 5), .ref (ad 6), .ref (ad 7), .ref (ad 8), .ref (ad 9), .ref (ad 10)])), (ad 10, .inl (y 0, 9, .inl (d.2 6))), (ad 12, .inl (y 0, 6, .inl (d.2 8))), (h, .inr (7, [.int sd, .int sw, .int sl, .ref (sa 0), .ref (sa 1), .ref (sa 2), .ref (sa 3), .ref (sa 4), .ref (sa 5), .ref (sa 6)])), (sa 0, .inl (y 0, 9, .inl f0))] [(0, .ref (ad 0)), (1, .ref h), (2, .int (nI (q + 1))), (3, .int rs), (4, .int la), (5, .int (nI 3))] 0 0 113 []) : ∀ (n : Nat) (a : Nat) (rs : Int32) (sd : Int32) (sl : Int32) (f0 : Nat → Int32), (a + n = 3) → J p l e ({ frames := 4, cells := 0, slots := 0, locals := 90 } : Room) s m args below meth c Q D A 6 [(ad 0, .inr (2, [.int (d.1 0), .int (d.1 1), .int (d.1 2), .int (d.1 3), .ref (ad 1), .int (d.1 4), .ref (ad 11), .ref (ad 12), .ref (ad 2), .ref (ad 3), .int (d.1 5), .int (d.1 6), .int (d.1 7), .int (d.1 8)])), (ad 1, .inr (1, [.int (d.1 9), .ref (ad 4), .ref (ad 5), .ref (ad 6), .ref (ad 7), .ref (ad 8), .ref (ad 9), .ref (ad 10)])), (ad 10, .inl (y 0, 9, .inl (d.2 6))), (ad 12, .inl (y 0, 6, .inl (d.2 8))), (h, .inr (7, [.int sd, .int sw, .int sl, .ref (sa 0), .ref (sa 1), .ref (sa 2), .ref (sa 3), .ref (sa 4), .ref (sa 5), .ref (sa 6)])), (sa 0, .inl (y 0, 9, .inl f0))] [(0, .ref (ad 0)), (1, .ref h), (2, .int (nI (q + 1))), (3, .int rs), (4, .int la), (5, .int (nI a))] 0 0 17 [] := by
  intro n
  induction n with
  | zero =>
    intro a rs sd sl f0 ha
    obtain rfl : a = 3 := by omega
    refine j_iload (pc := 17) C d_Days_countRows_17 5 rfl ?_
    refine j_iconst (pc := 19) C (v := 3) d_Days_countRows_19 (by decide) ?_
    refine j_icmp_geT (pc := 20) C (tgt := 113) d_Days_countRows_20 (by decide) (by decide) ?_
    exact kx _ _ _ _
  | succ n ih =>
    intro a rs sd sl f0 ha
    refine j_iload (pc := 17) C d_Days_countRows_17 5 rfl ?_
    refine j_iconst (pc := 19) C (v := 3) d_Days_countRows_19 (by decide) ?_
    refine j_icmp_geF (pc := 20) C (tgt := 113) d_Days_countRows_20 (by decide) (show ¬ nI 3 ≤ nI a from nI_ge (by omega) (by decide)) ?_
    refine j_aload_n (pc := 23) C d_Days_countRows_23 rfl 0 rfl ?_
    refine j_aload_n (pc := 24) C d_Days_countRows_24 rfl 1 rfl ?_
    refine j_aload_n (pc := 25) C d_Days_countRows_25 rfl 0 rfl ?_
    refine j_aload_n (pc := 26) C d_Days_countRows_26 rfl 1 rfl ?_
    refine j_get (pc := 27) C gf_Days_59 4 rfl rfl d_Days_countRows_27 ?_
    refine j_callVi (pc := 30) C (c_villageOn l D y ad d n4 sd h4 b4) kw_Days_109 kv_Lake_villageOn 0 2 rfl rfl ⟨by decide, by decide⟩ ⟨by decide, by decide⟩ (wr := [(ad 1, .inr (1, [.int (d.1 9), .ref (ad 4), .ref (ad 5), .ref (ad 6), .ref (ad 7), .ref (ad 8), .ref (ad 9), .ref (ad 10)])), (ad 10, .inl (y 0, 9, .inl (d.2 6))), (ad 12, .inl (y 0, 6, .inl (d.2 8))), (h, .inr (7, [.int sd, .int sw, .int sl, .ref (sa 0), .ref (sa 1), .ref (sa 2), .ref (sa 3), .ref (sa 4), .ref (sa 5), .ref (sa 6)])), (sa 0, .inl (y 0, 9, .inl f0))]) [0] [1, 2, 3, 4, 5] rfl rfl (by decide +kernel) (by decide +kernel) (by decide +kernel) (As := [.int sd]) (rest := [.ref h, .ref (ad 0)]) rfl (nb rfl) rfl d_Days_countRows_30 (fun r1 _ hr1 => ?_)
    refine j_ws (ws' := [(ad 1, .inr (1, [.int (d.1 9), .ref (ad 4), .ref (ad 5), .ref (ad 6), .ref (ad 7), .ref (ad 8), .ref (ad 9), .ref (ad 10)])), (ad 10, .inl (y 0, 9, .inl (d.2 6))), (ad 12, .inl (y 0, 6, .inl (d.2 8))), (h, .inr (7, [.int sd, .int sw, .int sl, .ref (sa 0), .ref (sa 1), .ref (sa 2), .ref (sa 3), .ref (sa 4), .ref (sa 5), .ref (sa 6)])), (sa 0, .inl (y 0, 9, .inl f0)), (ad 0, .inr (2, [.int (d.1 0), .int (d.1 1), .int (d.1 2), .int (d.1 3), .ref (ad 1), .int (d.1 4), .ref (ad 11), .ref (ad 12), .ref (ad 2), .ref (ad 3), .int (d.1 5), .int (d.1 6), .int (d.1 7), .int (d.1 8)]))]) rfl ?_
    rcases hr1 with rfl | ⟨j2, xh3, rfl⟩
    · refine j_iload (pc := 33) C d_Days_countRows_33 5 rfl ?_
      refine j_iconst (pc := 35) C (v := 0) d_Days_countRows_35 (by decide) ?_
      refine j_callSi (pc := 36) C (c_allows l D y ad d n4 h sa sd sw sl f0 (-1) (nI a) 0 h4 b4 hJ hV) kw_Days_43 ks_Days_allows ⟨by decide, by decide⟩ ⟨by decide, by decide⟩ (wr := []) [5, 0, 1, 2, 3, 4] [] rfl rfl (by decide +kernel) (by decide +kernel) (by decide +kernel) (As := [.ref (ad 0), .ref h, .int (-1), .int (nI a), .int 0]) (rest := []) rfl (nb rfl) rfl d_Days_countRows_36 (fun r4 _ hr4 => ?_)
      refine j_ws (ws' := [(ad 0, .inr (2, [.int (d.1 0), .int (d.1 1), .int (d.1 2), .int (d.1 3), .ref (ad 1), .int (d.1 4), .ref (ad 11), .ref (ad 12), .ref (ad 2), .ref (ad 3), .int (d.1 5), .int (d.1 6), .int (d.1 7), .int (d.1 8)])), (ad 1, .inr (1, [.int (d.1 9), .ref (ad 4), .ref (ad 5), .ref (ad 6), .ref (ad 7), .ref (ad 8), .ref (ad 9), .ref (ad 10)])), (ad 10, .inl (y 0, 9, .inl (d.2 6))), (ad 12, .inl (y 0, 6, .inl (d.2 8))), (h, .inr (7, [.int sd, .int sw, .int sl, .ref (sa 0), .ref (sa 1), .ref (sa 2), .ref (sa 3), .ref (sa 4), .ref (sa 5), .ref (sa 6)])), (sa 0, .inl (y 0, 9, .inl f0))]) rfl ?_
      refine j_if_eq (pc := 39) C (tgt := 107) d_Days_countRows_39 (by decide) (fun c5 => ?_) (fun c5 => ?_)
      · refine j_iinc (pc := 107) C (v := nI (a + 1)) (lv' := [(5, .int (nI (a + 1))), (0, .ref (ad 0)), (1, .ref h), (2, .int (nI (q + 1))), (3, .int rs), (4, .int la)]) d_Days_countRows_107 5 rfl (nI_1 _) (by decide) rfl ?_
        refine j_goto (pc := 110) C (tgt := 17) d_Days_countRows_110 (by decide) ?_
        refine j_locs (lv' := [(0, .ref (ad 0)), (1, .ref h), (2, .int (nI (q + 1))), (3, .int rs), (4, .int la), (5, .int (nI (a + 1)))]) [1, 2, 3, 4, 5, 0] rfl ?_
        exact ih (a + 1) _ _ _ _ (by omega)
      · refine j_aload_n (pc := 42) C d_Days_countRows_42 rfl 0 rfl ?_
        refine j_aload_n (pc := 43) C d_Days_countRows_43 rfl 1 rfl ?_
        refine j_iload (pc := 44) C d_Days_countRows_44 5 rfl ?_
        refine j_callSv (pc := 46) C (c_doAct l D y ad d n4 h sa sd sw sl f0 (nI a) h4 b4 hJ hV) kw_Days_47 ks_Days_doAct ⟨by decide, by decide⟩ ⟨by decide, by decide⟩ (wr := []) [0, 1, 2, 3, 4, 5] [] rfl rfl (by decide +kernel) (by decide +kernel) (by decide +kernel) (As := [.ref (ad 0), .ref h, .int (nI a)]) (rest := []) rfl (nb rfl) rfl d_Days_countRows_46 (fun u6 _ => ?_)
        refine j_ws (ws' := [(ad 0, .inr (2, [.int (d.1 0), .int (d.1 1), .int (d.1 2), .int (d.1 3), .ref (ad 1), .int (d.1 4), .ref (ad 11), .ref (ad 12), .ref (ad 2), .ref (ad 3), .int (d.1 5), .int (d.1 6), .int (d.1 7), .int (d.1 8)])), (ad 1, .inr (1, [.int (d.1 9), .ref (ad 4), .ref (ad 5), .ref (ad 6), .ref (ad 7), .ref (ad 8), .ref (ad 9), .ref (ad 10)])), (ad 10, .inl (y 0, 9, .inl (d.2 6))), (ad 12, .inl (y 0, 6, .inl (d.2 8))), (h, .inr (7, [.int sd, .int sw, .int u6.1, .ref (sa 0), .ref (sa 1), .ref (sa 2), .ref (sa 3), .ref (sa 4), .ref (sa 5), .ref (sa 6)])), (sa 0, .inl (y 0, 9, .inl u6.2))]) rfl ?_
        refine j_aload_n (pc := 49) C d_Days_countRows_49 rfl 1 rfl ?_
        refine j_dup (pc := 50) C d_Days_countRows_50 rfl ?_
        refine j_get (pc := 51) C gf_Days_59 4 rfl rfl d_Days_countRows_51 ?_
        refine j_iconst (pc := 54) C (v := 1) d_Days_countRows_54 (by decide) ?_
        refine j_iadd (pc := 55) C (v := sd + 1) d_Days_countRows_55 rfl ?_
        refine j_put (pc := 56) C pf_Days_59 4 (ws' := [(ad 0, .inr (2, [.int (d.1 0), .int (d.1 1), .int (d.1 2), .int (d.1 3), .ref (ad 1), .int (d.1 4), .ref (ad 11), .ref (ad 12), .ref (ad 2), .ref (ad 3), .int (d.1 5), .int (d.1 6), .int (d.1 7), .int (d.1 8)])), (ad 1, .inr (1, [.int (d.1 9), .ref (ad 4), .ref (ad 5), .ref (ad 6), .ref (ad 7), .ref (ad 8), .ref (ad 9), .ref (ad 10)])), (ad 10, .inl (y 0, 9, .inl (d.2 6))), (ad 12, .inl (y 0, 6, .inl (d.2 8))), (h, .inr (7, [.int (sd + 1), .int sw, .int u6.1, .ref (sa 0), .ref (sa 1), .ref (sa 2), .ref (sa 3), .ref (sa 4), .ref (sa 5), .ref (sa 6)])), (sa 0, .inl (y 0, 9, .inl u6.2))]) rfl rfl rfl (nl rfl) rfl d_Days_countRows_56 ?_
        refine j_iload_n (pc := 59) C d_Days_countRows_59 rfl 3 rfl ?_
        refine j_aload_n (pc := 60) C d_Days_countRows_60 rfl 0 rfl ?_
        refine j_aload_n (pc := 61) C d_Days_countRows_61 rfl 1 rfl ?_
        refine j_iload_n (pc := 62) C d_Days_countRows_62 rfl 2 rfl ?_
        refine j_iconst (pc := 63) C (v := 1) d_Days_countRows_63 (by decide) ?_
        refine j_isub (pc := 64) C (v := nI q) d_Days_countRows_64 (nI_pred q) ?_
        refine j_callSi (pc := 65) C (c_countRows_0 l D y ad d n4 h sa (sd + 1) sw u6.1 u6.2 q h4 b4 hJ hV (by omega)) kw_Days_159 ks_Days_countRows ⟨by decide, by decide⟩ ⟨by decide, by decide⟩ (wr := []) [0, 1, 2, 3, 4, 5] [] rfl rfl (by decide +kernel) (by decide +kernel) (by decide +kernel) (As := [.ref (ad 0), .ref h, .int (nI q)]) (rest := [.int rs]) rfl (nb rfl) rfl d_Days_countRows_65 (fun r7 u8 hr7 => ?_)
        refine j_ws (ws' := [(ad 0, .inr (2, [.int (d.1 0), .int (d.1 1), .int (d.1 2), .int (d.1 3), .ref (ad 1), .int (d.1 4), .ref (ad 11), .ref (ad 12), .ref (ad 2), .ref (ad 3), .int (d.1 5), .int (d.1 6), .int (d.1 7), .int (d.1 8)])), (ad 1, .inr (1, [.int (d.1 9), .ref (ad 4), .ref (ad 5), .ref (ad 6), .ref (ad 7), .ref (ad 8), .ref (ad 9), .ref (ad 10)])), (ad 10, .inl (y 0, 9, .inl (d.2 6))), (ad 12, .inl (y 0, 6, .inl (d.2 8))), (h, .inr (7, [.int u8.1, .int sw, .int u8.2.1, .ref (sa 0), .ref (sa 1), .ref (sa 2), .ref (sa 3), .ref (sa 4), .ref (sa 5), .ref (sa 6)])), (sa 0, .inl (y 0, 9, .inl u8.2.2))]) rfl ?_
        refine j_iadd (pc := 68) C (v := rs + r7) d_Days_countRows_68 rfl ?_
        refine j_istore_n (pc := 69) C (lv' := [(3, .int (rs + r7)), (0, .ref (ad 0)), (1, .ref h), (2, .int (nI (q + 1))), (4, .int la), (5, .int (nI a))]) d_Days_countRows_69 rfl (by decide) rfl ?_
        refine j_aload_n (pc := 70) C d_Days_countRows_70 rfl 2 rfl ?_
        refine j_dup (pc := 71) C d_Days_countRows_71 rfl ?_
        refine j_get (pc := 72) C gf_Days_59 4 rfl rfl d_Days_countRows_72 ?_
        refine j_iconst (pc := 75) C (v := 1) d_Days_countRows_75 (by decide) ?_
        refine j_isub (pc := 76) C (v := u8.1 - 1) d_Days_countRows_76 rfl ?_
        refine j_put (pc := 77) C pf_Days_59 4 (ws' := [(ad 0, .inr (2, [.int (d.1 0), .int (d.1 1), .int (d.1 2), .int (d.1 3), .ref (ad 1), .int (d.1 4), .ref (ad 11), .ref (ad 12), .ref (ad 2), .ref (ad 3), .int (d.1 5), .int (d.1 6), .int (d.1 7), .int (d.1 8)])), (ad 1, .inr (1, [.int (d.1 9), .ref (ad 4), .ref (ad 5), .ref (ad 6), .ref (ad 7), .ref (ad 8), .ref (ad 9), .ref (ad 10)])), (ad 10, .inl (y 0, 9, .inl (d.2 6))), (ad 12, .inl (y 0, 6, .inl (d.2 8))), (h, .inr (7, [.int (u8.1 - 1), .int sw, .int u8.2.1, .ref (sa 0), .ref (sa 1), .ref (sa 2), .ref (sa 3), .ref (sa 4), .ref (sa 5), .ref (sa 6)])), (sa 0, .inl (y 0, 9, .inl u8.2.2))]) rfl rfl rfl (nl rfl) rfl d_Days_countRows_77 ?_
        refine j_iload (pc := 80) C d_Days_countRows_80 5 rfl ?_
        refine j_if_eq (pc := 82) C (tgt := 101) d_Days_countRows_82 (by decide) (fun c9 => ?_) (fun c9 => ?_)
        · refine j_aload_n (pc := 101) C d_Days_countRows_101 rfl 2 rfl ?_
          refine j_iload (pc := 102) C d_Days_countRows_102 4 rfl ?_
          refine j_put (pc := 104) C pf_Days_15 4 (ws' := [(ad 0, .inr (2, [.int (d.1 0), .int (d.1 1), .int (d.1 2), .int (d.1 3), .ref (ad 1), .int (d.1 4), .ref (ad 11), .ref (ad 12), .ref (ad 2), .ref (ad 3), .int (d.1 5), .int (d.1 6), .int (d.1 7), .int (d.1 8)])), (ad 1, .inr (1, [.int (d.1 9), .ref (ad 4), .ref (ad 5), .ref (ad 6), .ref (ad 7), .ref (ad 8), .ref (ad 9), .ref (ad 10)])), (ad 10, .inl (y 0, 9, .inl (d.2 6))), (ad 12, .inl (y 0, 6, .inl (d.2 8))), (h, .inr (7, [.int (u8.1 - 1), .int sw, .int la, .ref (sa 0), .ref (sa 1), .ref (sa 2), .ref (sa 3), .ref (sa 4), .ref (sa 5), .ref (sa 6)])), (sa 0, .inl (y 0, 9, .inl u8.2.2))]) rfl rfl rfl (nl rfl) rfl d_Days_countRows_104 ?_
          refine j_iinc (pc := 107) C (v := nI (a + 1)) (lv' := [(5, .int (nI (a + 1))), (3, .int (rs + r7)), (0, .ref (ad 0)), (1, .ref h), (2, .int (nI (q + 1))), (4, .int la)]) d_Days_countRows_107 5 rfl (nI_1 _) (by decide) rfl ?_
          refine j_goto (pc := 110) C (tgt := 17) d_Days_countRows_110 (by decide) ?_
          refine j_locs (lv' := [(0, .ref (ad 0)), (1, .ref h), (2, .int (nI (q + 1))), (3, .int (rs + r7)), (4, .int la), (5, .int (nI (a + 1)))]) [2, 3, 4, 1, 5, 0] rfl ?_
          exact ih (a + 1) _ _ _ _ (by omega)
        · refine j_aload_n (pc := 85) C d_Days_countRows_85 rfl 1 rfl ?_
          refine j_aload_n (pc := 86) C d_Days_countRows_86 rfl 2 rfl ?_
          refine j_iload (pc := 87) C d_Days_countRows_87 5 rfl ?_
          refine j_iconst (pc := 89) C (v := 1) d_Days_countRows_89 (by decide) ?_
          refine j_icmp_ne (pc := 90) C (tgt := 97) d_Days_countRows_90 (by decide) (fun c10 => ?_) (fun c10 => ?_)
          · refine j_iconst (pc := 97) C (v := (-1)) d_Days_countRows_97 (by decide) ?_
            refine j_callSv (pc := 98) C (c_moveBoards l D y ad d n4 h sa (u8.1 - 1) sw u8.2.1 u8.2.2 (-1) h4 b4 hJ hV) kw_Days_106 ks_Days_moveBoards ⟨by decide, by decide⟩ ⟨by decide, by decide⟩ (wr := []) [0, 1, 2, 3, 4, 5] [] rfl rfl (by decide +kernel) (by decide +kernel) (by decide +kernel) (As := [.ref (ad 0), .ref h, .int (-1)]) (rest := []) rfl (nb rfl) rfl d_Days_countRows_98 (fun u11 _ => ?_)
            refine j_ws (ws' := [(ad 0, .inr (2, [.int (d.1 0), .int (d.1 1), .int (d.1 2), .int (d.1 3), .ref (ad 1), .int (d.1 4), .ref (ad 11), .ref (ad 12), .ref (ad 2), .ref (ad 3), .int (d.1 5), .int (d.1 6), .int (d.1 7), .int (d.1 8)])), (ad 1, .inr (1, [.int (d.1 9), .ref (ad 4), .ref (ad 5), .ref (ad 6), .ref (ad 7), .ref (ad 8), .ref (ad 9), .ref (ad 10)])), (ad 10, .inl (y 0, 9, .inl (d.2 6))), (ad 12, .inl (y 0, 6, .inl (d.2 8))), (h, .inr (7, [.int (u8.1 - 1), .int sw, .int u8.2.1, .ref (sa 0), .ref (sa 1), .ref (sa 2), .ref (sa 3), .ref (sa 4), .ref (sa 5), .ref (sa 6)])), (sa 0, .inl (y 0, 9, .inl u11))]) rfl ?_
            refine j_aload_n (pc := 101) C d_Days_countRows_101 rfl 2 rfl ?_
            refine j_iload (pc := 102) C d_Days_countRows_102 4 rfl ?_
            refine j_put (pc := 104) C pf_Days_15 4 (ws' := [(ad 0, .inr (2, [.int (d.1 0), .int (d.1 1), .int (d.1 2), .int (d.1 3), .ref (ad 1), .int (d.1 4), .ref (ad 11), .ref (ad 12), .ref (ad 2), .ref (ad 3), .int (d.1 5), .int (d.1 6), .int (d.1 7), .int (d.1 8)])), (ad 1, .inr (1, [.int (d.1 9), .ref (ad 4), .ref (ad 5), .ref (ad 6), .ref (ad 7), .ref (ad 8), .ref (ad 9), .ref (ad 10)])), (ad 10, .inl (y 0, 9, .inl (d.2 6))), (ad 12, .inl (y 0, 6, .inl (d.2 8))), (h, .inr (7, [.int (u8.1 - 1), .int sw, .int la, .ref (sa 0), .ref (sa 1), .ref (sa 2), .ref (sa 3), .ref (sa 4), .ref (sa 5), .ref (sa 6)])), (sa 0, .inl (y 0, 9, .inl u11))]) rfl rfl rfl (nl rfl) rfl d_Days_countRows_104 ?_
            refine j_iinc (pc := 107) C (v := nI (a + 1)) (lv' := [(5, .int (nI (a + 1))), (3, .int (rs + r7)), (0, .ref (ad 0)), (1, .ref h), (2, .int (nI (q + 1))), (4, .int la)]) d_Days_countRows_107 5 rfl (nI_1 _) (by decide) rfl ?_
            refine j_goto (pc := 110) C (tgt := 17) d_Days_countRows_110 (by decide) ?_
            refine j_locs (lv' := [(0, .ref (ad 0)), (1, .ref h), (2, .int (nI (q + 1))), (3, .int (rs + r7)), (4, .int la), (5, .int (nI (a + 1)))]) [2, 3, 4, 1, 5, 0] rfl ?_
            exact ih (a + 1) _ _ _ _ (by omega)
          · refine j_iconst (pc := 93) C (v := 1) d_Days_countRows_93 (by decide) ?_
            refine j_goto (pc := 94) C (tgt := 98) d_Days_countRows_94 (by decide) ?_
            refine j_callSv (pc := 98) C (c_moveBoards l D y ad d n4 h sa (u8.1 - 1) sw u8.2.1 u8.2.2 1 h4 b4 hJ hV) kw_Days_106 ks_Days_moveBoards ⟨by decide, by decide⟩ ⟨by decide, by decide⟩ (wr := []) [0, 1, 2, 3, 4, 5] [] rfl rfl (by decide +kernel) (by decide +kernel) (by decide +kernel) (As := [.ref (ad 0), .ref h, .int 1]) (rest := []) rfl (nb rfl) rfl d_Days_countRows_98 (fun u12 _ => ?_)
            refine j_ws (ws' := [(ad 0, .inr (2, [.int (d.1 0), .int (d.1 1), .int (d.1 2), .int (d.1 3), .ref (ad 1), .int (d.1 4), .ref (ad 11), .ref (ad 12), .ref (ad 2), .ref (ad 3), .int (d.1 5), .int (d.1 6), .int (d.1 7), .int (d.1 8)])), (ad 1, .inr (1, [.int (d.1 9), .ref (ad 4), .ref (ad 5), .ref (ad 6), .ref (ad 7), .ref (ad 8), .ref (ad 9), .ref (ad 10)])), (ad 10, .inl (y 0, 9, .inl (d.2 6))), (ad 12, .inl (y 0, 6, .inl (d.2 8))), (h, .inr (7, [.int (u8.1 - 1), .int sw, .int u8.2.1, .ref (sa 0), .ref (sa 1), .ref (sa 2), .ref (sa 3), .ref (sa 4), .ref (sa 5), .ref (sa 6)])), (sa 0, .inl (y 0, 9, .inl u12))]) rfl ?_
            refine j_aload_n (pc := 101) C d_Days_countRows_101 rfl 2 rfl ?_
            refine j_iload (pc := 102) C d_Days_countRows_102 4 rfl ?_
            refine j_put (pc := 104) C pf_Days_15 4 (ws' := [(ad 0, .inr (2, [.int (d.1 0), .int (d.1 1), .int (d.1 2), .int (d.1 3), .ref (ad 1), .int (d.1 4), .ref (ad 11), .ref (ad 12), .ref (ad 2), .ref (ad 3), .int (d.1 5), .int (d.1 6), .int (d.1 7), .int (d.1 8)])), (ad 1, .inr (1, [.int (d.1 9), .ref (ad 4), .ref (ad 5), .ref (ad 6), .ref (ad 7), .ref (ad 8), .ref (ad 9), .ref (ad 10)])), (ad 10, .inl (y 0, 9, .inl (d.2 6))), (ad 12, .inl (y 0, 6, .inl (d.2 8))), (h, .inr (7, [.int (u8.1 - 1), .int sw, .int la, .ref (sa 0), .ref (sa 1), .ref (sa 2), .ref (sa 3), .ref (sa 4), .ref (sa 5), .ref (sa 6)])), (sa 0, .inl (y 0, 9, .inl u12))]) rfl rfl rfl (nl rfl) rfl d_Days_countRows_104 ?_
            refine j_iinc (pc := 107) C (v := nI (a + 1)) (lv' := [(5, .int (nI (a + 1))), (3, .int (rs + r7)), (0, .ref (ad 0)), (1, .ref h), (2, .int (nI (q + 1))), (4, .int la)]) d_Days_countRows_107 5 rfl (nI_1 _) (by decide) rfl ?_
            refine j_goto (pc := 110) C (tgt := 17) d_Days_countRows_110 (by decide) ?_
            refine j_locs (lv' := [(0, .ref (ad 0)), (1, .ref h), (2, .int (nI (q + 1))), (3, .int (rs + r7)), (4, .int la), (5, .int (nI (a + 1)))]) [2, 3, 4, 1, 5, 0] rfl ?_
            exact ih (a + 1) _ _ _ _ (by omega)
    · refine j_iload (pc := 33) C d_Days_countRows_33 5 rfl ?_
      refine j_iconst (pc := 35) C (v := 0) d_Days_countRows_35 (by decide) ?_
      refine j_callSi (pc := 36) C (c_allows l D y ad d n4 h sa sd sw sl f0 (nI j2) (nI a) 0 h4 b4 hJ hV) kw_Days_43 ks_Days_allows ⟨by decide, by decide⟩ ⟨by decide, by decide⟩ (wr := []) [5, 0, 1, 2, 3, 4] [] rfl rfl (by decide +kernel) (by decide +kernel) (by decide +kernel) (As := [.ref (ad 0), .ref h, .int (nI j2), .int (nI a), .int 0]) (rest := []) rfl (nb rfl) rfl d_Days_countRows_36 (fun r13 _ hr13 => ?_)
      refine j_ws (ws' := [(ad 0, .inr (2, [.int (d.1 0), .int (d.1 1), .int (d.1 2), .int (d.1 3), .ref (ad 1), .int (d.1 4), .ref (ad 11), .ref (ad 12), .ref (ad 2), .ref (ad 3), .int (d.1 5), .int (d.1 6), .int (d.1 7), .int (d.1 8)])), (ad 1, .inr (1, [.int (d.1 9), .ref (ad 4), .ref (ad 5), .ref (ad 6), .ref (ad 7), .ref (ad 8), .ref (ad 9), .ref (ad 10)])), (ad 10, .inl (y 0, 9, .inl (d.2 6))), (ad 12, .inl (y 0, 6, .inl (d.2 8))), (h, .inr (7, [.int sd, .int sw, .int sl, .ref (sa 0), .ref (sa 1), .ref (sa 2), .ref (sa 3), .ref (sa 4), .ref (sa 5), .ref (sa 6)])), (sa 0, .inl (y 0, 9, .inl f0))]) rfl ?_
      refine j_if_eq (pc := 39) C (tgt := 107) d_Days_countRows_39 (by decide) (fun c14 => ?_) (fun c14 => ?_)
      · refine j_iinc (pc := 107) C (v := nI (a + 1)) (lv' := [(5, .int (nI (a + 1))), (0, .ref (ad 0)), (1, .ref h), (2, .int (nI (q + 1))), (3, .int rs), (4, .int la)]) d_Days_countRows_107 5 rfl (nI_1 _) (by decide) rfl ?_
        refine j_goto (pc := 110) C (tgt := 17) d_Days_countRows_110 (by decide) ?_
        refine j_locs (lv' := [(0, .ref (ad 0)), (1, .ref h), (2, .int (nI (q + 1))), (3, .int rs), (4, .int la), (5, .int (nI (a + 1)))]) [1, 2, 3, 4, 5, 0] rfl ?_
        exact ih (a + 1) _ _ _ _ (by omega)
      · refine j_aload_n (pc := 42) C d_Days_countRows_42 rfl 0 rfl ?_
        refine j_aload_n (pc := 43) C d_Days_countRows_43 rfl 1 rfl ?_
        refine j_iload (pc := 44) C d_Days_countRows_44 5 rfl ?_
        refine j_callSv (pc := 46) C (c_doAct l D y ad d n4 h sa sd sw sl f0 (nI a) h4 b4 hJ hV) kw_Days_47 ks_Days_doAct ⟨by decide, by decide⟩ ⟨by decide, by decide⟩ (wr := []) [0, 1, 2, 3, 4, 5] [] rfl rfl (by decide +kernel) (by decide +kernel) (by decide +kernel) (As := [.ref (ad 0), .ref h, .int (nI a)]) (rest := []) rfl (nb rfl) rfl d_Days_countRows_46 (fun u15 _ => ?_)
        refine j_ws (ws' := [(ad 0, .inr (2, [.int (d.1 0), .int (d.1 1), .int (d.1 2), .int (d.1 3), .ref (ad 1), .int (d.1 4), .ref (ad 11), .ref (ad 12), .ref (ad 2), .ref (ad 3), .int (d.1 5), .int (d.1 6), .int (d.1 7), .int (d.1 8)])), (ad 1, .inr (1, [.int (d.1 9), .ref (ad 4), .ref (ad 5), .ref (ad 6), .ref (ad 7), .ref (ad 8), .ref (ad 9), .ref (ad 10)])), (ad 10, .inl (y 0, 9, .inl (d.2 6))), (ad 12, .inl (y 0, 6, .inl (d.2 8))), (h, .inr (7, [.int sd, .int sw, .int u15.1, .ref (sa 0), .ref (sa 1), .ref (sa 2), .ref (sa 3), .ref (sa 4), .ref (sa 5), .ref (sa 6)])), (sa 0, .inl (y 0, 9, .inl u15.2))]) rfl ?_
        refine j_aload_n (pc := 49) C d_Days_countRows_49 rfl 1 rfl ?_
        refine j_dup (pc := 50) C d_Days_countRows_50 rfl ?_
        refine j_get (pc := 51) C gf_Days_59 4 rfl rfl d_Days_countRows_51 ?_
        refine j_iconst (pc := 54) C (v := 1) d_Days_countRows_54 (by decide) ?_
        refine j_iadd (pc := 55) C (v := sd + 1) d_Days_countRows_55 rfl ?_
        refine j_put (pc := 56) C pf_Days_59 4 (ws' := [(ad 0, .inr (2, [.int (d.1 0), .int (d.1 1), .int (d.1 2), .int (d.1 3), .ref (ad 1), .int (d.1 4), .ref (ad 11), .ref (ad 12), .ref (ad 2), .ref (ad 3), .int (d.1 5), .int (d.1 6), .int (d.1 7), .int (d.1 8)])), (ad 1, .inr (1, [.int (d.1 9), .ref (ad 4), .ref (ad 5), .ref (ad 6), .ref (ad 7), .ref (ad 8), .ref (ad 9), .ref (ad 10)])), (ad 10, .inl (y 0, 9, .inl (d.2 6))), (ad 12, .inl (y 0, 6, .inl (d.2 8))), (h, .inr (7, [.int (sd + 1), .int sw, .int u15.1, .ref (sa 0), .ref (sa 1), .ref (sa 2), .ref (sa 3), .ref (sa 4), .ref (sa 5), .ref (sa 6)])), (sa 0, .inl (y 0, 9, .inl u15.2))]) rfl rfl rfl (nl rfl) rfl d_Days_countRows_56 ?_
        refine j_iload_n (pc := 59) C d_Days_countRows_59 rfl 3 rfl ?_
        refine j_aload_n (pc := 60) C d_Days_countRows_60 rfl 0 rfl ?_
        refine j_aload_n (pc := 61) C d_Days_countRows_61 rfl 1 rfl ?_
        refine j_iload_n (pc := 62) C d_Days_countRows_62 rfl 2 rfl ?_
        refine j_iconst (pc := 63) C (v := 1) d_Days_countRows_63 (by decide) ?_
        refine j_isub (pc := 64) C (v := nI q) d_Days_countRows_64 (nI_pred q) ?_
        refine j_callSi (pc := 65) C (c_countRows_0 l D y ad d n4 h sa (sd + 1) sw u15.1 u15.2 q h4 b4 hJ hV (by omega)) kw_Days_159 ks_Days_countRows ⟨by decide, by decide⟩ ⟨by decide, by decide⟩ (wr := []) [0, 1, 2, 3, 4, 5] [] rfl rfl (by decide +kernel) (by decide +kernel) (by decide +kernel) (As := [.ref (ad 0), .ref h, .int (nI q)]) (rest := [.int rs]) rfl (nb rfl) rfl d_Days_countRows_65 (fun r16 u17 hr16 => ?_)
        refine j_ws (ws' := [(ad 0, .inr (2, [.int (d.1 0), .int (d.1 1), .int (d.1 2), .int (d.1 3), .ref (ad 1), .int (d.1 4), .ref (ad 11), .ref (ad 12), .ref (ad 2), .ref (ad 3), .int (d.1 5), .int (d.1 6), .int (d.1 7), .int (d.1 8)])), (ad 1, .inr (1, [.int (d.1 9), .ref (ad 4), .ref (ad 5), .ref (ad 6), .ref (ad 7), .ref (ad 8), .ref (ad 9), .ref (ad 10)])), (ad 10, .inl (y 0, 9, .inl (d.2 6))), (ad 12, .inl (y 0, 6, .inl (d.2 8))), (h, .inr (7, [.int u17.1, .int sw, .int u17.2.1, .ref (sa 0), .ref (sa 1), .ref (sa 2), .ref (sa 3), .ref (sa 4), .ref (sa 5), .ref (sa 6)])), (sa 0, .inl (y 0, 9, .inl u17.2.2))]) rfl ?_
        refine j_iadd (pc := 68) C (v := rs + r16) d_Days_countRows_68 rfl ?_
        refine j_istore_n (pc := 69) C (lv' := [(3, .int (rs + r16)), (0, .ref (ad 0)), (1, .ref h), (2, .int (nI (q + 1))), (4, .int la), (5, .int (nI a))]) d_Days_countRows_69 rfl (by decide) rfl ?_
        refine j_aload_n (pc := 70) C d_Days_countRows_70 rfl 2 rfl ?_
        refine j_dup (pc := 71) C d_Days_countRows_71 rfl ?_
        refine j_get (pc := 72) C gf_Days_59 4 rfl rfl d_Days_countRows_72 ?_
        refine j_iconst (pc := 75) C (v := 1) d_Days_countRows_75 (by decide) ?_
        refine j_isub (pc := 76) C (v := u17.1 - 1) d_Days_countRows_76 rfl ?_
        refine j_put (pc := 77) C pf_Days_59 4 (ws' := [(ad 0, .inr (2, [.int (d.1 0), .int (d.1 1), .int (d.1 2), .int (d.1 3), .ref (ad 1), .int (d.1 4), .ref (ad 11), .ref (ad 12), .ref (ad 2), .ref (ad 3), .int (d.1 5), .int (d.1 6), .int (d.1 7), .int (d.1 8)])), (ad 1, .inr (1, [.int (d.1 9), .ref (ad 4), .ref (ad 5), .ref (ad 6), .ref (ad 7), .ref (ad 8), .ref (ad 9), .ref (ad 10)])), (ad 10, .inl (y 0, 9, .inl (d.2 6))), (ad 12, .inl (y 0, 6, .inl (d.2 8))), (h, .inr (7, [.int (u17.1 - 1), .int sw, .int u17.2.1, .ref (sa 0), .ref (sa 1), .ref (sa 2), .ref (sa 3), .ref (sa 4), .ref (sa 5), .ref (sa 6)])), (sa 0, .inl (y 0, 9, .inl u17.2.2))]) rfl rfl rfl (nl rfl) rfl d_Days_countRows_77 ?_
        refine j_iload (pc := 80) C d_Days_countRows_80 5 rfl ?_
        refine j_if_eq (pc := 82) C (tgt := 101) d_Days_countRows_82 (by decide) (fun c18 => ?_) (fun c18 => ?_)
        · refine j_aload_n (pc := 101) C d_Days_countRows_101 rfl 2 rfl ?_
          refine j_iload (pc := 102) C d_Days_countRows_102 4 rfl ?_
          refine j_put (pc := 104) C pf_Days_15 4 (ws' := [(ad 0, .inr (2, [.int (d.1 0), .int (d.1 1), .int (d.1 2), .int (d.1 3), .ref (ad 1), .int (d.1 4), .ref (ad 11), .ref (ad 12), .ref (ad 2), .ref (ad 3), .int (d.1 5), .int (d.1 6), .int (d.1 7), .int (d.1 8)])), (ad 1, .inr (1, [.int (d.1 9), .ref (ad 4), .ref (ad 5), .ref (ad 6), .ref (ad 7), .ref (ad 8), .ref (ad 9), .ref (ad 10)])), (ad 10, .inl (y 0, 9, .inl (d.2 6))), (ad 12, .inl (y 0, 6, .inl (d.2 8))), (h, .inr (7, [.int (u17.1 - 1), .int sw, .int la, .ref (sa 0), .ref (sa 1), .ref (sa 2), .ref (sa 3), .ref (sa 4), .ref (sa 5), .ref (sa 6)])), (sa 0, .inl (y 0, 9, .inl u17.2.2))]) rfl rfl rfl (nl rfl) rfl d_Days_countRows_104 ?_
          refine j_iinc (pc := 107) C (v := nI (a + 1)) (lv' := [(5, .int (nI (a + 1))), (3, .int (rs + r16)), (0, .ref (ad 0)), (1, .ref h), (2, .int (nI (q + 1))), (4, .int la)]) d_Days_countRows_107 5 rfl (nI_1 _) (by decide) rfl ?_
          refine j_goto (pc := 110) C (tgt := 17) d_Days_countRows_110 (by decide) ?_
          refine j_locs (lv' := [(0, .ref (ad 0)), (1, .ref h), (2, .int (nI (q + 1))), (3, .int (rs + r16)), (4, .int la), (5, .int (nI (a + 1)))]) [2, 3, 4, 1, 5, 0] rfl ?_
          exact ih (a + 1) _ _ _ _ (by omega)
        · refine j_aload_n (pc := 85) C d_Days_countRows_85 rfl 1 rfl ?_
          refine j_aload_n (pc := 86) C d_Days_countRows_86 rfl 2 rfl ?_
          refine j_iload (pc := 87) C d_Days_countRows_87 5 rfl ?_
          refine j_iconst (pc := 89) C (v := 1) d_Days_countRows_89 (by decide) ?_
          refine j_icmp_ne (pc := 90) C (tgt := 97) d_Days_countRows_90 (by decide) (fun c19 => ?_) (fun c19 => ?_)
          · refine j_iconst (pc := 97) C (v := (-1)) d_Days_countRows_97 (by decide) ?_
            refine j_callSv (pc := 98) C (c_moveBoards l D y ad d n4 h sa (u17.1 - 1) sw u17.2.1 u17.2.2 (-1) h4 b4 hJ hV) kw_Days_106 ks_Days_moveBoards ⟨by decide, by decide⟩ ⟨by decide, by decide⟩ (wr := []) [0, 1, 2, 3, 4, 5] [] rfl rfl (by decide +kernel) (by decide +kernel) (by decide +kernel) (As := [.ref (ad 0), .ref h, .int (-1)]) (rest := []) rfl (nb rfl) rfl d_Days_countRows_98 (fun u20 _ => ?_)
            refine j_ws (ws' := [(ad 0, .inr (2, [.int (d.1 0), .int (d.1 1), .int (d.1 2), .int (d.1 3), .ref (ad 1), .int (d.1 4), .ref (ad 11), .ref (ad 12), .ref (ad 2), .ref (ad 3), .int (d.1 5), .int (d.1 6), .int (d.1 7), .int (d.1 8)])), (ad 1, .inr (1, [.int (d.1 9), .ref (ad 4), .ref (ad 5), .ref (ad 6), .ref (ad 7), .ref (ad 8), .ref (ad 9), .ref (ad 10)])), (ad 10, .inl (y 0, 9, .inl (d.2 6))), (ad 12, .inl (y 0, 6, .inl (d.2 8))), (h, .inr (7, [.int (u17.1 - 1), .int sw, .int u17.2.1, .ref (sa 0), .ref (sa 1), .ref (sa 2), .ref (sa 3), .ref (sa 4), .ref (sa 5), .ref (sa 6)])), (sa 0, .inl (y 0, 9, .inl u20))]) rfl ?_
            refine j_aload_n (pc := 101) C d_Days_countRows_101 rfl 2 rfl ?_
            refine j_iload (pc := 102) C d_Days_countRows_102 4 rfl ?_
            refine j_put (pc := 104) C pf_Days_15 4 (ws' := [(ad 0, .inr (2, [.int (d.1 0), .int (d.1 1), .int (d.1 2), .int (d.1 3), .ref (ad 1), .int (d.1 4), .ref (ad 11), .ref (ad 12), .ref (ad 2), .ref (ad 3), .int (d.1 5), .int (d.1 6), .int (d.1 7), .int (d.1 8)])), (ad 1, .inr (1, [.int (d.1 9), .ref (ad 4), .ref (ad 5), .ref (ad 6), .ref (ad 7), .ref (ad 8), .ref (ad 9), .ref (ad 10)])), (ad 10, .inl (y 0, 9, .inl (d.2 6))), (ad 12, .inl (y 0, 6, .inl (d.2 8))), (h, .inr (7, [.int (u17.1 - 1), .int sw, .int la, .ref (sa 0), .ref (sa 1), .ref (sa 2), .ref (sa 3), .ref (sa 4), .ref (sa 5), .ref (sa 6)])), (sa 0, .inl (y 0, 9, .inl u20))]) rfl rfl rfl (nl rfl) rfl d_Days_countRows_104 ?_
            refine j_iinc (pc := 107) C (v := nI (a + 1)) (lv' := [(5, .int (nI (a + 1))), (3, .int (rs + r16)), (0, .ref (ad 0)), (1, .ref h), (2, .int (nI (q + 1))), (4, .int la)]) d_Days_countRows_107 5 rfl (nI_1 _) (by decide) rfl ?_
            refine j_goto (pc := 110) C (tgt := 17) d_Days_countRows_110 (by decide) ?_
            refine j_locs (lv' := [(0, .ref (ad 0)), (1, .ref h), (2, .int (nI (q + 1))), (3, .int (rs + r16)), (4, .int la), (5, .int (nI (a + 1)))]) [2, 3, 4, 1, 5, 0] rfl ?_
            exact ih (a + 1) _ _ _ _ (by omega)
          · refine j_iconst (pc := 93) C (v := 1) d_Days_countRows_93 (by decide) ?_
            refine j_goto (pc := 94) C (tgt := 98) d_Days_countRows_94 (by decide) ?_
            refine j_callSv (pc := 98) C (c_moveBoards l D y ad d n4 h sa (u17.1 - 1) sw u17.2.1 u17.2.2 1 h4 b4 hJ hV) kw_Days_106 ks_Days_moveBoards ⟨by decide, by decide⟩ ⟨by decide, by decide⟩ (wr := []) [0, 1, 2, 3, 4, 5] [] rfl rfl (by decide +kernel) (by decide +kernel) (by decide +kernel) (As := [.ref (ad 0), .ref h, .int 1]) (rest := []) rfl (nb rfl) rfl d_Days_countRows_98 (fun u21 _ => ?_)
            refine j_ws (ws' := [(ad 0, .inr (2, [.int (d.1 0), .int (d.1 1), .int (d.1 2), .int (d.1 3), .ref (ad 1), .int (d.1 4), .ref (ad 11), .ref (ad 12), .ref (ad 2), .ref (ad 3), .int (d.1 5), .int (d.1 6), .int (d.1 7), .int (d.1 8)])), (ad 1, .inr (1, [.int (d.1 9), .ref (ad 4), .ref (ad 5), .ref (ad 6), .ref (ad 7), .ref (ad 8), .ref (ad 9), .ref (ad 10)])), (ad 10, .inl (y 0, 9, .inl (d.2 6))), (ad 12, .inl (y 0, 6, .inl (d.2 8))), (h, .inr (7, [.int (u17.1 - 1), .int sw, .int u17.2.1, .ref (sa 0), .ref (sa 1), .ref (sa 2), .ref (sa 3), .ref (sa 4), .ref (sa 5), .ref (sa 6)])), (sa 0, .inl (y 0, 9, .inl u21))]) rfl ?_
            refine j_aload_n (pc := 101) C d_Days_countRows_101 rfl 2 rfl ?_
            refine j_iload (pc := 102) C d_Days_countRows_102 4 rfl ?_
            refine j_put (pc := 104) C pf_Days_15 4 (ws' := [(ad 0, .inr (2, [.int (d.1 0), .int (d.1 1), .int (d.1 2), .int (d.1 3), .ref (ad 1), .int (d.1 4), .ref (ad 11), .ref (ad 12), .ref (ad 2), .ref (ad 3), .int (d.1 5), .int (d.1 6), .int (d.1 7), .int (d.1 8)])), (ad 1, .inr (1, [.int (d.1 9), .ref (ad 4), .ref (ad 5), .ref (ad 6), .ref (ad 7), .ref (ad 8), .ref (ad 9), .ref (ad 10)])), (ad 10, .inl (y 0, 9, .inl (d.2 6))), (ad 12, .inl (y 0, 6, .inl (d.2 8))), (h, .inr (7, [.int (u17.1 - 1), .int sw, .int la, .ref (sa 0), .ref (sa 1), .ref (sa 2), .ref (sa 3), .ref (sa 4), .ref (sa 5), .ref (sa 6)])), (sa 0, .inl (y 0, 9, .inl u21))]) rfl rfl rfl (nl rfl) rfl d_Days_countRows_104 ?_
            refine j_iinc (pc := 107) C (v := nI (a + 1)) (lv' := [(5, .int (nI (a + 1))), (3, .int (rs + r16)), (0, .ref (ad 0)), (1, .ref h), (2, .int (nI (q + 1))), (4, .int la)]) d_Days_countRows_107 5 rfl (nI_1 _) (by decide) rfl ?_
            refine j_goto (pc := 110) C (tgt := 17) d_Days_countRows_110 (by decide) ?_
            refine j_locs (lv' := [(0, .ref (ad 0)), (1, .ref h), (2, .int (nI (q + 1))), (3, .int (rs + r16)), (4, .int la), (5, .int (nI (a + 1)))]) [2, 3, 4, 1, 5, 0] rfl ?_
            exact ih (a + 1) _ _ _ _ (by omega)
set_option maxHeartbeats 4000000 in
set_option maxRecDepth 100000 in
theorem c_countRows_1 (l : Launch) (D : va_G) (y : Nat → ClassId) (ad : Nat → Nat) (d : LD) (n4 : Nat) (h : Nat) (sa : Nat → Nat) (sd : Int32) (sw : Int32) (sl : Int32) (f0 : Nat → Int32) (k : Nat) (h4 : d.1 4 = nI n4) (b4 : n4 ≤ 6) (hJ : ∀ j, j < 9 → d.2 6 j = -1 ∨ ∃ q, q < 9 ∧ d.2 6 j = nI q) (hV : ∀ j, j < n4 → ∃ q, q < 9 ∧ d.2 8 j = nI q) (hk : k ≤ 1) : CT l D y ⟨"NineBoards$Days", "countRows", "(LNineBoards$Lake;LNineBoards$State;I)I"⟩ prog_3_method_14_code 6 (some .int) ({ frames := 4, cells := 0, slots := 0, locals := 90 } : Room) [.ref (ad 0), .ref h, .int (nI k)] [(ad 0, .inr (2, [.int (d.1 0), .int (d.1 1), .int (d.1 2), .int (d.1 3), .ref (ad 1), .int (d.1 4), .ref (ad 11), .ref (ad 12), .ref (ad 2), .ref (ad 3), .int (d.1 5), .int (d.1 6), .int (d.1 7), .int (d.1 8)])), (ad 1, .inr (1, [.int (d.1 9), .ref (ad 4), .ref (ad 5), .ref (ad 6), .ref (ad 7), .ref (ad 8), .ref (ad 9), .ref (ad 10)])), (ad 10, .inl (y 0, 9, .inl (d.2 6))), (ad 12, .inl (y 0, 6, .inl (d.2 8))), (h, .inr (7, [.int sd, .int sw, .int sl, .ref (sa 0), .ref (sa 1), .ref (sa 2), .ref (sa 3), .ref (sa 4), .ref (sa 5), .ref (sa 6)])), (sa 0, .inl (y 0, 9, .inl f0))] (QI D [(ad 0, .inr (2, [.int (d.1 0), .int (d.1 1), .int (d.1 2), .int (d.1 3), .ref (ad 1), .int (d.1 4), .ref (ad 11), .ref (ad 12), .ref (ad 2), .ref (ad 3), .int (d.1 5), .int (d.1 6), .int (d.1 7), .int (d.1 8)])), (ad 1, .inr (1, [.int (d.1 9), .ref (ad 4), .ref (ad 5), .ref (ad 6), .ref (ad 7), .ref (ad 8), .ref (ad 9), .ref (ad 10)])), (ad 10, .inl (y 0, 9, .inl (d.2 6))), (ad 12, .inl (y 0, 6, .inl (d.2 8))), (h, .inr (7, [.int sd, .int sw, .int sl, .ref (sa 0), .ref (sa 1), .ref (sa 2), .ref (sa 3), .ref (sa 4), .ref (sa 5), .ref (sa 6)])), (sa 0, .inl (y 0, 9, .inl f0))] (fun (r : Int32) (u : Int32 × Int32 × (Nat → Int32)) => True) (fun u => [(ad 0, .inr (2, [.int (d.1 0), .int (d.1 1), .int (d.1 2), .int (d.1 3), .ref (ad 1), .int (d.1 4), .ref (ad 11), .ref (ad 12), .ref (ad 2), .ref (ad 3), .int (d.1 5), .int (d.1 6), .int (d.1 7), .int (d.1 8)])), (ad 1, .inr (1, [.int (d.1 9), .ref (ad 4), .ref (ad 5), .ref (ad 6), .ref (ad 7), .ref (ad 8), .ref (ad 9), .ref (ad 10)])), (ad 10, .inl (y 0, 9, .inl (d.2 6))), (ad 12, .inl (y 0, 6, .inl (d.2 8))), (h, .inr (7, [.int u.1, .int sw, .int u.2.1, .ref (sa 0), .ref (sa 1), .ref (sa 2), .ref (sa 3), .ref (sa 4), .ref (sa 5), .ref (sa 6)])), (sa 0, .inl (y 0, 9, .inl u.2.2))])) := by
  refine CT.of (by decide) (nb rfl) ?_
  intro p e s m args below meth c C hr
  refine j_lv (lv' := [(0, .ref (ad 0)), (1, .ref h), (2, .int (nI k))]) rfl ?_
  by_cases h0 : k = 0
  · subst h0
    refine j_iload_n (pc := 0) C d_Days_countRows_0 rfl 2 rfl ?_
    refine j_if_gtF (pc := 1) C (tgt := 6) d_Days_countRows_1 (by decide) (by decide) ?_
    refine j_iconst (pc := 4) C (v := 1) d_Days_countRows_4 (by decide) ?_
    exact j_iret (pc := 5) C hr rfl (sd, sl, f0) trivial [0, 1, 2, 3, 4, 5] rfl (by decide) (by decide) (by decide) d_Days_countRows_5
  · obtain ⟨q, rfl⟩ : ∃ q, k = q + 1 := ⟨k - 1, by omega⟩
    refine j_iload_n (pc := 0) C d_Days_countRows_0 rfl 2 rfl ?_
    refine j_if_gtT (pc := 1) C (tgt := 6) d_Days_countRows_1 (by decide) (show nI 0 < nI (q + 1) from nI_lt (by omega) (by omega)) ?_
    refine j_iconst (pc := 6) C (v := 0) d_Days_countRows_6 (by decide) ?_
    refine j_istore_n (pc := 7) C (lv' := [(3, .int 0), (0, .ref (ad 0)), (1, .ref h), (2, .int (nI (q + 1)))]) d_Days_countRows_7 rfl (by decide) rfl ?_
    refine j_aload_n (pc := 8) C d_Days_countRows_8 rfl 2 rfl ?_
    refine j_get (pc := 9) C gf_Days_15 4 rfl rfl d_Days_countRows_9 ?_
    refine j_istore (pc := 12) C (lv' := [(4, .int sl), (3, .int 0), (0, .ref (ad 0)), (1, .ref h), (2, .int (nI (q + 1)))]) d_Days_countRows_12 (by decide) rfl ?_
    refine j_iconst (pc := 14) C (v := 0) d_Days_countRows_14 (by decide) ?_
    refine j_istore (pc := 15) C (lv' := [(5, .int 0), (4, .int sl), (3, .int 0), (0, .ref (ad 0)), (1, .ref h), (2, .int (nI (q + 1)))]) d_Days_countRows_15 (by decide) rfl ?_
    refine j_locs (lv' := [(0, .ref (ad 0)), (1, .ref h), (2, .int (nI (q + 1))), (3, .int 0), (4, .int sl), (5, .int 0)]) [3, 4, 5, 2, 1, 0] rfl ?_
    refine j_lv (lv' := [(0, .ref (ad 0)), (1, .ref h), (2, .int (nI (q + 1))), (3, .int 0), (4, .int sl), (5, .int (nI 0))]) rfl ?_
    refine lp_rows_1 C ad d n4 h sa sw q sl h4 b4 hJ hV hk (fun rs sd sl f0 => ?_) 3 0 _ _ _ _ (by omega)
    refine j_iload_n (pc := 113) C d_Days_countRows_113 rfl 3 rfl ?_
    exact j_iret (pc := 114) C hr rfl (sd, sl, f0) trivial [0, 1, 2, 3, 4, 5] rfl (by decide) (by decide) (by decide) d_Days_countRows_114

set_option maxHeartbeats 4000000 in
set_option maxRecDepth 100000 in
theorem lp_rows_2 {p : Program} {l : Launch} {e : Env} {s : State} {m : MethodId} {args : Array Value} {below : List Frame} {meth : Method} {c : Code} {Q : State → Prop} {D : va_G} {y : Nat → ClassId} {A : Nat → Prop} (C : Cx p s m args meth c D y A prog_3_method_14_code 6 "NineBoards$Days" "countRows") (ad : Nat → Nat) (d : LD) (n4 : Nat) (h : Nat) (sa : Nat → Nat) (sw : Int32) (q : Nat) (la : Int32) (h4 : d.1 4 = nI n4) (b4 : n4 ≤ 6) (hJ : ∀ j, j < 9 → d.2 6 j = -1 ∨ ∃ q, q < 9 ∧ d.2 6 j = nI q) (hV : ∀ j, j < n4 → ∃ q, q < 9 ∧ d.2 8 j = nI q) (hq : q + 1 ≤ 2) (kx : ∀ (rs sd sl : Int32) (f0 : Nat → Int32), J p l e ({ frames := 5, cells := 0, slots := 0, locals := 115 } : Room) s m args below meth c Q D A 6 [(ad 0, .inr (2, [.int (d.1 0), .int (d.1 1), .int (d.1 2), .int (d.1 3), .ref (ad 1), .int (d.1 4), .ref (ad 11), .ref (ad 12), .ref (ad 2), .ref (ad 3), .int (d.1 5), .int (d.1 6), .int (d.1 7), .int (d.1 8)])), (ad 1, .inr (1, [.int (d.1 9), .ref (ad 4), .ref (ad 5), .ref (ad 6), .ref (ad 7), .ref (ad 8), .ref (ad 9), .ref (ad 10)])), (ad 10, .inl (y 0, 9, .inl (d.2 6))), (ad 12, .inl (y 0, 6, .inl (d.2 8))), (h, .inr (7, [.int sd, .int sw, .int sl, .ref (sa 0), .ref (sa 1), .ref (sa 2), .ref (sa 3), .ref (sa 4), .ref (sa 5), .ref (sa 6)])), (sa 0, .inl (y 0, 9, .inl f0))] [(0, .ref (ad 0)), (1, .ref h), (2, .int (nI (q + 1))), (3, .int rs), (4, .int la), (5, .int (nI 3))] 0 0 113 []) : ∀ (n : Nat) (a : Nat) (rs : Int32) (sd : Int32) (sl : Int32) (f0 : Nat → Int32), (a + n = 3) → J p l e ({ frames := 5, cells := 0, slots := 0, locals := 115 } : Room) s m args below meth c Q D A 6 [(ad 0, .inr (2, [.int (d.1 0), .int (d.1 1), .int (d.1 2), .int (d.1 3), .ref (ad 1), .int (d.1 4), .ref (ad 11), .ref (ad 12), .ref (ad 2), .ref (ad 3), .int (d.1 5), .int (d.1 6), .int (d.1 7), .int (d.1 8)])), (ad 1, .inr (1, [.int (d.1 9), .ref (ad 4), .ref (ad 5), .ref (ad 6), .ref (ad 7), .ref (ad 8), .ref (ad 9), .ref (ad 10)])), (ad 10, .inl (y 0, 9, .inl (d.2 6))), (ad 12, .inl (y 0, 6, .inl (d.2 8))), (h, .inr (7, [.int sd, .int sw, .int sl, .ref (sa 0), .ref (sa 1), .ref (sa 2), .ref (sa 3), .ref (sa 4), .ref (sa 5), .ref (sa 6)])), (sa 0, .inl (y 0, 9, .inl f0))] [(0, .ref (ad 0)), (1, .ref h), (2, .int (nI (q + 1))), (3, .int rs), (4, .int la), (5, .int (nI a))] 0 0 17 [] := by
  intro n
  induction n with
  | zero =>
    intro a rs sd sl f0 ha
    obtain rfl : a = 3 := by omega
    refine j_iload (pc := 17) C d_Days_countRows_17 5 rfl ?_
    refine j_iconst (pc := 19) C (v := 3) d_Days_countRows_19 (by decide) ?_
    refine j_icmp_geT (pc := 20) C (tgt := 113) d_Days_countRows_20 (by decide) (by decide) ?_
    exact kx _ _ _ _
  | succ n ih =>
    intro a rs sd sl f0 ha
    refine j_iload (pc := 17) C d_Days_countRows_17 5 rfl ?_
    refine j_iconst (pc := 19) C (v := 3) d_Days_countRows_19 (by decide) ?_
    refine j_icmp_geF (pc := 20) C (tgt := 113) d_Days_countRows_20 (by decide) (show ¬ nI 3 ≤ nI a from nI_ge (by omega) (by decide)) ?_
    refine j_aload_n (pc := 23) C d_Days_countRows_23 rfl 0 rfl ?_
    refine j_aload_n (pc := 24) C d_Days_countRows_24 rfl 1 rfl ?_
    refine j_aload_n (pc := 25) C d_Days_countRows_25 rfl 0 rfl ?_
    refine j_aload_n (pc := 26) C d_Days_countRows_26 rfl 1 rfl ?_
    refine j_get (pc := 27) C gf_Days_59 4 rfl rfl d_Days_countRows_27 ?_
    refine j_callVi (pc := 30) C (c_villageOn l D y ad d n4 sd h4 b4) kw_Days_109 kv_Lake_villageOn 0 2 rfl rfl ⟨by decide, by decide⟩ ⟨by decide, by decide⟩ (wr := [(ad 1, .inr (1, [.int (d.1 9), .ref (ad 4), .ref (ad 5), .ref (ad 6), .ref (ad 7), .ref (ad 8), .ref (ad 9), .ref (ad 10)])), (ad 10, .inl (y 0, 9, .inl (d.2 6))), (ad 12, .inl (y 0, 6, .inl (d.2 8))), (h, .inr (7, [.int sd, .int sw, .int sl, .ref (sa 0), .ref (sa 1), .ref (sa 2), .ref (sa 3), .ref (sa 4), .ref (sa 5), .ref (sa 6)])), (sa 0, .inl (y 0, 9, .inl f0))]) [0] [1, 2, 3, 4, 5] rfl rfl (by decide +kernel) (by decide +kernel) (by decide +kernel) (As := [.int sd]) (rest := [.ref h, .ref (ad 0)]) rfl (nb rfl) rfl d_Days_countRows_30 (fun r1 _ hr1 => ?_)
    refine j_ws (ws' := [(ad 1, .inr (1, [.int (d.1 9), .ref (ad 4), .ref (ad 5), .ref (ad 6), .ref (ad 7), .ref (ad 8), .ref (ad 9), .ref (ad 10)])), (ad 10, .inl (y 0, 9, .inl (d.2 6))), (ad 12, .inl (y 0, 6, .inl (d.2 8))), (h, .inr (7, [.int sd, .int sw, .int sl, .ref (sa 0), .ref (sa 1), .ref (sa 2), .ref (sa 3), .ref (sa 4), .ref (sa 5), .ref (sa 6)])), (sa 0, .inl (y 0, 9, .inl f0)), (ad 0, .inr (2, [.int (d.1 0), .int (d.1 1), .int (d.1 2), .int (d.1 3), .ref (ad 1), .int (d.1 4), .ref (ad 11), .ref (ad 12), .ref (ad 2), .ref (ad 3), .int (d.1 5), .int (d.1 6), .int (d.1 7), .int (d.1 8)]))]) rfl ?_
    rcases hr1 with rfl | ⟨j2, xh3, rfl⟩
    · refine j_iload (pc := 33) C d_Days_countRows_33 5 rfl ?_
      refine j_iconst (pc := 35) C (v := 0) d_Days_countRows_35 (by decide) ?_
      refine j_callSi (pc := 36) C (c_allows l D y ad d n4 h sa sd sw sl f0 (-1) (nI a) 0 h4 b4 hJ hV) kw_Days_43 ks_Days_allows ⟨by decide, by decide⟩ ⟨by decide, by decide⟩ (wr := []) [5, 0, 1, 2, 3, 4] [] rfl rfl (by decide +kernel) (by decide +kernel) (by decide +kernel) (As := [.ref (ad 0), .ref h, .int (-1), .int (nI a), .int 0]) (rest := []) rfl (nb rfl) rfl d_Days_countRows_36 (fun r4 _ hr4 => ?_)
      refine j_ws (ws' := [(ad 0, .inr (2, [.int (d.1 0), .int (d.1 1), .int (d.1 2), .int (d.1 3), .ref (ad 1), .int (d.1 4), .ref (ad 11), .ref (ad 12), .ref (ad 2), .ref (ad 3), .int (d.1 5), .int (d.1 6), .int (d.1 7), .int (d.1 8)])), (ad 1, .inr (1, [.int (d.1 9), .ref (ad 4), .ref (ad 5), .ref (ad 6), .ref (ad 7), .ref (ad 8), .ref (ad 9), .ref (ad 10)])), (ad 10, .inl (y 0, 9, .inl (d.2 6))), (ad 12, .inl (y 0, 6, .inl (d.2 8))), (h, .inr (7, [.int sd, .int sw, .int sl, .ref (sa 0), .ref (sa 1), .ref (sa 2), .ref (sa 3), .ref (sa 4), .ref (sa 5), .ref (sa 6)])), (sa 0, .inl (y 0, 9, .inl f0))]) rfl ?_
      refine j_if_eq (pc := 39) C (tgt := 107) d_Days_countRows_39 (by decide) (fun c5 => ?_) (fun c5 => ?_)
      · refine j_iinc (pc := 107) C (v := nI (a + 1)) (lv' := [(5, .int (nI (a + 1))), (0, .ref (ad 0)), (1, .ref h), (2, .int (nI (q + 1))), (3, .int rs), (4, .int la)]) d_Days_countRows_107 5 rfl (nI_1 _) (by decide) rfl ?_
        refine j_goto (pc := 110) C (tgt := 17) d_Days_countRows_110 (by decide) ?_
        refine j_locs (lv' := [(0, .ref (ad 0)), (1, .ref h), (2, .int (nI (q + 1))), (3, .int rs), (4, .int la), (5, .int (nI (a + 1)))]) [1, 2, 3, 4, 5, 0] rfl ?_
        exact ih (a + 1) _ _ _ _ (by omega)
      · refine j_aload_n (pc := 42) C d_Days_countRows_42 rfl 0 rfl ?_
        refine j_aload_n (pc := 43) C d_Days_countRows_43 rfl 1 rfl ?_
        refine j_iload (pc := 44) C d_Days_countRows_44 5 rfl ?_
        refine j_callSv (pc := 46) C (c_doAct l D y ad d n4 h sa sd sw sl f0 (nI a) h4 b4 hJ hV) kw_Days_47 ks_Days_doAct ⟨by decide, by decide⟩ ⟨by decide, by decide⟩ (wr := []) [0, 1, 2, 3, 4, 5] [] rfl rfl (by decide +kernel) (by decide +kernel) (by decide +kernel) (As := [.ref (ad 0), .ref h, .int (nI a)]) (rest := []) rfl (nb rfl) rfl d_Days_countRows_46 (fun u6 _ => ?_)
        refine j_ws (ws' := [(ad 0, .inr (2, [.int (d.1 0), .int (d.1 1), .int (d.1 2), .int (d.1 3), .ref (ad 1), .int (d.1 4), .ref (ad 11), .ref (ad 12), .ref (ad 2), .ref (ad 3), .int (d.1 5), .int (d.1 6), .int (d.1 7), .int (d.1 8)])), (ad 1, .inr (1, [.int (d.1 9), .ref (ad 4), .ref (ad 5), .ref (ad 6), .ref (ad 7), .ref (ad 8), .ref (ad 9), .ref (ad 10)])), (ad 10, .inl (y 0, 9, .inl (d.2 6))), (ad 12, .inl (y 0, 6, .inl (d.2 8))), (h, .inr (7, [.int sd, .int sw, .int u6.1, .ref (sa 0), .ref (sa 1), .ref (sa 2), .ref (sa 3), .ref (sa 4), .ref (sa 5), .ref (sa 6)])), (sa 0, .inl (y 0, 9, .inl u6.2))]) rfl ?_
        refine j_aload_n (pc := 49) C d_Days_countRows_49 rfl 1 rfl ?_
        refine j_dup (pc := 50) C d_Days_countRows_50 rfl ?_
        refine j_get (pc := 51) C gf_Days_59 4 rfl rfl d_Days_countRows_51 ?_
        refine j_iconst (pc := 54) C (v := 1) d_Days_countRows_54 (by decide) ?_
        refine j_iadd (pc := 55) C (v := sd + 1) d_Days_countRows_55 rfl ?_
        refine j_put (pc := 56) C pf_Days_59 4 (ws' := [(ad 0, .inr (2, [.int (d.1 0), .int (d.1 1), .int (d.1 2), .int (d.1 3), .ref (ad 1), .int (d.1 4), .ref (ad 11), .ref (ad 12), .ref (ad 2), .ref (ad 3), .int (d.1 5), .int (d.1 6), .int (d.1 7), .int (d.1 8)])), (ad 1, .inr (1, [.int (d.1 9), .ref (ad 4), .ref (ad 5), .ref (ad 6), .ref (ad 7), .ref (ad 8), .ref (ad 9), .ref (ad 10)])), (ad 10, .inl (y 0, 9, .inl (d.2 6))), (ad 12, .inl (y 0, 6, .inl (d.2 8))), (h, .inr (7, [.int (sd + 1), .int sw, .int u6.1, .ref (sa 0), .ref (sa 1), .ref (sa 2), .ref (sa 3), .ref (sa 4), .ref (sa 5), .ref (sa 6)])), (sa 0, .inl (y 0, 9, .inl u6.2))]) rfl rfl rfl (nl rfl) rfl d_Days_countRows_56 ?_
        refine j_iload_n (pc := 59) C d_Days_countRows_59 rfl 3 rfl ?_
        refine j_aload_n (pc := 60) C d_Days_countRows_60 rfl 0 rfl ?_
        refine j_aload_n (pc := 61) C d_Days_countRows_61 rfl 1 rfl ?_
        refine j_iload_n (pc := 62) C d_Days_countRows_62 rfl 2 rfl ?_
        refine j_iconst (pc := 63) C (v := 1) d_Days_countRows_63 (by decide) ?_
        refine j_isub (pc := 64) C (v := nI q) d_Days_countRows_64 (nI_pred q) ?_
        refine j_callSi (pc := 65) C (c_countRows_1 l D y ad d n4 h sa (sd + 1) sw u6.1 u6.2 q h4 b4 hJ hV (by omega)) kw_Days_159 ks_Days_countRows ⟨by decide, by decide⟩ ⟨by decide, by decide⟩ (wr := []) [0, 1, 2, 3, 4, 5] [] rfl rfl (by decide +kernel) (by decide +kernel) (by decide +kernel) (As := [.ref (ad 0), .ref h, .int (nI q)]) (rest := [.int rs]) rfl (nb rfl) rfl d_Days_countRows_65 (fun r7 u8 hr7 => ?_)
        refine j_ws (ws' := [(ad 0, .inr (2, [.int (d.1 0), .int (d.1 1), .int (d.1 2), .int (d.1 3), .ref (ad 1), .int (d.1 4), .ref (ad 11), .ref (ad 12), .ref (ad 2), .ref (ad 3), .int (d.1 5), .int (d.1 6), .int (d.1 7), .int (d.1 8)])), (ad 1, .inr (1, [.int (d.1 9), .ref (ad 4), .ref (ad 5), .ref (ad 6), .ref (ad 7), .ref (ad 8), .ref (ad 9), .ref (ad 10)])), (ad 10, .inl (y 0, 9, .inl (d.2 6))), (ad 12, .inl (y 0, 6, .inl (d.2 8))), (h, .inr (7, [.int u8.1, .int sw, .int u8.2.1, .ref (sa 0), .ref (sa 1), .ref (sa 2), .ref (sa 3), .ref (sa 4), .ref (sa 5), .ref (sa 6)])), (sa 0, .inl (y 0, 9, .inl u8.2.2))]) rfl ?_
        refine j_iadd (pc := 68) C (v := rs + r7) d_Days_countRows_68 rfl ?_
        refine j_istore_n (pc := 69) C (lv' := [(3, .int (rs + r7)), (0, .ref (ad 0)), (1, .ref h), (2, .int (nI (q + 1))), (4, .int la), (5, .int (nI a))]) d_Days_countRows_69 rfl (by decide) rfl ?_
        refine j_aload_n (pc := 70) C d_Days_countRows_70 rfl 2 rfl ?_
        refine j_dup (pc := 71) C d_Days_countRows_71 rfl ?_
        refine j_get (pc := 72) C gf_Days_59 4 rfl rfl d_Days_countRows_72 ?_
        refine j_iconst (pc := 75) C (v := 1) d_Days_countRows_75 (by decide) ?_
        refine j_isub (pc := 76) C (v := u8.1 - 1) d_Days_countRows_76 rfl ?_
        refine j_put (pc := 77) C pf_Days_59 4 (ws' := [(ad 0, .inr (2, [.int (d.1 0), .int (d.1 1), .int (d.1 2), .int (d.1 3), .ref (ad 1), .int (d.1 4), .ref (ad 11), .ref (ad 12), .ref (ad 2), .ref (ad 3), .int (d.1 5), .int (d.1 6), .int (d.1 7), .int (d.1 8)])), (ad 1, .inr (1, [.int (d.1 9), .ref (ad 4), .ref (ad 5), .ref (ad 6), .ref (ad 7), .ref (ad 8), .ref (ad 9), .ref (ad 10)])), (ad 10, .inl (y 0, 9, .inl (d.2 6))), (ad 12, .inl (y 0, 6, .inl (d.2 8))), (h, .inr (7, [.int (u8.1 - 1), .int sw, .int u8.2.1, .ref (sa 0), .ref (sa 1), .ref (sa 2), .ref (sa 3), .ref (sa 4), .ref (sa 5), .ref (sa 6)])), (sa 0, .inl (y 0, 9, .inl u8.2.2))]) rfl rfl rfl (nl rfl) rfl d_Days_countRows_77 ?_
        refine j_iload (pc := 80) C d_Days_countRows_80 5 rfl ?_
        refine j_if_eq (pc := 82) C (tgt := 101) d_Days_countRows_82 (by decide) (fun c9 => ?_) (fun c9 => ?_)
        · refine j_aload_n (pc := 101) C d_Days_countRows_101 rfl 2 rfl ?_
          refine j_iload (pc := 102) C d_Days_countRows_102 4 rfl ?_
          refine j_put (pc := 104) C pf_Days_15 4 (ws' := [(ad 0, .inr (2, [.int (d.1 0), .int (d.1 1), .int (d.1 2), .int (d.1 3), .ref (ad 1), .int (d.1 4), .ref (ad 11), .ref (ad 12), .ref (ad 2), .ref (ad 3), .int (d.1 5), .int (d.1 6), .int (d.1 7), .int (d.1 8)])), (ad 1, .inr (1, [.int (d.1 9), .ref (ad 4), .ref (ad 5), .ref (ad 6), .ref (ad 7), .ref (ad 8), .ref (ad 9), .ref (ad 10)])), (ad 10, .inl (y 0, 9, .inl (d.2 6))), (ad 12, .inl (y 0, 6, .inl (d.2 8))), (h, .inr (7, [.int (u8.1 - 1), .int sw, .int la, .ref (sa 0), .ref (sa 1), .ref (sa 2), .ref (sa 3), .ref (sa 4), .ref (sa 5), .ref (sa 6)])), (sa 0, .inl (y 0, 9, .inl u8.2.2))]) rfl rfl rfl (nl rfl) rfl d_Days_countRows_104 ?_
          refine j_iinc (pc := 107) C (v := nI (a + 1)) (lv' := [(5, .int (nI (a + 1))), (3, .int (rs + r7)), (0, .ref (ad 0)), (1, .ref h), (2, .int (nI (q + 1))), (4, .int la)]) d_Days_countRows_107 5 rfl (nI_1 _) (by decide) rfl ?_
          refine j_goto (pc := 110) C (tgt := 17) d_Days_countRows_110 (by decide) ?_
          refine j_locs (lv' := [(0, .ref (ad 0)), (1, .ref h), (2, .int (nI (q + 1))), (3, .int (rs + r7)), (4, .int la), (5, .int (nI (a + 1)))]) [2, 3, 4, 1, 5, 0] rfl ?_
          exact ih (a + 1) _ _ _ _ (by omega)
        · refine j_aload_n (pc := 85) C d_Days_countRows_85 rfl 1 rfl ?_
          refine j_aload_n (pc := 86) C d_Days_countRows_86 rfl 2 rfl ?_
          refine j_iload (pc := 87) C d_Days_countRows_87 5 rfl ?_
          refine j_iconst (pc := 89) C (v := 1) d_Days_countRows_89 (by decide) ?_
          refine j_icmp_ne (pc := 90) C (tgt := 97) d_Days_countRows_90 (by decide) (fun c10 => ?_) (fun c10 => ?_)
          · refine j_iconst (pc := 97) C (v := (-1)) d_Days_countRows_97 (by decide) ?_
            refine j_callSv (pc := 98) C (c_moveBoards l D y ad d n4 h sa (u8.1 - 1) sw u8.2.1 u8.2.2 (-1) h4 b4 hJ hV) kw_Days_106 ks_Days_moveBoards ⟨by decide, by decide⟩ ⟨by decide, by decide⟩ (wr := []) [0, 1, 2, 3, 4, 5] [] rfl rfl (by decide +kernel) (by decide +kernel) (by decide +kernel) (As := [.ref (ad 0), .ref h, .int (-1)]) (rest := []) rfl (nb rfl) rfl d_Days_countRows_98 (fun u11 _ => ?_)
            refine j_ws (ws' := [(ad 0, .inr (2, [.int (d.1 0), .int (d.1 1), .int (d.1 2), .int (d.1 3), .ref (ad 1), .int (d.1 4), .ref (ad 11), .ref (ad 12), .ref (ad 2), .ref (ad 3), .int (d.1 5), .int (d.1 6), .int (d.1 7), .int (d.1 8)])), (ad 1, .inr (1, [.int (d.1 9), .ref (ad 4), .ref (ad 5), .ref (ad 6), .ref (ad 7), .ref (ad 8), .ref (ad 9), .ref (ad 10)])), (ad 10, .inl (y 0, 9, .inl (d.2 6))), (ad 12, .inl (y 0, 6, .inl (d.2 8))), (h, .inr (7, [.int (u8.1 - 1), .int sw, .int u8.2.1, .ref (sa 0), .ref (sa 1), .ref (sa 2), .ref (sa 3), .ref (sa 4), .ref (sa 5), .ref (sa 6)])), (sa 0, .inl (y 0, 9, .inl u11))]) rfl ?_
            refine j_aload_n (pc := 101) C d_Days_countRows_101 rfl 2 rfl ?_
            refine j_iload (pc := 102) C d_Days_countRows_102 4 rfl ?_
            refine j_put (pc := 104) C pf_Days_15 4 (ws' := [(ad 0, .inr (2, [.int (d.1 0), .int (d.1 1), .int (d.1 2), .int (d.1 3), .ref (ad 1), .int (d.1 4), .ref (ad 11), .ref (ad 12), .ref (ad 2), .ref (ad 3), .int (d.1 5), .int (d.1 6), .int (d.1 7), .int (d.1 8)])), (ad 1, .inr (1, [.int (d.1 9), .ref (ad 4), .ref (ad 5), .ref (ad 6), .ref (ad 7), .ref (ad 8), .ref (ad 9), .ref (ad 10)])), (ad 10, .inl (y 0, 9, .inl (d.2 6))), (ad 12, .inl (y 0, 6, .inl (d.2 8))), (h, .inr (7, [.int (u8.1 - 1), .int sw, .int la, .ref (sa 0), .ref (sa 1), .ref (sa 2), .ref (sa 3), .ref (sa 4), .ref (sa 5), .ref (sa 6)])), (sa 0, .inl (y 0, 9, .inl u11))]) rfl rfl rfl (nl rfl) rfl d_Days_countRows_104 ?_
            refine j_iinc (pc := 107) C (v := nI (a + 1)) (lv' := [(5, .int (nI (a + 1))), (3, .int (rs + r7)), (0, .ref (ad 0)), (1, .ref h), (2, .int (nI (q + 1))), (4, .int la)]) d_Days_countRows_107 5 rfl (nI_1 _) (by decide) rfl ?_
            refine j_goto (pc := 110) C (tgt := 17) d_Days_countRows_110 (by decide) ?_
            refine j_locs (lv' := [(0, .ref (ad 0)), (1, .ref h), (2, .int (nI (q + 1))), (3, .int (rs + r7)), (4, .int la), (5, .int (nI (a + 1)))]) [2, 3, 4, 1, 5, 0] rfl ?_
            exact ih (a + 1) _ _ _ _ (by omega)
          · refine j_iconst (pc := 93) C (v := 1) d_Days_countRows_93 (by decide) ?_
            refine j_goto (pc := 94) C (tgt := 98) d_Days_countRows_94 (by decide) ?_
            refine j_callSv (pc := 98) C (c_moveBoards l D y ad d n4 h sa (u8.1 - 1) sw u8.2.1 u8.2.2 1 h4 b4 hJ hV) kw_Days_106 ks_Days_moveBoards ⟨by decide, by decide⟩ ⟨by decide, by decide⟩ (wr := []) [0, 1, 2, 3, 4, 5] [] rfl rfl (by decide +kernel) (by decide +kernel) (by decide +kernel) (As := [.ref (ad 0), .ref h, .int 1]) (rest := []) rfl (nb rfl) rfl d_Days_countRows_98 (fun u12 _ => ?_)
            refine j_ws (ws' := [(ad 0, .inr (2, [.int (d.1 0), .int (d.1 1), .int (d.1 2), .int (d.1 3), .ref (ad 1), .int (d.1 4), .ref (ad 11), .ref (ad 12), .ref (ad 2), .ref (ad 3), .int (d.1 5), .int (d.1 6), .int (d.1 7), .int (d.1 8)])), (ad 1, .inr (1, [.int (d.1 9), .ref (ad 4), .ref (ad 5), .ref (ad 6), .ref (ad 7), .ref (ad 8), .ref (ad 9), .ref (ad 10)])), (ad 10, .inl (y 0, 9, .inl (d.2 6))), (ad 12, .inl (y 0, 6, .inl (d.2 8))), (h, .inr (7, [.int (u8.1 - 1), .int sw, .int u8.2.1, .ref (sa 0), .ref (sa 1), .ref (sa 2), .ref (sa 3), .ref (sa 4), .ref (sa 5), .ref (sa 6)])), (sa 0, .inl (y 0, 9, .inl u12))]) rfl ?_
            refine j_aload_n (pc := 101) C d_Days_countRows_101 rfl 2 rfl ?_
            refine j_iload (pc := 102) C d_Days_countRows_102 4 rfl ?_
            refine j_put (pc := 104) C pf_Days_15 4 (ws' := [(ad 0, .inr (2, [.int (d.1 0), .int (d.1 1), .int (d.1 2), .int (d.1 3), .ref (ad 1), .int (d.1 4), .ref (ad 11), .ref (ad 12), .ref (ad 2), .ref (ad 3), .int (d.1 5), .int (d.1 6), .int (d.1 7), .int (d.1 8)])), (ad 1, .inr (1, [.int (d.1 9), .ref (ad 4), .ref (ad 5), .ref (ad 6), .ref (ad 7), .ref (ad 8), .ref (ad 9), .ref (ad 10)])), (ad 10, .inl (y 0, 9, .inl (d.2 6))), (ad 12, .inl (y 0, 6, .inl (d.2 8))), (h, .inr (7, [.int (u8.1 - 1), .int sw, .int la, .ref (sa 0), .ref (sa 1), .ref (sa 2), .ref (sa 3), .ref (sa 4), .ref (sa 5), .ref (sa 6)])), (sa 0, .inl (y 0, 9, .inl u12))]) rfl rfl rfl (nl rfl) rfl d_Days_countRows_104 ?_
            refine j_iinc (pc := 107) C (v := nI (a + 1)) (lv' := [(5, .int (nI (a + 1))), (3, .int (rs + r7)), (0, .ref (ad 0)), (1, .ref h), (2, .int (nI (q + 1))), (4, .int la)]) d_Days_countRows_107 5 rfl (nI_1 _) (by decide) rfl ?_
            refine j_goto (pc := 110) C (tgt := 17) d_Days_countRows_110 (by decide) ?_
            refine j_locs (lv' := [(0, .ref (ad 0)), (1, .ref h), (2, .int (nI (q + 1))), (3, .int (rs + r7)), (4, .int la), (5, .int (nI (a + 1)))]) [2, 3, 4, 1, 5, 0] rfl ?_
            exact ih (a + 1) _ _ _ _ (by omega)
    · refine j_iload (pc := 33) C d_Days_countRows_33 5 rfl ?_
      refine j_iconst (pc := 35) C (v := 0) d_Days_countRows_35 (by decide) ?_
      refine j_callSi (pc := 36) C (c_allows l D y ad d n4 h sa sd sw sl f0 (nI j2) (nI a) 0 h4 b4 hJ hV) kw_Days_43 ks_Days_allows ⟨by decide, by decide⟩ ⟨by decide, by decide⟩ (wr := []) [5, 0, 1, 2, 3, 4] [] rfl rfl (by decide +kernel) (by decide +kernel) (by decide +kernel) (As := [.ref (ad 0), .ref h, .int (nI j2), .int (nI a), .int 0]) (rest := []) rfl (nb rfl) rfl d_Days_countRows_36 (fun r13 _ hr13 => ?_)
      refine j_ws (ws' := [(ad 0, .inr (2, [.int (d.1 0), .int (d.1 1), .int (d.1 2), .int (d.1 3), .ref (ad 1), .int (d.1 4), .ref (ad 11), .ref (ad 12), .ref (ad 2), .ref (ad 3), .int (d.1 5), .int (d.1 6), .int (d.1 7), .int (d.1 8)])), (ad 1, .inr (1, [.int (d.1 9), .ref (ad 4), .ref (ad 5), .ref (ad 6), .ref (ad 7), .ref (ad 8), .ref (ad 9), .ref (ad 10)])), (ad 10, .inl (y 0, 9, .inl (d.2 6))), (ad 12, .inl (y 0, 6, .inl (d.2 8))), (h, .inr (7, [.int sd, .int sw, .int sl, .ref (sa 0), .ref (sa 1), .ref (sa 2), .ref (sa 3), .ref (sa 4), .ref (sa 5), .ref (sa 6)])), (sa 0, .inl (y 0, 9, .inl f0))]) rfl ?_
      refine j_if_eq (pc := 39) C (tgt := 107) d_Days_countRows_39 (by decide) (fun c14 => ?_) (fun c14 => ?_)
      · refine j_iinc (pc := 107) C (v := nI (a + 1)) (lv' := [(5, .int (nI (a + 1))), (0, .ref (ad 0)), (1, .ref h), (2, .int (nI (q + 1))), (3, .int rs), (4, .int la)]) d_Days_countRows_107 5 rfl (nI_1 _) (by decide) rfl ?_
        refine j_goto (pc := 110) C (tgt := 17) d_Days_countRows_110 (by decide) ?_
        refine j_locs (lv' := [(0, .ref (ad 0)), (1, .ref h), (2, .int (nI (q + 1))), (3, .int rs), (4, .int la), (5, .int (nI (a + 1)))]) [1, 2, 3, 4, 5, 0] rfl ?_
        exact ih (a + 1) _ _ _ _ (by omega)
      · refine j_aload_n (pc := 42) C d_Days_countRows_42 rfl 0 rfl ?_
        refine j_aload_n (pc := 43) C d_Days_countRows_43 rfl 1 rfl ?_
        refine j_iload (pc := 44) C d_Days_countRows_44 5 rfl ?_
        refine j_callSv (pc := 46) C (c_doAct l D y ad d n4 h sa sd sw sl f0 (nI a) h4 b4 hJ hV) kw_Days_47 ks_Days_doAct ⟨by decide, by decide⟩ ⟨by decide, by decide⟩ (wr := []) [0, 1, 2, 3, 4, 5] [] rfl rfl (by decide +kernel) (by decide +kernel) (by decide +kernel) (As := [.ref (ad 0), .ref h, .int (nI a)]) (rest := []) rfl (nb rfl) rfl d_Days_countRows_46 (fun u15 _ => ?_)
        refine j_ws (ws' := [(ad 0, .inr (2, [.int (d.1 0), .int (d.1 1), .int (d.1 2), .int (d.1 3), .ref (ad 1), .int (d.1 4), .ref (ad 11), .ref (ad 12), .ref (ad 2), .ref (ad 3), .int (d.1 5), .int (d.1 6), .int (d.1 7), .int (d.1 8)])), (ad 1, .inr (1, [.int (d.1 9), .ref (ad 4), .ref (ad 5), .ref (ad 6), .ref (ad 7), .ref (ad 8), .ref (ad 9), .ref (ad 10)])), (ad 10, .inl (y 0, 9, .inl (d.2 6))), (ad 12, .inl (y 0, 6, .inl (d.2 8))), (h, .inr (7, [.int sd, .int sw, .int u15.1, .ref (sa 0), .ref (sa 1), .ref (sa 2), .ref (sa 3), .ref (sa 4), .ref (sa 5), .ref (sa 6)])), (sa 0, .inl (y 0, 9, .inl u15.2))]) rfl ?_
        refine j_aload_n (pc := 49) C d_Days_countRows_49 rfl 1 rfl ?_
        refine j_dup (pc := 50) C d_Days_countRows_50 rfl ?_
        refine j_get (pc := 51) C gf_Days_59 4 rfl rfl d_Days_countRows_51 ?_
        refine j_iconst (pc := 54) C (v := 1) d_Days_countRows_54 (by decide) ?_
        refine j_iadd (pc := 55) C (v := sd + 1) d_Days_countRows_55 rfl ?_
        refine j_put (pc := 56) C pf_Days_59 4 (ws' := [(ad 0, .inr (2, [.int (d.1 0), .int (d.1 1), .int (d.1 2), .int (d.1 3), .ref (ad 1), .int (d.1 4), .ref (ad 11), .ref (ad 12), .ref (ad 2), .ref (ad 3), .int (d.1 5), .int (d.1 6), .int (d.1 7), .int (d.1 8)])), (ad 1, .inr (1, [.int (d.1 9), .ref (ad 4), .ref (ad 5), .ref (ad 6), .ref (ad 7), .ref (ad 8), .ref (ad 9), .ref (ad 10)])), (ad 10, .inl (y 0, 9, .inl (d.2 6))), (ad 12, .inl (y 0, 6, .inl (d.2 8))), (h, .inr (7, [.int (sd + 1), .int sw, .int u15.1, .ref (sa 0), .ref (sa 1), .ref (sa 2), .ref (sa 3), .ref (sa 4), .ref (sa 5), .ref (sa 6)])), (sa 0, .inl (y 0, 9, .inl u15.2))]) rfl rfl rfl (nl rfl) rfl d_Days_countRows_56 ?_
        refine j_iload_n (pc := 59) C d_Days_countRows_59 rfl 3 rfl ?_
        refine j_aload_n (pc := 60) C d_Days_countRows_60 rfl 0 rfl ?_
        refine j_aload_n (pc := 61) C d_Days_countRows_61 rfl 1 rfl ?_
        refine j_iload_n (pc := 62) C d_Days_countRows_62 rfl 2 rfl ?_
        refine j_iconst (pc := 63) C (v := 1) d_Days_countRows_63 (by decide) ?_
        refine j_isub (pc := 64) C (v := nI q) d_Days_countRows_64 (nI_pred q) ?_
        refine j_callSi (pc := 65) C (c_countRows_1 l D y ad d n4 h sa (sd + 1) sw u15.1 u15.2 q h4 b4 hJ hV (by omega)) kw_Days_159 ks_Days_countRows ⟨by decide, by decide⟩ ⟨by decide, by decide⟩ (wr := []) [0, 1, 2, 3, 4, 5] [] rfl rfl (by decide +kernel) (by decide +kernel) (by decide +kernel) (As := [.ref (ad 0), .ref h, .int (nI q)]) (rest := [.int rs]) rfl (nb rfl) rfl d_Days_countRows_65 (fun r16 u17 hr16 => ?_)
        refine j_ws (ws' := [(ad 0, .inr (2, [.int (d.1 0), .int (d.1 1), .int (d.1 2), .int (d.1 3), .ref (ad 1), .int (d.1 4), .ref (ad 11), .ref (ad 12), .ref (ad 2), .ref (ad 3), .int (d.1 5), .int (d.1 6), .int (d.1 7), .int (d.1 8)])), (ad 1, .inr (1, [.int (d.1 9), .ref (ad 4), .ref (ad 5), .ref (ad 6), .ref (ad 7), .ref (ad 8), .ref (ad 9), .ref (ad 10)])), (ad 10, .inl (y 0, 9, .inl (d.2 6))), (ad 12, .inl (y 0, 6, .inl (d.2 8))), (h, .inr (7, [.int u17.1, .int sw, .int u17.2.1, .ref (sa 0), .ref (sa 1), .ref (sa 2), .ref (sa 3), .ref (sa 4), .ref (sa 5), .ref (sa 6)])), (sa 0, .inl (y 0, 9, .inl u17.2.2))]) rfl ?_
        refine j_iadd (pc := 68) C (v := rs + r16) d_Days_countRows_68 rfl ?_
        refine j_istore_n (pc := 69) C (lv' := [(3, .int (rs + r16)), (0, .ref (ad 0)), (1, .ref h), (2, .int (nI (q + 1))), (4, .int la), (5, .int (nI a))]) d_Days_countRows_69 rfl (by decide) rfl ?_
        refine j_aload_n (pc := 70) C d_Days_countRows_70 rfl 2 rfl ?_
        refine j_dup (pc := 71) C d_Days_countRows_71 rfl ?_
        refine j_get (pc := 72) C gf_Days_59 4 rfl rfl d_Days_countRows_72 ?_
        refine j_iconst (pc := 75) C (v := 1) d_Days_countRows_75 (by decide) ?_
        refine j_isub (pc := 76) C (v := u17.1 - 1) d_Days_countRows_76 rfl ?_
        refine j_put (pc := 77) C pf_Days_59 4 (ws' := [(ad 0, .inr (2, [.int (d.1 0), .int (d.1 1), .int (d.1 2), .int (d.1 3), .ref (ad 1), .int (d.1 4), .ref (ad 11), .ref (ad 12), .ref (ad 2), .ref (ad 3), .int (d.1 5), .int (d.1 6), .int (d.1 7), .int (d.1 8)])), (ad 1, .inr (1, [.int (d.1 9), .ref (ad 4), .ref (ad 5), .ref (ad 6), .ref (ad 7), .ref (ad 8), .ref (ad 9), .ref (ad 10)])), (ad 10, .inl (y 0, 9, .inl (d.2 6))), (ad 12, .inl (y 0, 6, .inl (d.2 8))), (h, .inr (7, [.int (u17.1 - 1), .int sw, .int u17.2.1, .ref (sa 0), .ref (sa 1), .ref (sa 2), .ref (sa 3), .ref (sa 4), .ref (sa 5), .ref (sa 6)])), (sa 0, .inl (y 0, 9, .inl u17.2.2))]) rfl rfl rfl (nl rfl) rfl d_Days_countRows_77 ?_
        refine j_iload (pc := 80) C d_Days_countRows_80 5 rfl ?_
        refine j_if_eq (pc := 82) C (tgt := 101) d_Days_countRows_82 (by decide) (fun c18 => ?_) (fun c18 => ?_)
        · refine j_aload_n (pc := 101) C d_Days_countRows_101 rfl 2 rfl ?_
          refine j_iload (pc := 102) C d_Days_countRows_102 4 rfl ?_
          refine j_put (pc := 104) C pf_Days_15 4 (ws' := [(ad 0, .inr (2, [.int (d.1 0), .int (d.1 1), .int (d.1 2), .int (d.1 3), .ref (ad 1), .int (d.1 4), .ref (ad 11), .ref (ad 12), .ref (ad 2), .ref (ad 3), .int (d.1 5), .int (d.1 6), .int (d.1 7), .int (d.1 8)])), (ad 1, .inr (1, [.int (d.1 9), .ref (ad 4), .ref (ad 5), .ref (ad 6), .ref (ad 7), .ref (ad 8), .ref (ad 9), .ref (ad 10)])), (ad 10, .inl (y 0, 9, .inl (d.2 6))), (ad 12, .inl (y 0, 6, .inl (d.2 8))), (h, .inr (7, [.int (u17.1 - 1), .int sw, .int la, .ref (sa 0), .ref (sa 1), .ref (sa 2), .ref (sa 3), .ref (sa 4), .ref (sa 5), .ref (sa 6)])), (sa 0, .inl (y 0, 9, .inl u17.2.2))]) rfl rfl rfl (nl rfl) rfl d_Days_countRows_104 ?_
          refine j_iinc (pc := 107) C (v := nI (a + 1)) (lv' := [(5, .int (nI (a + 1))), (3, .int (rs + r16)), (0, .ref (ad 0)), (1, .ref h), (2, .int (nI (q + 1))), (4, .int la)]) d_Days_countRows_107 5 rfl (nI_1 _) (by decide) rfl ?_
          refine j_goto (pc := 110) C (tgt := 17) d_Days_countRows_110 (by decide) ?_
          refine j_locs (lv' := [(0, .ref (ad 0)), (1, .ref h), (2, .int (nI (q + 1))), (3, .int (rs + r16)), (4, .int la), (5, .int (nI (a + 1)))]) [2, 3, 4, 1, 5, 0] rfl ?_
          exact ih (a + 1) _ _ _ _ (by omega)
        · refine j_aload_n (pc := 85) C d_Days_countRows_85 rfl 1 rfl ?_
          refine j_aload_n (pc := 86) C d_Days_countRows_86 rfl 2 rfl ?_
          refine j_iload (pc := 87) C d_Days_countRows_87 5 rfl ?_
          refine j_iconst (pc := 89) C (v := 1) d_Days_countRows_89 (by decide) ?_
          refine j_icmp_ne (pc := 90) C (tgt := 97) d_Days_countRows_90 (by decide) (fun c19 => ?_) (fun c19 => ?_)
          · refine j_iconst (pc := 97) C (v := (-1)) d_Days_countRows_97 (by decide) ?_
            refine j_callSv (pc := 98) C (c_moveBoards l D y ad d n4 h sa (u17.1 - 1) sw u17.2.1 u17.2.2 (-1) h4 b4 hJ hV) kw_Days_106 ks_Days_moveBoards ⟨by decide, by decide⟩ ⟨by decide, by decide⟩ (wr := []) [0, 1, 2, 3, 4, 5] [] rfl rfl (by decide +kernel) (by decide +kernel) (by decide +kernel) (As := [.ref (ad 0), .ref h, .int (-1)]) (rest := []) rfl (nb rfl) rfl d_Days_countRows_98 (fun u20 _ => ?_)
            refine j_ws (ws' := [(ad 0, .inr (2, [.int (d.1 0), .int (d.1 1), .int (d.1 2), .int (d.1 3), .ref (ad 1), .int (d.1 4), .ref (ad 11), .ref (ad 12), .ref (ad 2), .ref (ad 3), .int (d.1 5), .int (d.1 6), .int (d.1 7), .int (d.1 8)])), (ad 1, .inr (1, [.int (d.1 9), .ref (ad 4), .ref (ad 5), .ref (ad 6), .ref (ad 7), .ref (ad 8), .ref (ad 9), .ref (ad 10)])), (ad 10, .inl (y 0, 9, .inl (d.2 6))), (ad 12, .inl (y 0, 6, .inl (d.2 8))), (h, .inr (7, [.int (u17.1 - 1), .int sw, .int u17.2.1, .ref (sa 0), .ref (sa 1), .ref (sa 2), .ref (sa 3), .ref (sa 4), .ref (sa 5), .ref (sa 6)])), (sa 0, .inl (y 0, 9, .inl u20))]) rfl ?_
            refine j_aload_n (pc := 101) C d_Days_countRows_101 rfl 2 rfl ?_
            refine j_iload (pc := 102) C d_Days_countRows_102 4 rfl ?_
            refine j_put (pc := 104) C pf_Days_15 4 (ws' := [(ad 0, .inr (2, [.int (d.1 0), .int (d.1 1), .int (d.1 2), .int (d.1 3), .ref (ad 1), .int (d.1 4), .ref (ad 11), .ref (ad 12), .ref (ad 2), .ref (ad 3), .int (d.1 5), .int (d.1 6), .int (d.1 7), .int (d.1 8)])), (ad 1, .inr (1, [.int (d.1 9), .ref (ad 4), .ref (ad 5), .ref (ad 6), .ref (ad 7), .ref (ad 8), .ref (ad 9), .ref (ad 10)])), (ad 10, .inl (y 0, 9, .inl (d.2 6))), (ad 12, .inl (y 0, 6, .inl (d.2 8))), (h, .inr (7, [.int (u17.1 - 1), .int sw, .int la, .ref (sa 0), .ref (sa 1), .ref (sa 2), .ref (sa 3), .ref (sa 4), .ref (sa 5), .ref (sa 6)])), (sa 0, .inl (y 0, 9, .inl u20))]) rfl rfl rfl (nl rfl) rfl d_Days_countRows_104 ?_
            refine j_iinc (pc := 107) C (v := nI (a + 1)) (lv' := [(5, .int (nI (a + 1))), (3, .int (rs + r16)), (0, .ref (ad 0)), (1, .ref h), (2, .int (nI (q + 1))), (4, .int la)]) d_Days_countRows_107 5 rfl (nI_1 _) (by decide) rfl ?_
            refine j_goto (pc := 110) C (tgt := 17) d_Days_countRows_110 (by decide) ?_
            refine j_locs (lv' := [(0, .ref (ad 0)), (1, .ref h), (2, .int (nI (q + 1))), (3, .int (rs + r16)), (4, .int la), (5, .int (nI (a + 1)))]) [2, 3, 4, 1, 5, 0] rfl ?_
            exact ih (a + 1) _ _ _ _ (by omega)
          · refine j_iconst (pc := 93) C (v := 1) d_Days_countRows_93 (by decide) ?_
            refine j_goto (pc := 94) C (tgt := 98) d_Days_countRows_94 (by decide) ?_
            refine j_callSv (pc := 98) C (c_moveBoards l D y ad d n4 h sa (u17.1 - 1) sw u17.2.1 u17.2.2 1 h4 b4 hJ hV) kw_Days_106 ks_Days_moveBoards ⟨by decide, by decide⟩ ⟨by decide, by decide⟩ (wr := []) [0, 1, 2, 3, 4, 5] [] rfl rfl (by decide +kernel) (by decide +kernel) (by decide +kernel) (As := [.ref (ad 0), .ref h, .int 1]) (rest := []) rfl (nb rfl) rfl d_Days_countRows_98 (fun u21 _ => ?_)
            refine j_ws (ws' := [(ad 0, .inr (2, [.int (d.1 0), .int (d.1 1), .int (d.1 2), .int (d.1 3), .ref (ad 1), .int (d.1 4), .ref (ad 11), .ref (ad 12), .ref (ad 2), .ref (ad 3), .int (d.1 5), .int (d.1 6), .int (d.1 7), .int (d.1 8)])), (ad 1, .inr (1, [.int (d.1 9), .ref (ad 4), .ref (ad 5), .ref (ad 6), .ref (ad 7), .ref (ad 8), .ref (ad 9), .ref (ad 10)])), (ad 10, .inl (y 0, 9, .inl (d.2 6))), (ad 12, .inl (y 0, 6, .inl (d.2 8))), (h, .inr (7, [.int (u17.1 - 1), .int sw, .int u17.2.1, .ref (sa 0), .ref (sa 1), .ref (sa 2), .ref (sa 3), .ref (sa 4), .ref (sa 5), .ref (sa 6)])), (sa 0, .inl (y 0, 9, .inl u21))]) rfl ?_
            refine j_aload_n (pc := 101) C d_Days_countRows_101 rfl 2 rfl ?_
            refine j_iload (pc := 102) C d_Days_countRows_102 4 rfl ?_
            refine j_put (pc := 104) C pf_Days_15 4 (ws' := [(ad 0, .inr (2, [.int (d.1 0), .int (d.1 1), .int (d.1 2), .int (d.1 3), .ref (ad 1), .int (d.1 4), .ref (ad 11), .ref (ad 12), .ref (ad 2), .ref (ad 3), .int (d.1 5), .int (d.1 6), .int (d.1 7), .int (d.1 8)])), (ad 1, .inr (1, [.int (d.1 9), .ref (ad 4), .ref (ad 5), .ref (ad 6), .ref (ad 7), .ref (ad 8), .ref (ad 9), .ref (ad 10)])), (ad 10, .inl (y 0, 9, .inl (d.2 6))), (ad 12, .inl (y 0, 6, .inl (d.2 8))), (h, .inr (7, [.int (u17.1 - 1), .int sw, .int la, .ref (sa 0), .ref (sa 1), .ref (sa 2), .ref (sa 3), .ref (sa 4), .ref (sa 5), .ref (sa 6)])), (sa 0, .inl (y 0, 9, .inl u21))]) rfl rfl rfl (nl rfl) rfl d_Days_countRows_104 ?_
            refine j_iinc (pc := 107) C (v := nI (a + 1)) (lv' := [(5, .int (nI (a + 1))), (3, .int (rs + r16)), (0, .ref (ad 0)), (1, .ref h), (2, .int (nI (q + 1))), (4, .int la)]) d_Days_countRows_107 5 rfl (nI_1 _) (by decide) rfl ?_
            refine j_goto (pc := 110) C (tgt := 17) d_Days_countRows_110 (by decide) ?_
            refine j_locs (lv' := [(0, .ref (ad 0)), (1, .ref h), (2, .int (nI (q + 1))), (3, .int (rs + r16)), (4, .int la), (5, .int (nI (a + 1)))]) [2, 3, 4, 1, 5, 0] rfl ?_
            exact ih (a + 1) _ _ _ _ (by omega)
set_option maxHeartbeats 4000000 in
set_option maxRecDepth 100000 in
theorem c_countRows_2 (l : Launch) (D : va_G) (y : Nat → ClassId) (ad : Nat → Nat) (d : LD) (n4 : Nat) (h : Nat) (sa : Nat → Nat) (sd : Int32) (sw : Int32) (sl : Int32) (f0 : Nat → Int32) (k : Nat) (h4 : d.1 4 = nI n4) (b4 : n4 ≤ 6) (hJ : ∀ j, j < 9 → d.2 6 j = -1 ∨ ∃ q, q < 9 ∧ d.2 6 j = nI q) (hV : ∀ j, j < n4 → ∃ q, q < 9 ∧ d.2 8 j = nI q) (hk : k ≤ 2) : CT l D y ⟨"NineBoards$Days", "countRows", "(LNineBoards$Lake;LNineBoards$State;I)I"⟩ prog_3_method_14_code 6 (some .int) ({ frames := 5, cells := 0, slots := 0, locals := 115 } : Room) [.ref (ad 0), .ref h, .int (nI k)] [(ad 0, .inr (2, [.int (d.1 0), .int (d.1 1), .int (d.1 2), .int (d.1 3), .ref (ad 1), .int (d.1 4), .ref (ad 11), .ref (ad 12), .ref (ad 2), .ref (ad 3), .int (d.1 5), .int (d.1 6), .int (d.1 7), .int (d.1 8)])), (ad 1, .inr (1, [.int (d.1 9), .ref (ad 4), .ref (ad 5), .ref (ad 6), .ref (ad 7), .ref (ad 8), .ref (ad 9), .ref (ad 10)])), (ad 10, .inl (y 0, 9, .inl (d.2 6))), (ad 12, .inl (y 0, 6, .inl (d.2 8))), (h, .inr (7, [.int sd, .int sw, .int sl, .ref (sa 0), .ref (sa 1), .ref (sa 2), .ref (sa 3), .ref (sa 4), .ref (sa 5), .ref (sa 6)])), (sa 0, .inl (y 0, 9, .inl f0))] (QI D [(ad 0, .inr (2, [.int (d.1 0), .int (d.1 1), .int (d.1 2), .int (d.1 3), .ref (ad 1), .int (d.1 4), .ref (ad 11), .ref (ad 12), .ref (ad 2), .ref (ad 3), .int (d.1 5), .int (d.1 6), .int (d.1 7), .int (d.1 8)])), (ad 1, .inr (1, [.int (d.1 9), .ref (ad 4), .ref (ad 5), .ref (ad 6), .ref (ad 7), .ref (ad 8), .ref (ad 9), .ref (ad 10)])), (ad 10, .inl (y 0, 9, .inl (d.2 6))), (ad 12, .inl (y 0, 6, .inl (d.2 8))), (h, .inr (7, [.int sd, .int sw, .int sl, .ref (sa 0), .ref (sa 1), .ref (sa 2), .ref (sa 3), .ref (sa 4), .ref (sa 5), .ref (sa 6)])), (sa 0, .inl (y 0, 9, .inl f0))] (fun (r : Int32) (u : Int32 × Int32 × (Nat → Int32)) => True) (fun u => [(ad 0, .inr (2, [.int (d.1 0), .int (d.1 1), .int (d.1 2), .int (d.1 3), .ref (ad 1), .int (d.1 4), .ref (ad 11), .ref (ad 12), .ref (ad 2), .ref (ad 3), .int (d.1 5), .int (d.1 6), .int (d.1 7), .int (d.1 8)])), (ad 1, .inr (1, [.int (d.1 9), .ref (ad 4), .ref (ad 5), .ref (ad 6), .ref (ad 7), .ref (ad 8), .ref (ad 9), .ref (ad 10)])), (ad 10, .inl (y 0, 9, .inl (d.2 6))), (ad 12, .inl (y 0, 6, .inl (d.2 8))), (h, .inr (7, [.int u.1, .int sw, .int u.2.1, .ref (sa 0), .ref (sa 1), .ref (sa 2), .ref (sa 3), .ref (sa 4), .ref (sa 5), .ref (sa 6)])), (sa 0, .inl (y 0, 9, .inl u.2.2))])) := by
  refine CT.of (by decide) (nb rfl) ?_
  intro p e s m args below meth c C hr
  refine j_lv (lv' := [(0, .ref (ad 0)), (1, .ref h), (2, .int (nI k))]) rfl ?_
  by_cases h0 : k = 0
  · subst h0
    refine j_iload_n (pc := 0) C d_Days_countRows_0 rfl 2 rfl ?_
    refine j_if_gtF (pc := 1) C (tgt := 6) d_Days_countRows_1 (by decide) (by decide) ?_
    refine j_iconst (pc := 4) C (v := 1) d_Days_countRows_4 (by decide) ?_
    exact j_iret (pc := 5) C hr rfl (sd, sl, f0) trivial [0, 1, 2, 3, 4, 5] rfl (by decide) (by decide) (by decide) d_Days_countRows_5
  · obtain ⟨q, rfl⟩ : ∃ q, k = q + 1 := ⟨k - 1, by omega⟩
    refine j_iload_n (pc := 0) C d_Days_countRows_0 rfl 2 rfl ?_
    refine j_if_gtT (pc := 1) C (tgt := 6) d_Days_countRows_1 (by decide) (show nI 0 < nI (q + 1) from nI_lt (by omega) (by omega)) ?_
    refine j_iconst (pc := 6) C (v := 0) d_Days_countRows_6 (by decide) ?_
    refine j_istore_n (pc := 7) C (lv' := [(3, .int 0), (0, .ref (ad 0)), (1, .ref h), (2, .int (nI (q + 1)))]) d_Days_countRows_7 rfl (by decide) rfl ?_
    refine j_aload_n (pc := 8) C d_Days_countRows_8 rfl 2 rfl ?_
    refine j_get (pc := 9) C gf_Days_15 4 rfl rfl d_Days_countRows_9 ?_
    refine j_istore (pc := 12) C (lv' := [(4, .int sl), (3, .int 0), (0, .ref (ad 0)), (1, .ref h), (2, .int (nI (q + 1)))]) d_Days_countRows_12 (by decide) rfl ?_
    refine j_iconst (pc := 14) C (v := 0) d_Days_countRows_14 (by decide) ?_
    refine j_istore (pc := 15) C (lv' := [(5, .int 0), (4, .int sl), (3, .int 0), (0, .ref (ad 0)), (1, .ref h), (2, .int (nI (q + 1)))]) d_Days_countRows_15 (by decide) rfl ?_
    refine j_locs (lv' := [(0, .ref (ad 0)), (1, .ref h), (2, .int (nI (q + 1))), (3, .int 0), (4, .int sl), (5, .int 0)]) [3, 4, 5, 2, 1, 0] rfl ?_
    refine j_lv (lv' := [(0, .ref (ad 0)), (1, .ref h), (2, .int (nI (q + 1))), (3, .int 0), (4, .int sl), (5, .int (nI 0))]) rfl ?_
    refine lp_rows_2 C ad d n4 h sa sw q sl h4 b4 hJ hV hk (fun rs sd sl f0 => ?_) 3 0 _ _ _ _ (by omega)
    refine j_iload_n (pc := 113) C d_Days_countRows_113 rfl 3 rfl ?_
    exact j_iret (pc := 114) C hr rfl (sd, sl, f0) trivial [0, 1, 2, 3, 4, 5] rfl (by decide) (by decide) (by decide) d_Days_countRows_114

set_option maxHeartbeats 4000000 in
set_option maxRecDepth 100000 in
theorem lp_rows_3 {p : Program} {l : Launch} {e : Env} {s : State} {m : MethodId} {args : Array Value} {below : List Frame} {meth : Method} {c : Code} {Q : State → Prop} {D : va_G} {y : Nat → ClassId} {A : Nat → Prop} (C : Cx p s m args meth c D y A prog_3_method_14_code 6 "NineBoards$Days" "countRows") (ad : Nat → Nat) (d : LD) (n4 : Nat) (h : Nat) (sa : Nat → Nat) (sw : Int32) (q : Nat) (la : Int32) (h4 : d.1 4 = nI n4) (b4 : n4 ≤ 6) (hJ : ∀ j, j < 9 → d.2 6 j = -1 ∨ ∃ q, q < 9 ∧ d.2 6 j = nI q) (hV : ∀ j, j < n4 → ∃ q, q < 9 ∧ d.2 8 j = nI q) (hq : q + 1 ≤ 3) (kx : ∀ (rs sd sl : Int32) (f0 : Nat → Int32), J p l e ({ frames := 6, cells := 0, slots := 0, locals := 140 } : Room) s m args below meth c Q D A 6 [(ad 0, .inr (2, [.int (d.1 0), .int (d.1 1), .int (d.1 2), .int (d.1 3), .ref (ad 1), .int (d.1 4), .ref (ad 11), .ref (ad 12), .ref (ad 2), .ref (ad 3), .int (d.1 5), .int (d.1 6), .int (d.1 7), .int (d.1 8)])), (ad 1, .inr (1, [.int (d.1 9), .ref (ad 4), .ref (ad 5), .ref (ad 6), .ref (ad 7), .ref (ad 8), .ref (ad 9), .ref (ad 10)])), (ad 10, .inl (y 0, 9, .inl (d.2 6))), (ad 12, .inl (y 0, 6, .inl (d.2 8))), (h, .inr (7, [.int sd, .int sw, .int sl, .ref (sa 0), .ref (sa 1), .ref (sa 2), .ref (sa 3), .ref (sa 4), .ref (sa 5), .ref (sa 6)])), (sa 0, .inl (y 0, 9, .inl f0))] [(0, .ref (ad 0)), (1, .ref h), (2, .int (nI (q + 1))), (3, .int rs), (4, .int la), (5, .int (nI 3))] 0 0 113 []) : ∀ (n : Nat) (a : Nat) (rs : Int32) (sd : Int32) (sl : Int32) (f0 : Nat → Int32), (a + n = 3) → J p l e ({ frames := 6, cells := 0, slots := 0, locals := 140 } : Room) s m args below meth c Q D A 6 [(ad 0, .inr (2, [.int (d.1 0), .int (d.1 1), .int (d.1 2), .int (d.1 3), .ref (ad 1), .int (d.1 4), .ref (ad 11), .ref (ad 12), .ref (ad 2), .ref (ad 3), .int (d.1 5), .int (d.1 6), .int (d.1 7), .int (d.1 8)])), (ad 1, .inr (1, [.int (d.1 9), .ref (ad 4), .ref (ad 5), .ref (ad 6), .ref (ad 7), .ref (ad 8), .ref (ad 9), .ref (ad 10)])), (ad 10, .inl (y 0, 9, .inl (d.2 6))), (ad 12, .inl (y 0, 6, .inl (d.2 8))), (h, .inr (7, [.int sd, .int sw, .int sl, .ref (sa 0), .ref (sa 1), .ref (sa 2), .ref (sa 3), .ref (sa 4), .ref (sa 5), .ref (sa 6)])), (sa 0, .inl (y 0, 9, .inl f0))] [(0, .ref (ad 0)), (1, .ref h), (2, .int (nI (q + 1))), (3, .int rs), (4, .int la), (5, .int (nI a))] 0 0 17 [] := by
  intro n
  induction n with
  | zero =>
    intro a rs sd sl f0 ha
    obtain rfl : a = 3 := by omega
    refine j_iload (pc := 17) C d_Days_countRows_17 5 rfl ?_
    refine j_iconst (pc := 19) C (v := 3) d_Days_countRows_19 (by decide) ?_
    refine j_icmp_geT (pc := 20) C (tgt := 113) d_Days_countRows_20 (by decide) (by decide) ?_
    exact kx _ _ _ _
  | succ n ih =>
    intro a rs sd sl f0 ha
    refine j_iload (pc := 17) C d_Days_countRows_17 5 rfl ?_
    refine j_iconst (pc := 19) C (v := 3) d_Days_countRows_19 (by decide) ?_
    refine j_icmp_geF (pc := 20) C (tgt := 113) d_Days_countRows_20 (by decide) (show ¬ nI 3 ≤ nI a from nI_ge (by omega) (by decide)) ?_
    refine j_aload_n (pc := 23) C d_Days_countRows_23 rfl 0 rfl ?_
    refine j_aload_n (pc := 24) C d_Days_countRows_24 rfl 1 rfl ?_
    refine j_aload_n (pc := 25) C d_Days_countRows_25 rfl 0 rfl ?_
    refine j_aload_n (pc := 26) C d_Days_countRows_26 rfl 1 rfl ?_
    refine j_get (pc := 27) C gf_Days_59 4 rfl rfl d_Days_countRows_27 ?_
    refine j_callVi (pc := 30) C (c_villageOn l D y ad d n4 sd h4 b4) kw_Days_109 kv_Lake_villageOn 0 2 rfl rfl ⟨by decide, by decide⟩ ⟨by decide, by decide⟩ (wr := [(ad 1, .inr (1, [.int (d.1 9), .ref (ad 4), .ref (ad 5), .ref (ad 6), .ref (ad 7), .ref (ad 8), .ref (ad 9), .ref (ad 10)])), (ad 10, .inl (y 0, 9, .inl (d.2 6))), (ad 12, .inl (y 0, 6, .inl (d.2 8))), (h, .inr (7, [.int sd, .int sw, .int sl, .ref (sa 0), .ref (sa 1), .ref (sa 2), .ref (sa 3), .ref (sa 4), .ref (sa 5), .ref (sa 6)])), (sa 0, .inl (y 0, 9, .inl f0))]) [0] [1, 2, 3, 4, 5] rfl rfl (by decide +kernel) (by decide +kernel) (by decide +kernel) (As := [.int sd]) (rest := [.ref h, .ref (ad 0)]) rfl (nb rfl) rfl d_Days_countRows_30 (fun r1 _ hr1 => ?_)
    refine j_ws (ws' := [(ad 1, .inr (1, [.int (d.1 9), .ref (ad 4), .ref (ad 5), .ref (ad 6), .ref (ad 7), .ref (ad 8), .ref (ad 9), .ref (ad 10)])), (ad 10, .inl (y 0, 9, .inl (d.2 6))), (ad 12, .inl (y 0, 6, .inl (d.2 8))), (h, .inr (7, [.int sd, .int sw, .int sl, .ref (sa 0), .ref (sa 1), .ref (sa 2), .ref (sa 3), .ref (sa 4), .ref (sa 5), .ref (sa 6)])), (sa 0, .inl (y 0, 9, .inl f0)), (ad 0, .inr (2, [.int (d.1 0), .int (d.1 1), .int (d.1 2), .int (d.1 3), .ref (ad 1), .int (d.1 4), .ref (ad 11), .ref (ad 12), .ref (ad 2), .ref (ad 3), .int (d.1 5), .int (d.1 6), .int (d.1 7), .int (d.1 8)]))]) rfl ?_
    rcases hr1 with rfl | ⟨j2, xh3, rfl⟩
    · refine j_iload (pc := 33) C d_Days_countRows_33 5 rfl ?_
      refine j_iconst (pc := 35) C (v := 0) d_Days_countRows_35 (by decide) ?_
      refine j_callSi (pc := 36) C (c_allows l D y ad d n4 h sa sd sw sl f0 (-1) (nI a) 0 h4 b4 hJ hV) kw_Days_43 ks_Days_allows ⟨by decide, by decide⟩ ⟨by decide, by decide⟩ (wr := []) [5, 0, 1, 2, 3, 4] [] rfl rfl (by decide +kernel) (by decide +kernel) (by decide +kernel) (As := [.ref (ad 0), .ref h, .int (-1), .int (nI a), .int 0]) (rest := []) rfl (nb rfl) rfl d_Days_countRows_36 (fun r4 _ hr4 => ?_)
      refine j_ws (ws' := [(ad 0, .inr (2, [.int (d.1 0), .int (d.1 1), .int (d.1 2), .int (d.1 3), .ref (ad 1), .int (d.1 4), .ref (ad 11), .ref (ad 12), .ref (ad 2), .ref (ad 3), .int (d.1 5), .int (d.1 6), .int (d.1 7), .int (d.1 8)])), (ad 1, .inr (1, [.int (d.1 9), .ref (ad 4), .ref (ad 5), .ref (ad 6), .ref (ad 7), .ref (ad 8), .ref (ad 9), .ref (ad 10)])), (ad 10, .inl (y 0, 9, .inl (d.2 6))), (ad 12, .inl (y 0, 6, .inl (d.2 8))), (h, .inr (7, [.int sd, .int sw, .int sl, .ref (sa 0), .ref (sa 1), .ref (sa 2), .ref (sa 3), .ref (sa 4), .ref (sa 5), .ref (sa 6)])), (sa 0, .inl (y 0, 9, .inl f0))]) rfl ?_
      refine j_if_eq (pc := 39) C (tgt := 107) d_Days_countRows_39 (by decide) (fun c5 => ?_) (fun c5 => ?_)
      · refine j_iinc (pc := 107) C (v := nI (a + 1)) (lv' := [(5, .int (nI (a + 1))), (0, .ref (ad 0)), (1, .ref h), (2, .int (nI (q + 1))), (3, .int rs), (4, .int la)]) d_Days_countRows_107 5 rfl (nI_1 _) (by decide) rfl ?_
        refine j_goto (pc := 110) C (tgt := 17) d_Days_countRows_110 (by decide) ?_
        refine j_locs (lv' := [(0, .ref (ad 0)), (1, .ref h), (2, .int (nI (q + 1))), (3, .int rs), (4, .int la), (5, .int (nI (a + 1)))]) [1, 2, 3, 4, 5, 0] rfl ?_
        exact ih (a + 1) _ _ _ _ (by omega)
      · refine j_aload_n (pc := 42) C d_Days_countRows_42 rfl 0 rfl ?_
        refine j_aload_n (pc := 43) C d_Days_countRows_43 rfl 1 rfl ?_
        refine j_iload (pc := 44) C d_Days_countRows_44 5 rfl ?_
        refine j_callSv (pc := 46) C (c_doAct l D y ad d n4 h sa sd sw sl f0 (nI a) h4 b4 hJ hV) kw_Days_47 ks_Days_doAct ⟨by decide, by decide⟩ ⟨by decide, by decide⟩ (wr := []) [0, 1, 2, 3, 4, 5] [] rfl rfl (by decide +kernel) (by decide +kernel) (by decide +kernel) (As := [.ref (ad 0), .ref h, .int (nI a)]) (rest := []) rfl (nb rfl) rfl d_Days_countRows_46 (fun u6 _ => ?_)
        refine j_ws (ws' := [(ad 0, .inr (2, [.int (d.1 0), .int (d.1 1), .int (d.1 2), .int (d.1 3), .ref (ad 1), .int (d.1 4), .ref (ad 11), .ref (ad 12), .ref (ad 2), .ref (ad 3), .int (d.1 5), .int (d.1 6), .int (d.1 7), .int (d.1 8)])), (ad 1, .inr (1, [.int (d.1 9), .ref (ad 4), .ref (ad 5), .ref (ad 6), .ref (ad 7), .ref (ad 8), .ref (ad 9), .ref (ad 10)])), (ad 10, .inl (y 0, 9, .inl (d.2 6))), (ad 12, .inl (y 0, 6, .inl (d.2 8))), (h, .inr (7, [.int sd, .int sw, .int u6.1, .ref (sa 0), .ref (sa 1), .ref (sa 2), .ref (sa 3), .ref (sa 4), .ref (sa 5), .ref (sa 6)])), (sa 0, .inl (y 0, 9, .inl u6.2))]) rfl ?_
        refine j_aload_n (pc := 49) C d_Days_countRows_49 rfl 1 rfl ?_
        refine j_dup (pc := 50) C d_Days_countRows_50 rfl ?_
        refine j_get (pc := 51) C gf_Days_59 4 rfl rfl d_Days_countRows_51 ?_
        refine j_iconst (pc := 54) C (v := 1) d_Days_countRows_54 (by decide) ?_
        refine j_iadd (pc := 55) C (v := sd + 1) d_Days_countRows_55 rfl ?_
        refine j_put (pc := 56) C pf_Days_59 4 (ws' := [(ad 0, .inr (2, [.int (d.1 0), .int (d.1 1), .int (d.1 2), .int (d.1 3), .ref (ad 1), .int (d.1 4), .ref (ad 11), .ref (ad 12), .ref (ad 2), .ref (ad 3), .int (d.1 5), .int (d.1 6), .int (d.1 7), .int (d.1 8)])), (ad 1, .inr (1, [.int (d.1 9), .ref (ad 4), .ref (ad 5), .ref (ad 6), .ref (ad 7), .ref (ad 8), .ref (ad 9), .ref (ad 10)])), (ad 10, .inl (y 0, 9, .inl (d.2 6))), (ad 12, .inl (y 0, 6, .inl (d.2 8))), (h, .inr (7, [.int (sd + 1), .int sw, .int u6.1, .ref (sa 0), .ref (sa 1), .ref (sa 2), .ref (sa 3), .ref (sa 4), .ref (sa 5), .ref (sa 6)])), (sa 0, .inl (y 0, 9, .inl u6.2))]) rfl rfl rfl (nl rfl) rfl d_Days_countRows_56 ?_
        refine j_iload_n (pc := 59) C d_Days_countRows_59 rfl 3 rfl ?_
        refine j_aload_n (pc := 60) C d_Days_countRows_60 rfl 0 rfl ?_
        refine j_aload_n (pc := 61) C d_Days_countRows_61 rfl 1 rfl ?_
        refine j_iload_n (pc := 62) C d_Days_countRows_62 rfl 2 rfl ?_
        refine j_iconst (pc := 63) C (v := 1) d_Days_countRows_63 (by decide) ?_
        refine j_isub (pc := 64) C (v := nI q) d_Days_countRows_64 (nI_pred q) ?_
        refine j_callSi (pc := 65) C (c_countRows_2 l D y ad d n4 h sa (sd + 1) sw u6.1 u6.2 q h4 b4 hJ hV (by omega)) kw_Days_159 ks_Days_countRows ⟨by decide, by decide⟩ ⟨by decide, by decide⟩ (wr := []) [0, 1, 2, 3, 4, 5] [] rfl rfl (by decide +kernel) (by decide +kernel) (by decide +kernel) (As := [.ref (ad 0), .ref h, .int (nI q)]) (rest := [.int rs]) rfl (nb rfl) rfl d_Days_countRows_65 (fun r7 u8 hr7 => ?_)
        refine j_ws (ws' := [(ad 0, .inr (2, [.int (d.1 0), .int (d.1 1), .int (d.1 2), .int (d.1 3), .ref (ad 1), .int (d.1 4), .ref (ad 11), .ref (ad 12), .ref (ad 2), .ref (ad 3), .int (d.1 5), .int (d.1 6), .int (d.1 7), .int (d.1 8)])), (ad 1, .inr (1, [.int (d.1 9), .ref (ad 4), .ref (ad 5), .ref (ad 6), .ref (ad 7), .ref (ad 8), .ref (ad 9), .ref (ad 10)])), (ad 10, .inl (y 0, 9, .inl (d.2 6))), (ad 12, .inl (y 0, 6, .inl (d.2 8))), (h, .inr (7, [.int u8.1, .int sw, .int u8.2.1, .ref (sa 0), .ref (sa 1), .ref (sa 2), .ref (sa 3), .ref (sa 4), .ref (sa 5), .ref (sa 6)])), (sa 0, .inl (y 0, 9, .inl u8.2.2))]) rfl ?_
        refine j_iadd (pc := 68) C (v := rs + r7) d_Days_countRows_68 rfl ?_
        refine j_istore_n (pc := 69) C (lv' := [(3, .int (rs + r7)), (0, .ref (ad 0)), (1, .ref h), (2, .int (nI (q + 1))), (4, .int la), (5, .int (nI a))]) d_Days_countRows_69 rfl (by decide) rfl ?_
        refine j_aload_n (pc := 70) C d_Days_countRows_70 rfl 2 rfl ?_
        refine j_dup (pc := 71) C d_Days_countRows_71 rfl ?_
        refine j_get (pc := 72) C gf_Days_59 4 rfl rfl d_Days_countRows_72 ?_
        refine j_iconst (pc := 75) C (v := 1) d_Days_countRows_75 (by decide) ?_
        refine j_isub (pc := 76) C (v := u8.1 - 1) d_Days_countRows_76 rfl ?_
        refine j_put (pc := 77) C pf_Days_59 4 (ws' := [(ad 0, .inr (2, [.int (d.1 0), .int (d.1 1), .int (d.1 2), .int (d.1 3), .ref (ad 1), .int (d.1 4), .ref (ad 11), .ref (ad 12), .ref (ad 2), .ref (ad 3), .int (d.1 5), .int (d.1 6), .int (d.1 7), .int (d.1 8)])), (ad 1, .inr (1, [.int (d.1 9), .ref (ad 4), .ref (ad 5), .ref (ad 6), .ref (ad 7), .ref (ad 8), .ref (ad 9), .ref (ad 10)])), (ad 10, .inl (y 0, 9, .inl (d.2 6))), (ad 12, .inl (y 0, 6, .inl (d.2 8))), (h, .inr (7, [.int (u8.1 - 1), .int sw, .int u8.2.1, .ref (sa 0), .ref (sa 1), .ref (sa 2), .ref (sa 3), .ref (sa 4), .ref (sa 5), .ref (sa 6)])), (sa 0, .inl (y 0, 9, .inl u8.2.2))]) rfl rfl rfl (nl rfl) rfl d_Days_countRows_77 ?_
        refine j_iload (pc := 80) C d_Days_countRows_80 5 rfl ?_
        refine j_if_eq (pc := 82) C (tgt := 101) d_Days_countRows_82 (by decide) (fun c9 => ?_) (fun c9 => ?_)
        · refine j_aload_n (pc := 101) C d_Days_countRows_101 rfl 2 rfl ?_
          refine j_iload (pc := 102) C d_Days_countRows_102 4 rfl ?_
          refine j_put (pc := 104) C pf_Days_15 4 (ws' := [(ad 0, .inr (2, [.int (d.1 0), .int (d.1 1), .int (d.1 2), .int (d.1 3), .ref (ad 1), .int (d.1 4), .ref (ad 11), .ref (ad 12), .ref (ad 2), .ref (ad 3), .int (d.1 5), .int (d.1 6), .int (d.1 7), .int (d.1 8)])), (ad 1, .inr (1, [.int (d.1 9), .ref (ad 4), .ref (ad 5), .ref (ad 6), .ref (ad 7), .ref (ad 8), .ref (ad 9), .ref (ad 10)])), (ad 10, .inl (y 0, 9, .inl (d.2 6))), (ad 12, .inl (y 0, 6, .inl (d.2 8))), (h, .inr (7, [.int (u8.1 - 1), .int sw, .int la, .ref (sa 0), .ref (sa 1), .ref (sa 2), .ref (sa 3), .ref (sa 4), .ref (sa 5), .ref (sa 6)])), (sa 0, .inl (y 0, 9, .inl u8.2.2))]) rfl rfl rfl (nl rfl) rfl d_Days_countRows_104 ?_
          refine j_iinc (pc := 107) C (v := nI (a + 1)) (lv' := [(5, .int (nI (a + 1))), (3, .int (rs + r7)), (0, .ref (ad 0)), (1, .ref h), (2, .int (nI (q + 1))), (4, .int la)]) d_Days_countRows_107 5 rfl (nI_1 _) (by decide) rfl ?_
          refine j_goto (pc := 110) C (tgt := 17) d_Days_countRows_110 (by decide) ?_
          refine j_locs (lv' := [(0, .ref (ad 0)), (1, .ref h), (2, .int (nI (q + 1))), (3, .int (rs + r7)), (4, .int la), (5, .int (nI (a + 1)))]) [2, 3, 4, 1, 5, 0] rfl ?_
          exact ih (a + 1) _ _ _ _ (by omega)
        · refine j_aload_n (pc := 85) C d_Days_countRows_85 rfl 1 rfl ?_
          refine j_aload_n (pc := 86) C d_Days_countRows_86 rfl 2 rfl ?_
          refine j_iload (pc := 87) C d_Days_countRows_87 5 rfl ?_
          refine j_iconst (pc := 89) C (v := 1) d_Days_countRows_89 (by decide) ?_
          refine j_icmp_ne (pc := 90) C (tgt := 97) d_Days_countRows_90 (by decide) (fun c10 => ?_) (fun c10 => ?_)
          · refine j_iconst (pc := 97) C (v := (-1)) d_Days_countRows_97 (by decide) ?_
            refine j_callSv (pc := 98) C (c_moveBoards l D y ad d n4 h sa (u8.1 - 1) sw u8.2.1 u8.2.2 (-1) h4 b4 hJ hV) kw_Days_106 ks_Days_moveBoards ⟨by decide, by decide⟩ ⟨by decide, by decide⟩ (wr := []) [0, 1, 2, 3, 4, 5] [] rfl rfl (by decide +kernel) (by decide +kernel) (by decide +kernel) (As := [.ref (ad 0), .ref h, .int (-1)]) (rest := []) rfl (nb rfl) rfl d_Days_countRows_98 (fun u11 _ => ?_)
            refine j_ws (ws' := [(ad 0, .inr (2, [.int (d.1 0), .int (d.1 1), .int (d.1 2), .int (d.1 3), .ref (ad 1), .int (d.1 4), .ref (ad 11), .ref (ad 12), .ref (ad 2), .ref (ad 3), .int (d.1 5), .int (d.1 6), .int (d.1 7), .int (d.1 8)])), (ad 1, .inr (1, [.int (d.1 9), .ref (ad 4), .ref (ad 5), .ref (ad 6), .ref (ad 7), .ref (ad 8), .ref (ad 9), .ref (ad 10)])), (ad 10, .inl (y 0, 9, .inl (d.2 6))), (ad 12, .inl (y 0, 6, .inl (d.2 8))), (h, .inr (7, [.int (u8.1 - 1), .int sw, .int u8.2.1, .ref (sa 0), .ref (sa 1), .ref (sa 2), .ref (sa 3), .ref (sa 4), .ref (sa 5), .ref (sa 6)])), (sa 0, .inl (y 0, 9, .inl u11))]) rfl ?_
            refine j_aload_n (pc := 101) C d_Days_countRows_101 rfl 2 rfl ?_
            refine j_iload (pc := 102) C d_Days_countRows_102 4 rfl ?_
            refine j_put (pc := 104) C pf_Days_15 4 (ws' := [(ad 0, .inr (2, [.int (d.1 0), .int (d.1 1), .int (d.1 2), .int (d.1 3), .ref (ad 1), .int (d.1 4), .ref (ad 11), .ref (ad 12), .ref (ad 2), .ref (ad 3), .int (d.1 5), .int (d.1 6), .int (d.1 7), .int (d.1 8)])), (ad 1, .inr (1, [.int (d.1 9), .ref (ad 4), .ref (ad 5), .ref (ad 6), .ref (ad 7), .ref (ad 8), .ref (ad 9), .ref (ad 10)])), (ad 10, .inl (y 0, 9, .inl (d.2 6))), (ad 12, .inl (y 0, 6, .inl (d.2 8))), (h, .inr (7, [.int (u8.1 - 1), .int sw, .int la, .ref (sa 0), .ref (sa 1), .ref (sa 2), .ref (sa 3), .ref (sa 4), .ref (sa 5), .ref (sa 6)])), (sa 0, .inl (y 0, 9, .inl u11))]) rfl rfl rfl (nl rfl) rfl d_Days_countRows_104 ?_
            refine j_iinc (pc := 107) C (v := nI (a + 1)) (lv' := [(5, .int (nI (a + 1))), (3, .int (rs + r7)), (0, .ref (ad 0)), (1, .ref h), (2, .int (nI (q + 1))), (4, .int la)]) d_Days_countRows_107 5 rfl (nI_1 _) (by decide) rfl ?_
            refine j_goto (pc := 110) C (tgt := 17) d_Days_countRows_110 (by decide) ?_
            refine j_locs (lv' := [(0, .ref (ad 0)), (1, .ref h), (2, .int (nI (q + 1))), (3, .int (rs + r7)), (4, .int la), (5, .int (nI (a + 1)))]) [2, 3, 4, 1, 5, 0] rfl ?_
            exact ih (a + 1) _ _ _ _ (by omega)
          · refine j_iconst (pc := 93) C (v := 1) d_Days_countRows_93 (by decide) ?_
            refine j_goto (pc := 94) C (tgt := 98) d_Days_countRows_94 (by decide) ?_
            refine j_callSv (pc := 98) C (c_moveBoards l D y ad d n4 h sa (u8.1 - 1) sw u8.2.1 u8.2.2 1 h4 b4 hJ hV) kw_Days_106 ks_Days_moveBoards ⟨by decide, by decide⟩ ⟨by decide, by decide⟩ (wr := []) [0, 1, 2, 3, 4, 5] [] rfl rfl (by decide +kernel) (by decide +kernel) (by decide +kernel) (As := [.ref (ad 0), .ref h, .int 1]) (rest := []) rfl (nb rfl) rfl d_Days_countRows_98 (fun u12 _ => ?_)
            refine j_ws (ws' := [(ad 0, .inr (2, [.int (d.1 0), .int (d.1 1), .int (d.1 2), .int (d.1 3), .ref (ad 1), .int (d.1 4), .ref (ad 11), .ref (ad 12), .ref (ad 2), .ref (ad 3), .int (d.1 5), .int (d.1 6), .int (d.1 7), .int (d.1 8)])), (ad 1, .inr (1, [.int (d.1 9), .ref (ad 4), .ref (ad 5), .ref (ad 6), .ref (ad 7), .ref (ad 8), .ref (ad 9), .ref (ad 10)])), (ad 10, .inl (y 0, 9, .inl (d.2 6))), (ad 12, .inl (y 0, 6, .inl (d.2 8))), (h, .inr (7, [.int (u8.1 - 1), .int sw, .int u8.2.1, .ref (sa 0), .ref (sa 1), .ref (sa 2), .ref (sa 3), .ref (sa 4), .ref (sa 5), .ref (sa 6)])), (sa 0, .inl (y 0, 9, .inl u12))]) rfl ?_
            refine j_aload_n (pc := 101) C d_Days_countRows_101 rfl 2 rfl ?_
            refine j_iload (pc := 102) C d_Days_countRows_102 4 rfl ?_
            refine j_put (pc := 104) C pf_Days_15 4 (ws' := [(ad 0, .inr (2, [.int (d.1 0), .int (d.1 1), .int (d.1 2), .int (d.1 3), .ref (ad 1), .int (d.1 4), .ref (ad 11), .ref (ad 12), .ref (ad 2), .ref (ad 3), .int (d.1 5), .int (d.1 6), .int (d.1 7), .int (d.1 8)])), (ad 1, .inr (1, [.int (d.1 9), .ref (ad 4), .ref (ad 5), .ref (ad 6), .ref (ad 7), .ref (ad 8), .ref (ad 9), .ref (ad 10)])), (ad 10, .inl (y 0, 9, .inl (d.2 6))), (ad 12, .inl (y 0, 6, .inl (d.2 8))), (h, .inr (7, [.int (u8.1 - 1), .int sw, .int la, .ref (sa 0), .ref (sa 1), .ref (sa 2), .ref (sa 3), .ref (sa 4), .ref (sa 5), .ref (sa 6)])), (sa 0, .inl (y 0, 9, .inl u12))]) rfl rfl rfl (nl rfl) rfl d_Days_countRows_104 ?_
            refine j_iinc (pc := 107) C (v := nI (a + 1)) (lv' := [(5, .int (nI (a + 1))), (3, .int (rs + r7)), (0, .ref (ad 0)), (1, .ref h), (2, .int (nI (q + 1))), (4, .int la)]) d_Days_countRows_107 5 rfl (nI_1 _) (by decide) rfl ?_
            refine j_goto (pc := 110) C (tgt := 17) d_Days_countRows_110 (by decide) ?_
            refine j_locs (lv' := [(0, .ref (ad 0)), (1, .ref h), (2, .int (nI (q + 1))), (3, .int (rs + r7)), (4, .int la), (5, .int (nI (a + 1)))]) [2, 3, 4, 1, 5, 0] rfl ?_
            exact ih (a + 1) _ _ _ _ (by omega)
    · refine j_iload (pc := 33) C d_Days_countRows_33 5 rfl ?_
      refine j_iconst (pc := 35) C (v := 0) d_Days_countRows_35 (by decide) ?_
      refine j_callSi (pc := 36) C (c_allows l D y ad d n4 h sa sd sw sl f0 (nI j2) (nI a) 0 h4 b4 hJ hV) kw_Days_43 ks_Days_allows ⟨by decide, by decide⟩ ⟨by decide, by decide⟩ (wr := []) [5, 0, 1, 2, 3, 4] [] rfl rfl (by decide +kernel) (by decide +kernel) (by decide +kernel) (As := [.ref (ad 0), .ref h, .int (nI j2), .int (nI a), .int 0]) (rest := []) rfl (nb rfl) rfl d_Days_countRows_36 (fun r13 _ hr13 => ?_)
      refine j_ws (ws' := [(ad 0, .inr (2, [.int (d.1 0), .int (d.1 1), .int (d.1 2), .int (d.1 3), .ref (ad 1), .int (d.1 4), .ref (ad 11), .ref (ad 12), .ref (ad 2), .ref (ad 3), .int (d.1 5), .int (d.1 6), .int (d.1 7), .int (d.1 8)])), (ad 1, .inr (1, [.int (d.1 9), .ref (ad 4), .ref (ad 5), .ref (ad 6), .ref (ad 7), .ref (ad 8), .ref (ad 9), .ref (ad 10)])), (ad 10, .inl (y 0, 9, .inl (d.2 6))), (ad 12, .inl (y 0, 6, .inl (d.2 8))), (h, .inr (7, [.int sd, .int sw, .int sl, .ref (sa 0), .ref (sa 1), .ref (sa 2), .ref (sa 3), .ref (sa 4), .ref (sa 5), .ref (sa 6)])), (sa 0, .inl (y 0, 9, .inl f0))]) rfl ?_
      refine j_if_eq (pc := 39) C (tgt := 107) d_Days_countRows_39 (by decide) (fun c14 => ?_) (fun c14 => ?_)
      · refine j_iinc (pc := 107) C (v := nI (a + 1)) (lv' := [(5, .int (nI (a + 1))), (0, .ref (ad 0)), (1, .ref h), (2, .int (nI (q + 1))), (3, .int rs), (4, .int la)]) d_Days_countRows_107 5 rfl (nI_1 _) (by decide) rfl ?_
        refine j_goto (pc := 110) C (tgt := 17) d_Days_countRows_110 (by decide) ?_
        refine j_locs (lv' := [(0, .ref (ad 0)), (1, .ref h), (2, .int (nI (q + 1))), (3, .int rs), (4, .int la), (5, .int (nI (a + 1)))]) [1, 2, 3, 4, 5, 0] rfl ?_
        exact ih (a + 1) _ _ _ _ (by omega)
      · refine j_aload_n (pc := 42) C d_Days_countRows_42 rfl 0 rfl ?_
        refine j_aload_n (pc := 43) C d_Days_countRows_43 rfl 1 rfl ?_
        refine j_iload (pc := 44) C d_Days_countRows_44 5 rfl ?_
        refine j_callSv (pc := 46) C (c_doAct l D y ad d n4 h sa sd sw sl f0 (nI a) h4 b4 hJ hV) kw_Days_47 ks_Days_doAct ⟨by decide, by decide⟩ ⟨by decide, by decide⟩ (wr := []) [0, 1, 2, 3, 4, 5] [] rfl rfl (by decide +kernel) (by decide +kernel) (by decide +kernel) (As := [.ref (ad 0), .ref h, .int (nI a)]) (rest := []) rfl (nb rfl) rfl d_Days_countRows_46 (fun u15 _ => ?_)
        refine j_ws (ws' := [(ad 0, .inr (2, [.int (d.1 0), .int (d.1 1), .int (d.1 2), .int (d.1 3), .ref (ad 1), .int (d.1 4), .ref (ad 11), .ref (ad 12), .ref (ad 2), .ref (ad 3), .int (d.1 5), .int (d.1 6), .int (d.1 7), .int (d.1 8)])), (ad 1, .inr (1, [.int (d.1 9), .ref (ad 4), .ref (ad 5), .ref (ad 6), .ref (ad 7), .ref (ad 8), .ref (ad 9), .ref (ad 10)])), (ad 10, .inl (y 0, 9, .inl (d.2 6))), (ad 12, .inl (y 0, 6, .inl (d.2 8))), (h, .inr (7, [.int sd, .int sw, .int u15.1, .ref (sa 0), .ref (sa 1), .ref (sa 2), .ref (sa 3), .ref (sa 4), .ref (sa 5), .ref (sa 6)])), (sa 0, .inl (y 0, 9, .inl u15.2))]) rfl ?_
        refine j_aload_n (pc := 49) C d_Days_countRows_49 rfl 1 rfl ?_
        refine j_dup (pc := 50) C d_Days_countRows_50 rfl ?_
        refine j_get (pc := 51) C gf_Days_59 4 rfl rfl d_Days_countRows_51 ?_
        refine j_iconst (pc := 54) C (v := 1) d_Days_countRows_54 (by decide) ?_
        refine j_iadd (pc := 55) C (v := sd + 1) d_Days_countRows_55 rfl ?_
        refine j_put (pc := 56) C pf_Days_59 4 (ws' := [(ad 0, .inr (2, [.int (d.1 0), .int (d.1 1), .int (d.1 2), .int (d.1 3), .ref (ad 1), .int (d.1 4), .ref (ad 11), .ref (ad 12), .ref (ad 2), .ref (ad 3), .int (d.1 5), .int (d.1 6), .int (d.1 7), .int (d.1 8)])), (ad 1, .inr (1, [.int (d.1 9), .ref (ad 4), .ref (ad 5), .ref (ad 6), .ref (ad 7), .ref (ad 8), .ref (ad 9), .ref (ad 10)])), (ad 10, .inl (y 0, 9, .inl (d.2 6))), (ad 12, .inl (y 0, 6, .inl (d.2 8))), (h, .inr (7, [.int (sd + 1), .int sw, .int u15.1, .ref (sa 0), .ref (sa 1), .ref (sa 2), .ref (sa 3), .ref (sa 4), .ref (sa 5), .ref (sa 6)])), (sa 0, .inl (y 0, 9, .inl u15.2))]) rfl rfl rfl (nl rfl) rfl d_Days_countRows_56 ?_
        refine j_iload_n (pc := 59) C d_Days_countRows_59 rfl 3 rfl ?_
        refine j_aload_n (pc := 60) C d_Days_countRows_60 rfl 0 rfl ?_
        refine j_aload_n (pc := 61) C d_Days_countRows_61 rfl 1 rfl ?_
        refine j_iload_n (pc := 62) C d_Days_countRows_62 rfl 2 rfl ?_
        refine j_iconst (pc := 63) C (v := 1) d_Days_countRows_63 (by decide) ?_
        refine j_isub (pc := 64) C (v := nI q) d_Days_countRows_64 (nI_pred q) ?_
        refine j_callSi (pc := 65) C (c_countRows_2 l D y ad d n4 h sa (sd + 1) sw u15.1 u15.2 q h4 b4 hJ hV (by omega)) kw_Days_159 ks_Days_countRows ⟨by decide, by decide⟩ ⟨by decide, by decide⟩ (wr := []) [0, 1, 2, 3, 4, 5] [] rfl rfl (by decide +kernel) (by decide +kernel) (by decide +kernel) (As := [.ref (ad 0), .ref h, .int (nI q)]) (rest := [.int rs]) rfl (nb rfl) rfl d_Days_countRows_65 (fun r16 u17 hr16 => ?_)
        refine j_ws (ws' := [(ad 0, .inr (2, [.int (d.1 0), .int (d.1 1), .int (d.1 2), .int (d.1 3), .ref (ad 1), .int (d.1 4), .ref (ad 11), .ref (ad 12), .ref (ad 2), .ref (ad 3), .int (d.1 5), .int (d.1 6), .int (d.1 7), .int (d.1 8)])), (ad 1, .inr (1, [.int (d.1 9), .ref (ad 4), .ref (ad 5), .ref (ad 6), .ref (ad 7), .ref (ad 8), .ref (ad 9), .ref (ad 10)])), (ad 10, .inl (y 0, 9, .inl (d.2 6))), (ad 12, .inl (y 0, 6, .inl (d.2 8))), (h, .inr (7, [.int u17.1, .int sw, .int u17.2.1, .ref (sa 0), .ref (sa 1), .ref (sa 2), .ref (sa 3), .ref (sa 4), .ref (sa 5), .ref (sa 6)])), (sa 0, .inl (y 0, 9, .inl u17.2.2))]) rfl ?_
        refine j_iadd (pc := 68) C (v := rs + r16) d_Days_countRows_68 rfl ?_
        refine j_istore_n (pc := 69) C (lv' := [(3, .int (rs + r16)), (0, .ref (ad 0)), (1, .ref h), (2, .int (nI (q + 1))), (4, .int la), (5, .int (nI a))]) d_Days_countRows_69 rfl (by decide) rfl ?_
        refine j_aload_n (pc := 70) C d_Days_countRows_70 rfl 2 rfl ?_
        refine j_dup (pc := 71) C d_Days_countRows_71 rfl ?_
        refine j_get (pc := 72) C gf_Days_59 4 rfl rfl d_Days_countRows_72 ?_
        refine j_iconst (pc := 75) C (v := 1) d_Days_countRows_75 (by decide) ?_
        refine j_isub (pc := 76) C (v := u17.1 - 1) d_Days_countRows_76 rfl ?_
        refine j_put (pc := 77) C pf_Days_59 4 (ws' := [(ad 0, .inr (2, [.int (d.1 0), .int (d.1 1), .int (d.1 2), .int (d.1 3), .ref (ad 1), .int (d.1 4), .ref (ad 11), .ref (ad 12), .ref (ad 2), .ref (ad 3), .int (d.1 5), .int (d.1 6), .int (d.1 7), .int (d.1 8)])), (ad 1, .inr (1, [.int (d.1 9), .ref (ad 4), .ref (ad 5), .ref (ad 6), .ref (ad 7), .ref (ad 8), .ref (ad 9), .ref (ad 10)])), (ad 10, .inl (y 0, 9, .inl (d.2 6))), (ad 12, .inl (y 0, 6, .inl (d.2 8))), (h, .inr (7, [.int (u17.1 - 1), .int sw, .int u17.2.1, .ref (sa 0), .ref (sa 1), .ref (sa 2), .ref (sa 3), .ref (sa 4), .ref (sa 5), .ref (sa 6)])), (sa 0, .inl (y 0, 9, .inl u17.2.2))]) rfl rfl rfl (nl rfl) rfl d_Days_countRows_77 ?_
        refine j_iload (pc := 80) C d_Days_countRows_80 5 rfl ?_
        refine j_if_eq (pc := 82) C (tgt := 101) d_Days_countRows_82 (by decide) (fun c18 => ?_) (fun c18 => ?_)
        · refine j_aload_n (pc := 101) C d_Days_countRows_101 rfl 2 rfl ?_
          refine j_iload (pc := 102) C d_Days_countRows_102 4 rfl ?_
          refine j_put (pc := 104) C pf_Days_15 4 (ws' := [(ad 0, .inr (2, [.int (d.1 0), .int (d.1 1), .int (d.1 2), .int (d.1 3), .ref (ad 1), .int (d.1 4), .ref (ad 11), .ref (ad 12), .ref (ad 2), .ref (ad 3), .int (d.1 5), .int (d.1 6), .int (d.1 7), .int (d.1 8)])), (ad 1, .inr (1, [.int (d.1 9), .ref (ad 4), .ref (ad 5), .ref (ad 6), .ref (ad 7), .ref (ad 8), .ref (ad 9), .ref (ad 10)])), (ad 10, .inl (y 0, 9, .inl (d.2 6))), (ad 12, .inl (y 0, 6, .inl (d.2 8))), (h, .inr (7, [.int (u17.1 - 1), .int sw, .int la, .ref (sa 0), .ref (sa 1), .ref (sa 2), .ref (sa 3), .ref (sa 4), .ref (sa 5), .ref (sa 6)])), (sa 0, .inl (y 0, 9, .inl u17.2.2))]) rfl rfl rfl (nl rfl) rfl d_Days_countRows_104 ?_
          refine j_iinc (pc := 107) C (v := nI (a + 1)) (lv' := [(5, .int (nI (a + 1))), (3, .int (rs + r16)), (0, .ref (ad 0)), (1, .ref h), (2, .int (nI (q + 1))), (4, .int la)]) d_Days_countRows_107 5 rfl (nI_1 _) (by decide) rfl ?_
          refine j_goto (pc := 110) C (tgt := 17) d_Days_countRows_110 (by decide) ?_
          refine j_locs (lv' := [(0, .ref (ad 0)), (1, .ref h), (2, .int (nI (q + 1))), (3, .int (rs + r16)), (4, .int la), (5, .int (nI (a + 1)))]) [2, 3, 4, 1, 5, 0] rfl ?_
          exact ih (a + 1) _ _ _ _ (by omega)
        · refine j_aload_n (pc := 85) C d_Days_countRows_85 rfl 1 rfl ?_
          refine j_aload_n (pc := 86) C d_Days_countRows_86 rfl 2 rfl ?_
          refine j_iload (pc := 87) C d_Days_countRows_87 5 rfl ?_
          refine j_iconst (pc := 89) C (v := 1) d_Days_countRows_89 (by decide) ?_
          refine j_icmp_ne (pc := 90) C (tgt := 97) d_Days_countRows_90 (by decide) (fun c19 => ?_) (fun c19 => ?_)
          · refine j_iconst (pc := 97) C (v := (-1)) d_Days_countRows_97 (by decide) ?_
            refine j_callSv (pc := 98) C (c_moveBoards l D y ad d n4 h sa (u17.1 - 1) sw u17.2.1 u17.2.2 (-1) h4 b4 hJ hV) kw_Days_106 ks_Days_moveBoards ⟨by decide, by decide⟩ ⟨by decide, by decide⟩ (wr := []) [0, 1, 2, 3, 4, 5] [] rfl rfl (by decide +kernel) (by decide +kernel) (by decide +kernel) (As := [.ref (ad 0), .ref h, .int (-1)]) (rest := []) rfl (nb rfl) rfl d_Days_countRows_98 (fun u20 _ => ?_)
            refine j_ws (ws' := [(ad 0, .inr (2, [.int (d.1 0), .int (d.1 1), .int (d.1 2), .int (d.1 3), .ref (ad 1), .int (d.1 4), .ref (ad 11), .ref (ad 12), .ref (ad 2), .ref (ad 3), .int (d.1 5), .int (d.1 6), .int (d.1 7), .int (d.1 8)])), (ad 1, .inr (1, [.int (d.1 9), .ref (ad 4), .ref (ad 5), .ref (ad 6), .ref (ad 7), .ref (ad 8), .ref (ad 9), .ref (ad 10)])), (ad 10, .inl (y 0, 9, .inl (d.2 6))), (ad 12, .inl (y 0, 6, .inl (d.2 8))), (h, .inr (7, [.int (u17.1 - 1), .int sw, .int u17.2.1, .ref (sa 0), .ref (sa 1), .ref (sa 2), .ref (sa 3), .ref (sa 4), .ref (sa 5), .ref (sa 6)])), (sa 0, .inl (y 0, 9, .inl u20))]) rfl ?_
            refine j_aload_n (pc := 101) C d_Days_countRows_101 rfl 2 rfl ?_
            refine j_iload (pc := 102) C d_Days_countRows_102 4 rfl ?_
            refine j_put (pc := 104) C pf_Days_15 4 (ws' := [(ad 0, .inr (2, [.int (d.1 0), .int (d.1 1), .int (d.1 2), .int (d.1 3), .ref (ad 1), .int (d.1 4), .ref (ad 11), .ref (ad 12), .ref (ad 2), .ref (ad 3), .int (d.1 5), .int (d.1 6), .int (d.1 7), .int (d.1 8)])), (ad 1, .inr (1, [.int (d.1 9), .ref (ad 4), .ref (ad 5), .ref (ad 6), .ref (ad 7), .ref (ad 8), .ref (ad 9), .ref (ad 10)])), (ad 10, .inl (y 0, 9, .inl (d.2 6))), (ad 12, .inl (y 0, 6, .inl (d.2 8))), (h, .inr (7, [.int (u17.1 - 1), .int sw, .int la, .ref (sa 0), .ref (sa 1), .ref (sa 2), .ref (sa 3), .ref (sa 4), .ref (sa 5), .ref (sa 6)])), (sa 0, .inl (y 0, 9, .inl u20))]) rfl rfl rfl (nl rfl) rfl d_Days_countRows_104 ?_
            refine j_iinc (pc := 107) C (v := nI (a + 1)) (lv' := [(5, .int (nI (a + 1))), (3, .int (rs + r16)), (0, .ref (ad 0)), (1, .ref h), (2, .int (nI (q + 1))), (4, .int la)]) d_Days_countRows_107 5 rfl (nI_1 _) (by decide) rfl ?_
            refine j_goto (pc := 110) C (tgt := 17) d_Days_countRows_110 (by decide) ?_
            refine j_locs (lv' := [(0, .ref (ad 0)), (1, .ref h), (2, .int (nI (q + 1))), (3, .int (rs + r16)), (4, .int la), (5, .int (nI (a + 1)))]) [2, 3, 4, 1, 5, 0] rfl ?_
            exact ih (a + 1) _ _ _ _ (by omega)
          · refine j_iconst (pc := 93) C (v := 1) d_Days_countRows_93 (by decide) ?_
            refine j_goto (pc := 94) C (tgt := 98) d_Days_countRows_94 (by decide) ?_
            refine j_callSv (pc := 98) C (c_moveBoards l D y ad d n4 h sa (u17.1 - 1) sw u17.2.1 u17.2.2 1 h4 b4 hJ hV) kw_Days_106 ks_Days_moveBoards ⟨by decide, by decide⟩ ⟨by decide, by decide⟩ (wr := []) [0, 1, 2, 3, 4, 5] [] rfl rfl (by decide +kernel) (by decide +kernel) (by decide +kernel) (As := [.ref (ad 0), .ref h, .int 1]) (rest := []) rfl (nb rfl) rfl d_Days_countRows_98 (fun u21 _ => ?_)
            refine j_ws (ws' := [(ad 0, .inr (2, [.int (d.1 0), .int (d.1 1), .int (d.1 2), .int (d.1 3), .ref (ad 1), .int (d.1 4), .ref (ad 11), .ref (ad 12), .ref (ad 2), .ref (ad 3), .int (d.1 5), .int (d.1 6), .int (d.1 7), .int (d.1 8)])), (ad 1, .inr (1, [.int (d.1 9), .ref (ad 4), .ref (ad 5), .ref (ad 6), .ref (ad 7), .ref (ad 8), .ref (ad 9), .ref (ad 10)])), (ad 10, .inl (y 0, 9, .inl (d.2 6))), (ad 12, .inl (y 0, 6, .inl (d.2 8))), (h, .inr (7, [.int (u17.1 - 1), .int sw, .int u17.2.1, .ref (sa 0), .ref (sa 1), .ref (sa 2), .ref (sa 3), .ref (sa 4), .ref (sa 5), .ref (sa 6)])), (sa 0, .inl (y 0, 9, .inl u21))]) rfl ?_
            refine j_aload_n (pc := 101) C d_Days_countRows_101 rfl 2 rfl ?_
            refine j_iload (pc := 102) C d_Days_countRows_102 4 rfl ?_
            refine j_put (pc := 104) C pf_Days_15 4 (ws' := [(ad 0, .inr (2, [.int (d.1 0), .int (d.1 1), .int (d.1 2), .int (d.1 3), .ref (ad 1), .int (d.1 4), .ref (ad 11), .ref (ad 12), .ref (ad 2), .ref (ad 3), .int (d.1 5), .int (d.1 6), .int (d.1 7), .int (d.1 8)])), (ad 1, .inr (1, [.int (d.1 9), .ref (ad 4), .ref (ad 5), .ref (ad 6), .ref (ad 7), .ref (ad 8), .ref (ad 9), .ref (ad 10)])), (ad 10, .inl (y 0, 9, .inl (d.2 6))), (ad 12, .inl (y 0, 6, .inl (d.2 8))), (h, .inr (7, [.int (u17.1 - 1), .int sw, .int la, .ref (sa 0), .ref (sa 1), .ref (sa 2), .ref (sa 3), .ref (sa 4), .ref (sa 5), .ref (sa 6)])), (sa 0, .inl (y 0, 9, .inl u21))]) rfl rfl rfl (nl rfl) rfl d_Days_countRows_104 ?_
            refine j_iinc (pc := 107) C (v := nI (a + 1)) (lv' := [(5, .int (nI (a + 1))), (3, .int (rs + r16)), (0, .ref (ad 0)), (1, .ref h), (2, .int (nI (q + 1))), (4, .int la)]) d_Days_countRows_107 5 rfl (nI_1 _) (by decide) rfl ?_
            refine j_goto (pc := 110) C (tgt := 17) d_Days_countRows_110 (by decide) ?_
            refine j_locs (lv' := [(0, .ref (ad 0)), (1, .ref h), (2, .int (nI (q + 1))), (3, .int (rs + r16)), (4, .int la), (5, .int (nI (a + 1)))]) [2, 3, 4, 1, 5, 0] rfl ?_
            exact ih (a + 1) _ _ _ _ (by omega)
set_option maxHeartbeats 4000000 in
set_option maxRecDepth 100000 in
theorem c_countRows_3 (l : Launch) (D : va_G) (y : Nat → ClassId) (ad : Nat → Nat) (d : LD) (n4 : Nat) (h : Nat) (sa : Nat → Nat) (sd : Int32) (sw : Int32) (sl : Int32) (f0 : Nat → Int32) (k : Nat) (h4 : d.1 4 = nI n4) (b4 : n4 ≤ 6) (hJ : ∀ j, j < 9 → d.2 6 j = -1 ∨ ∃ q, q < 9 ∧ d.2 6 j = nI q) (hV : ∀ j, j < n4 → ∃ q, q < 9 ∧ d.2 8 j = nI q) (hk : k ≤ 3) : CT l D y ⟨"NineBoards$Days", "countRows", "(LNineBoards$Lake;LNineBoards$State;I)I"⟩ prog_3_method_14_code 6 (some .int) ({ frames := 6, cells := 0, slots := 0, locals := 140 } : Room) [.ref (ad 0), .ref h, .int (nI k)] [(ad 0, .inr (2, [.int (d.1 0), .int (d.1 1), .int (d.1 2), .int (d.1 3), .ref (ad 1), .int (d.1 4), .ref (ad 11), .ref (ad 12), .ref (ad 2), .ref (ad 3), .int (d.1 5), .int (d.1 6), .int (d.1 7), .int (d.1 8)])), (ad 1, .inr (1, [.int (d.1 9), .ref (ad 4), .ref (ad 5), .ref (ad 6), .ref (ad 7), .ref (ad 8), .ref (ad 9), .ref (ad 10)])), (ad 10, .inl (y 0, 9, .inl (d.2 6))), (ad 12, .inl (y 0, 6, .inl (d.2 8))), (h, .inr (7, [.int sd, .int sw, .int sl, .ref (sa 0), .ref (sa 1), .ref (sa 2), .ref (sa 3), .ref (sa 4), .ref (sa 5), .ref (sa 6)])), (sa 0, .inl (y 0, 9, .inl f0))] (QI D [(ad 0, .inr (2, [.int (d.1 0), .int (d.1 1), .int (d.1 2), .int (d.1 3), .ref (ad 1), .int (d.1 4), .ref (ad 11), .ref (ad 12), .ref (ad 2), .ref (ad 3), .int (d.1 5), .int (d.1 6), .int (d.1 7), .int (d.1 8)])), (ad 1, .inr (1, [.int (d.1 9), .ref (ad 4), .ref (ad 5), .ref (ad 6), .ref (ad 7), .ref (ad 8), .ref (ad 9), .ref (ad 10)])), (ad 10, .inl (y 0, 9, .inl (d.2 6))), (ad 12, .inl (y 0, 6, .inl (d.2 8))), (h, .inr (7, [.int sd, .int sw, .int sl, .ref (sa 0), .ref (sa 1), .ref (sa 2), .ref (sa 3), .ref (sa 4), .ref (sa 5), .ref (sa 6)])), (sa 0, .inl (y 0, 9, .inl f0))] (fun (r : Int32) (u : Int32 × Int32 × (Nat → Int32)) => True) (fun u => [(ad 0, .inr (2, [.int (d.1 0), .int (d.1 1), .int (d.1 2), .int (d.1 3), .ref (ad 1), .int (d.1 4), .ref (ad 11), .ref (ad 12), .ref (ad 2), .ref (ad 3), .int (d.1 5), .int (d.1 6), .int (d.1 7), .int (d.1 8)])), (ad 1, .inr (1, [.int (d.1 9), .ref (ad 4), .ref (ad 5), .ref (ad 6), .ref (ad 7), .ref (ad 8), .ref (ad 9), .ref (ad 10)])), (ad 10, .inl (y 0, 9, .inl (d.2 6))), (ad 12, .inl (y 0, 6, .inl (d.2 8))), (h, .inr (7, [.int u.1, .int sw, .int u.2.1, .ref (sa 0), .ref (sa 1), .ref (sa 2), .ref (sa 3), .ref (sa 4), .ref (sa 5), .ref (sa 6)])), (sa 0, .inl (y 0, 9, .inl u.2.2))])) := by
  refine CT.of (by decide) (nb rfl) ?_
  intro p e s m args below meth c C hr
  refine j_lv (lv' := [(0, .ref (ad 0)), (1, .ref h), (2, .int (nI k))]) rfl ?_
  by_cases h0 : k = 0
  · subst h0
    refine j_iload_n (pc := 0) C d_Days_countRows_0 rfl 2 rfl ?_
    refine j_if_gtF (pc := 1) C (tgt := 6) d_Days_countRows_1 (by decide) (by decide) ?_
    refine j_iconst (pc := 4) C (v := 1) d_Days_countRows_4 (by decide) ?_
    exact j_iret (pc := 5) C hr rfl (sd, sl, f0) trivial [0, 1, 2, 3, 4, 5] rfl (by decide) (by decide) (by decide) d_Days_countRows_5
  · obtain ⟨q, rfl⟩ : ∃ q, k = q + 1 := ⟨k - 1, by omega⟩
    refine j_iload_n (pc := 0) C d_Days_countRows_0 rfl 2 rfl ?_
    refine j_if_gtT (pc := 1) C (tgt := 6) d_Days_countRows_1 (by decide) (show nI 0 < nI (q + 1) from nI_lt (by omega) (by omega)) ?_
    refine j_iconst (pc := 6) C (v := 0) d_Days_countRows_6 (by decide) ?_
    refine j_istore_n (pc := 7) C (lv' := [(3, .int 0), (0, .ref (ad 0)), (1, .ref h), (2, .int (nI (q + 1)))]) d_Days_countRows_7 rfl (by decide) rfl ?_
    refine j_aload_n (pc := 8) C d_Days_countRows_8 rfl 2 rfl ?_
    refine j_get (pc := 9) C gf_Days_15 4 rfl rfl d_Days_countRows_9 ?_
    refine j_istore (pc := 12) C (lv' := [(4, .int sl), (3, .int 0), (0, .ref (ad 0)), (1, .ref h), (2, .int (nI (q + 1)))]) d_Days_countRows_12 (by decide) rfl ?_
    refine j_iconst (pc := 14) C (v := 0) d_Days_countRows_14 (by decide) ?_
    refine j_istore (pc := 15) C (lv' := [(5, .int 0), (4, .int sl), (3, .int 0), (0, .ref (ad 0)), (1, .ref h), (2, .int (nI (q + 1)))]) d_Days_countRows_15 (by decide) rfl ?_
    refine j_locs (lv' := [(0, .ref (ad 0)), (1, .ref h), (2, .int (nI (q + 1))), (3, .int 0), (4, .int sl), (5, .int 0)]) [3, 4, 5, 2, 1, 0] rfl ?_
    refine j_lv (lv' := [(0, .ref (ad 0)), (1, .ref h), (2, .int (nI (q + 1))), (3, .int 0), (4, .int sl), (5, .int (nI 0))]) rfl ?_
    refine lp_rows_3 C ad d n4 h sa sw q sl h4 b4 hJ hV hk (fun rs sd sl f0 => ?_) 3 0 _ _ _ _ (by omega)
    refine j_iload_n (pc := 113) C d_Days_countRows_113 rfl 3 rfl ?_
    exact j_iret (pc := 114) C hr rfl (sd, sl, f0) trivial [0, 1, 2, 3, 4, 5] rfl (by decide) (by decide) (by decide) d_Days_countRows_114

set_option maxHeartbeats 4000000 in
set_option maxRecDepth 100000 in
theorem lp_rows_4 {p : Program} {l : Launch} {e : Env} {s : State} {m : MethodId} {args : Array Value} {below : List Frame} {meth : Method} {c : Code} {Q : State → Prop} {D : va_G} {y : Nat → ClassId} {A : Nat → Prop} (C : Cx p s m args meth c D y A prog_3_method_14_code 6 "NineBoards$Days" "countRows") (ad : Nat → Nat) (d : LD) (n4 : Nat) (h : Nat) (sa : Nat → Nat) (sw : Int32) (q : Nat) (la : Int32) (h4 : d.1 4 = nI n4) (b4 : n4 ≤ 6) (hJ : ∀ j, j < 9 → d.2 6 j = -1 ∨ ∃ q, q < 9 ∧ d.2 6 j = nI q) (hV : ∀ j, j < n4 → ∃ q, q < 9 ∧ d.2 8 j = nI q) (hq : q + 1 ≤ 4) (kx : ∀ (rs sd sl : Int32) (f0 : Nat → Int32), J p l e ({ frames := 7, cells := 0, slots := 0, locals := 165 } : Room) s m args below meth c Q D A 6 [(ad 0, .inr (2, [.int (d.1 0), .int (d.1 1), .int (d.1 2), .int (d.1 3), .ref (ad 1), .int (d.1 4), .ref (ad 11), .ref (ad 12), .ref (ad 2), .ref (ad 3), .int (d.1 5), .int (d.1 6), .int (d.1 7), .int (d.1 8)])), (ad 1, .inr (1, [.int (d.1 9), .ref (ad 4), .ref (ad 5), .ref (ad 6), .ref (ad 7), .ref (ad 8), .ref (ad 9), .ref (ad 10)])), (ad 10, .inl (y 0, 9, .inl (d.2 6))), (ad 12, .inl (y 0, 6, .inl (d.2 8))), (h, .inr (7, [.int sd, .int sw, .int sl, .ref (sa 0), .ref (sa 1), .ref (sa 2), .ref (sa 3), .ref (sa 4), .ref (sa 5), .ref (sa 6)])), (sa 0, .inl (y 0, 9, .inl f0))] [(0, .ref (ad 0)), (1, .ref h), (2, .int (nI (q + 1))), (3, .int rs), (4, .int la), (5, .int (nI 3))] 0 0 113 []) : ∀ (n : Nat) (a : Nat) (rs : Int32) (sd : Int32) (sl : Int32) (f0 : Nat → Int32), (a + n = 3) → J p l e ({ frames := 7, cells := 0, slots := 0, locals := 165 } : Room) s m args below meth c Q D A 6 [(ad 0, .inr (2, [.int (d.1 0), .int (d.1 1), .int (d.1 2), .int (d.1 3), .ref (ad 1), .int (d.1 4), .ref (ad 11), .ref (ad 12), .ref (ad 2), .ref (ad 3), .int (d.1 5), .int (d.1 6), .int (d.1 7), .int (d.1 8)])), (ad 1, .inr (1, [.int (d.1 9), .ref (ad 4), .ref (ad 5), .ref (ad 6), .ref (ad 7), .ref (ad 8), .ref (ad 9), .ref (ad 10)])), (ad 10, .inl (y 0, 9, .inl (d.2 6))), (ad 12, .inl (y 0, 6, .inl (d.2 8))), (h, .inr (7, [.int sd, .int sw, .int sl, .ref (sa 0), .ref (sa 1), .ref (sa 2), .ref (sa 3), .ref (sa 4), .ref (sa 5), .ref (sa 6)])), (sa 0, .inl (y 0, 9, .inl f0))] [(0, .ref (ad 0)), (1, .ref h), (2, .int (nI (q + 1))), (3, .int rs), (4, .int la), (5, .int (nI a))] 0 0 17 [] := by
  intro n
  induction n with
  | zero =>
    intro a rs sd sl f0 ha
    obtain rfl : a = 3 := by omega
    refine j_iload (pc := 17) C d_Days_countRows_17 5 rfl ?_
    refine j_iconst (pc := 19) C (v := 3) d_Days_countRows_19 (by decide) ?_
    refine j_icmp_geT (pc := 20) C (tgt := 113) d_Days_countRows_20 (by decide) (by decide) ?_
    exact kx _ _ _ _
  | succ n ih =>
    intro a rs sd sl f0 ha
    refine j_iload (pc := 17) C d_Days_countRows_17 5 rfl ?_
    refine j_iconst (pc := 19) C (v := 3) d_Days_countRows_19 (by decide) ?_
    refine j_icmp_geF (pc := 20) C (tgt := 113) d_Days_countRows_20 (by decide) (show ¬ nI 3 ≤ nI a from nI_ge (by omega) (by decide)) ?_
    refine j_aload_n (pc := 23) C d_Days_countRows_23 rfl 0 rfl ?_
    refine j_aload_n (pc := 24) C d_Days_countRows_24 rfl 1 rfl ?_
    refine j_aload_n (pc := 25) C d_Days_countRows_25 rfl 0 rfl ?_
    refine j_aload_n (pc := 26) C d_Days_countRows_26 rfl 1 rfl ?_
    refine j_get (pc := 27) C gf_Days_59 4 rfl rfl d_Days_countRows_27 ?_
    refine j_callVi (pc := 30) C (c_villageOn l D y ad d n4 sd h4 b4) kw_Days_109 kv_Lake_villageOn 0 2 rfl rfl ⟨by decide, by decide⟩ ⟨by decide, by decide⟩ (wr := [(ad 1, .inr (1, [.int (d.1 9), .ref (ad 4), .ref (ad 5), .ref (ad 6), .ref (ad 7), .ref (ad 8), .ref (ad 9), .ref (ad 10)])), (ad 10, .inl (y 0, 9, .inl (d.2 6))), (ad 12, .inl (y 0, 6, .inl (d.2 8))), (h, .inr (7, [.int sd, .int sw, .int sl, .ref (sa 0), .ref (sa 1), .ref (sa 2), .ref (sa 3), .ref (sa 4), .ref (sa 5), .ref (sa 6)])), (sa 0, .inl (y 0, 9, .inl f0))]) [0] [1, 2, 3, 4, 5] rfl rfl (by decide +kernel) (by decide +kernel) (by decide +kernel) (As := [.int sd]) (rest := [.ref h, .ref (ad 0)]) rfl (nb rfl) rfl d_Days_countRows_30 (fun r1 _ hr1 => ?_)
    refine j_ws (ws' := [(ad 1, .inr (1, [.int (d.1 9), .ref (ad 4), .ref (ad 5), .ref (ad 6), .ref (ad 7), .ref (ad 8), .ref (ad 9), .ref (ad 10)])), (ad 10, .inl (y 0, 9, .inl (d.2 6))), (ad 12, .inl (y 0, 6, .inl (d.2 8))), (h, .inr (7, [.int sd, .int sw, .int sl, .ref (sa 0), .ref (sa 1), .ref (sa 2), .ref (sa 3), .ref (sa 4), .ref (sa 5), .ref (sa 6)])), (sa 0, .inl (y 0, 9, .inl f0)), (ad 0, .inr (2, [.int (d.1 0), .int (d.1 1), .int (d.1 2), .int (d.1 3), .ref (ad 1), .int (d.1 4), .ref (ad 11), .ref (ad 12), .ref (ad 2), .ref (ad 3), .int (d.1 5), .int (d.1 6), .int (d.1 7), .int (d.1 8)]))]) rfl ?_
    rcases hr1 with rfl | ⟨j2, xh3, rfl⟩
    · refine j_iload (pc := 33) C d_Days_countRows_33 5 rfl ?_
      refine j_iconst (pc := 35) C (v := 0) d_Days_countRows_35 (by decide) ?_
      refine j_callSi (pc := 36) C (c_allows l D y ad d n4 h sa sd sw sl f0 (-1) (nI a) 0 h4 b4 hJ hV) kw_Days_43 ks_Days_allows ⟨by decide, by decide⟩ ⟨by decide, by decide⟩ (wr := []) [5, 0, 1, 2, 3, 4] [] rfl rfl (by decide +kernel) (by decide +kernel) (by decide +kernel) (As := [.ref (ad 0), .ref h, .int (-1), .int (nI a), .int 0]) (rest := []) rfl (nb rfl) rfl d_Days_countRows_36 (fun r4 _ hr4 => ?_)
      refine j_ws (ws' := [(ad 0, .inr (2, [.int (d.1 0), .int (d.1 1), .int (d.1 2), .int (d.1 3), .ref (ad 1), .int (d.1 4), .ref (ad 11), .ref (ad 12), .ref (ad 2), .ref (ad 3), .int (d.1 5), .int (d.1 6), .int (d.1 7), .int (d.1 8)])), (ad 1, .inr (1, [.int (d.1 9), .ref (ad 4), .ref (ad 5), .ref (ad 6), .ref (ad 7), .ref (ad 8), .ref (ad 9), .ref (ad 10)])), (ad 10, .inl (y 0, 9, .inl (d.2 6))), (ad 12, .inl (y 0, 6, .inl (d.2 8))), (h, .inr (7, [.int sd, .int sw, .int sl, .ref (sa 0), .ref (sa 1), .ref (sa 2), .ref (sa 3), .ref (sa 4), .ref (sa 5), .ref (sa 6)])), (sa 0, .inl (y 0, 9, .inl f0))]) rfl ?_
      refine j_if_eq (pc := 39) C (tgt := 107) d_Days_countRows_39 (by decide) (fun c5 => ?_) (fun c5 => ?_)
      · refine j_iinc (pc := 107) C (v := nI (a + 1)) (lv' := [(5, .int (nI (a + 1))), (0, .ref (ad 0)), (1, .ref h), (2, .int (nI (q + 1))), (3, .int rs), (4, .int la)]) d_Days_countRows_107 5 rfl (nI_1 _) (by decide) rfl ?_
        refine j_goto (pc := 110) C (tgt := 17) d_Days_countRows_110 (by decide) ?_
        refine j_locs (lv' := [(0, .ref (ad 0)), (1, .ref h), (2, .int (nI (q + 1))), (3, .int rs), (4, .int la), (5, .int (nI (a + 1)))]) [1, 2, 3, 4, 5, 0] rfl ?_
        exact ih (a + 1) _ _ _ _ (by omega)
      · refine j_aload_n (pc := 42) C d_Days_countRows_42 rfl 0 rfl ?_
        refine j_aload_n (pc := 43) C d_Days_countRows_43 rfl 1 rfl ?_
        refine j_iload (pc := 44) C d_Days_countRows_44 5 rfl ?_
        refine j_callSv (pc := 46) C (c_doAct l D y ad d n4 h sa sd sw sl f0 (nI a) h4 b4 hJ hV) kw_Days_47 ks_Days_doAct ⟨by decide, by decide⟩ ⟨by decide, by decide⟩ (wr := []) [0, 1, 2, 3, 4, 5] [] rfl rfl (by decide +kernel) (by decide +kernel) (by decide +kernel) (As := [.ref (ad 0), .ref h, .int (nI a)]) (rest := []) rfl (nb rfl) rfl d_Days_countRows_46 (fun u6 _ => ?_)
        refine j_ws (ws' := [(ad 0, .inr (2, [.int (d.1 0), .int (d.1 1), .int (d.1 2), .int (d.1 3), .ref (ad 1), .int (d.1 4), .ref (ad 11), .ref (ad 12), .ref (ad 2), .ref (ad 3), .int (d.1 5), .int (d.1 6), .int (d.1 7), .int (d.1 8)])), (ad 1, .inr (1, [.int (d.1 9), .ref (ad 4), .ref (ad 5), .ref (ad 6), .ref (ad 7), .ref (ad 8), .ref (ad 9), .ref (ad 10)])), (ad 10, .inl (y 0, 9, .inl (d.2 6))), (ad 12, .inl (y 0, 6, .inl (d.2 8))), (h, .inr (7, [.int sd, .int sw, .int u6.1, .ref (sa 0), .ref (sa 1), .ref (sa 2), .ref (sa 3), .ref (sa 4), .ref (sa 5), .ref (sa 6)])), (sa 0, .inl (y 0, 9, .inl u6.2))]) rfl ?_
        refine j_aload_n (pc := 49) C d_Days_countRows_49 rfl 1 rfl ?_
        refine j_dup (pc := 50) C d_Days_countRows_50 rfl ?_
        refine j_get (pc := 51) C gf_Days_59 4 rfl rfl d_Days_countRows_51 ?_
        refine j_iconst (pc := 54) C (v := 1) d_Days_countRows_54 (by decide) ?_
        refine j_iadd (pc := 55) C (v := sd + 1) d_Days_countRows_55 rfl ?_
        refine j_put (pc := 56) C pf_Days_59 4 (ws' := [(ad 0, .inr (2, [.int (d.1 0), .int (d.1 1), .int (d.1 2), .int (d.1 3), .ref (ad 1), .int (d.1 4), .ref (ad 11), .ref (ad 12), .ref (ad 2), .ref (ad 3), .int (d.1 5), .int (d.1 6), .int (d.1 7), .int (d.1 8)])), (ad 1, .inr (1, [.int (d.1 9), .ref (ad 4), .ref (ad 5), .ref (ad 6), .ref (ad 7), .ref (ad 8), .ref (ad 9), .ref (ad 10)])), (ad 10, .inl (y 0, 9, .inl (d.2 6))), (ad 12, .inl (y 0, 6, .inl (d.2 8))), (h, .inr (7, [.int (sd + 1), .int sw, .int u6.1, .ref (sa 0), .ref (sa 1), .ref (sa 2), .ref (sa 3), .ref (sa 4), .ref (sa 5), .ref (sa 6)])), (sa 0, .inl (y 0, 9, .inl u6.2))]) rfl rfl rfl (nl rfl) rfl d_Days_countRows_56 ?_
        refine j_iload_n (pc := 59) C d_Days_countRows_59 rfl 3 rfl ?_
        refine j_aload_n (pc := 60) C d_Days_countRows_60 rfl 0 rfl ?_
        refine j_aload_n (pc := 61) C d_Days_countRows_61 rfl 1 rfl ?_
        refine j_iload_n (pc := 62) C d_Days_countRows_62 rfl 2 rfl ?_
        refine j_iconst (pc := 63) C (v := 1) d_Days_countRows_63 (by decide) ?_
        refine j_isub (pc := 64) C (v := nI q) d_Days_countRows_64 (nI_pred q) ?_
        refine j_callSi (pc := 65) C (c_countRows_3 l D y ad d n4 h sa (sd + 1) sw u6.1 u6.2 q h4 b4 hJ hV (by omega)) kw_Days_159 ks_Days_countRows ⟨by decide, by decide⟩ ⟨by decide, by decide⟩ (wr := []) [0, 1, 2, 3, 4, 5] [] rfl rfl (by decide +kernel) (by decide +kernel) (by decide +kernel) (As := [.ref (ad 0), .ref h, .int (nI q)]) (rest := [.int rs]) rfl (nb rfl) rfl d_Days_countRows_65 (fun r7 u8 hr7 => ?_)
        refine j_ws (ws' := [(ad 0, .inr (2, [.int (d.1 0), .int (d.1 1), .int (d.1 2), .int (d.1 3), .ref (ad 1), .int (d.1 4), .ref (ad 11), .ref (ad 12), .ref (ad 2), .ref (ad 3), .int (d.1 5), .int (d.1 6), .int (d.1 7), .int (d.1 8)])), (ad 1, .inr (1, [.int (d.1 9), .ref (ad 4), .ref (ad 5), .ref (ad 6), .ref (ad 7), .ref (ad 8), .ref (ad 9), .ref (ad 10)])), (ad 10, .inl (y 0, 9, .inl (d.2 6))), (ad 12, .inl (y 0, 6, .inl (d.2 8))), (h, .inr (7, [.int u8.1, .int sw, .int u8.2.1, .ref (sa 0), .ref (sa 1), .ref (sa 2), .ref (sa 3), .ref (sa 4), .ref (sa 5), .ref (sa 6)])), (sa 0, .inl (y 0, 9, .inl u8.2.2))]) rfl ?_
        refine j_iadd (pc := 68) C (v := rs + r7) d_Days_countRows_68 rfl ?_
        refine j_istore_n (pc := 69) C (lv' := [(3, .int (rs + r7)), (0, .ref (ad 0)), (1, .ref h), (2, .int (nI (q + 1))), (4, .int la), (5, .int (nI a))]) d_Days_countRows_69 rfl (by decide) rfl ?_
        refine j_aload_n (pc := 70) C d_Days_countRows_70 rfl 2 rfl ?_
        refine j_dup (pc := 71) C d_Days_countRows_71 rfl ?_
        refine j_get (pc := 72) C gf_Days_59 4 rfl rfl d_Days_countRows_72 ?_
        refine j_iconst (pc := 75) C (v := 1) d_Days_countRows_75 (by decide) ?_
        refine j_isub (pc := 76) C (v := u8.1 - 1) d_Days_countRows_76 rfl ?_
        refine j_put (pc := 77) C pf_Days_59 4 (ws' := [(ad 0, .inr (2, [.int (d.1 0), .int (d.1 1), .int (d.1 2), .int (d.1 3), .ref (ad 1), .int (d.1 4), .ref (ad 11), .ref (ad 12), .ref (ad 2), .ref (ad 3), .int (d.1 5), .int (d.1 6), .int (d.1 7), .int (d.1 8)])), (ad 1, .inr (1, [.int (d.1 9), .ref (ad 4), .ref (ad 5), .ref (ad 6), .ref (ad 7), .ref (ad 8), .ref (ad 9), .ref (ad 10)])), (ad 10, .inl (y 0, 9, .inl (d.2 6))), (ad 12, .inl (y 0, 6, .inl (d.2 8))), (h, .inr (7, [.int (u8.1 - 1), .int sw, .int u8.2.1, .ref (sa 0), .ref (sa 1), .ref (sa 2), .ref (sa 3), .ref (sa 4), .ref (sa 5), .ref (sa 6)])), (sa 0, .inl (y 0, 9, .inl u8.2.2))]) rfl rfl rfl (nl rfl) rfl d_Days_countRows_77 ?_
        refine j_iload (pc := 80) C d_Days_countRows_80 5 rfl ?_
        refine j_if_eq (pc := 82) C (tgt := 101) d_Days_countRows_82 (by decide) (fun c9 => ?_) (fun c9 => ?_)
        · refine j_aload_n (pc := 101) C d_Days_countRows_101 rfl 2 rfl ?_
          refine j_iload (pc := 102) C d_Days_countRows_102 4 rfl ?_
          refine j_put (pc := 104) C pf_Days_15 4 (ws' := [(ad 0, .inr (2, [.int (d.1 0), .int (d.1 1), .int (d.1 2), .int (d.1 3), .ref (ad 1), .int (d.1 4), .ref (ad 11), .ref (ad 12), .ref (ad 2), .ref (ad 3), .int (d.1 5), .int (d.1 6), .int (d.1 7), .int (d.1 8)])), (ad 1, .inr (1, [.int (d.1 9), .ref (ad 4), .ref (ad 5), .ref (ad 6), .ref (ad 7), .ref (ad 8), .ref (ad 9), .ref (ad 10)])), (ad 10, .inl (y 0, 9, .inl (d.2 6))), (ad 12, .inl (y 0, 6, .inl (d.2 8))), (h, .inr (7, [.int (u8.1 - 1), .int sw, .int la, .ref (sa 0), .ref (sa 1), .ref (sa 2), .ref (sa 3), .ref (sa 4), .ref (sa 5), .ref (sa 6)])), (sa 0, .inl (y 0, 9, .inl u8.2.2))]) rfl rfl rfl (nl rfl) rfl d_Days_countRows_104 ?_
          refine j_iinc (pc := 107) C (v := nI (a + 1)) (lv' := [(5, .int (nI (a + 1))), (3, .int (rs + r7)), (0, .ref (ad 0)), (1, .ref h), (2, .int (nI (q + 1))), (4, .int la)]) d_Days_countRows_107 5 rfl (nI_1 _) (by decide) rfl ?_
          refine j_goto (pc := 110) C (tgt := 17) d_Days_countRows_110 (by decide) ?_
          refine j_locs (lv' := [(0, .ref (ad 0)), (1, .ref h), (2, .int (nI (q + 1))), (3, .int (rs + r7)), (4, .int la), (5, .int (nI (a + 1)))]) [2, 3, 4, 1, 5, 0] rfl ?_
          exact ih (a + 1) _ _ _ _ (by omega)
        · refine j_aload_n (pc := 85) C d_Days_countRows_85 rfl 1 rfl ?_
          refine j_aload_n (pc := 86) C d_Days_countRows_86 rfl 2 rfl ?_
          refine j_iload (pc := 87) C d_Days_countRows_87 5 rfl ?_
          refine j_iconst (pc := 89) C (v := 1) d_Days_countRows_89 (by decide) ?_
          refine j_icmp_ne (pc := 90) C (tgt := 97) d_Days_countRows_90 (by decide) (fun c10 => ?_) (fun c10 => ?_)
          · refine j_iconst (pc := 97) C (v := (-1)) d_Days_countRows_97 (by decide) ?_
            refine j_callSv (pc := 98) C (c_moveBoards l D y ad d n4 h sa (u8.1 - 1) sw u8.2.1 u8.2.2 (-1) h4 b4 hJ hV) kw_Days_106 ks_Days_moveBoards ⟨by decide, by decide⟩ ⟨by decide, by decide⟩ (wr := []) [0, 1, 2, 3, 4, 5] [] rfl rfl (by decide +kernel) (by decide +kernel) (by decide +kernel) (As := [.ref (ad 0), .ref h, .int (-1)]) (rest := []) rfl (nb rfl) rfl d_Days_countRows_98 (fun u11 _ => ?_)
            refine j_ws (ws' := [(ad 0, .inr (2, [.int (d.1 0), .int (d.1 1), .int (d.1 2), .int (d.1 3), .ref (ad 1), .int (d.1 4), .ref (ad 11), .ref (ad 12), .ref (ad 2), .ref (ad 3), .int (d.1 5), .int (d.1 6), .int (d.1 7), .int (d.1 8)])), (ad 1, .inr (1, [.int (d.1 9), .ref (ad 4), .ref (ad 5), .ref (ad 6), .ref (ad 7), .ref (ad 8), .ref (ad 9), .ref (ad 10)])), (ad 10, .inl (y 0, 9, .inl (d.2 6))), (ad 12, .inl (y 0, 6, .inl (d.2 8))), (h, .inr (7, [.int (u8.1 - 1), .int sw, .int u8.2.1, .ref (sa 0), .ref (sa 1), .ref (sa 2), .ref (sa 3), .ref (sa 4), .ref (sa 5), .ref (sa 6)])), (sa 0, .inl (y 0, 9, .inl u11))]) rfl ?_
            refine j_aload_n (pc := 101) C d_Days_countRows_101 rfl 2 rfl ?_
            refine j_iload (pc := 102) C d_Days_countRows_102 4 rfl ?_
            refine j_put (pc := 104) C pf_Days_15 4 (ws' := [(ad 0, .inr (2, [.int (d.1 0), .int (d.1 1), .int (d.1 2), .int (d.1 3), .ref (ad 1), .int (d.1 4), .ref (ad 11), .ref (ad 12), .ref (ad 2), .ref (ad 3), .int (d.1 5), .int (d.1 6), .int (d.1 7), .int (d.1 8)])), (ad 1, .inr (1, [.int (d.1 9), .ref (ad 4), .ref (ad 5), .ref (ad 6), .ref (ad 7), .ref (ad 8), .ref (ad 9), .ref (ad 10)])), (ad 10, .inl (y 0, 9, .inl (d.2 6))), (ad 12, .inl (y 0, 6, .inl (d.2 8))), (h, .inr (7, [.int (u8.1 - 1), .int sw, .int la, .ref (sa 0), .ref (sa 1), .ref (sa 2), .ref (sa 3), .ref (sa 4), .ref (sa 5), .ref (sa 6)])), (sa 0, .inl (y 0, 9, .inl u11))]) rfl rfl rfl (nl rfl) rfl d_Days_countRows_104 ?_
            refine j_iinc (pc := 107) C (v := nI (a + 1)) (lv' := [(5, .int (nI (a + 1))), (3, .int (rs + r7)), (0, .ref (ad 0)), (1, .ref h), (2, .int (nI (q + 1))), (4, .int la)]) d_Days_countRows_107 5 rfl (nI_1 _) (by decide) rfl ?_
            refine j_goto (pc := 110) C (tgt := 17) d_Days_countRows_110 (by decide) ?_
            refine j_locs (lv' := [(0, .ref (ad 0)), (1, .ref h), (2, .int (nI (q + 1))), (3, .int (rs + r7)), (4, .int la), (5, .int (nI (a + 1)))]) [2, 3, 4, 1, 5, 0] rfl ?_
            exact ih (a + 1) _ _ _ _ (by omega)
          · refine j_iconst (pc := 93) C (v := 1) d_Days_countRows_93 (by decide) ?_
            refine j_goto (pc := 94) C (tgt := 98) d_Days_countRows_94 (by decide) ?_
            refine j_callSv (pc := 98) C (c_moveBoards l D y ad d n4 h sa (u8.1 - 1) sw u8.2.1 u8.2.2 1 h4 b4 hJ hV) kw_Days_106 ks_Days_moveBoards ⟨by decide, by decide⟩ ⟨by decide, by decide⟩ (wr := []) [0, 1, 2, 3, 4, 5] [] rfl rfl (by decide +kernel) (by decide +kernel) (by decide +kernel) (As := [.ref (ad 0), .ref h, .int 1]) (rest := []) rfl (nb rfl) rfl d_Days_countRows_98 (fun u12 _ => ?_)
            refine j_ws (ws' := [(ad 0, .inr (2, [.int (d.1 0), .int (d.1 1), .int (d.1 2), .int (d.1 3), .ref (ad 1), .int (d.1 4), .ref (ad 11), .ref (ad 12), .ref (ad 2), .ref (ad 3), .int (d.1 5), .int (d.1 6), .int (d.1 7), .int (d.1 8)])), (ad 1, .inr (1, [.int (d.1 9), .ref (ad 4), .ref (ad 5), .ref (ad 6), .ref (ad 7), .ref (ad 8), .ref (ad 9), .ref (ad 10)])), (ad 10, .inl (y 0, 9, .inl (d.2 6))), (ad 12, .inl (y 0, 6, .inl (d.2 8))), (h, .inr (7, [.int (u8.1 - 1), .int sw, .int u8.2.1, .ref (sa 0), .ref (sa 1), .ref (sa 2), .ref (sa 3), .ref (sa 4), .ref (sa 5), .ref (sa 6)])), (sa 0, .inl (y 0, 9, .inl u12))]) rfl ?_
            refine j_aload_n (pc := 101) C d_Days_countRows_101 rfl 2 rfl ?_
            refine j_iload (pc := 102) C d_Days_countRows_102 4 rfl ?_
            refine j_put (pc := 104) C pf_Days_15 4 (ws' := [(ad 0, .inr (2, [.int (d.1 0), .int (d.1 1), .int (d.1 2), .int (d.1 3), .ref (ad 1), .int (d.1 4), .ref (ad 11), .ref (ad 12), .ref (ad 2), .ref (ad 3), .int (d.1 5), .int (d.1 6), .int (d.1 7), .int (d.1 8)])), (ad 1, .inr (1, [.int (d.1 9), .ref (ad 4), .ref (ad 5), .ref (ad 6), .ref (ad 7), .ref (ad 8), .ref (ad 9), .ref (ad 10)])), (ad 10, .inl (y 0, 9, .inl (d.2 6))), (ad 12, .inl (y 0, 6, .inl (d.2 8))), (h, .inr (7, [.int (u8.1 - 1), .int sw, .int la, .ref (sa 0), .ref (sa 1), .ref (sa 2), .ref (sa 3), .ref (sa 4), .ref (sa 5), .ref (sa 6)])), (sa 0, .inl (y 0, 9, .inl u12))]) rfl rfl rfl (nl rfl) rfl d_Days_countRows_104 ?_
            refine j_iinc (pc := 107) C (v := nI (a + 1)) (lv' := [(5, .int (nI (a + 1))), (3, .int (rs + r7)), (0, .ref (ad 0)), (1, .ref h), (2, .int (nI (q + 1))), (4, .int la)]) d_Days_countRows_107 5 rfl (nI_1 _) (by decide) rfl ?_
            refine j_goto (pc := 110) C (tgt := 17) d_Days_countRows_110 (by decide) ?_
            refine j_locs (lv' := [(0, .ref (ad 0)), (1, .ref h), (2, .int (nI (q + 1))), (3, .int (rs + r7)), (4, .int la), (5, .int (nI (a + 1)))]) [2, 3, 4, 1, 5, 0] rfl ?_
            exact ih (a + 1) _ _ _ _ (by omega)
    · refine j_iload (pc := 33) C d_Days_countRows_33 5 rfl ?_
      refine j_iconst (pc := 35) C (v := 0) d_Days_countRows_35 (by decide) ?_
      refine j_callSi (pc := 36) C (c_allows l D y ad d n4 h sa sd sw sl f0 (nI j2) (nI a) 0 h4 b4 hJ hV) kw_Days_43 ks_Days_allows ⟨by decide, by decide⟩ ⟨by decide, by decide⟩ (wr := []) [5, 0, 1, 2, 3, 4] [] rfl rfl (by decide +kernel) (by decide +kernel) (by decide +kernel) (As := [.ref (ad 0), .ref h, .int (nI j2), .int (nI a), .int 0]) (rest := []) rfl (nb rfl) rfl d_Days_countRows_36 (fun r13 _ hr13 => ?_)
      refine j_ws (ws' := [(ad 0, .inr (2, [.int (d.1 0), .int (d.1 1), .int (d.1 2), .int (d.1 3), .ref (ad 1), .int (d.1 4), .ref (ad 11), .ref (ad 12), .ref (ad 2), .ref (ad 3), .int (d.1 5), .int (d.1 6), .int (d.1 7), .int (d.1 8)])), (ad 1, .inr (1, [.int (d.1 9), .ref (ad 4), .ref (ad 5), .ref (ad 6), .ref (ad 7), .ref (ad 8), .ref (ad 9), .ref (ad 10)])), (ad 10, .inl (y 0, 9, .inl (d.2 6))), (ad 12, .inl (y 0, 6, .inl (d.2 8))), (h, .inr (7, [.int sd, .int sw, .int sl, .ref (sa 0), .ref (sa 1), .ref (sa 2), .ref (sa 3), .ref (sa 4), .ref (sa 5), .ref (sa 6)])), (sa 0, .inl (y 0, 9, .inl f0))]) rfl ?_
      refine j_if_eq (pc := 39) C (tgt := 107) d_Days_countRows_39 (by decide) (fun c14 => ?_) (fun c14 => ?_)
      · refine j_iinc (pc := 107) C (v := nI (a + 1)) (lv' := [(5, .int (nI (a + 1))), (0, .ref (ad 0)), (1, .ref h), (2, .int (nI (q + 1))), (3, .int rs), (4, .int la)]) d_Days_countRows_107 5 rfl (nI_1 _) (by decide) rfl ?_
        refine j_goto (pc := 110) C (tgt := 17) d_Days_countRows_110 (by decide) ?_
        refine j_locs (lv' := [(0, .ref (ad 0)), (1, .ref h), (2, .int (nI (q + 1))), (3, .int rs), (4, .int la), (5, .int (nI (a + 1)))]) [1, 2, 3, 4, 5, 0] rfl ?_
        exact ih (a + 1) _ _ _ _ (by omega)
      · refine j_aload_n (pc := 42) C d_Days_countRows_42 rfl 0 rfl ?_
        refine j_aload_n (pc := 43) C d_Days_countRows_43 rfl 1 rfl ?_
        refine j_iload (pc := 44) C d_Days_countRows_44 5 rfl ?_
        refine j_callSv (pc := 46) C (c_doAct l D y ad d n4 h sa sd sw sl f0 (nI a) h4 b4 hJ hV) kw_Days_47 ks_Days_doAct ⟨by decide, by decide⟩ ⟨by decide, by decide⟩ (wr := []) [0, 1, 2, 3, 4, 5] [] rfl rfl (by decide +kernel) (by decide +kernel) (by decide +kernel) (As := [.ref (ad 0), .ref h, .int (nI a)]) (rest := []) rfl (nb rfl) rfl d_Days_countRows_46 (fun u15 _ => ?_)
        refine j_ws (ws' := [(ad 0, .inr (2, [.int (d.1 0), .int (d.1 1), .int (d.1 2), .int (d.1 3), .ref (ad 1), .int (d.1 4), .ref (ad 11), .ref (ad 12), .ref (ad 2), .ref (ad 3), .int (d.1 5), .int (d.1 6), .int (d.1 7), .int (d.1 8)])), (ad 1, .inr (1, [.int (d.1 9), .ref (ad 4), .ref (ad 5), .ref (ad 6), .ref (ad 7), .ref (ad 8), .ref (ad 9), .ref (ad 10)])), (ad 10, .inl (y 0, 9, .inl (d.2 6))), (ad 12, .inl (y 0, 6, .inl (d.2 8))), (h, .inr (7, [.int sd, .int sw, .int u15.1, .ref (sa 0), .ref (sa 1), .ref (sa 2), .ref (sa 3), .ref (sa 4), .ref (sa 5), .ref (sa 6)])), (sa 0, .inl (y 0, 9, .inl u15.2))]) rfl ?_
        refine j_aload_n (pc := 49) C d_Days_countRows_49 rfl 1 rfl ?_
        refine j_dup (pc := 50) C d_Days_countRows_50 rfl ?_
        refine j_get (pc := 51) C gf_Days_59 4 rfl rfl d_Days_countRows_51 ?_
        refine j_iconst (pc := 54) C (v := 1) d_Days_countRows_54 (by decide) ?_
        refine j_iadd (pc := 55) C (v := sd + 1) d_Days_countRows_55 rfl ?_
        refine j_put (pc := 56) C pf_Days_59 4 (ws' := [(ad 0, .inr (2, [.int (d.1 0), .int (d.1 1), .int (d.1 2), .int (d.1 3), .ref (ad 1), .int (d.1 4), .ref (ad 11), .ref (ad 12), .ref (ad 2), .ref (ad 3), .int (d.1 5), .int (d.1 6), .int (d.1 7), .int (d.1 8)])), (ad 1, .inr (1, [.int (d.1 9), .ref (ad 4), .ref (ad 5), .ref (ad 6), .ref (ad 7), .ref (ad 8), .ref (ad 9), .ref (ad 10)])), (ad 10, .inl (y 0, 9, .inl (d.2 6))), (ad 12, .inl (y 0, 6, .inl (d.2 8))), (h, .inr (7, [.int (sd + 1), .int sw, .int u15.1, .ref (sa 0), .ref (sa 1), .ref (sa 2), .ref (sa 3), .ref (sa 4), .ref (sa 5), .ref (sa 6)])), (sa 0, .inl (y 0, 9, .inl u15.2))]) rfl rfl rfl (nl rfl) rfl d_Days_countRows_56 ?_
        refine j_iload_n (pc := 59) C d_Days_countRows_59 rfl 3 rfl ?_
        refine j_aload_n (pc := 60) C d_Days_countRows_60 rfl 0 rfl ?_
        refine j_aload_n (pc := 61) C d_Days_countRows_61 rfl 1 rfl ?_
        refine j_iload_n (pc := 62) C d_Days_countRows_62 rfl 2 rfl ?_
        refine j_iconst (pc := 63) C (v := 1) d_Days_countRows_63 (by decide) ?_
        refine j_isub (pc := 64) C (v := nI q) d_Days_countRows_64 (nI_pred q) ?_
        refine j_callSi (pc := 65) C (c_countRows_3 l D y ad d n4 h sa (sd + 1) sw u15.1 u15.2 q h4 b4 hJ hV (by omega)) kw_Days_159 ks_Days_countRows ⟨by decide, by decide⟩ ⟨by decide, by decide⟩ (wr := []) [0, 1, 2, 3, 4, 5] [] rfl rfl (by decide +kernel) (by decide +kernel) (by decide +kernel) (As := [.ref (ad 0), .ref h, .int (nI q)]) (rest := [.int rs]) rfl (nb rfl) rfl d_Days_countRows_65 (fun r16 u17 hr16 => ?_)
        refine j_ws (ws' := [(ad 0, .inr (2, [.int (d.1 0), .int (d.1 1), .int (d.1 2), .int (d.1 3), .ref (ad 1), .int (d.1 4), .ref (ad 11), .ref (ad 12), .ref (ad 2), .ref (ad 3), .int (d.1 5), .int (d.1 6), .int (d.1 7), .int (d.1 8)])), (ad 1, .inr (1, [.int (d.1 9), .ref (ad 4), .ref (ad 5), .ref (ad 6), .ref (ad 7), .ref (ad 8), .ref (ad 9), .ref (ad 10)])), (ad 10, .inl (y 0, 9, .inl (d.2 6))), (ad 12, .inl (y 0, 6, .inl (d.2 8))), (h, .inr (7, [.int u17.1, .int sw, .int u17.2.1, .ref (sa 0), .ref (sa 1), .ref (sa 2), .ref (sa 3), .ref (sa 4), .ref (sa 5), .ref (sa 6)])), (sa 0, .inl (y 0, 9, .inl u17.2.2))]) rfl ?_
        refine j_iadd (pc := 68) C (v := rs + r16) d_Days_countRows_68 rfl ?_
        refine j_istore_n (pc := 69) C (lv' := [(3, .int (rs + r16)), (0, .ref (ad 0)), (1, .ref h), (2, .int (nI (q + 1))), (4, .int la), (5, .int (nI a))]) d_Days_countRows_69 rfl (by decide) rfl ?_
        refine j_aload_n (pc := 70) C d_Days_countRows_70 rfl 2 rfl ?_
        refine j_dup (pc := 71) C d_Days_countRows_71 rfl ?_
        refine j_get (pc := 72) C gf_Days_59 4 rfl rfl d_Days_countRows_72 ?_
        refine j_iconst (pc := 75) C (v := 1) d_Days_countRows_75 (by decide) ?_
        refine j_isub (pc := 76) C (v := u17.1 - 1) d_Days_countRows_76 rfl ?_
        refine j_put (pc := 77) C pf_Days_59 4 (ws' := [(ad 0, .inr (2, [.int (d.1 0), .int (d.1 1), .int (d.1 2), .int (d.1 3), .ref (ad 1), .int (d.1 4), .ref (ad 11), .ref (ad 12), .ref (ad 2), .ref (ad 3), .int (d.1 5), .int (d.1 6), .int (d.1 7), .int (d.1 8)])), (ad 1, .inr (1, [.int (d.1 9), .ref (ad 4), .ref (ad 5), .ref (ad 6), .ref (ad 7), .ref (ad 8), .ref (ad 9), .ref (ad 10)])), (ad 10, .inl (y 0, 9, .inl (d.2 6))), (ad 12, .inl (y 0, 6, .inl (d.2 8))), (h, .inr (7, [.int (u17.1 - 1), .int sw, .int u17.2.1, .ref (sa 0), .ref (sa 1), .ref (sa 2), .ref (sa 3), .ref (sa 4), .ref (sa 5), .ref (sa 6)])), (sa 0, .inl (y 0, 9, .inl u17.2.2))]) rfl rfl rfl (nl rfl) rfl d_Days_countRows_77 ?_
        refine j_iload (pc := 80) C d_Days_countRows_80 5 rfl ?_
        refine j_if_eq (pc := 82) C (tgt := 101) d_Days_countRows_82 (by decide) (fun c18 => ?_) (fun c18 => ?_)
        · refine j_aload_n (pc := 101) C d_Days_countRows_101 rfl 2 rfl ?_
          refine j_iload (pc := 102) C d_Days_countRows_102 4 rfl ?_
          refine j_put (pc := 104) C pf_Days_15 4 (ws' := [(ad 0, .inr (2, [.int (d.1 0), .int (d.1 1), .int (d.1 2), .int (d.1 3), .ref (ad 1), .int (d.1 4), .ref (ad 11), .ref (ad 12), .ref (ad 2), .ref (ad 3), .int (d.1 5), .int (d.1 6), .int (d.1 7), .int (d.1 8)])), (ad 1, .inr (1, [.int (d.1 9), .ref (ad 4), .ref (ad 5), .ref (ad 6), .ref (ad 7), .ref (ad 8), .ref (ad 9), .ref (ad 10)])), (ad 10, .inl (y 0, 9, .inl (d.2 6))), (ad 12, .inl (y 0, 6, .inl (d.2 8))), (h, .inr (7, [.int (u17.1 - 1), .int sw, .int la, .ref (sa 0), .ref (sa 1), .ref (sa 2), .ref (sa 3), .ref (sa 4), .ref (sa 5), .ref (sa 6)])), (sa 0, .inl (y 0, 9, .inl u17.2.2))]) rfl rfl rfl (nl rfl) rfl d_Days_countRows_104 ?_
          refine j_iinc (pc := 107) C (v := nI (a + 1)) (lv' := [(5, .int (nI (a + 1))), (3, .int (rs + r16)), (0, .ref (ad 0)), (1, .ref h), (2, .int (nI (q + 1))), (4, .int la)]) d_Days_countRows_107 5 rfl (nI_1 _) (by decide) rfl ?_
          refine j_goto (pc := 110) C (tgt := 17) d_Days_countRows_110 (by decide) ?_
          refine j_locs (lv' := [(0, .ref (ad 0)), (1, .ref h), (2, .int (nI (q + 1))), (3, .int (rs + r16)), (4, .int la), (5, .int (nI (a + 1)))]) [2, 3, 4, 1, 5, 0] rfl ?_
          exact ih (a + 1) _ _ _ _ (by omega)
        · refine j_aload_n (pc := 85) C d_Days_countRows_85 rfl 1 rfl ?_
          refine j_aload_n (pc := 86) C d_Days_countRows_86 rfl 2 rfl ?_
          refine j_iload (pc := 87) C d_Days_countRows_87 5 rfl ?_
          refine j_iconst (pc := 89) C (v := 1) d_Days_countRows_89 (by decide) ?_
          refine j_icmp_ne (pc := 90) C (tgt := 97) d_Days_countRows_90 (by decide) (fun c19 => ?_) (fun c19 => ?_)
          · refine j_iconst (pc := 97) C (v := (-1)) d_Days_countRows_97 (by decide) ?_
            refine j_callSv (pc := 98) C (c_moveBoards l D y ad d n4 h sa (u17.1 - 1) sw u17.2.1 u17.2.2 (-1) h4 b4 hJ hV) kw_Days_106 ks_Days_moveBoards ⟨by decide, by decide⟩ ⟨by decide, by decide⟩ (wr := []) [0, 1, 2, 3, 4, 5] [] rfl rfl (by decide +kernel) (by decide +kernel) (by decide +kernel) (As := [.ref (ad 0), .ref h, .int (-1)]) (rest := []) rfl (nb rfl) rfl d_Days_countRows_98 (fun u20 _ => ?_)
            refine j_ws (ws' := [(ad 0, .inr (2, [.int (d.1 0), .int (d.1 1), .int (d.1 2), .int (d.1 3), .ref (ad 1), .int (d.1 4), .ref (ad 11), .ref (ad 12), .ref (ad 2), .ref (ad 3), .int (d.1 5), .int (d.1 6), .int (d.1 7), .int (d.1 8)])), (ad 1, .inr (1, [.int (d.1 9), .ref (ad 4), .ref (ad 5), .ref (ad 6), .ref (ad 7), .ref (ad 8), .ref (ad 9), .ref (ad 10)])), (ad 10, .inl (y 0, 9, .inl (d.2 6))), (ad 12, .inl (y 0, 6, .inl (d.2 8))), (h, .inr (7, [.int (u17.1 - 1), .int sw, .int u17.2.1, .ref (sa 0), .ref (sa 1), .ref (sa 2), .ref (sa 3), .ref (sa 4), .ref (sa 5), .ref (sa 6)])), (sa 0, .inl (y 0, 9, .inl u20))]) rfl ?_
            refine j_aload_n (pc := 101) C d_Days_countRows_101 rfl 2 rfl ?_
            refine j_iload (pc := 102) C d_Days_countRows_102 4 rfl ?_
            refine j_put (pc := 104) C pf_Days_15 4 (ws' := [(ad 0, .inr (2, [.int (d.1 0), .int (d.1 1), .int (d.1 2), .int (d.1 3), .ref (ad 1), .int (d.1 4), .ref (ad 11), .ref (ad 12), .ref (ad 2), .ref (ad 3), .int (d.1 5), .int (d.1 6), .int (d.1 7), .int (d.1 8)])), (ad 1, .inr (1, [.int (d.1 9), .ref (ad 4), .ref (ad 5), .ref (ad 6), .ref (ad 7), .ref (ad 8), .ref (ad 9), .ref (ad 10)])), (ad 10, .inl (y 0, 9, .inl (d.2 6))), (ad 12, .inl (y 0, 6, .inl (d.2 8))), (h, .inr (7, [.int (u17.1 - 1), .int sw, .int la, .ref (sa 0), .ref (sa 1), .ref (sa 2), .ref (sa 3), .ref (sa 4), .ref (sa 5), .ref (sa 6)])), (sa 0, .inl (y 0, 9, .inl u20))]) rfl rfl rfl (nl rfl) rfl d_Days_countRows_104 ?_
            refine j_iinc (pc := 107) C (v := nI (a + 1)) (lv' := [(5, .int (nI (a + 1))), (3, .int (rs + r16)), (0, .ref (ad 0)), (1, .ref h), (2, .int (nI (q + 1))), (4, .int la)]) d_Days_countRows_107 5 rfl (nI_1 _) (by decide) rfl ?_
            refine j_goto (pc := 110) C (tgt := 17) d_Days_countRows_110 (by decide) ?_
            refine j_locs (lv' := [(0, .ref (ad 0)), (1, .ref h), (2, .int (nI (q + 1))), (3, .int (rs + r16)), (4, .int la), (5, .int (nI (a + 1)))]) [2, 3, 4, 1, 5, 0] rfl ?_
            exact ih (a + 1) _ _ _ _ (by omega)
          · refine j_iconst (pc := 93) C (v := 1) d_Days_countRows_93 (by decide) ?_
            refine j_goto (pc := 94) C (tgt := 98) d_Days_countRows_94 (by decide) ?_
            refine j_callSv (pc := 98) C (c_moveBoards l D y ad d n4 h sa (u17.1 - 1) sw u17.2.1 u17.2.2 1 h4 b4 hJ hV) kw_Days_106 ks_Days_moveBoards ⟨by decide, by decide⟩ ⟨by decide, by decide⟩ (wr := []) [0, 1, 2, 3, 4, 5] [] rfl rfl (by decide +kernel) (by decide +kernel) (by decide +kernel) (As := [.ref (ad 0), .ref h, .int 1]) (rest := []) rfl (nb rfl) rfl d_Days_countRows_98 (fun u21 _ => ?_)
            refine j_ws (ws' := [(ad 0, .inr (2, [.int (d.1 0), .int (d.1 1), .int (d.1 2), .int (d.1 3), .ref (ad 1), .int (d.1 4), .ref (ad 11), .ref (ad 12), .ref (ad 2), .ref (ad 3), .int (d.1 5), .int (d.1 6), .int (d.1 7), .int (d.1 8)])), (ad 1, .inr (1, [.int (d.1 9), .ref (ad 4), .ref (ad 5), .ref (ad 6), .ref (ad 7), .ref (ad 8), .ref (ad 9), .ref (ad 10)])), (ad 10, .inl (y 0, 9, .inl (d.2 6))), (ad 12, .inl (y 0, 6, .inl (d.2 8))), (h, .inr (7, [.int (u17.1 - 1), .int sw, .int u17.2.1, .ref (sa 0), .ref (sa 1), .ref (sa 2), .ref (sa 3), .ref (sa 4), .ref (sa 5), .ref (sa 6)])), (sa 0, .inl (y 0, 9, .inl u21))]) rfl ?_
            refine j_aload_n (pc := 101) C d_Days_countRows_101 rfl 2 rfl ?_
            refine j_iload (pc := 102) C d_Days_countRows_102 4 rfl ?_
            refine j_put (pc := 104) C pf_Days_15 4 (ws' := [(ad 0, .inr (2, [.int (d.1 0), .int (d.1 1), .int (d.1 2), .int (d.1 3), .ref (ad 1), .int (d.1 4), .ref (ad 11), .ref (ad 12), .ref (ad 2), .ref (ad 3), .int (d.1 5), .int (d.1 6), .int (d.1 7), .int (d.1 8)])), (ad 1, .inr (1, [.int (d.1 9), .ref (ad 4), .ref (ad 5), .ref (ad 6), .ref (ad 7), .ref (ad 8), .ref (ad 9), .ref (ad 10)])), (ad 10, .inl (y 0, 9, .inl (d.2 6))), (ad 12, .inl (y 0, 6, .inl (d.2 8))), (h, .inr (7, [.int (u17.1 - 1), .int sw, .int la, .ref (sa 0), .ref (sa 1), .ref (sa 2), .ref (sa 3), .ref (sa 4), .ref (sa 5), .ref (sa 6)])), (sa 0, .inl (y 0, 9, .inl u21))]) rfl rfl rfl (nl rfl) rfl d_Days_countRows_104 ?_
            refine j_iinc (pc := 107) C (v := nI (a + 1)) (lv' := [(5, .int (nI (a + 1))), (3, .int (rs + r16)), (0, .ref (ad 0)), (1, .ref h), (2, .int (nI (q + 1))), (4, .int la)]) d_Days_countRows_107 5 rfl (nI_1 _) (by decide) rfl ?_
            refine j_goto (pc := 110) C (tgt := 17) d_Days_countRows_110 (by decide) ?_
            refine j_locs (lv' := [(0, .ref (ad 0)), (1, .ref h), (2, .int (nI (q + 1))), (3, .int (rs + r16)), (4, .int la), (5, .int (nI (a + 1)))]) [2, 3, 4, 1, 5, 0] rfl ?_
            exact ih (a + 1) _ _ _ _ (by omega)
set_option maxHeartbeats 4000000 in
set_option maxRecDepth 100000 in
theorem c_countRows_4 (l : Launch) (D : va_G) (y : Nat → ClassId) (ad : Nat → Nat) (d : LD) (n4 : Nat) (h : Nat) (sa : Nat → Nat) (sd : Int32) (sw : Int32) (sl : Int32) (f0 : Nat → Int32) (k : Nat) (h4 : d.1 4 = nI n4) (b4 : n4 ≤ 6) (hJ : ∀ j, j < 9 → d.2 6 j = -1 ∨ ∃ q, q < 9 ∧ d.2 6 j = nI q) (hV : ∀ j, j < n4 → ∃ q, q < 9 ∧ d.2 8 j = nI q) (hk : k ≤ 4) : CT l D y ⟨"NineBoards$Days", "countRows", "(LNineBoards$Lake;LNineBoards$State;I)I"⟩ prog_3_method_14_code 6 (some .int) ({ frames := 7, cells := 0, slots := 0, locals := 165 } : Room) [.ref (ad 0), .ref h, .int (nI k)] [(ad 0, .inr (2, [.int (d.1 0), .int (d.1 1), .int (d.1 2), .int (d.1 3), .ref (ad 1), .int (d.1 4), .ref (ad 11), .ref (ad 12), .ref (ad 2), .ref (ad 3), .int (d.1 5), .int (d.1 6), .int (d.1 7), .int (d.1 8)])), (ad 1, .inr (1, [.int (d.1 9), .ref (ad 4), .ref (ad 5), .ref (ad 6), .ref (ad 7), .ref (ad 8), .ref (ad 9), .ref (ad 10)])), (ad 10, .inl (y 0, 9, .inl (d.2 6))), (ad 12, .inl (y 0, 6, .inl (d.2 8))), (h, .inr (7, [.int sd, .int sw, .int sl, .ref (sa 0), .ref (sa 1), .ref (sa 2), .ref (sa 3), .ref (sa 4), .ref (sa 5), .ref (sa 6)])), (sa 0, .inl (y 0, 9, .inl f0))] (QI D [(ad 0, .inr (2, [.int (d.1 0), .int (d.1 1), .int (d.1 2), .int (d.1 3), .ref (ad 1), .int (d.1 4), .ref (ad 11), .ref (ad 12), .ref (ad 2), .ref (ad 3), .int (d.1 5), .int (d.1 6), .int (d.1 7), .int (d.1 8)])), (ad 1, .inr (1, [.int (d.1 9), .ref (ad 4), .ref (ad 5), .ref (ad 6), .ref (ad 7), .ref (ad 8), .ref (ad 9), .ref (ad 10)])), (ad 10, .inl (y 0, 9, .inl (d.2 6))), (ad 12, .inl (y 0, 6, .inl (d.2 8))), (h, .inr (7, [.int sd, .int sw, .int sl, .ref (sa 0), .ref (sa 1), .ref (sa 2), .ref (sa 3), .ref (sa 4), .ref (sa 5), .ref (sa 6)])), (sa 0, .inl (y 0, 9, .inl f0))] (fun (r : Int32) (u : Int32 × Int32 × (Nat → Int32)) => True) (fun u => [(ad 0, .inr (2, [.int (d.1 0), .int (d.1 1), .int (d.1 2), .int (d.1 3), .ref (ad 1), .int (d.1 4), .ref (ad 11), .ref (ad 12), .ref (ad 2), .ref (ad 3), .int (d.1 5), .int (d.1 6), .int (d.1 7), .int (d.1 8)])), (ad 1, .inr (1, [.int (d.1 9), .ref (ad 4), .ref (ad 5), .ref (ad 6), .ref (ad 7), .ref (ad 8), .ref (ad 9), .ref (ad 10)])), (ad 10, .inl (y 0, 9, .inl (d.2 6))), (ad 12, .inl (y 0, 6, .inl (d.2 8))), (h, .inr (7, [.int u.1, .int sw, .int u.2.1, .ref (sa 0), .ref (sa 1), .ref (sa 2), .ref (sa 3), .ref (sa 4), .ref (sa 5), .ref (sa 6)])), (sa 0, .inl (y 0, 9, .inl u.2.2))])) := by
  refine CT.of (by decide) (nb rfl) ?_
  intro p e s m args below meth c C hr
  refine j_lv (lv' := [(0, .ref (ad 0)), (1, .ref h), (2, .int (nI k))]) rfl ?_
  by_cases h0 : k = 0
  · subst h0
    refine j_iload_n (pc := 0) C d_Days_countRows_0 rfl 2 rfl ?_
    refine j_if_gtF (pc := 1) C (tgt := 6) d_Days_countRows_1 (by decide) (by decide) ?_
    refine j_iconst (pc := 4) C (v := 1) d_Days_countRows_4 (by decide) ?_
    exact j_iret (pc := 5) C hr rfl (sd, sl, f0) trivial [0, 1, 2, 3, 4, 5] rfl (by decide) (by decide) (by decide) d_Days_countRows_5
  · obtain ⟨q, rfl⟩ : ∃ q, k = q + 1 := ⟨k - 1, by omega⟩
    refine j_iload_n (pc := 0) C d_Days_countRows_0 rfl 2 rfl ?_
    refine j_if_gtT (pc := 1) C (tgt := 6) d_Days_countRows_1 (by decide) (show nI 0 < nI (q + 1) from nI_lt (by omega) (by omega)) ?_
    refine j_iconst (pc := 6) C (v := 0) d_Days_countRows_6 (by decide) ?_
    refine j_istore_n (pc := 7) C (lv' := [(3, .int 0), (0, .ref (ad 0)), (1, .ref h), (2, .int (nI (q + 1)))]) d_Days_countRows_7 rfl (by decide) rfl ?_
    refine j_aload_n (pc := 8) C d_Days_countRows_8 rfl 2 rfl ?_
    refine j_get (pc := 9) C gf_Days_15 4 rfl rfl d_Days_countRows_9 ?_
    refine j_istore (pc := 12) C (lv' := [(4, .int sl), (3, .int 0), (0, .ref (ad 0)), (1, .ref h), (2, .int (nI (q + 1)))]) d_Days_countRows_12 (by decide) rfl ?_
    refine j_iconst (pc := 14) C (v := 0) d_Days_countRows_14 (by decide) ?_
    refine j_istore (pc := 15) C (lv' := [(5, .int 0), (4, .int sl), (3, .int 0), (0, .ref (ad 0)), (1, .ref h), (2, .int (nI (q + 1)))]) d_Days_countRows_15 (by decide) rfl ?_
    refine j_locs (lv' := [(0, .ref (ad 0)), (1, .ref h), (2, .int (nI (q + 1))), (3, .int 0), (4, .int sl), (5, .int 0)]) [3, 4, 5, 2, 1, 0] rfl ?_
    refine j_lv (lv' := [(0, .ref (ad 0)), (1, .ref h), (2, .int (nI (q + 1))), (3, .int 0), (4, .int sl), (5, .int (nI 0))]) rfl ?_
    refine lp_rows_4 C ad d n4 h sa sw q sl h4 b4 hJ hV hk (fun rs sd sl f0 => ?_) 3 0 _ _ _ _ (by omega)
    refine j_iload_n (pc := 113) C d_Days_countRows_113 rfl 3 rfl ?_
    exact j_iret (pc := 114) C hr rfl (sd, sl, f0) trivial [0, 1, 2, 3, 4, 5] rfl (by decide) (by decide) (by decide) d_Days_countRows_114

set_option maxHeartbeats 4000000 in
set_option maxRecDepth 100000 in
theorem lp_rows_5 {p : Program} {l : Launch} {e : Env} {s : State} {m : MethodId} {args : Array Value} {below : List Frame} {meth : Method} {c : Code} {Q : State → Prop} {D : va_G} {y : Nat → ClassId} {A : Nat → Prop} (C : Cx p s m args meth c D y A prog_3_method_14_code 6 "NineBoards$Days" "countRows") (ad : Nat → Nat) (d : LD) (n4 : Nat) (h : Nat) (sa : Nat → Nat) (sw : Int32) (q : Nat) (la : Int32) (h4 : d.1 4 = nI n4) (b4 : n4 ≤ 6) (hJ : ∀ j, j < 9 → d.2 6 j = -1 ∨ ∃ q, q < 9 ∧ d.2 6 j = nI q) (hV : ∀ j, j < n4 → ∃ q, q < 9 ∧ d.2 8 j = nI q) (hq : q + 1 ≤ 5) (kx : ∀ (rs sd sl : Int32) (f0 : Nat → Int32), J p l e ({ frames := 8, cells := 0, slots := 0, locals := 190 } : Room) s m args below meth c Q D A 6 [(ad 0, .inr (2, [.int (d.1 0), .int (d.1 1), .int (d.1 2), .int (d.1 3), .ref (ad 1), .int (d.1 4), .ref (ad 11), .ref (ad 12), .ref (ad 2), .ref (ad 3), .int (d.1 5), .int (d.1 6), .int (d.1 7), .int (d.1 8)])), (ad 1, .inr (1, [.int (d.1 9), .ref (ad 4), .ref (ad 5), .ref (ad 6), .ref (ad 7), .ref (ad 8), .ref (ad 9), .ref (ad 10)])), (ad 10, .inl (y 0, 9, .inl (d.2 6))), (ad 12, .inl (y 0, 6, .inl (d.2 8))), (h, .inr (7, [.int sd, .int sw, .int sl, .ref (sa 0), .ref (sa 1), .ref (sa 2), .ref (sa 3), .ref (sa 4), .ref (sa 5), .ref (sa 6)])), (sa 0, .inl (y 0, 9, .inl f0))] [(0, .ref (ad 0)), (1, .ref h), (2, .int (nI (q + 1))), (3, .int rs), (4, .int la), (5, .int (nI 3))] 0 0 113 []) : ∀ (n : Nat) (a : Nat) (rs : Int32) (sd : Int32) (sl : Int32) (f0 : Nat → Int32), (a + n = 3) → J p l e ({ frames := 8, cells := 0, slots := 0, locals := 190 } : Room) s m args below meth c Q D A 6 [(ad 0, .inr (2, [.int (d.1 0), .int (d.1 1), .int (d.1 2), .int (d.1 3), .ref (ad 1), .int (d.1 4), .ref (ad 11), .ref (ad 12), .ref (ad 2), .ref (ad 3), .int (d.1 5), .int (d.1 6), .int (d.1 7), .int (d.1 8)])), (ad 1, .inr (1, [.int (d.1 9), .ref (ad 4), .ref (ad 5), .ref (ad 6), .ref (ad 7), .ref (ad 8), .ref (ad 9), .ref (ad 10)])), (ad 10, .inl (y 0, 9, .inl (d.2 6))), (ad 12, .inl (y 0, 6, .inl (d.2 8))), (h, .inr (7, [.int sd, .int sw, .int sl, .ref (sa 0), .ref (sa 1), .ref (sa 2), .ref (sa 3), .ref (sa 4), .ref (sa 5), .ref (sa 6)])), (sa 0, .inl (y 0, 9, .inl f0))] [(0, .ref (ad 0)), (1, .ref h), (2, .int (nI (q + 1))), (3, .int rs), (4, .int la), (5, .int (nI a))] 0 0 17 [] := by
  intro n
  induction n with
  | zero =>
    intro a rs sd sl f0 ha
    obtain rfl : a = 3 := by omega
    refine j_iload (pc := 17) C d_Days_countRows_17 5 rfl ?_
    refine j_iconst (pc := 19) C (v := 3) d_Days_countRows_19 (by decide) ?_
    refine j_icmp_geT (pc := 20) C (tgt := 113) d_Days_countRows_20 (by decide) (by decide) ?_
    exact kx _ _ _ _
  | succ n ih =>
    intro a rs sd sl f0 ha
    refine j_iload (pc := 17) C d_Days_countRows_17 5 rfl ?_
    refine j_iconst (pc := 19) C (v := 3) d_Days_countRows_19 (by decide) ?_
    refine j_icmp_geF (pc := 20) C (tgt := 113) d_Days_countRows_20 (by decide) (show ¬ nI 3 ≤ nI a from nI_ge (by omega) (by decide)) ?_
    refine j_aload_n (pc := 23) C d_Days_countRows_23 rfl 0 rfl ?_
    refine j_aload_n (pc := 24) C d_Days_countRows_24 rfl 1 rfl ?_
    refine j_aload_n (pc := 25) C d_Days_countRows_25 rfl 0 rfl ?_
    refine j_aload_n (pc := 26) C d_Days_countRows_26 rfl 1 rfl ?_
    refine j_get (pc := 27) C gf_Days_59 4 rfl rfl d_Days_countRows_27 ?_
    refine j_callVi (pc := 30) C (c_villageOn l D y ad d n4 sd h4 b4) kw_Days_109 kv_Lake_villageOn 0 2 rfl rfl ⟨by decide, by decide⟩ ⟨by decide, by decide⟩ (wr := [(ad 1, .inr (1, [.int (d.1 9), .ref (ad 4), .ref (ad 5), .ref (ad 6), .ref (ad 7), .ref (ad 8), .ref (ad 9), .ref (ad 10)])), (ad 10, .inl (y 0, 9, .inl (d.2 6))), (ad 12, .inl (y 0, 6, .inl (d.2 8))), (h, .inr (7, [.int sd, .int sw, .int sl, .ref (sa 0), .ref (sa 1), .ref (sa 2), .ref (sa 3), .ref (sa 4), .ref (sa 5), .ref (sa 6)])), (sa 0, .inl (y 0, 9, .inl f0))]) [0] [1, 2, 3, 4, 5] rfl rfl (by decide +kernel) (by decide +kernel) (by decide +kernel) (As := [.int sd]) (rest := [.ref h, .ref (ad 0)]) rfl (nb rfl) rfl d_Days_countRows_30 (fun r1 _ hr1 => ?_)
    refine j_ws (ws' := [(ad 1, .inr (1, [.int (d.1 9), .ref (ad 4), .ref (ad 5), .ref (ad 6), .ref (ad 7), .ref (ad 8), .ref (ad 9), .ref (ad 10)])), (ad 10, .inl (y 0, 9, .inl (d.2 6))), (ad 12, .inl (y 0, 6, .inl (d.2 8))), (h, .inr (7, [.int sd, .int sw, .int sl, .ref (sa 0), .ref (sa 1), .ref (sa 2), .ref (sa 3), .ref (sa 4), .ref (sa 5), .ref (sa 6)])), (sa 0, .inl (y 0, 9, .inl f0)), (ad 0, .inr (2, [.int (d.1 0), .int (d.1 1), .int (d.1 2), .int (d.1 3), .ref (ad 1), .int (d.1 4), .ref (ad 11), .ref (ad 12), .ref (ad 2), .ref (ad 3), .int (d.1 5), .int (d.1 6), .int (d.1 7), .int (d.1 8)]))]) rfl ?_
    rcases hr1 with rfl | ⟨j2, xh3, rfl⟩
    · refine j_iload (pc := 33) C d_Days_countRows_33 5 rfl ?_
      refine j_iconst (pc := 35) C (v := 0) d_Days_countRows_35 (by decide) ?_
      refine j_callSi (pc := 36) C (c_allows l D y ad d n4 h sa sd sw sl f0 (-1) (nI a) 0 h4 b4 hJ hV) kw_Days_43 ks_Days_allows ⟨by decide, by decide⟩ ⟨by decide, by decide⟩ (wr := []) [5, 0, 1, 2, 3, 4] [] rfl rfl (by decide +kernel) (by decide +kernel) (by decide +kernel) (As := [.ref (ad 0), .ref h, .int (-1), .int (nI a), .int 0]) (rest := []) rfl (nb rfl) rfl d_Days_countRows_36 (fun r4 _ hr4 => ?_)
      refine j_ws (ws' := [(ad 0, .inr (2, [.int (d.1 0), .int (d.1 1), .int (d.1 2), .int (d.1 3), .ref (ad 1), .int (d.1 4), .ref (ad 11), .ref (ad 12), .ref (ad 2), .ref (ad 3), .int (d.1 5), .int (d.1 6), .int (d.1 7), .int (d.1 8)])), (ad 1, .inr (1, [.int (d.1 9), .ref (ad 4), .ref (ad 5), .ref (ad 6), .ref (ad 7), .ref (ad 8), .ref (ad 9), .ref (ad 10)])), (ad 10, .inl (y 0, 9, .inl (d.2 6))), (ad 12, .inl (y 0, 6, .inl (d.2 8))), (h, .inr (7, [.int sd, .int sw, .int sl, .ref (sa 0), .ref (sa 1), .ref (sa 2), .ref (sa 3), .ref (sa 4), .ref (sa 5), .ref (sa 6)])), (sa 0, .inl (y 0, 9, .inl f0))]) rfl ?_
      refine j_if_eq (pc := 39) C (tgt := 107) d_Days_countRows_39 (by decide) (fun c5 => ?_) (fun c5 => ?_)
      · refine j_iinc (pc := 107) C (v := nI (a + 1)) (lv' := [(5, .int (nI (a + 1))), (0, .ref (ad 0)), (1, .ref h), (2, .int (nI (q + 1))), (3, .int rs), (4, .int la)]) d_Days_countRows_107 5 rfl (nI_1 _) (by decide) rfl ?_
        refine j_goto (pc := 110) C (tgt := 17) d_Days_countRows_110 (by decide) ?_
        refine j_locs (lv' := [(0, .ref (ad 0)), (1, .ref h), (2, .int (nI (q + 1))), (3, .int rs), (4, .int la), (5, .int (nI (a + 1)))]) [1, 2, 3, 4, 5, 0] rfl ?_
        exact ih (a + 1) _ _ _ _ (by omega)
      · refine j_aload_n (pc := 42) C d_Days_countRows_42 rfl 0 rfl ?_
        refine j_aload_n (pc := 43) C d_Days_countRows_43 rfl 1 rfl ?_
        refine j_iload (pc := 44) C d_Days_countRows_44 5 rfl ?_
        refine j_callSv (pc := 46) C (c_doAct l D y ad d n4 h sa sd sw sl f0 (nI a) h4 b4 hJ hV) kw_Days_47 ks_Days_doAct ⟨by decide, by decide⟩ ⟨by decide, by decide⟩ (wr := []) [0, 1, 2, 3, 4, 5] [] rfl rfl (by decide +kernel) (by decide +kernel) (by decide +kernel) (As := [.ref (ad 0), .ref h, .int (nI a)]) (rest := []) rfl (nb rfl) rfl d_Days_countRows_46 (fun u6 _ => ?_)
        refine j_ws (ws' := [(ad 0, .inr (2, [.int (d.1 0), .int (d.1 1), .int (d.1 2), .int (d.1 3), .ref (ad 1), .int (d.1 4), .ref (ad 11), .ref (ad 12), .ref (ad 2), .ref (ad 3), .int (d.1 5), .int (d.1 6), .int (d.1 7), .int (d.1 8)])), (ad 1, .inr (1, [.int (d.1 9), .ref (ad 4), .ref (ad 5), .ref (ad 6), .ref (ad 7), .ref (ad 8), .ref (ad 9), .ref (ad 10)])), (ad 10, .inl (y 0, 9, .inl (d.2 6))), (ad 12, .inl (y 0, 6, .inl (d.2 8))), (h, .inr (7, [.int sd, .int sw, .int u6.1, .ref (sa 0), .ref (sa 1), .ref (sa 2), .ref (sa 3), .ref (sa 4), .ref (sa 5), .ref (sa 6)])), (sa 0, .inl (y 0, 9, .inl u6.2))]) rfl ?_
        refine j_aload_n (pc := 49) C d_Days_countRows_49 rfl 1 rfl ?_
        refine j_dup (pc := 50) C d_Days_countRows_50 rfl ?_
        refine j_get (pc := 51) C gf_Days_59 4 rfl rfl d_Days_countRows_51 ?_
        refine j_iconst (pc := 54) C (v := 1) d_Days_countRows_54 (by decide) ?_
        refine j_iadd (pc := 55) C (v := sd + 1) d_Days_countRows_55 rfl ?_
        refine j_put (pc := 56) C pf_Days_59 4 (ws' := [(ad 0, .inr (2, [.int (d.1 0), .int (d.1 1), .int (d.1 2), .int (d.1 3), .ref (ad 1), .int (d.1 4), .ref (ad 11), .ref (ad 12), .ref (ad 2), .ref (ad 3), .int (d.1 5), .int (d.1 6), .int (d.1 7), .int (d.1 8)])), (ad 1, .inr (1, [.int (d.1 9), .ref (ad 4), .ref (ad 5), .ref (ad 6), .ref (ad 7), .ref (ad 8), .ref (ad 9), .ref (ad 10)])), (ad 10, .inl (y 0, 9, .inl (d.2 6))), (ad 12, .inl (y 0, 6, .inl (d.2 8))), (h, .inr (7, [.int (sd + 1), .int sw, .int u6.1, .ref (sa 0), .ref (sa 1), .ref (sa 2), .ref (sa 3), .ref (sa 4), .ref (sa 5), .ref (sa 6)])), (sa 0, .inl (y 0, 9, .inl u6.2))]) rfl rfl rfl (nl rfl) rfl d_Days_countRows_56 ?_
        refine j_iload_n (pc := 59) C d_Days_countRows_59 rfl 3 rfl ?_
        refine j_aload_n (pc := 60) C d_Days_countRows_60 rfl 0 rfl ?_
        refine j_aload_n (pc := 61) C d_Days_countRows_61 rfl 1 rfl ?_
        refine j_iload_n (pc := 62) C d_Days_countRows_62 rfl 2 rfl ?_
        refine j_iconst (pc := 63) C (v := 1) d_Days_countRows_63 (by decide) ?_
        refine j_isub (pc := 64) C (v := nI q) d_Days_countRows_64 (nI_pred q) ?_
        refine j_callSi (pc := 65) C (c_countRows_4 l D y ad d n4 h sa (sd + 1) sw u6.1 u6.2 q h4 b4 hJ hV (by omega)) kw_Days_159 ks_Days_countRows ⟨by decide, by decide⟩ ⟨by decide, by decide⟩ (wr := []) [0, 1, 2, 3, 4, 5] [] rfl rfl (by decide +kernel) (by decide +kernel) (by decide +kernel) (As := [.ref (ad 0), .ref h, .int (nI q)]) (rest := [.int rs]) rfl (nb rfl) rfl d_Days_countRows_65 (fun r7 u8 hr7 => ?_)
        refine j_ws (ws' := [(ad 0, .inr (2, [.int (d.1 0), .int (d.1 1), .int (d.1 2), .int (d.1 3), .ref (ad 1), .int (d.1 4), .ref (ad 11), .ref (ad 12), .ref (ad 2), .ref (ad 3), .int (d.1 5), .int (d.1 6), .int (d.1 7), .int (d.1 8)])), (ad 1, .inr (1, [.int (d.1 9), .ref (ad 4), .ref (ad 5), .ref (ad 6), .ref (ad 7), .ref (ad 8), .ref (ad 9), .ref (ad 10)])), (ad 10, .inl (y 0, 9, .inl (d.2 6))), (ad 12, .inl (y 0, 6, .inl (d.2 8))), (h, .inr (7, [.int u8.1, .int sw, .int u8.2.1, .ref (sa 0), .ref (sa 1), .ref (sa 2), .ref (sa 3), .ref (sa 4), .ref (sa 5), .ref (sa 6)])), (sa 0, .inl (y 0, 9, .inl u8.2.2))]) rfl ?_
        refine j_iadd (pc := 68) C (v := rs + r7) d_Days_countRows_68 rfl ?_
        refine j_istore_n (pc := 69) C (lv' := [(3, .int (rs + r7)), (0, .ref (ad 0)), (1, .ref h), (2, .int (nI (q + 1))), (4, .int la), (5, .int (nI a))]) d_Days_countRows_69 rfl (by decide) rfl ?_
        refine j_aload_n (pc := 70) C d_Days_countRows_70 rfl 2 rfl ?_
        refine j_dup (pc := 71) C d_Days_countRows_71 rfl ?_
        refine j_get (pc := 72) C gf_Days_59 4 rfl rfl d_Days_countRows_72 ?_
        refine j_iconst (pc := 75) C (v := 1) d_Days_countRows_75 (by decide) ?_
        refine j_isub (pc := 76) C (v := u8.1 - 1) d_Days_countRows_76 rfl ?_
        refine j_put (pc := 77) C pf_Days_59 4 (ws' := [(ad 0, .inr (2, [.int (d.1 0), .int (d.1 1), .int (d.1 2), .int (d.1 3), .ref (ad 1), .int (d.1 4), .ref (ad 11), .ref (ad 12), .ref (ad 2), .ref (ad 3), .int (d.1 5), .int (d.1 6), .int (d.1 7), .int (d.1 8)])), (ad 1, .inr (1, [.int (d.1 9), .ref (ad 4), .ref (ad 5), .ref (ad 6), .ref (ad 7), .ref (ad 8), .ref (ad 9), .ref (ad 10)])), (ad 10, .inl (y 0, 9, .inl (d.2 6))), (ad 12, .inl (y 0, 6, .inl (d.2 8))), (h, .inr (7, [.int (u8.1 - 1), .int sw, .int u8.2.1, .ref (sa 0), .ref (sa 1), .ref (sa 2), .ref (sa 3), .ref (sa 4), .ref (sa 5), .ref (sa 6)])), (sa 0, .inl (y 0, 9, .inl u8.2.2))]) rfl rfl rfl (nl rfl) rfl d_Days_countRows_77 ?_
        refine j_iload (pc := 80) C d_Days_countRows_80 5 rfl ?_
        refine j_if_eq (pc := 82) C (tgt := 101) d_Days_countRows_82 (by decide) (fun c9 => ?_) (fun c9 => ?_)
        · refine j_aload_n (pc := 101) C d_Days_countRows_101 rfl 2 rfl ?_
          refine j_iload (pc := 102) C d_Days_countRows_102 4 rfl ?_
          refine j_put (pc := 104) C pf_Days_15 4 (ws' := [(ad 0, .inr (2, [.int (d.1 0), .int (d.1 1), .int (d.1 2), .int (d.1 3), .ref (ad 1), .int (d.1 4), .ref (ad 11), .ref (ad 12), .ref (ad 2), .ref (ad 3), .int (d.1 5), .int (d.1 6), .int (d.1 7), .int (d.1 8)])), (ad 1, .inr (1, [.int (d.1 9), .ref (ad 4), .ref (ad 5), .ref (ad 6), .ref (ad 7), .ref (ad 8), .ref (ad 9), .ref (ad 10)])), (ad 10, .inl (y 0, 9, .inl (d.2 6))), (ad 12, .inl (y 0, 6, .inl (d.2 8))), (h, .inr (7, [.int (u8.1 - 1), .int sw, .int la, .ref (sa 0), .ref (sa 1), .ref (sa 2), .ref (sa 3), .ref (sa 4), .ref (sa 5), .ref (sa 6)])), (sa 0, .inl (y 0, 9, .inl u8.2.2))]) rfl rfl rfl (nl rfl) rfl d_Days_countRows_104 ?_
          refine j_iinc (pc := 107) C (v := nI (a + 1)) (lv' := [(5, .int (nI (a + 1))), (3, .int (rs + r7)), (0, .ref (ad 0)), (1, .ref h), (2, .int (nI (q + 1))), (4, .int la)]) d_Days_countRows_107 5 rfl (nI_1 _) (by decide) rfl ?_
          refine j_goto (pc := 110) C (tgt := 17) d_Days_countRows_110 (by decide) ?_
          refine j_locs (lv' := [(0, .ref (ad 0)), (1, .ref h), (2, .int (nI (q + 1))), (3, .int (rs + r7)), (4, .int la), (5, .int (nI (a + 1)))]) [2, 3, 4, 1, 5, 0] rfl ?_
          exact ih (a + 1) _ _ _ _ (by omega)
        · refine j_aload_n (pc := 85) C d_Days_countRows_85 rfl 1 rfl ?_
          refine j_aload_n (pc := 86) C d_Days_countRows_86 rfl 2 rfl ?_
          refine j_iload (pc := 87) C d_Days_countRows_87 5 rfl ?_
          refine j_iconst (pc := 89) C (v := 1) d_Days_countRows_89 (by decide) ?_
          refine j_icmp_ne (pc := 90) C (tgt := 97) d_Days_countRows_90 (by decide) (fun c10 => ?_) (fun c10 => ?_)
          · refine j_iconst (pc := 97) C (v := (-1)) d_Days_countRows_97 (by decide) ?_
            refine j_callSv (pc := 98) C (c_moveBoards l D y ad d n4 h sa (u8.1 - 1) sw u8.2.1 u8.2.2 (-1) h4 b4 hJ hV) kw_Days_106 ks_Days_moveBoards ⟨by decide, by decide⟩ ⟨by decide, by decide⟩ (wr := []) [0, 1, 2, 3, 4, 5] [] rfl rfl (by decide +kernel) (by decide +kernel) (by decide +kernel) (As := [.ref (ad 0), .ref h, .int (-1)]) (rest := []) rfl (nb rfl) rfl d_Days_countRows_98 (fun u11 _ => ?_)
            refine j_ws (ws' := [(ad 0, .inr (2, [.int (d.1 0), .int (d.1 1), .int (d.1 2), .int (d.1 3), .ref (ad 1), .int (d.1 4), .ref (ad 11), .ref (ad 12), .ref (ad 2), .ref (ad 3), .int (d.1 5), .int (d.1 6), .int (d.1 7), .int (d.1 8)])), (ad 1, .inr (1, [.int (d.1 9), .ref (ad 4), .ref (ad 5), .ref (ad 6), .ref (ad 7), .ref (ad 8), .ref (ad 9), .ref (ad 10)])), (ad 10, .inl (y 0, 9, .inl (d.2 6))), (ad 12, .inl (y 0, 6, .inl (d.2 8))), (h, .inr (7, [.int (u8.1 - 1), .int sw, .int u8.2.1, .ref (sa 0), .ref (sa 1), .ref (sa 2), .ref (sa 3), .ref (sa 4), .ref (sa 5), .ref (sa 6)])), (sa 0, .inl (y 0, 9, .inl u11))]) rfl ?_
            refine j_aload_n (pc := 101) C d_Days_countRows_101 rfl 2 rfl ?_
            refine j_iload (pc := 102) C d_Days_countRows_102 4 rfl ?_
            refine j_put (pc := 104) C pf_Days_15 4 (ws' := [(ad 0, .inr (2, [.int (d.1 0), .int (d.1 1), .int (d.1 2), .int (d.1 3), .ref (ad 1), .int (d.1 4), .ref (ad 11), .ref (ad 12), .ref (ad 2), .ref (ad 3), .int (d.1 5), .int (d.1 6), .int (d.1 7), .int (d.1 8)])), (ad 1, .inr (1, [.int (d.1 9), .ref (ad 4), .ref (ad 5), .ref (ad 6), .ref (ad 7), .ref (ad 8), .ref (ad 9), .ref (ad 10)])), (ad 10, .inl (y 0, 9, .inl (d.2 6))), (ad 12, .inl (y 0, 6, .inl (d.2 8))), (h, .inr (7, [.int (u8.1 - 1), .int sw, .int la, .ref (sa 0), .ref (sa 1), .ref (sa 2), .ref (sa 3), .ref (sa 4), .ref (sa 5), .ref (sa 6)])), (sa 0, .inl (y 0, 9, .inl u11))]) rfl rfl rfl (nl rfl) rfl d_Days_countRows_104 ?_
            refine j_iinc (pc := 107) C (v := nI (a + 1)) (lv' := [(5, .int (nI (a + 1))), (3, .int (rs + r7)), (0, .ref (ad 0)), (1, .ref h), (2, .int (nI (q + 1))), (4, .int la)]) d_Days_countRows_107 5 rfl (nI_1 _) (by decide) rfl ?_
            refine j_goto (pc := 110) C (tgt := 17) d_Days_countRows_110 (by decide) ?_
            refine j_locs (lv' := [(0, .ref (ad 0)), (1, .ref h), (2, .int (nI (q + 1))), (3, .int (rs + r7)), (4, .int la), (5, .int (nI (a + 1)))]) [2, 3, 4, 1, 5, 0] rfl ?_
            exact ih (a + 1) _ _ _ _ (by omega)
          · refine j_iconst (pc := 93) C (v := 1) d_Days_countRows_93 (by decide) ?_
            refine j_goto (pc := 94) C (tgt := 98) d_Days_countRows_94 (by decide) ?_
            refine j_callSv (pc := 98) C (c_moveBoards l D y ad d n4 h sa (u8.1 - 1) sw u8.2.1 u8.2.2 1 h4 b4 hJ hV) kw_Days_106 ks_Days_moveBoards ⟨by decide, by decide⟩ ⟨by decide, by decide⟩ (wr := []) [0, 1, 2, 3, 4, 5] [] rfl rfl (by decide +kernel) (by decide +kernel) (by decide +kernel) (As := [.ref (ad 0), .ref h, .int 1]) (rest := []) rfl (nb rfl) rfl d_Days_countRows_98 (fun u12 _ => ?_)
            refine j_ws (ws' := [(ad 0, .inr (2, [.int (d.1 0), .int (d.1 1), .int (d.1 2), .int (d.1 3), .ref (ad 1), .int (d.1 4), .ref (ad 11), .ref (ad 12), .ref (ad 2), .ref (ad 3), .int (d.1 5), .int (d.1 6), .int (d.1 7), .int (d.1 8)])), (ad 1, .inr (1, [.int (d.1 9), .ref (ad 4), .ref (ad 5), .ref (ad 6), .ref (ad 7), .ref (ad 8), .ref (ad 9), .ref (ad 10)])), (ad 10, .inl (y 0, 9, .inl (d.2 6))), (ad 12, .inl (y 0, 6, .inl (d.2 8))), (h, .inr (7, [.int (u8.1 - 1), .int sw, .int u8.2.1, .ref (sa 0), .ref (sa 1), .ref (sa 2), .ref (sa 3), .ref (sa 4), .ref (sa 5), .ref (sa 6)])), (sa 0, .inl (y 0, 9, .inl u12))]) rfl ?_
            refine j_aload_n (pc := 101) C d_Days_countRows_101 rfl 2 rfl ?_
            refine j_iload (pc := 102) C d_Days_countRows_102 4 rfl ?_
            refine j_put (pc := 104) C pf_Days_15 4 (ws' := [(ad 0, .inr (2, [.int (d.1 0), .int (d.1 1), .int (d.1 2), .int (d.1 3), .ref (ad 1), .int (d.1 4), .ref (ad 11), .ref (ad 12), .ref (ad 2), .ref (ad 3), .int (d.1 5), .int (d.1 6), .int (d.1 7), .int (d.1 8)])), (ad 1, .inr (1, [.int (d.1 9), .ref (ad 4), .ref (ad 5), .ref (ad 6), .ref (ad 7), .ref (ad 8), .ref (ad 9), .ref (ad 10)])), (ad 10, .inl (y 0, 9, .inl (d.2 6))), (ad 12, .inl (y 0, 6, .inl (d.2 8))), (h, .inr (7, [.int (u8.1 - 1), .int sw, .int la, .ref (sa 0), .ref (sa 1), .ref (sa 2), .ref (sa 3), .ref (sa 4), .ref (sa 5), .ref (sa 6)])), (sa 0, .inl (y 0, 9, .inl u12))]) rfl rfl rfl (nl rfl) rfl d_Days_countRows_104 ?_
            refine j_iinc (pc := 107) C (v := nI (a + 1)) (lv' := [(5, .int (nI (a + 1))), (3, .int (rs + r7)), (0, .ref (ad 0)), (1, .ref h), (2, .int (nI (q + 1))), (4, .int la)]) d_Days_countRows_107 5 rfl (nI_1 _) (by decide) rfl ?_
            refine j_goto (pc := 110) C (tgt := 17) d_Days_countRows_110 (by decide) ?_
            refine j_locs (lv' := [(0, .ref (ad 0)), (1, .ref h), (2, .int (nI (q + 1))), (3, .int (rs + r7)), (4, .int la), (5, .int (nI (a + 1)))]) [2, 3, 4, 1, 5, 0] rfl ?_
            exact ih (a + 1) _ _ _ _ (by omega)
    · refine j_iload (pc := 33) C d_Days_countRows_33 5 rfl ?_
      refine j_iconst (pc := 35) C (v := 0) d_Days_countRows_35 (by decide) ?_
      refine j_callSi (pc := 36) C (c_allows l D y ad d n4 h sa sd sw sl f0 (nI j2) (nI a) 0 h4 b4 hJ hV) kw_Days_43 ks_Days_allows ⟨by decide, by decide⟩ ⟨by decide, by decide⟩ (wr := []) [5, 0, 1, 2, 3, 4] [] rfl rfl (by decide +kernel) (by decide +kernel) (by decide +kernel) (As := [.ref (ad 0), .ref h, .int (nI j2), .int (nI a), .int 0]) (rest := []) rfl (nb rfl) rfl d_Days_countRows_36 (fun r13 _ hr13 => ?_)
      refine j_ws (ws' := [(ad 0, .inr (2, [.int (d.1 0), .int (d.1 1), .int (d.1 2), .int (d.1 3), .ref (ad 1), .int (d.1 4), .ref (ad 11), .ref (ad 12), .ref (ad 2), .ref (ad 3), .int (d.1 5), .int (d.1 6), .int (d.1 7), .int (d.1 8)])), (ad 1, .inr (1, [.int (d.1 9), .ref (ad 4), .ref (ad 5), .ref (ad 6), .ref (ad 7), .ref (ad 8), .ref (ad 9), .ref (ad 10)])), (ad 10, .inl (y 0, 9, .inl (d.2 6))), (ad 12, .inl (y 0, 6, .inl (d.2 8))), (h, .inr (7, [.int sd, .int sw, .int sl, .ref (sa 0), .ref (sa 1), .ref (sa 2), .ref (sa 3), .ref (sa 4), .ref (sa 5), .ref (sa 6)])), (sa 0, .inl (y 0, 9, .inl f0))]) rfl ?_
      refine j_if_eq (pc := 39) C (tgt := 107) d_Days_countRows_39 (by decide) (fun c14 => ?_) (fun c14 => ?_)
      · refine j_iinc (pc := 107) C (v := nI (a + 1)) (lv' := [(5, .int (nI (a + 1))), (0, .ref (ad 0)), (1, .ref h), (2, .int (nI (q + 1))), (3, .int rs), (4, .int la)]) d_Days_countRows_107 5 rfl (nI_1 _) (by decide) rfl ?_
        refine j_goto (pc := 110) C (tgt := 17) d_Days_countRows_110 (by decide) ?_
        refine j_locs (lv' := [(0, .ref (ad 0)), (1, .ref h), (2, .int (nI (q + 1))), (3, .int rs), (4, .int la), (5, .int (nI (a + 1)))]) [1, 2, 3, 4, 5, 0] rfl ?_
        exact ih (a + 1) _ _ _ _ (by omega)
      · refine j_aload_n (pc := 42) C d_Days_countRows_42 rfl 0 rfl ?_
        refine j_aload_n (pc := 43) C d_Days_countRows_43 rfl 1 rfl ?_
        refine j_iload (pc := 44) C d_Days_countRows_44 5 rfl ?_
        refine j_callSv (pc := 46) C (c_doAct l D y ad d n4 h sa sd sw sl f0 (nI a) h4 b4 hJ hV) kw_Days_47 ks_Days_doAct ⟨by decide, by decide⟩ ⟨by decide, by decide⟩ (wr := []) [0, 1, 2, 3, 4, 5] [] rfl rfl (by decide +kernel) (by decide +kernel) (by decide +kernel) (As := [.ref (ad 0), .ref h, .int (nI a)]) (rest := []) rfl (nb rfl) rfl d_Days_countRows_46 (fun u15 _ => ?_)
        refine j_ws (ws' := [(ad 0, .inr (2, [.int (d.1 0), .int (d.1 1), .int (d.1 2), .int (d.1 3), .ref (ad 1), .int (d.1 4), .ref (ad 11), .ref (ad 12), .ref (ad 2), .ref (ad 3), .int (d.1 5), .int (d.1 6), .int (d.1 7), .int (d.1 8)])), (ad 1, .inr (1, [.int (d.1 9), .ref (ad 4), .ref (ad 5), .ref (ad 6), .ref (ad 7), .ref (ad 8), .ref (ad 9), .ref (ad 10)])), (ad 10, .inl (y 0, 9, .inl (d.2 6))), (ad 12, .inl (y 0, 6, .inl (d.2 8))), (h, .inr (7, [.int sd, .int sw, .int u15.1, .ref (sa 0), .ref (sa 1), .ref (sa 2), .ref (sa 3), .ref (sa 4), .ref (sa 5), .ref (sa 6)])), (sa 0, .inl (y 0, 9, .inl u15.2))]) rfl ?_
        refine j_aload_n (pc := 49) C d_Days_countRows_49 rfl 1 rfl ?_
        refine j_dup (pc := 50) C d_Days_countRows_50 rfl ?_
        refine j_get (pc := 51) C gf_Days_59 4 rfl rfl d_Days_countRows_51 ?_
        refine j_iconst (pc := 54) C (v := 1) d_Days_countRows_54 (by decide) ?_
        refine j_iadd (pc := 55) C (v := sd + 1) d_Days_countRows_55 rfl ?_
        refine j_put (pc := 56) C pf_Days_59 4 (ws' := [(ad 0, .inr (2, [.int (d.1 0), .int (d.1 1), .int (d.1 2), .int (d.1 3), .ref (ad 1), .int (d.1 4), .ref (ad 11), .ref (ad 12), .ref (ad 2), .ref (ad 3), .int (d.1 5), .int (d.1 6), .int (d.1 7), .int (d.1 8)])), (ad 1, .inr (1, [.int (d.1 9), .ref (ad 4), .ref (ad 5), .ref (ad 6), .ref (ad 7), .ref (ad 8), .ref (ad 9), .ref (ad 10)])), (ad 10, .inl (y 0, 9, .inl (d.2 6))), (ad 12, .inl (y 0, 6, .inl (d.2 8))), (h, .inr (7, [.int (sd + 1), .int sw, .int u15.1, .ref (sa 0), .ref (sa 1), .ref (sa 2), .ref (sa 3), .ref (sa 4), .ref (sa 5), .ref (sa 6)])), (sa 0, .inl (y 0, 9, .inl u15.2))]) rfl rfl rfl (nl rfl) rfl d_Days_countRows_56 ?_
        refine j_iload_n (pc := 59) C d_Days_countRows_59 rfl 3 rfl ?_
        refine j_aload_n (pc := 60) C d_Days_countRows_60 rfl 0 rfl ?_
        refine j_aload_n (pc := 61) C d_Days_countRows_61 rfl 1 rfl ?_
        refine j_iload_n (pc := 62) C d_Days_countRows_62 rfl 2 rfl ?_
        refine j_iconst (pc := 63) C (v := 1) d_Days_countRows_63 (by decide) ?_
        refine j_isub (pc := 64) C (v := nI q) d_Days_countRows_64 (nI_pred q) ?_
        refine j_callSi (pc := 65) C (c_countRows_4 l D y ad d n4 h sa (sd + 1) sw u15.1 u15.2 q h4 b4 hJ hV (by omega)) kw_Days_159 ks_Days_countRows ⟨by decide, by decide⟩ ⟨by decide, by decide⟩ (wr := []) [0, 1, 2, 3, 4, 5] [] rfl rfl (by decide +kernel) (by decide +kernel) (by decide +kernel) (As := [.ref (ad 0), .ref h, .int (nI q)]) (rest := [.int rs]) rfl (nb rfl) rfl d_Days_countRows_65 (fun r16 u17 hr16 => ?_)
        refine j_ws (ws' := [(ad 0, .inr (2, [.int (d.1 0), .int (d.1 1), .int (d.1 2), .int (d.1 3), .ref (ad 1), .int (d.1 4), .ref (ad 11), .ref (ad 12), .ref (ad 2), .ref (ad 3), .int (d.1 5), .int (d.1 6), .int (d.1 7), .int (d.1 8)])), (ad 1, .inr (1, [.int (d.1 9), .ref (ad 4), .ref (ad 5), .ref (ad 6), .ref (ad 7), .ref (ad 8), .ref (ad 9), .ref (ad 10)])), (ad 10, .inl (y 0, 9, .inl (d.2 6))), (ad 12, .inl (y 0, 6, .inl (d.2 8))), (h, .inr (7, [.int u17.1, .int sw, .int u17.2.1, .ref (sa 0), .ref (sa 1), .ref (sa 2), .ref (sa 3), .ref (sa 4), .ref (sa 5), .ref (sa 6)])), (sa 0, .inl (y 0, 9, .inl u17.2.2))]) rfl ?_
        refine j_iadd (pc := 68) C (v := rs + r16) d_Days_countRows_68 rfl ?_
        refine j_istore_n (pc := 69) C (lv' := [(3, .int (rs + r16)), (0, .ref (ad 0)), (1, .ref h), (2, .int (nI (q + 1))), (4, .int la), (5, .int (nI a))]) d_Days_countRows_69 rfl (by decide) rfl ?_
        refine j_aload_n (pc := 70) C d_Days_countRows_70 rfl 2 rfl ?_
        refine j_dup (pc := 71) C d_Days_countRows_71 rfl ?_
        refine j_get (pc := 72) C gf_Days_59 4 rfl rfl d_Days_countRows_72 ?_
        refine j_iconst (pc := 75) C (v := 1) d_Days_countRows_75 (by decide) ?_
        refine j_isub (pc := 76) C (v := u17.1 - 1) d_Days_countRows_76 rfl ?_
        refine j_put (pc := 77) C pf_Days_59 4 (ws' := [(ad 0, .inr (2, [.int (d.1 0), .int (d.1 1), .int (d.1 2), .int (d.1 3), .ref (ad 1), .int (d.1 4), .ref (ad 11), .ref (ad 12), .ref (ad 2), .ref (ad 3), .int (d.1 5), .int (d.1 6), .int (d.1 7), .int (d.1 8)])), (ad 1, .inr (1, [.int (d.1 9), .ref (ad 4), .ref (ad 5), .ref (ad 6), .ref (ad 7), .ref (ad 8), .ref (ad 9), .ref (ad 10)])), (ad 10, .inl (y 0, 9, .inl (d.2 6))), (ad 12, .inl (y 0, 6, .inl (d.2 8))), (h, .inr (7, [.int (u17.1 - 1), .int sw, .int u17.2.1, .ref (sa 0), .ref (sa 1), .ref (sa 2), .ref (sa 3), .ref (sa 4), .ref (sa 5), .ref (sa 6)])), (sa 0, .inl (y 0, 9, .inl u17.2.2))]) rfl rfl rfl (nl rfl) rfl d_Days_countRows_77 ?_
        refine j_iload (pc := 80) C d_Days_countRows_80 5 rfl ?_
        refine j_if_eq (pc := 82) C (tgt := 101) d_Days_countRows_82 (by decide) (fun c18 => ?_) (fun c18 => ?_)
        · refine j_aload_n (pc := 101) C d_Days_countRows_101 rfl 2 rfl ?_
          refine j_iload (pc := 102) C d_Days_countRows_102 4 rfl ?_
          refine j_put (pc := 104) C pf_Days_15 4 (ws' := [(ad 0, .inr (2, [.int (d.1 0), .int (d.1 1), .int (d.1 2), .int (d.1 3), .ref (ad 1), .int (d.1 4), .ref (ad 11), .ref (ad 12), .ref (ad 2), .ref (ad 3), .int (d.1 5), .int (d.1 6), .int (d.1 7), .int (d.1 8)])), (ad 1, .inr (1, [.int (d.1 9), .ref (ad 4), .ref (ad 5), .ref (ad 6), .ref (ad 7), .ref (ad 8), .ref (ad 9), .ref (ad 10)])), (ad 10, .inl (y 0, 9, .inl (d.2 6))), (ad 12, .inl (y 0, 6, .inl (d.2 8))), (h, .inr (7, [.int (u17.1 - 1), .int sw, .int la, .ref (sa 0), .ref (sa 1), .ref (sa 2), .ref (sa 3), .ref (sa 4), .ref (sa 5), .ref (sa 6)])), (sa 0, .inl (y 0, 9, .inl u17.2.2))]) rfl rfl rfl (nl rfl) rfl d_Days_countRows_104 ?_
          refine j_iinc (pc := 107) C (v := nI (a + 1)) (lv' := [(5, .int (nI (a + 1))), (3, .int (rs + r16)), (0, .ref (ad 0)), (1, .ref h), (2, .int (nI (q + 1))), (4, .int la)]) d_Days_countRows_107 5 rfl (nI_1 _) (by decide) rfl ?_
          refine j_goto (pc := 110) C (tgt := 17) d_Days_countRows_110 (by decide) ?_
          refine j_locs (lv' := [(0, .ref (ad 0)), (1, .ref h), (2, .int (nI (q + 1))), (3, .int (rs + r16)), (4, .int la), (5, .int (nI (a + 1)))]) [2, 3, 4, 1, 5, 0] rfl ?_
          exact ih (a + 1) _ _ _ _ (by omega)
        · refine j_aload_n (pc := 85) C d_Days_countRows_85 rfl 1 rfl ?_
          refine j_aload_n (pc := 86) C d_Days_countRows_86 rfl 2 rfl ?_
          refine j_iload (pc := 87) C d_Days_countRows_87 5 rfl ?_
          refine j_iconst (pc := 89) C (v := 1) d_Days_countRows_89 (by decide) ?_
          refine j_icmp_ne (pc := 90) C (tgt := 97) d_Days_countRows_90 (by decide) (fun c19 => ?_) (fun c19 => ?_)
          · refine j_iconst (pc := 97) C (v := (-1)) d_Days_countRows_97 (by decide) ?_
            refine j_callSv (pc := 98) C (c_moveBoards l D y ad d n4 h sa (u17.1 - 1) sw u17.2.1 u17.2.2 (-1) h4 b4 hJ hV) kw_Days_106 ks_Days_moveBoards ⟨by decide, by decide⟩ ⟨by decide, by decide⟩ (wr := []) [0, 1, 2, 3, 4, 5] [] rfl rfl (by decide +kernel) (by decide +kernel) (by decide +kernel) (As := [.ref (ad 0), .ref h, .int (-1)]) (rest := []) rfl (nb rfl) rfl d_Days_countRows_98 (fun u20 _ => ?_)
            refine j_ws (ws' := [(ad 0, .inr (2, [.int (d.1 0), .int (d.1 1), .int (d.1 2), .int (d.1 3), .ref (ad 1), .int (d.1 4), .ref (ad 11), .ref (ad 12), .ref (ad 2), .ref (ad 3), .int (d.1 5), .int (d.1 6), .int (d.1 7), .int (d.1 8)])), (ad 1, .inr (1, [.int (d.1 9), .ref (ad 4), .ref (ad 5), .ref (ad 6), .ref (ad 7), .ref (ad 8), .ref (ad 9), .ref (ad 10)])), (ad 10, .inl (y 0, 9, .inl (d.2 6))), (ad 12, .inl (y 0, 6, .inl (d.2 8))), (h, .inr (7, [.int (u17.1 - 1), .int sw, .int u17.2.1, .ref (sa 0), .ref (sa 1), .ref (sa 2), .ref (sa 3), .ref (sa 4), .ref (sa 5), .ref (sa 6)])), (sa 0, .inl (y 0, 9, .inl u20))]) rfl ?_
            refine j_aload_n (pc := 101) C d_Days_countRows_101 rfl 2 rfl ?_
            refine j_iload (pc := 102) C d_Days_countRows_102 4 rfl ?_
            refine j_put (pc := 104) C pf_Days_15 4 (ws' := [(ad 0, .inr (2, [.int (d.1 0), .int (d.1 1), .int (d.1 2), .int (d.1 3), .ref (ad 1), .int (d.1 4), .ref (ad 11), .ref (ad 12), .ref (ad 2), .ref (ad 3), .int (d.1 5), .int (d.1 6), .int (d.1 7), .int (d.1 8)])), (ad 1, .inr (1, [.int (d.1 9), .ref (ad 4), .ref (ad 5), .ref (ad 6), .ref (ad 7), .ref (ad 8), .ref (ad 9), .ref (ad 10)])), (ad 10, .inl (y 0, 9, .inl (d.2 6))), (ad 12, .inl (y 0, 6, .inl (d.2 8))), (h, .inr (7, [.int (u17.1 - 1), .int sw, .int la, .ref (sa 0), .ref (sa 1), .ref (sa 2), .ref (sa 3), .ref (sa 4), .ref (sa 5), .ref (sa 6)])), (sa 0, .inl (y 0, 9, .inl u20))]) rfl rfl rfl (nl rfl) rfl d_Days_countRows_104 ?_
            refine j_iinc (pc := 107) C (v := nI (a + 1)) (lv' := [(5, .int (nI (a + 1))), (3, .int (rs + r16)), (0, .ref (ad 0)), (1, .ref h), (2, .int (nI (q + 1))), (4, .int la)]) d_Days_countRows_107 5 rfl (nI_1 _) (by decide) rfl ?_
            refine j_goto (pc := 110) C (tgt := 17) d_Days_countRows_110 (by decide) ?_
            refine j_locs (lv' := [(0, .ref (ad 0)), (1, .ref h), (2, .int (nI (q + 1))), (3, .int (rs + r16)), (4, .int la), (5, .int (nI (a + 1)))]) [2, 3, 4, 1, 5, 0] rfl ?_
            exact ih (a + 1) _ _ _ _ (by omega)
          · refine j_iconst (pc := 93) C (v := 1) d_Days_countRows_93 (by decide) ?_
            refine j_goto (pc := 94) C (tgt := 98) d_Days_countRows_94 (by decide) ?_
            refine j_callSv (pc := 98) C (c_moveBoards l D y ad d n4 h sa (u17.1 - 1) sw u17.2.1 u17.2.2 1 h4 b4 hJ hV) kw_Days_106 ks_Days_moveBoards ⟨by decide, by decide⟩ ⟨by decide, by decide⟩ (wr := []) [0, 1, 2, 3, 4, 5] [] rfl rfl (by decide +kernel) (by decide +kernel) (by decide +kernel) (As := [.ref (ad 0), .ref h, .int 1]) (rest := []) rfl (nb rfl) rfl d_Days_countRows_98 (fun u21 _ => ?_)
            refine j_ws (ws' := [(ad 0, .inr (2, [.int (d.1 0), .int (d.1 1), .int (d.1 2), .int (d.1 3), .ref (ad 1), .int (d.1 4), .ref (ad 11), .ref (ad 12), .ref (ad 2), .ref (ad 3), .int (d.1 5), .int (d.1 6), .int (d.1 7), .int (d.1 8)])), (ad 1, .inr (1, [.int (d.1 9), .ref (ad 4), .ref (ad 5), .ref (ad 6), .ref (ad 7), .ref (ad 8), .ref (ad 9), .ref (ad 10)])), (ad 10, .inl (y 0, 9, .inl (d.2 6))), (ad 12, .inl (y 0, 6, .inl (d.2 8))), (h, .inr (7, [.int (u17.1 - 1), .int sw, .int u17.2.1, .ref (sa 0), .ref (sa 1), .ref (sa 2), .ref (sa 3), .ref (sa 4), .ref (sa 5), .ref (sa 6)])), (sa 0, .inl (y 0, 9, .inl u21))]) rfl ?_
            refine j_aload_n (pc := 101) C d_Days_countRows_101 rfl 2 rfl ?_
            refine j_iload (pc := 102) C d_Days_countRows_102 4 rfl ?_
            refine j_put (pc := 104) C pf_Days_15 4 (ws' := [(ad 0, .inr (2, [.int (d.1 0), .int (d.1 1), .int (d.1 2), .int (d.1 3), .ref (ad 1), .int (d.1 4), .ref (ad 11), .ref (ad 12), .ref (ad 2), .ref (ad 3), .int (d.1 5), .int (d.1 6), .int (d.1 7), .int (d.1 8)])), (ad 1, .inr (1, [.int (d.1 9), .ref (ad 4), .ref (ad 5), .ref (ad 6), .ref (ad 7), .ref (ad 8), .ref (ad 9), .ref (ad 10)])), (ad 10, .inl (y 0, 9, .inl (d.2 6))), (ad 12, .inl (y 0, 6, .inl (d.2 8))), (h, .inr (7, [.int (u17.1 - 1), .int sw, .int la, .ref (sa 0), .ref (sa 1), .ref (sa 2), .ref (sa 3), .ref (sa 4), .ref (sa 5), .ref (sa 6)])), (sa 0, .inl (y 0, 9, .inl u21))]) rfl rfl rfl (nl rfl) rfl d_Days_countRows_104 ?_
            refine j_iinc (pc := 107) C (v := nI (a + 1)) (lv' := [(5, .int (nI (a + 1))), (3, .int (rs + r16)), (0, .ref (ad 0)), (1, .ref h), (2, .int (nI (q + 1))), (4, .int la)]) d_Days_countRows_107 5 rfl (nI_1 _) (by decide) rfl ?_
            refine j_goto (pc := 110) C (tgt := 17) d_Days_countRows_110 (by decide) ?_
            refine j_locs (lv' := [(0, .ref (ad 0)), (1, .ref h), (2, .int (nI (q + 1))), (3, .int (rs + r16)), (4, .int la), (5, .int (nI (a + 1)))]) [2, 3, 4, 1, 5, 0] rfl ?_
            exact ih (a + 1) _ _ _ _ (by omega)
set_option maxHeartbeats 4000000 in
set_option maxRecDepth 100000 in
theorem c_countRows_5 (l : Launch) (D : va_G) (y : Nat → ClassId) (ad : Nat → Nat) (d : LD) (n4 : Nat) (h : Nat) (sa : Nat → Nat) (sd : Int32) (sw : Int32) (sl : Int32) (f0 : Nat → Int32) (k : Nat) (h4 : d.1 4 = nI n4) (b4 : n4 ≤ 6) (hJ : ∀ j, j < 9 → d.2 6 j = -1 ∨ ∃ q, q < 9 ∧ d.2 6 j = nI q) (hV : ∀ j, j < n4 → ∃ q, q < 9 ∧ d.2 8 j = nI q) (hk : k ≤ 5) : CT l D y ⟨"NineBoards$Days", "countRows", "(LNineBoards$Lake;LNineBoards$State;I)I"⟩ prog_3_method_14_code 6 (some .int) ({ frames := 8, cells := 0, slots := 0, locals := 190 } : Room) [.ref (ad 0), .ref h, .int (nI k)] [(ad 0, .inr (2, [.int (d.1 0), .int (d.1 1), .int (d.1 2), .int (d.1 3), .ref (ad 1), .int (d.1 4), .ref (ad 11), .ref (ad 12), .ref (ad 2), .ref (ad 3), .int (d.1 5), .int (d.1 6), .int (d.1 7), .int (d.1 8)])), (ad 1, .inr (1, [.int (d.1 9), .ref (ad 4), .ref (ad 5), .ref (ad 6), .ref (ad 7), .ref (ad 8), .ref (ad 9), .ref (ad 10)])), (ad 10, .inl (y 0, 9, .inl (d.2 6))), (ad 12, .inl (y 0, 6, .inl (d.2 8))), (h, .inr (7, [.int sd, .int sw, .int sl, .ref (sa 0), .ref (sa 1), .ref (sa 2), .ref (sa 3), .ref (sa 4), .ref (sa 5), .ref (sa 6)])), (sa 0, .inl (y 0, 9, .inl f0))] (QI D [(ad 0, .inr (2, [.int (d.1 0), .int (d.1 1), .int (d.1 2), .int (d.1 3), .ref (ad 1), .int (d.1 4), .ref (ad 11), .ref (ad 12), .ref (ad 2), .ref (ad 3), .int (d.1 5), .int (d.1 6), .int (d.1 7), .int (d.1 8)])), (ad 1, .inr (1, [.int (d.1 9), .ref (ad 4), .ref (ad 5), .ref (ad 6), .ref (ad 7), .ref (ad 8), .ref (ad 9), .ref (ad 10)])), (ad 10, .inl (y 0, 9, .inl (d.2 6))), (ad 12, .inl (y 0, 6, .inl (d.2 8))), (h, .inr (7, [.int sd, .int sw, .int sl, .ref (sa 0), .ref (sa 1), .ref (sa 2), .ref (sa 3), .ref (sa 4), .ref (sa 5), .ref (sa 6)])), (sa 0, .inl (y 0, 9, .inl f0))] (fun (r : Int32) (u : Int32 × Int32 × (Nat → Int32)) => True) (fun u => [(ad 0, .inr (2, [.int (d.1 0), .int (d.1 1), .int (d.1 2), .int (d.1 3), .ref (ad 1), .int (d.1 4), .ref (ad 11), .ref (ad 12), .ref (ad 2), .ref (ad 3), .int (d.1 5), .int (d.1 6), .int (d.1 7), .int (d.1 8)])), (ad 1, .inr (1, [.int (d.1 9), .ref (ad 4), .ref (ad 5), .ref (ad 6), .ref (ad 7), .ref (ad 8), .ref (ad 9), .ref (ad 10)])), (ad 10, .inl (y 0, 9, .inl (d.2 6))), (ad 12, .inl (y 0, 6, .inl (d.2 8))), (h, .inr (7, [.int u.1, .int sw, .int u.2.1, .ref (sa 0), .ref (sa 1), .ref (sa 2), .ref (sa 3), .ref (sa 4), .ref (sa 5), .ref (sa 6)])), (sa 0, .inl (y 0, 9, .inl u.2.2))])) := by
  refine CT.of (by decide) (nb rfl) ?_
  intro p e s m args below meth c C hr
  refine j_lv (lv' := [(0, .ref (ad 0)), (1, .ref h), (2, .int (nI k))]) rfl ?_
  by_cases h0 : k = 0
  · subst h0
    refine j_iload_n (pc := 0) C d_Days_countRows_0 rfl 2 rfl ?_
    refine j_if_gtF (pc := 1) C (tgt := 6) d_Days_countRows_1 (by decide) (by decide) ?_
    refine j_iconst (pc := 4) C (v := 1) d_Days_countRows_4 (by decide) ?_
    exact j_iret (pc := 5) C hr rfl (sd, sl, f0) trivial [0, 1, 2, 3, 4, 5] rfl (by decide) (by decide) (by decide) d_Days_countRows_5
  · obtain ⟨q, rfl⟩ : ∃ q, k = q + 1 := ⟨k - 1, by omega⟩
    refine j_iload_n (pc := 0) C d_Days_countRows_0 rfl 2 rfl ?_
    refine j_if_gtT (pc := 1) C (tgt := 6) d_Days_countRows_1 (by decide) (show nI 0 < nI (q + 1) from nI_lt (by omega) (by omega)) ?_
    refine j_iconst (pc := 6) C (v := 0) d_Days_countRows_6 (by decide) ?_
    refine j_istore_n (pc := 7) C (lv' := [(3, .int 0), (0, .ref (ad 0)), (1, .ref h), (2, .int (nI (q + 1)))]) d_Days_countRows_7 rfl (by decide) rfl ?_
    refine j_aload_n (pc := 8) C d_Days_countRows_8 rfl 2 rfl ?_
    refine j_get (pc := 9) C gf_Days_15 4 rfl rfl d_Days_countRows_9 ?_
    refine j_istore (pc := 12) C (lv' := [(4, .int sl), (3, .int 0), (0, .ref (ad 0)), (1, .ref h), (2, .int (nI (q + 1)))]) d_Days_countRows_12 (by decide) rfl ?_
    refine j_iconst (pc := 14) C (v := 0) d_Days_countRows_14 (by decide) ?_
    refine j_istore (pc := 15) C (lv' := [(5, .int 0), (4, .int sl), (3, .int 0), (0, .ref (ad 0)), (1, .ref h), (2, .int (nI (q + 1)))]) d_Days_countRows_15 (by decide) rfl ?_
    refine j_locs (lv' := [(0, .ref (ad 0)), (1, .ref h), (2, .int (nI (q + 1))), (3, .int 0), (4, .int sl), (5, .int 0)]) [3, 4, 5, 2, 1, 0] rfl ?_
    refine j_lv (lv' := [(0, .ref (ad 0)), (1, .ref h), (2, .int (nI (q + 1))), (3, .int 0), (4, .int sl), (5, .int (nI 0))]) rfl ?_
    refine lp_rows_5 C ad d n4 h sa sw q sl h4 b4 hJ hV hk (fun rs sd sl f0 => ?_) 3 0 _ _ _ _ (by omega)
    refine j_iload_n (pc := 113) C d_Days_countRows_113 rfl 3 rfl ?_
    exact j_iret (pc := 114) C hr rfl (sd, sl, f0) trivial [0, 1, 2, 3, 4, 5] rfl (by decide) (by decide) (by decide) d_Days_countRows_114

set_option maxHeartbeats 4000000 in
set_option maxRecDepth 100000 in
theorem lp_rows_6 {p : Program} {l : Launch} {e : Env} {s : State} {m : MethodId} {args : Array Value} {below : List Frame} {meth : Method} {c : Code} {Q : State → Prop} {D : va_G} {y : Nat → ClassId} {A : Nat → Prop} (C : Cx p s m args meth c D y A prog_3_method_14_code 6 "NineBoards$Days" "countRows") (ad : Nat → Nat) (d : LD) (n4 : Nat) (h : Nat) (sa : Nat → Nat) (sw : Int32) (q : Nat) (la : Int32) (h4 : d.1 4 = nI n4) (b4 : n4 ≤ 6) (hJ : ∀ j, j < 9 → d.2 6 j = -1 ∨ ∃ q, q < 9 ∧ d.2 6 j = nI q) (hV : ∀ j, j < n4 → ∃ q, q < 9 ∧ d.2 8 j = nI q) (hq : q + 1 ≤ 6) (kx : ∀ (rs sd sl : Int32) (f0 : Nat → Int32), J p l e ({ frames := 9, cells := 0, slots := 0, locals := 215 } : Room) s m args below meth c Q D A 6 [(ad 0, .inr (2, [.int (d.1 0), .int (d.1 1), .int (d.1 2), .int (d.1 3), .ref (ad 1), .int (d.1 4), .ref (ad 11), .ref (ad 12), .ref (ad 2), .ref (ad 3), .int (d.1 5), .int (d.1 6), .int (d.1 7), .int (d.1 8)])), (ad 1, .inr (1, [.int (d.1 9), .ref (ad 4), .ref (ad 5), .ref (ad 6), .ref (ad 7), .ref (ad 8), .ref (ad 9), .ref (ad 10)])), (ad 10, .inl (y 0, 9, .inl (d.2 6))), (ad 12, .inl (y 0, 6, .inl (d.2 8))), (h, .inr (7, [.int sd, .int sw, .int sl, .ref (sa 0), .ref (sa 1), .ref (sa 2), .ref (sa 3), .ref (sa 4), .ref (sa 5), .ref (sa 6)])), (sa 0, .inl (y 0, 9, .inl f0))] [(0, .ref (ad 0)), (1, .ref h), (2, .int (nI (q + 1))), (3, .int rs), (4, .int la), (5, .int (nI 3))] 0 0 113 []) : ∀ (n : Nat) (a : Nat) (rs : Int32) (sd : Int32) (sl : Int32) (f0 : Nat → Int32), (a + n = 3) → J p l e ({ frames := 9, cells := 0, slots := 0, locals := 215 } : Room) s m args below meth c Q D A 6 [(ad 0, .inr (2, [.int (d.1 0), .int (d.1 1), .int (d.1 2), .int (d.1 3), .ref (ad 1), .int (d.1 4), .ref (ad 11), .ref (ad 12), .ref (ad 2), .ref (ad 3), .int (d.1 5), .int (d.1 6), .int (d.1 7), .int (d.1 8)])), (ad 1, .inr (1, [.int (d.1 9), .ref (ad 4), .ref (ad 5), .ref (ad 6), .ref (ad 7), .ref (ad 8), .ref (ad 9), .ref (ad 10)])), (ad 10, .inl (y 0, 9, .inl (d.2 6))), (ad 12, .inl (y 0, 6, .inl (d.2 8))), (h, .inr (7, [.int sd, .int sw, .int sl, .ref (sa 0), .ref (sa 1), .ref (sa 2), .ref (sa 3), .ref (sa 4), .ref (sa 5), .ref (sa 6)])), (sa 0, .inl (y 0, 9, .inl f0))] [(0, .ref (ad 0)), (1, .ref h), (2, .int (nI (q + 1))), (3, .int rs), (4, .int la), (5, .int (nI a))] 0 0 17 [] := by
  intro n
  induction n with
  | zero =>
    intro a rs sd sl f0 ha
    obtain rfl : a = 3 := by omega
    refine j_iload (pc := 17) C d_Days_countRows_17 5 rfl ?_
    refine j_iconst (pc := 19) C (v := 3) d_Days_countRows_19 (by decide) ?_
    refine j_icmp_geT (pc := 20) C (tgt := 113) d_Days_countRows_20 (by decide) (by decide) ?_
    exact kx _ _ _ _
  | succ n ih =>
    intro a rs sd sl f0 ha
    refine j_iload (pc := 17) C d_Days_countRows_17 5 rfl ?_
    refine j_iconst (pc := 19) C (v := 3) d_Days_countRows_19 (by decide) ?_
    refine j_icmp_geF (pc := 20) C (tgt := 113) d_Days_countRows_20 (by decide) (show ¬ nI 3 ≤ nI a from nI_ge (by omega) (by decide)) ?_
    refine j_aload_n (pc := 23) C d_Days_countRows_23 rfl 0 rfl ?_
    refine j_aload_n (pc := 24) C d_Days_countRows_24 rfl 1 rfl ?_
    refine j_aload_n (pc := 25) C d_Days_countRows_25 rfl 0 rfl ?_
    refine j_aload_n (pc := 26) C d_Days_countRows_26 rfl 1 rfl ?_
    refine j_get (pc := 27) C gf_Days_59 4 rfl rfl d_Days_countRows_27 ?_
    refine j_callVi (pc := 30) C (c_villageOn l D y ad d n4 sd h4 b4) kw_Days_109 kv_Lake_villageOn 0 2 rfl rfl ⟨by decide, by decide⟩ ⟨by decide, by decide⟩ (wr := [(ad 1, .inr (1, [.int (d.1 9), .ref (ad 4), .ref (ad 5), .ref (ad 6), .ref (ad 7), .ref (ad 8), .ref (ad 9), .ref (ad 10)])), (ad 10, .inl (y 0, 9, .inl (d.2 6))), (ad 12, .inl (y 0, 6, .inl (d.2 8))), (h, .inr (7, [.int sd, .int sw, .int sl, .ref (sa 0), .ref (sa 1), .ref (sa 2), .ref (sa 3), .ref (sa 4), .ref (sa 5), .ref (sa 6)])), (sa 0, .inl (y 0, 9, .inl f0))]) [0] [1, 2, 3, 4, 5] rfl rfl (by decide +kernel) (by decide +kernel) (by decide +kernel) (As := [.int sd]) (rest := [.ref h, .ref (ad 0)]) rfl (nb rfl) rfl d_Days_countRows_30 (fun r1 _ hr1 => ?_)
    refine j_ws (ws' := [(ad 1, .inr (1, [.int (d.1 9), .ref (ad 4), .ref (ad 5), .ref (ad 6), .ref (ad 7), .ref (ad 8), .ref (ad 9), .ref (ad 10)])), (ad 10, .inl (y 0, 9, .inl (d.2 6))), (ad 12, .inl (y 0, 6, .inl (d.2 8))), (h, .inr (7, [.int sd, .int sw, .int sl, .ref (sa 0), .ref (sa 1), .ref (sa 2), .ref (sa 3), .ref (sa 4), .ref (sa 5), .ref (sa 6)])), (sa 0, .inl (y 0, 9, .inl f0)), (ad 0, .inr (2, [.int (d.1 0), .int (d.1 1), .int (d.1 2), .int (d.1 3), .ref (ad 1), .int (d.1 4), .ref (ad 11), .ref (ad 12), .ref (ad 2), .ref (ad 3), .int (d.1 5), .int (d.1 6), .int (d.1 7), .int (d.1 8)]))]) rfl ?_
    rcases hr1 with rfl | ⟨j2, xh3, rfl⟩
    · refine j_iload (pc := 33) C d_Days_countRows_33 5 rfl ?_
      refine j_iconst (pc := 35) C (v := 0) d_Days_countRows_35 (by decide) ?_
      refine j_callSi (pc := 36) C (c_allows l D y ad d n4 h sa sd sw sl f0 (-1) (nI a) 0 h4 b4 hJ hV) kw_Days_43 ks_Days_allows ⟨by decide, by decide⟩ ⟨by decide, by decide⟩ (wr := []) [5, 0, 1, 2, 3, 4] [] rfl rfl (by decide +kernel) (by decide +kernel) (by decide +kernel) (As := [.ref (ad 0), .ref h, .int (-1), .int (nI a), .int 0]) (rest := []) rfl (nb rfl) rfl d_Days_countRows_36 (fun r4 _ hr4 => ?_)
      refine j_ws (ws' := [(ad 0, .inr (2, [.int (d.1 0), .int (d.1 1), .int (d.1 2), .int (d.1 3), .ref (ad 1), .int (d.1 4), .ref (ad 11), .ref (ad 12), .ref (ad 2), .ref (ad 3), .int (d.1 5), .int (d.1 6), .int (d.1 7), .int (d.1 8)])), (ad 1, .inr (1, [.int (d.1 9), .ref (ad 4), .ref (ad 5), .ref (ad 6), .ref (ad 7), .ref (ad 8), .ref (ad 9), .ref (ad 10)])), (ad 10, .inl (y 0, 9, .inl (d.2 6))), (ad 12, .inl (y 0, 6, .inl (d.2 8))), (h, .inr (7, [.int sd, .int sw, .int sl, .ref (sa 0), .ref (sa 1), .ref (sa 2), .ref (sa 3), .ref (sa 4), .ref (sa 5), .ref (sa 6)])), (sa 0, .inl (y 0, 9, .inl f0))]) rfl ?_
      refine j_if_eq (pc := 39) C (tgt := 107) d_Days_countRows_39 (by decide) (fun c5 => ?_) (fun c5 => ?_)
      · refine j_iinc (pc := 107) C (v := nI (a + 1)) (lv' := [(5, .int (nI (a + 1))), (0, .ref (ad 0)), (1, .ref h), (2, .int (nI (q + 1))), (3, .int rs), (4, .int la)]) d_Days_countRows_107 5 rfl (nI_1 _) (by decide) rfl ?_
        refine j_goto (pc := 110) C (tgt := 17) d_Days_countRows_110 (by decide) ?_
        refine j_locs (lv' := [(0, .ref (ad 0)), (1, .ref h), (2, .int (nI (q + 1))), (3, .int rs), (4, .int la), (5, .int (nI (a + 1)))]) [1, 2, 3, 4, 5, 0] rfl ?_
        exact ih (a + 1) _ _ _ _ (by omega)
      · refine j_aload_n (pc := 42) C d_Days_countRows_42 rfl 0 rfl ?_
        refine j_aload_n (pc := 43) C d_Days_countRows_43 rfl 1 rfl ?_
        refine j_iload (pc := 44) C d_Days_countRows_44 5 rfl ?_
        refine j_callSv (pc := 46) C (c_doAct l D y ad d n4 h sa sd sw sl f0 (nI a) h4 b4 hJ hV) kw_Days_47 ks_Days_doAct ⟨by decide, by decide⟩ ⟨by decide, by decide⟩ (wr := []) [0, 1, 2, 3, 4, 5] [] rfl rfl (by decide +kernel) (by decide +kernel) (by decide +kernel) (As := [.ref (ad 0), .ref h, .int (nI a)]) (rest := []) rfl (nb rfl) rfl d_Days_countRows_46 (fun u6 _ => ?_)
        refine j_ws (ws' := [(ad 0, .inr (2, [.int (d.1 0), .int (d.1 1), .int (d.1 2), .int (d.1 3), .ref (ad 1), .int (d.1 4), .ref (ad 11), .ref (ad 12), .ref (ad 2), .ref (ad 3), .int (d.1 5), .int (d.1 6), .int (d.1 7), .int (d.1 8)])), (ad 1, .inr (1, [.int (d.1 9), .ref (ad 4), .ref (ad 5), .ref (ad 6), .ref (ad 7), .ref (ad 8), .ref (ad 9), .ref (ad 10)])), (ad 10, .inl (y 0, 9, .inl (d.2 6))), (ad 12, .inl (y 0, 6, .inl (d.2 8))), (h, .inr (7, [.int sd, .int sw, .int u6.1, .ref (sa 0), .ref (sa 1), .ref (sa 2), .ref (sa 3), .ref (sa 4), .ref (sa 5), .ref (sa 6)])), (sa 0, .inl (y 0, 9, .inl u6.2))]) rfl ?_
        refine j_aload_n (pc := 49) C d_Days_countRows_49 rfl 1 rfl ?_
        refine j_dup (pc := 50) C d_Days_countRows_50 rfl ?_
        refine j_get (pc := 51) C gf_Days_59 4 rfl rfl d_Days_countRows_51 ?_
        refine j_iconst (pc := 54) C (v := 1) d_Days_countRows_54 (by decide) ?_
        refine j_iadd (pc := 55) C (v := sd + 1) d_Days_countRows_55 rfl ?_
        refine j_put (pc := 56) C pf_Days_59 4 (ws' := [(ad 0, .inr (2, [.int (d.1 0), .int (d.1 1), .int (d.1 2), .int (d.1 3), .ref (ad 1), .int (d.1 4), .ref (ad 11), .ref (ad 12), .ref (ad 2), .ref (ad 3), .int (d.1 5), .int (d.1 6), .int (d.1 7), .int (d.1 8)])), (ad 1, .inr (1, [.int (d.1 9), .ref (ad 4), .ref (ad 5), .ref (ad 6), .ref (ad 7), .ref (ad 8), .ref (ad 9), .ref (ad 10)])), (ad 10, .inl (y 0, 9, .inl (d.2 6))), (ad 12, .inl (y 0, 6, .inl (d.2 8))), (h, .inr (7, [.int (sd + 1), .int sw, .int u6.1, .ref (sa 0), .ref (sa 1), .ref (sa 2), .ref (sa 3), .ref (sa 4), .ref (sa 5), .ref (sa 6)])), (sa 0, .inl (y 0, 9, .inl u6.2))]) rfl rfl rfl (nl rfl) rfl d_Days_countRows_56 ?_
        refine j_iload_n (pc := 59) C d_Days_countRows_59 rfl 3 rfl ?_
        refine j_aload_n (pc := 60) C d_Days_countRows_60 rfl 0 rfl ?_
        refine j_aload_n (pc := 61) C d_Days_countRows_61 rfl 1 rfl ?_
        refine j_iload_n (pc := 62) C d_Days_countRows_62 rfl 2 rfl ?_
        refine j_iconst (pc := 63) C (v := 1) d_Days_countRows_63 (by decide) ?_
        refine j_isub (pc := 64) C (v := nI q) d_Days_countRows_64 (nI_pred q) ?_
        refine j_callSi (pc := 65) C (c_countRows_5 l D y ad d n4 h sa (sd + 1) sw u6.1 u6.2 q h4 b4 hJ hV (by omega)) kw_Days_159 ks_Days_countRows ⟨by decide, by decide⟩ ⟨by decide, by decide⟩ (wr := []) [0, 1, 2, 3, 4, 5] [] rfl rfl (by decide +kernel) (by decide +kernel) (by decide +kernel) (As := [.ref (ad 0), .ref h, .int (nI q)]) (rest := [.int rs]) rfl (nb rfl) rfl d_Days_countRows_65 (fun r7 u8 hr7 => ?_)
        refine j_ws (ws' := [(ad 0, .inr (2, [.int (d.1 0), .int (d.1 1), .int (d.1 2), .int (d.1 3), .ref (ad 1), .int (d.1 4), .ref (ad 11), .ref (ad 12), .ref (ad 2), .ref (ad 3), .int (d.1 5), .int (d.1 6), .int (d.1 7), .int (d.1 8)])), (ad 1, .inr (1, [.int (d.1 9), .ref (ad 4), .ref (ad 5), .ref (ad 6), .ref (ad 7), .ref (ad 8), .ref (ad 9), .ref (ad 10)])), (ad 10, .inl (y 0, 9, .inl (d.2 6))), (ad 12, .inl (y 0, 6, .inl (d.2 8))), (h, .inr (7, [.int u8.1, .int sw, .int u8.2.1, .ref (sa 0), .ref (sa 1), .ref (sa 2), .ref (sa 3), .ref (sa 4), .ref (sa 5), .ref (sa 6)])), (sa 0, .inl (y 0, 9, .inl u8.2.2))]) rfl ?_
        refine j_iadd (pc := 68) C (v := rs + r7) d_Days_countRows_68 rfl ?_
        refine j_istore_n (pc := 69) C (lv' := [(3, .int (rs + r7)), (0, .ref (ad 0)), (1, .ref h), (2, .int (nI (q + 1))), (4, .int la), (5, .int (nI a))]) d_Days_countRows_69 rfl (by decide) rfl ?_
        refine j_aload_n (pc := 70) C d_Days_countRows_70 rfl 2 rfl ?_
        refine j_dup (pc := 71) C d_Days_countRows_71 rfl ?_
        refine j_get (pc := 72) C gf_Days_59 4 rfl rfl d_Days_countRows_72 ?_
        refine j_iconst (pc := 75) C (v := 1) d_Days_countRows_75 (by decide) ?_
        refine j_isub (pc := 76) C (v := u8.1 - 1) d_Days_countRows_76 rfl ?_
        refine j_put (pc := 77) C pf_Days_59 4 (ws' := [(ad 0, .inr (2, [.int (d.1 0), .int (d.1 1), .int (d.1 2), .int (d.1 3), .ref (ad 1), .int (d.1 4), .ref (ad 11), .ref (ad 12), .ref (ad 2), .ref (ad 3), .int (d.1 5), .int (d.1 6), .int (d.1 7), .int (d.1 8)])), (ad 1, .inr (1, [.int (d.1 9), .ref (ad 4), .ref (ad 5), .ref (ad 6), .ref (ad 7), .ref (ad 8), .ref (ad 9), .ref (ad 10)])), (ad 10, .inl (y 0, 9, .inl (d.2 6))), (ad 12, .inl (y 0, 6, .inl (d.2 8))), (h, .inr (7, [.int (u8.1 - 1), .int sw, .int u8.2.1, .ref (sa 0), .ref (sa 1), .ref (sa 2), .ref (sa 3), .ref (sa 4), .ref (sa 5), .ref (sa 6)])), (sa 0, .inl (y 0, 9, .inl u8.2.2))]) rfl rfl rfl (nl rfl) rfl d_Days_countRows_77 ?_
        refine j_iload (pc := 80) C d_Days_countRows_80 5 rfl ?_
        refine j_if_eq (pc := 82) C (tgt := 101) d_Days_countRows_82 (by decide) (fun c9 => ?_) (fun c9 => ?_)
        · refine j_aload_n (pc := 101) C d_Days_countRows_101 rfl 2 rfl ?_
          refine j_iload (pc := 102) C d_Days_countRows_102 4 rfl ?_
          refine j_put (pc := 104) C pf_Days_15 4 (ws' := [(ad 0, .inr (2, [.int (d.1 0), .int (d.1 1), .int (d.1 2), .int (d.1 3), .ref (ad 1), .int (d.1 4), .ref (ad 11), .ref (ad 12), .ref (ad 2), .ref (ad 3), .int (d.1 5), .int (d.1 6), .int (d.1 7), .int (d.1 8)])), (ad 1, .inr (1, [.int (d.1 9), .ref (ad 4), .ref (ad 5), .ref (ad 6), .ref (ad 7), .ref (ad 8), .ref (ad 9), .ref (ad 10)])), (ad 10, .inl (y 0, 9, .inl (d.2 6))), (ad 12, .inl (y 0, 6, .inl (d.2 8))), (h, .inr (7, [.int (u8.1 - 1), .int sw, .int la, .ref (sa 0), .ref (sa 1), .ref (sa 2), .ref (sa 3), .ref (sa 4), .ref (sa 5), .ref (sa 6)])), (sa 0, .inl (y 0, 9, .inl u8.2.2))]) rfl rfl rfl (nl rfl) rfl d_Days_countRows_104 ?_
          refine j_iinc (pc := 107) C (v := nI (a + 1)) (lv' := [(5, .int (nI (a + 1))), (3, .int (rs + r7)), (0, .ref (ad 0)), (1, .ref h), (2, .int (nI (q + 1))), (4, .int la)]) d_Days_countRows_107 5 rfl (nI_1 _) (by decide) rfl ?_
          refine j_goto (pc := 110) C (tgt := 17) d_Days_countRows_110 (by decide) ?_
          refine j_locs (lv' := [(0, .ref (ad 0)), (1, .ref h), (2, .int (nI (q + 1))), (3, .int (rs + r7)), (4, .int la), (5, .int (nI (a + 1)))]) [2, 3, 4, 1, 5, 0] rfl ?_
          exact ih (a + 1) _ _ _ _ (by omega)
        · refine j_aload_n (pc := 85) C d_Days_countRows_85 rfl 1 rfl ?_
          refine j_aload_n (pc := 86) C d_Days_countRows_86 rfl 2 rfl ?_
          refine j_iload (pc := 87) C d_Days_countRows_87 5 rfl ?_
          refine j_iconst (pc := 89) C (v := 1) d_Days_countRows_89 (by decide) ?_
          refine j_icmp_ne (pc := 90) C (tgt := 97) d_Days_countRows_90 (by decide) (fun c10 => ?_) (fun c10 => ?_)
          · refine j_iconst (pc := 97) C (v := (-1)) d_Days_countRows_97 (by decide) ?_
            refine j_callSv (pc := 98) C (c_moveBoards l D y ad d n4 h sa (u8.1 - 1) sw u8.2.1 u8.2.2 (-1) h4 b4 hJ hV) kw_Days_106 ks_Days_moveBoards ⟨by decide, by decide⟩ ⟨by decide, by decide⟩ (wr := []) [0, 1, 2, 3, 4, 5] [] rfl rfl (by decide +kernel) (by decide +kernel) (by decide +kernel) (As := [.ref (ad 0), .ref h, .int (-1)]) (rest := []) rfl (nb rfl) rfl d_Days_countRows_98 (fun u11 _ => ?_)
            refine j_ws (ws' := [(ad 0, .inr (2, [.int (d.1 0), .int (d.1 1), .int (d.1 2), .int (d.1 3), .ref (ad 1), .int (d.1 4), .ref (ad 11), .ref (ad 12), .ref (ad 2), .ref (ad 3), .int (d.1 5), .int (d.1 6), .int (d.1 7), .int (d.1 8)])), (ad 1, .inr (1, [.int (d.1 9), .ref (ad 4), .ref (ad 5), .ref (ad 6), .ref (ad 7), .ref (ad 8), .ref (ad 9), .ref (ad 10)])), (ad 10, .inl (y 0, 9, .inl (d.2 6))), (ad 12, .inl (y 0, 6, .inl (d.2 8))), (h, .inr (7, [.int (u8.1 - 1), .int sw, .int u8.2.1, .ref (sa 0), .ref (sa 1), .ref (sa 2), .ref (sa 3), .ref (sa 4), .ref (sa 5), .ref (sa 6)])), (sa 0, .inl (y 0, 9, .inl u11))]) rfl ?_
            refine j_aload_n (pc := 101) C d_Days_countRows_101 rfl 2 rfl ?_
            refine j_iload (pc := 102) C d_Days_countRows_102 4 rfl ?_
            refine j_put (pc := 104) C pf_Days_15 4 (ws' := [(ad 0, .inr (2, [.int (d.1 0), .int (d.1 1), .int (d.1 2), .int (d.1 3), .ref (ad 1), .int (d.1 4), .ref (ad 11), .ref (ad 12), .ref (ad 2), .ref (ad 3), .int (d.1 5), .int (d.1 6), .int (d.1 7), .int (d.1 8)])), (ad 1, .inr (1, [.int (d.1 9), .ref (ad 4), .ref (ad 5), .ref (ad 6), .ref (ad 7), .ref (ad 8), .ref (ad 9), .ref (ad 10)])), (ad 10, .inl (y 0, 9, .inl (d.2 6))), (ad 12, .inl (y 0, 6, .inl (d.2 8))), (h, .inr (7, [.int (u8.1 - 1), .int sw, .int la, .ref (sa 0), .ref (sa 1), .ref (sa 2), .ref (sa 3), .ref (sa 4), .ref (sa 5), .ref (sa 6)])), (sa 0, .inl (y 0, 9, .inl u11))]) rfl rfl rfl (nl rfl) rfl d_Days_countRows_104 ?_
            refine j_iinc (pc := 107) C (v := nI (a + 1)) (lv' := [(5, .int (nI (a + 1))), (3, .int (rs + r7)), (0, .ref (ad 0)), (1, .ref h), (2, .int (nI (q + 1))), (4, .int la)]) d_Days_countRows_107 5 rfl (nI_1 _) (by decide) rfl ?_
            refine j_goto (pc := 110) C (tgt := 17) d_Days_countRows_110 (by decide) ?_
            refine j_locs (lv' := [(0, .ref (ad 0)), (1, .ref h), (2, .int (nI (q + 1))), (3, .int (rs + r7)), (4, .int la), (5, .int (nI (a + 1)))]) [2, 3, 4, 1, 5, 0] rfl ?_
            exact ih (a + 1) _ _ _ _ (by omega)
          · refine j_iconst (pc := 93) C (v := 1) d_Days_countRows_93 (by decide) ?_
            refine j_goto (pc := 94) C (tgt := 98) d_Days_countRows_94 (by decide) ?_
            refine j_callSv (pc := 98) C (c_moveBoards l D y ad d n4 h sa (u8.1 - 1) sw u8.2.1 u8.2.2 1 h4 b4 hJ hV) kw_Days_106 ks_Days_moveBoards ⟨by decide, by decide⟩ ⟨by decide, by decide⟩ (wr := []) [0, 1, 2, 3, 4, 5] [] rfl rfl (by decide +kernel) (by decide +kernel) (by decide +kernel) (As := [.ref (ad 0), .ref h, .int 1]) (rest := []) rfl (nb rfl) rfl d_Days_countRows_98 (fun u12 _ => ?_)
            refine j_ws (ws' := [(ad 0, .inr (2, [.int (d.1 0), .int (d.1 1), .int (d.1 2), .int (d.1 3), .ref (ad 1), .int (d.1 4), .ref (ad 11), .ref (ad 12), .ref (ad 2), .ref (ad 3), .int (d.1 5), .int (d.1 6), .int (d.1 7), .int (d.1 8)])), (ad 1, .inr (1, [.int (d.1 9), .ref (ad 4), .ref (ad 5), .ref (ad 6), .ref (ad 7), .ref (ad 8), .ref (ad 9), .ref (ad 10)])), (ad 10, .inl (y 0, 9, .inl (d.2 6))), (ad 12, .inl (y 0, 6, .inl (d.2 8))), (h, .inr (7, [.int (u8.1 - 1), .int sw, .int u8.2.1, .ref (sa 0), .ref (sa 1), .ref (sa 2), .ref (sa 3), .ref (sa 4), .ref (sa 5), .ref (sa 6)])), (sa 0, .inl (y 0, 9, .inl u12))]) rfl ?_
            refine j_aload_n (pc := 101) C d_Days_countRows_101 rfl 2 rfl ?_
            refine j_iload (pc := 102) C d_Days_countRows_102 4 rfl ?_
            refine j_put (pc := 104) C pf_Days_15 4 (ws' := [(ad 0, .inr (2, [.int (d.1 0), .int (d.1 1), .int (d.1 2), .int (d.1 3), .ref (ad 1), .int (d.1 4), .ref (ad 11), .ref (ad 12), .ref (ad 2), .ref (ad 3), .int (d.1 5), .int (d.1 6), .int (d.1 7), .int (d.1 8)])), (ad 1, .inr (1, [.int (d.1 9), .ref (ad 4), .ref (ad 5), .ref (ad 6), .ref (ad 7), .ref (ad 8), .ref (ad 9), .ref (ad 10)])), (ad 10, .inl (y 0, 9, .inl (d.2 6))), (ad 12, .inl (y 0, 6, .inl (d.2 8))), (h, .inr (7, [.int (u8.1 - 1), .int sw, .int la, .ref (sa 0), .ref (sa 1), .ref (sa 2), .ref (sa 3), .ref (sa 4), .ref (sa 5), .ref (sa 6)])), (sa 0, .inl (y 0, 9, .inl u12))]) rfl rfl rfl (nl rfl) rfl d_Days_countRows_104 ?_
            refine j_iinc (pc := 107) C (v := nI (a + 1)) (lv' := [(5, .int (nI (a + 1))), (3, .int (rs + r7)), (0, .ref (ad 0)), (1, .ref h), (2, .int (nI (q + 1))), (4, .int la)]) d_Days_countRows_107 5 rfl (nI_1 _) (by decide) rfl ?_
            refine j_goto (pc := 110) C (tgt := 17) d_Days_countRows_110 (by decide) ?_
            refine j_locs (lv' := [(0, .ref (ad 0)), (1, .ref h), (2, .int (nI (q + 1))), (3, .int (rs + r7)), (4, .int la), (5, .int (nI (a + 1)))]) [2, 3, 4, 1, 5, 0] rfl ?_
            exact ih (a + 1) _ _ _ _ (by omega)
    · refine j_iload (pc := 33) C d_Days_countRows_33 5 rfl ?_
      refine j_iconst (pc := 35) C (v := 0) d_Days_countRows_35 (by decide) ?_
      refine j_callSi (pc := 36) C (c_allows l D y ad d n4 h sa sd sw sl f0 (nI j2) (nI a) 0 h4 b4 hJ hV) kw_Days_43 ks_Days_allows ⟨by decide, by decide⟩ ⟨by decide, by decide⟩ (wr := []) [5, 0, 1, 2, 3, 4] [] rfl rfl (by decide +kernel) (by decide +kernel) (by decide +kernel) (As := [.ref (ad 0), .ref h, .int (nI j2), .int (nI a), .int 0]) (rest := []) rfl (nb rfl) rfl d_Days_countRows_36 (fun r13 _ hr13 => ?_)
      refine j_ws (ws' := [(ad 0, .inr (2, [.int (d.1 0), .int (d.1 1), .int (d.1 2), .int (d.1 3), .ref (ad 1), .int (d.1 4), .ref (ad 11), .ref (ad 12), .ref (ad 2), .ref (ad 3), .int (d.1 5), .int (d.1 6), .int (d.1 7), .int (d.1 8)])), (ad 1, .inr (1, [.int (d.1 9), .ref (ad 4), .ref (ad 5), .ref (ad 6), .ref (ad 7), .ref (ad 8), .ref (ad 9), .ref (ad 10)])), (ad 10, .inl (y 0, 9, .inl (d.2 6))), (ad 12, .inl (y 0, 6, .inl (d.2 8))), (h, .inr (7, [.int sd, .int sw, .int sl, .ref (sa 0), .ref (sa 1), .ref (sa 2), .ref (sa 3), .ref (sa 4), .ref (sa 5), .ref (sa 6)])), (sa 0, .inl (y 0, 9, .inl f0))]) rfl ?_
      refine j_if_eq (pc := 39) C (tgt := 107) d_Days_countRows_39 (by decide) (fun c14 => ?_) (fun c14 => ?_)
      · refine j_iinc (pc := 107) C (v := nI (a + 1)) (lv' := [(5, .int (nI (a + 1))), (0, .ref (ad 0)), (1, .ref h), (2, .int (nI (q + 1))), (3, .int rs), (4, .int la)]) d_Days_countRows_107 5 rfl (nI_1 _) (by decide) rfl ?_
        refine j_goto (pc := 110) C (tgt := 17) d_Days_countRows_110 (by decide) ?_
        refine j_locs (lv' := [(0, .ref (ad 0)), (1, .ref h), (2, .int (nI (q + 1))), (3, .int rs), (4, .int la), (5, .int (nI (a + 1)))]) [1, 2, 3, 4, 5, 0] rfl ?_
        exact ih (a + 1) _ _ _ _ (by omega)
      · refine j_aload_n (pc := 42) C d_Days_countRows_42 rfl 0 rfl ?_
        refine j_aload_n (pc := 43) C d_Days_countRows_43 rfl 1 rfl ?_
        refine j_iload (pc := 44) C d_Days_countRows_44 5 rfl ?_
        refine j_callSv (pc := 46) C (c_doAct l D y ad d n4 h sa sd sw sl f0 (nI a) h4 b4 hJ hV) kw_Days_47 ks_Days_doAct ⟨by decide, by decide⟩ ⟨by decide, by decide⟩ (wr := []) [0, 1, 2, 3, 4, 5] [] rfl rfl (by decide +kernel) (by decide +kernel) (by decide +kernel) (As := [.ref (ad 0), .ref h, .int (nI a)]) (rest := []) rfl (nb rfl) rfl d_Days_countRows_46 (fun u15 _ => ?_)
        refine j_ws (ws' := [(ad 0, .inr (2, [.int (d.1 0), .int (d.1 1), .int (d.1 2), .int (d.1 3), .ref (ad 1), .int (d.1 4), .ref (ad 11), .ref (ad 12), .ref (ad 2), .ref (ad 3), .int (d.1 5), .int (d.1 6), .int (d.1 7), .int (d.1 8)])), (ad 1, .inr (1, [.int (d.1 9), .ref (ad 4), .ref (ad 5), .ref (ad 6), .ref (ad 7), .ref (ad 8), .ref (ad 9), .ref (ad 10)])), (ad 10, .inl (y 0, 9, .inl (d.2 6))), (ad 12, .inl (y 0, 6, .inl (d.2 8))), (h, .inr (7, [.int sd, .int sw, .int u15.1, .ref (sa 0), .ref (sa 1), .ref (sa 2), .ref (sa 3), .ref (sa 4), .ref (sa 5), .ref (sa 6)])), (sa 0, .inl (y 0, 9, .inl u15.2))]) rfl ?_
        refine j_aload_n (pc := 49) C d_Days_countRows_49 rfl 1 rfl ?_
        refine j_dup (pc := 50) C d_Days_countRows_50 rfl ?_
        refine j_get (pc := 51) C gf_Days_59 4 rfl rfl d_Days_countRows_51 ?_
        refine j_iconst (pc := 54) C (v := 1) d_Days_countRows_54 (by decide) ?_
        refine j_iadd (pc := 55) C (v := sd + 1) d_Days_countRows_55 rfl ?_
        refine j_put (pc := 56) C pf_Days_59 4 (ws' := [(ad 0, .inr (2, [.int (d.1 0), .int (d.1 1), .int (d.1 2), .int (d.1 3), .ref (ad 1), .int (d.1 4), .ref (ad 11), .ref (ad 12), .ref (ad 2), .ref (ad 3), .int (d.1 5), .int (d.1 6), .int (d.1 7), .int (d.1 8)])), (ad 1, .inr (1, [.int (d.1 9), .ref (ad 4), .ref (ad 5), .ref (ad 6), .ref (ad 7), .ref (ad 8), .ref (ad 9), .ref (ad 10)])), (ad 10, .inl (y 0, 9, .inl (d.2 6))), (ad 12, .inl (y 0, 6, .inl (d.2 8))), (h, .inr (7, [.int (sd + 1), .int sw, .int u15.1, .ref (sa 0), .ref (sa 1), .ref (sa 2), .ref (sa 3), .ref (sa 4), .ref (sa 5), .ref (sa 6)])), (sa 0, .inl (y 0, 9, .inl u15.2))]) rfl rfl rfl (nl rfl) rfl d_Days_countRows_56 ?_
        refine j_iload_n (pc := 59) C d_Days_countRows_59 rfl 3 rfl ?_
        refine j_aload_n (pc := 60) C d_Days_countRows_60 rfl 0 rfl ?_
        refine j_aload_n (pc := 61) C d_Days_countRows_61 rfl 1 rfl ?_
        refine j_iload_n (pc := 62) C d_Days_countRows_62 rfl 2 rfl ?_
        refine j_iconst (pc := 63) C (v := 1) d_Days_countRows_63 (by decide) ?_
        refine j_isub (pc := 64) C (v := nI q) d_Days_countRows_64 (nI_pred q) ?_
        refine j_callSi (pc := 65) C (c_countRows_5 l D y ad d n4 h sa (sd + 1) sw u15.1 u15.2 q h4 b4 hJ hV (by omega)) kw_Days_159 ks_Days_countRows ⟨by decide, by decide⟩ ⟨by decide, by decide⟩ (wr := []) [0, 1, 2, 3, 4, 5] [] rfl rfl (by decide +kernel) (by decide +kernel) (by decide +kernel) (As := [.ref (ad 0), .ref h, .int (nI q)]) (rest := [.int rs]) rfl (nb rfl) rfl d_Days_countRows_65 (fun r16 u17 hr16 => ?_)
        refine j_ws (ws' := [(ad 0, .inr (2, [.int (d.1 0), .int (d.1 1), .int (d.1 2), .int (d.1 3), .ref (ad 1), .int (d.1 4), .ref (ad 11), .ref (ad 12), .ref (ad 2), .ref (ad 3), .int (d.1 5), .int (d.1 6), .int (d.1 7), .int (d.1 8)])), (ad 1, .inr (1, [.int (d.1 9), .ref (ad 4), .ref (ad 5), .ref (ad 6), .ref (ad 7), .ref (ad 8), .ref (ad 9), .ref (ad 10)])), (ad 10, .inl (y 0, 9, .inl (d.2 6))), (ad 12, .inl (y 0, 6, .inl (d.2 8))), (h, .inr (7, [.int u17.1, .int sw, .int u17.2.1, .ref (sa 0), .ref (sa 1), .ref (sa 2), .ref (sa 3), .ref (sa 4), .ref (sa 5), .ref (sa 6)])), (sa 0, .inl (y 0, 9, .inl u17.2.2))]) rfl ?_
        refine j_iadd (pc := 68) C (v := rs + r16) d_Days_countRows_68 rfl ?_
        refine j_istore_n (pc := 69) C (lv' := [(3, .int (rs + r16)), (0, .ref (ad 0)), (1, .ref h), (2, .int (nI (q + 1))), (4, .int la), (5, .int (nI a))]) d_Days_countRows_69 rfl (by decide) rfl ?_
        refine j_aload_n (pc := 70) C d_Days_countRows_70 rfl 2 rfl ?_
        refine j_dup (pc := 71) C d_Days_countRows_71 rfl ?_
        refine j_get (pc := 72) C gf_Days_59 4 rfl rfl d_Days_countRows_72 ?_
        refine j_iconst (pc := 75) C (v := 1) d_Days_countRows_75 (by decide) ?_
        refine j_isub (pc := 76) C (v := u17.1 - 1) d_Days_countRows_76 rfl ?_
        refine j_put (pc := 77) C pf_Days_59 4 (ws' := [(ad 0, .inr (2, [.int (d.1 0), .int (d.1 1), .int (d.1 2), .int (d.1 3), .ref (ad 1), .int (d.1 4), .ref (ad 11), .ref (ad 12), .ref (ad 2), .ref (ad 3), .int (d.1 5), .int (d.1 6), .int (d.1 7), .int (d.1 8)])), (ad 1, .inr (1, [.int (d.1 9), .ref (ad 4), .ref (ad 5), .ref (ad 6), .ref (ad 7), .ref (ad 8), .ref (ad 9), .ref (ad 10)])), (ad 10, .inl (y 0, 9, .inl (d.2 6))), (ad 12, .inl (y 0, 6, .inl (d.2 8))), (h, .inr (7, [.int (u17.1 - 1), .int sw, .int u17.2.1, .ref (sa 0), .ref (sa 1), .ref (sa 2), .ref (sa 3), .ref (sa 4), .ref (sa 5), .ref (sa 6)])), (sa 0, .inl (y 0, 9, .inl u17.2.2))]) rfl rfl rfl (nl rfl) rfl d_Days_countRows_77 ?_
        refine j_iload (pc := 80) C d_Days_countRows_80 5 rfl ?_
        refine j_if_eq (pc := 82) C (tgt := 101) d_Days_countRows_82 (by decide) (fun c18 => ?_) (fun c18 => ?_)
        · refine j_aload_n (pc := 101) C d_Days_countRows_101 rfl 2 rfl ?_
          refine j_iload (pc := 102) C d_Days_countRows_102 4 rfl ?_
          refine j_put (pc := 104) C pf_Days_15 4 (ws' := [(ad 0, .inr (2, [.int (d.1 0), .int (d.1 1), .int (d.1 2), .int (d.1 3), .ref (ad 1), .int (d.1 4), .ref (ad 11), .ref (ad 12), .ref (ad 2), .ref (ad 3), .int (d.1 5), .int (d.1 6), .int (d.1 7), .int (d.1 8)])), (ad 1, .inr (1, [.int (d.1 9), .ref (ad 4), .ref (ad 5), .ref (ad 6), .ref (ad 7), .ref (ad 8), .ref (ad 9), .ref (ad 10)])), (ad 10, .inl (y 0, 9, .inl (d.2 6))), (ad 12, .inl (y 0, 6, .inl (d.2 8))), (h, .inr (7, [.int (u17.1 - 1), .int sw, .int la, .ref (sa 0), .ref (sa 1), .ref (sa 2), .ref (sa 3), .ref (sa 4), .ref (sa 5), .ref (sa 6)])), (sa 0, .inl (y 0, 9, .inl u17.2.2))]) rfl rfl rfl (nl rfl) rfl d_Days_countRows_104 ?_
          refine j_iinc (pc := 107) C (v := nI (a + 1)) (lv' := [(5, .int (nI (a + 1))), (3, .int (rs + r16)), (0, .ref (ad 0)), (1, .ref h), (2, .int (nI (q + 1))), (4, .int la)]) d_Days_countRows_107 5 rfl (nI_1 _) (by decide) rfl ?_
          refine j_goto (pc := 110) C (tgt := 17) d_Days_countRows_110 (by decide) ?_
          refine j_locs (lv' := [(0, .ref (ad 0)), (1, .ref h), (2, .int (nI (q + 1))), (3, .int (rs + r16)), (4, .int la), (5, .int (nI (a + 1)))]) [2, 3, 4, 1, 5, 0] rfl ?_
          exact ih (a + 1) _ _ _ _ (by omega)
        · refine j_aload_n (pc := 85) C d_Days_countRows_85 rfl 1 rfl ?_
          refine j_aload_n (pc := 86) C d_Days_countRows_86 rfl 2 rfl ?_
          refine j_iload (pc := 87) C d_Days_countRows_87 5 rfl ?_
          refine j_iconst (pc := 89) C (v := 1) d_Days_countRows_89 (by decide) ?_
          refine j_icmp_ne (pc := 90) C (tgt := 97) d_Days_countRows_90 (by decide) (fun c19 => ?_) (fun c19 => ?_)
          · refine j_iconst (pc := 97) C (v := (-1)) d_Days_countRows_97 (by decide) ?_
            refine j_callSv (pc := 98) C (c_moveBoards l D y ad d n4 h sa (u17.1 - 1) sw u17.2.1 u17.2.2 (-1) h4 b4 hJ hV) kw_Days_106 ks_Days_moveBoards ⟨by decide, by decide⟩ ⟨by decide, by decide⟩ (wr := []) [0, 1, 2, 3, 4, 5] [] rfl rfl (by decide +kernel) (by decide +kernel) (by decide +kernel) (As := [.ref (ad 0), .ref h, .int (-1)]) (rest := []) rfl (nb rfl) rfl d_Days_countRows_98 (fun u20 _ => ?_)
            refine j_ws (ws' := [(ad 0, .inr (2, [.int (d.1 0), .int (d.1 1), .int (d.1 2), .int (d.1 3), .ref (ad 1), .int (d.1 4), .ref (ad 11), .ref (ad 12), .ref (ad 2), .ref (ad 3), .int (d.1 5), .int (d.1 6), .int (d.1 7), .int (d.1 8)])), (ad 1, .inr (1, [.int (d.1 9), .ref (ad 4), .ref (ad 5), .ref (ad 6), .ref (ad 7), .ref (ad 8), .ref (ad 9), .ref (ad 10)])), (ad 10, .inl (y 0, 9, .inl (d.2 6))), (ad 12, .inl (y 0, 6, .inl (d.2 8))), (h, .inr (7, [.int (u17.1 - 1), .int sw, .int u17.2.1, .ref (sa 0), .ref (sa 1), .ref (sa 2), .ref (sa 3), .ref (sa 4), .ref (sa 5), .ref (sa 6)])), (sa 0, .inl (y 0, 9, .inl u20))]) rfl ?_
            refine j_aload_n (pc := 101) C d_Days_countRows_101 rfl 2 rfl ?_
            refine j_iload (pc := 102) C d_Days_countRows_102 4 rfl ?_
            refine j_put (pc := 104) C pf_Days_15 4 (ws' := [(ad 0, .inr (2, [.int (d.1 0), .int (d.1 1), .int (d.1 2), .int (d.1 3), .ref (ad 1), .int (d.1 4), .ref (ad 11), .ref (ad 12), .ref (ad 2), .ref (ad 3), .int (d.1 5), .int (d.1 6), .int (d.1 7), .int (d.1 8)])), (ad 1, .inr (1, [.int (d.1 9), .ref (ad 4), .ref (ad 5), .ref (ad 6), .ref (ad 7), .ref (ad 8), .ref (ad 9), .ref (ad 10)])), (ad 10, .inl (y 0, 9, .inl (d.2 6))), (ad 12, .inl (y 0, 6, .inl (d.2 8))), (h, .inr (7, [.int (u17.1 - 1), .int sw, .int la, .ref (sa 0), .ref (sa 1), .ref (sa 2), .ref (sa 3), .ref (sa 4), .ref (sa 5), .ref (sa 6)])), (sa 0, .inl (y 0, 9, .inl u20))]) rfl rfl rfl (nl rfl) rfl d_Days_countRows_104 ?_
            refine j_iinc (pc := 107) C (v := nI (a + 1)) (lv' := [(5, .int (nI (a + 1))), (3, .int (rs + r16)), (0, .ref (ad 0)), (1, .ref h), (2, .int (nI (q + 1))), (4, .int la)]) d_Days_countRows_107 5 rfl (nI_1 _) (by decide) rfl ?_
            refine j_goto (pc := 110) C (tgt := 17) d_Days_countRows_110 (by decide) ?_
            refine j_locs (lv' := [(0, .ref (ad 0)), (1, .ref h), (2, .int (nI (q + 1))), (3, .int (rs + r16)), (4, .int la), (5, .int (nI (a + 1)))]) [2, 3, 4, 1, 5, 0] rfl ?_
            exact ih (a + 1) _ _ _ _ (by omega)
          · refine j_iconst (pc := 93) C (v := 1) d_Days_countRows_93 (by decide) ?_
            refine j_goto (pc := 94) C (tgt := 98) d_Days_countRows_94 (by decide) ?_
            refine j_callSv (pc := 98) C (c_moveBoards l D y ad d n4 h sa (u17.1 - 1) sw u17.2.1 u17.2.2 1 h4 b4 hJ hV) kw_Days_106 ks_Days_moveBoards ⟨by decide, by decide⟩ ⟨by decide, by decide⟩ (wr := []) [0, 1, 2, 3, 4, 5] [] rfl rfl (by decide +kernel) (by decide +kernel) (by decide +kernel) (As := [.ref (ad 0), .ref h, .int 1]) (rest := []) rfl (nb rfl) rfl d_Days_countRows_98 (fun u21 _ => ?_)
            refine j_ws (ws' := [(ad 0, .inr (2, [.int (d.1 0), .int (d.1 1), .int (d.1 2), .int (d.1 3), .ref (ad 1), .int (d.1 4), .ref (ad 11), .ref (ad 12), .ref (ad 2), .ref (ad 3), .int (d.1 5), .int (d.1 6), .int (d.1 7), .int (d.1 8)])), (ad 1, .inr (1, [.int (d.1 9), .ref (ad 4), .ref (ad 5), .ref (ad 6), .ref (ad 7), .ref (ad 8), .ref (ad 9), .ref (ad 10)])), (ad 10, .inl (y 0, 9, .inl (d.2 6))), (ad 12, .inl (y 0, 6, .inl (d.2 8))), (h, .inr (7, [.int (u17.1 - 1), .int sw, .int u17.2.1, .ref (sa 0), .ref (sa 1), .ref (sa 2), .ref (sa 3), .ref (sa 4), .ref (sa 5), .ref (sa 6)])), (sa 0, .inl (y 0, 9, .inl u21))]) rfl ?_
            refine j_aload_n (pc := 101) C d_Days_countRows_101 rfl 2 rfl ?_
            refine j_iload (pc := 102) C d_Days_countRows_102 4 rfl ?_
            refine j_put (pc := 104) C pf_Days_15 4 (ws' := [(ad 0, .inr (2, [.int (d.1 0), .int (d.1 1), .int (d.1 2), .int (d.1 3), .ref (ad 1), .int (d.1 4), .ref (ad 11), .ref (ad 12), .ref (ad 2), .ref (ad 3), .int (d.1 5), .int (d.1 6), .int (d.1 7), .int (d.1 8)])), (ad 1, .inr (1, [.int (d.1 9), .ref (ad 4), .ref (ad 5), .ref (ad 6), .ref (ad 7), .ref (ad 8), .ref (ad 9), .ref (ad 10)])), (ad 10, .inl (y 0, 9, .inl (d.2 6))), (ad 12, .inl (y 0, 6, .inl (d.2 8))), (h, .inr (7, [.int (u17.1 - 1), .int sw, .int la, .ref (sa 0), .ref (sa 1), .ref (sa 2), .ref (sa 3), .ref (sa 4), .ref (sa 5), .ref (sa 6)])), (sa 0, .inl (y 0, 9, .inl u21))]) rfl rfl rfl (nl rfl) rfl d_Days_countRows_104 ?_
            refine j_iinc (pc := 107) C (v := nI (a + 1)) (lv' := [(5, .int (nI (a + 1))), (3, .int (rs + r16)), (0, .ref (ad 0)), (1, .ref h), (2, .int (nI (q + 1))), (4, .int la)]) d_Days_countRows_107 5 rfl (nI_1 _) (by decide) rfl ?_
            refine j_goto (pc := 110) C (tgt := 17) d_Days_countRows_110 (by decide) ?_
            refine j_locs (lv' := [(0, .ref (ad 0)), (1, .ref h), (2, .int (nI (q + 1))), (3, .int (rs + r16)), (4, .int la), (5, .int (nI (a + 1)))]) [2, 3, 4, 1, 5, 0] rfl ?_
            exact ih (a + 1) _ _ _ _ (by omega)
set_option maxHeartbeats 4000000 in
set_option maxRecDepth 100000 in
theorem c_countRows_6 (l : Launch) (D : va_G) (y : Nat → ClassId) (ad : Nat → Nat) (d : LD) (n4 : Nat) (h : Nat) (sa : Nat → Nat) (sd : Int32) (sw : Int32) (sl : Int32) (f0 : Nat → Int32) (k : Nat) (h4 : d.1 4 = nI n4) (b4 : n4 ≤ 6) (hJ : ∀ j, j < 9 → d.2 6 j = -1 ∨ ∃ q, q < 9 ∧ d.2 6 j = nI q) (hV : ∀ j, j < n4 → ∃ q, q < 9 ∧ d.2 8 j = nI q) (hk : k ≤ 6) : CT l D y ⟨"NineBoards$Days", "countRows", "(LNineBoards$Lake;LNineBoards$State;I)I"⟩ prog_3_method_14_code 6 (some .int) ({ frames := 9, cells := 0, slots := 0, locals := 215 } : Room) [.ref (ad 0), .ref h, .int (nI k)] [(ad 0, .inr (2, [.int (d.1 0), .int (d.1 1), .int (d.1 2), .int (d.1 3), .ref (ad 1), .int (d.1 4), .ref (ad 11), .ref (ad 12), .ref (ad 2), .ref (ad 3), .int (d.1 5), .int (d.1 6), .int (d.1 7), .int (d.1 8)])), (ad 1, .inr (1, [.int (d.1 9), .ref (ad 4), .ref (ad 5), .ref (ad 6), .ref (ad 7), .ref (ad 8), .ref (ad 9), .ref (ad 10)])), (ad 10, .inl (y 0, 9, .inl (d.2 6))), (ad 12, .inl (y 0, 6, .inl (d.2 8))), (h, .inr (7, [.int sd, .int sw, .int sl, .ref (sa 0), .ref (sa 1), .ref (sa 2), .ref (sa 3), .ref (sa 4), .ref (sa 5), .ref (sa 6)])), (sa 0, .inl (y 0, 9, .inl f0))] (QI D [(ad 0, .inr (2, [.int (d.1 0), .int (d.1 1), .int (d.1 2), .int (d.1 3), .ref (ad 1), .int (d.1 4), .ref (ad 11), .ref (ad 12), .ref (ad 2), .ref (ad 3), .int (d.1 5), .int (d.1 6), .int (d.1 7), .int (d.1 8)])), (ad 1, .inr (1, [.int (d.1 9), .ref (ad 4), .ref (ad 5), .ref (ad 6), .ref (ad 7), .ref (ad 8), .ref (ad 9), .ref (ad 10)])), (ad 10, .inl (y 0, 9, .inl (d.2 6))), (ad 12, .inl (y 0, 6, .inl (d.2 8))), (h, .inr (7, [.int sd, .int sw, .int sl, .ref (sa 0), .ref (sa 1), .ref (sa 2), .ref (sa 3), .ref (sa 4), .ref (sa 5), .ref (sa 6)])), (sa 0, .inl (y 0, 9, .inl f0))] (fun (r : Int32) (u : Int32 × Int32 × (Nat → Int32)) => True) (fun u => [(ad 0, .inr (2, [.int (d.1 0), .int (d.1 1), .int (d.1 2), .int (d.1 3), .ref (ad 1), .int (d.1 4), .ref (ad 11), .ref (ad 12), .ref (ad 2), .ref (ad 3), .int (d.1 5), .int (d.1 6), .int (d.1 7), .int (d.1 8)])), (ad 1, .inr (1, [.int (d.1 9), .ref (ad 4), .ref (ad 5), .ref (ad 6), .ref (ad 7), .ref (ad 8), .ref (ad 9), .ref (ad 10)])), (ad 10, .inl (y 0, 9, .inl (d.2 6))), (ad 12, .inl (y 0, 6, .inl (d.2 8))), (h, .inr (7, [.int u.1, .int sw, .int u.2.1, .ref (sa 0), .ref (sa 1), .ref (sa 2), .ref (sa 3), .ref (sa 4), .ref (sa 5), .ref (sa 6)])), (sa 0, .inl (y 0, 9, .inl u.2.2))])) := by
  refine CT.of (by decide) (nb rfl) ?_
  intro p e s m args below meth c C hr
  refine j_lv (lv' := [(0, .ref (ad 0)), (1, .ref h), (2, .int (nI k))]) rfl ?_
  by_cases h0 : k = 0
  · subst h0
    refine j_iload_n (pc := 0) C d_Days_countRows_0 rfl 2 rfl ?_
    refine j_if_gtF (pc := 1) C (tgt := 6) d_Days_countRows_1 (by decide) (by decide) ?_
    refine j_iconst (pc := 4) C (v := 1) d_Days_countRows_4 (by decide) ?_
    exact j_iret (pc := 5) C hr rfl (sd, sl, f0) trivial [0, 1, 2, 3, 4, 5] rfl (by decide) (by decide) (by decide) d_Days_countRows_5
  · obtain ⟨q, rfl⟩ : ∃ q, k = q + 1 := ⟨k - 1, by omega⟩
    refine j_iload_n (pc := 0) C d_Days_countRows_0 rfl 2 rfl ?_
    refine j_if_gtT (pc := 1) C (tgt := 6) d_Days_countRows_1 (by decide) (show nI 0 < nI (q + 1) from nI_lt (by omega) (by omega)) ?_
    refine j_iconst (pc := 6) C (v := 0) d_Days_countRows_6 (by decide) ?_
    refine j_istore_n (pc := 7) C (lv' := [(3, .int 0), (0, .ref (ad 0)), (1, .ref h), (2, .int (nI (q + 1)))]) d_Days_countRows_7 rfl (by decide) rfl ?_
    refine j_aload_n (pc := 8) C d_Days_countRows_8 rfl 2 rfl ?_
    refine j_get (pc := 9) C gf_Days_15 4 rfl rfl d_Days_countRows_9 ?_
    refine j_istore (pc := 12) C (lv' := [(4, .int sl), (3, .int 0), (0, .ref (ad 0)), (1, .ref h), (2, .int (nI (q + 1)))]) d_Days_countRows_12 (by decide) rfl ?_
    refine j_iconst (pc := 14) C (v := 0) d_Days_countRows_14 (by decide) ?_
    refine j_istore (pc := 15) C (lv' := [(5, .int 0), (4, .int sl), (3, .int 0), (0, .ref (ad 0)), (1, .ref h), (2, .int (nI (q + 1)))]) d_Days_countRows_15 (by decide) rfl ?_
    refine j_locs (lv' := [(0, .ref (ad 0)), (1, .ref h), (2, .int (nI (q + 1))), (3, .int 0), (4, .int sl), (5, .int 0)]) [3, 4, 5, 2, 1, 0] rfl ?_
    refine j_lv (lv' := [(0, .ref (ad 0)), (1, .ref h), (2, .int (nI (q + 1))), (3, .int 0), (4, .int sl), (5, .int (nI 0))]) rfl ?_
    refine lp_rows_6 C ad d n4 h sa sw q sl h4 b4 hJ hV hk (fun rs sd sl f0 => ?_) 3 0 _ _ _ _ (by omega)
    refine j_iload_n (pc := 113) C d_Days_countRows_113 rfl 3 rfl ?_
    exact j_iret (pc := 114) C hr rfl (sd, sl, f0) trivial [0, 1, 2, 3, 4, 5] rfl (by decide) (by decide) (by decide) d_Days_countRows_114

set_option maxHeartbeats 4000000 in
set_option maxRecDepth 100000 in
theorem lp_rows_7 {p : Program} {l : Launch} {e : Env} {s : State} {m : MethodId} {args : Array Value} {below : List Frame} {meth : Method} {c : Code} {Q : State → Prop} {D : va_G} {y : Nat → ClassId} {A : Nat → Prop} (C : Cx p s m args meth c D y A prog_3_method_14_code 6 "NineBoards$Days" "countRows") (ad : Nat → Nat) (d : LD) (n4 : Nat) (h : Nat) (sa : Nat → Nat) (sw : Int32) (q : Nat) (la : Int32) (h4 : d.1 4 = nI n4) (b4 : n4 ≤ 6) (hJ : ∀ j, j < 9 → d.2 6 j = -1 ∨ ∃ q, q < 9 ∧ d.2 6 j = nI q) (hV : ∀ j, j < n4 → ∃ q, q < 9 ∧ d.2 8 j = nI q) (hq : q + 1 ≤ 7) (kx : ∀ (rs sd sl : Int32) (f0 : Nat → Int32), J p l e ({ frames := 10, cells := 0, slots := 0, locals := 240 } : Room) s m args below meth c Q D A 6 [(ad 0, .inr (2, [.int (d.1 0), .int (d.1 1), .int (d.1 2), .int (d.1 3), .ref (ad 1), .int (d.1 4), .ref (ad 11), .ref (ad 12), .ref (ad 2), .ref (ad 3), .int (d.1 5), .int (d.1 6), .int (d.1 7), .int (d.1 8)])), (ad 1, .inr (1, [.int (d.1 9), .ref (ad 4), .ref (ad 5), .ref (ad 6), .ref (ad 7), .ref (ad 8), .ref (ad 9), .ref (ad 10)])), (ad 10, .inl (y 0, 9, .inl (d.2 6))), (ad 12, .inl (y 0, 6, .inl (d.2 8))), (h, .inr (7, [.int sd, .int sw, .int sl, .ref (sa 0), .ref (sa 1), .ref (sa 2), .ref (sa 3), .ref (sa 4), .ref (sa 5), .ref (sa 6)])), (sa 0, .inl (y 0, 9, .inl f0))] [(0, .ref (ad 0)), (1, .ref h), (2, .int (nI (q + 1))), (3, .int rs), (4, .int la), (5, .int (nI 3))] 0 0 113 []) : ∀ (n : Nat) (a : Nat) (rs : Int32) (sd : Int32) (sl : Int32) (f0 : Nat → Int32), (a + n = 3) → J p l e ({ frames := 10, cells := 0, slots := 0, locals := 240 } : Room) s m args below meth c Q D A 6 [(ad 0, .inr (2, [.int (d.1 0), .int (d.1 1), .int (d.1 2), .int (d.1 3), .ref (ad 1), .int (d.1 4), .ref (ad 11), .ref (ad 12), .ref (ad 2), .ref (ad 3), .int (d.1 5), .int (d.1 6), .int (d.1 7), .int (d.1 8)])), (ad 1, .inr (1, [.int (d.1 9), .ref (ad 4), .ref (ad 5), .ref (ad 6), .ref (ad 7), .ref (ad 8), .ref (ad 9), .ref (ad 10)])), (ad 10, .inl (y 0, 9, .inl (d.2 6))), (ad 12, .inl (y 0, 6, .inl (d.2 8))), (h, .inr (7, [.int sd, .int sw, .int sl, .ref (sa 0), .ref (sa 1), .ref (sa 2), .ref (sa 3), .ref (sa 4), .ref (sa 5), .ref (sa 6)])), (sa 0, .inl (y 0, 9, .inl f0))] [(0, .ref (ad 0)), (1, .ref h), (2, .int (nI (q + 1))), (3, .int rs), (4, .int la), (5, .int (nI a))] 0 0 17 [] := by
  intro n
  induction n with
  | zero =>
    intro a rs sd sl f0 ha
    obtain rfl : a = 3 := by omega
    refine j_iload (pc := 17) C d_Days_countRows_17 5 rfl ?_
    refine j_iconst (pc := 19) C (v := 3) d_Days_countRows_19 (by decide) ?_
    refine j_icmp_geT (pc := 20) C (tgt := 113) d_Days_countRows_20 (by decide) (by decide) ?_
    exact kx _ _ _ _
  | succ n ih =>
    intro a rs sd sl f0 ha
    refine j_iload (pc := 17) C d_Days_countRows_17 5 rfl ?_
    refine j_iconst (pc := 19) C (v := 3) d_Days_countRows_19 (by decide) ?_
    refine j_icmp_geF (pc := 20) C (tgt := 113) d_Days_countRows_20 (by decide) (show ¬ nI 3 ≤ nI a from nI_ge (by omega) (by decide)) ?_
    refine j_aload_n (pc := 23) C d_Days_countRows_23 rfl 0 rfl ?_
    refine j_aload_n (pc := 24) C d_Days_countRows_24 rfl 1 rfl ?_
    refine j_aload_n (pc := 25) C d_Days_countRows_25 rfl 0 rfl ?_
    refine j_aload_n (pc := 26) C d_Days_countRows_26 rfl 1 rfl ?_
    refine j_get (pc := 27) C gf_Days_59 4 rfl rfl d_Days_countRows_27 ?_
    refine j_callVi (pc := 30) C (c_villageOn l D y ad d n4 sd h4 b4) kw_Days_109 kv_Lake_villageOn 0 2 rfl rfl ⟨by decide, by decide⟩ ⟨by decide, by decide⟩ (wr := [(ad 1, .inr (1, [.int (d.1 9), .ref (ad 4), .ref (ad 5), .ref (ad 6), .ref (ad 7), .ref (ad 8), .ref (ad 9), .ref (ad 10)])), (ad 10, .inl (y 0, 9, .inl (d.2 6))), (ad 12, .inl (y 0, 6, .inl (d.2 8))), (h, .inr (7, [.int sd, .int sw, .int sl, .ref (sa 0), .ref (sa 1), .ref (sa 2), .ref (sa 3), .ref (sa 4), .ref (sa 5), .ref (sa 6)])), (sa 0, .inl (y 0, 9, .inl f0))]) [0] [1, 2, 3, 4, 5] rfl rfl (by decide +kernel) (by decide +kernel) (by decide +kernel) (As := [.int sd]) (rest := [.ref h, .ref (ad 0)]) rfl (nb rfl) rfl d_Days_countRows_30 (fun r1 _ hr1 => ?_)
    refine j_ws (ws' := [(ad 1, .inr (1, [.int (d.1 9), .ref (ad 4), .ref (ad 5), .ref (ad 6), .ref (ad 7), .ref (ad 8), .ref (ad 9), .ref (ad 10)])), (ad 10, .inl (y 0, 9, .inl (d.2 6))), (ad 12, .inl (y 0, 6, .inl (d.2 8))), (h, .inr (7, [.int sd, .int sw, .int sl, .ref (sa 0), .ref (sa 1), .ref (sa 2), .ref (sa 3), .ref (sa 4), .ref (sa 5), .ref (sa 6)])), (sa 0, .inl (y 0, 9, .inl f0)), (ad 0, .inr (2, [.int (d.1 0), .int (d.1 1), .int (d.1 2), .int (d.1 3), .ref (ad 1), .int (d.1 4), .ref (ad 11), .ref (ad 12), .ref (ad 2), .ref (ad 3), .int (d.1 5), .int (d.1 6), .int (d.1 7), .int (d.1 8)]))]) rfl ?_
    rcases hr1 with rfl | ⟨j2, xh3, rfl⟩
    · refine j_iload (pc := 33) C d_Days_countRows_33 5 rfl ?_
      refine j_iconst (pc := 35) C (v := 0) d_Days_countRows_35 (by decide) ?_
      refine j_callSi (pc := 36) C (c_allows l D y ad d n4 h sa sd sw sl f0 (-1) (nI a) 0 h4 b4 hJ hV) kw_Days_43 ks_Days_allows ⟨by decide, by decide⟩ ⟨by decide, by decide⟩ (wr := []) [5, 0, 1, 2, 3, 4] [] rfl rfl (by decide +kernel) (by decide +kernel) (by decide +kernel) (As := [.ref (ad 0), .ref h, .int (-1), .int (nI a), .int 0]) (rest := []) rfl (nb rfl) rfl d_Days_countRows_36 (fun r4 _ hr4 => ?_)
      refine j_ws (ws' := [(ad 0, .inr (2, [.int (d.1 0), .int (d.1 1), .int (d.1 2), .int (d.1 3), .ref (ad 1), .int (d.1 4), .ref (ad 11), .ref (ad 12), .ref (ad 2), .ref (ad 3), .int (d.1 5), .int (d.1 6), .int (d.1 7), .int (d.1 8)])), (ad 1, .inr (1, [.int (d.1 9), .ref (ad 4), .ref (ad 5), .ref (ad 6), .ref (ad 7), .ref (ad 8), .ref (ad 9), .ref (ad 10)])), (ad 10, .inl (y 0, 9, .inl (d.2 6))), (ad 12, .inl (y 0, 6, .inl (d.2 8))), (h, .inr (7, [.int sd, .int sw, .int sl, .ref (sa 0), .ref (sa 1), .ref (sa 2), .ref (sa 3), .ref (sa 4), .ref (sa 5), .ref (sa 6)])), (sa 0, .inl (y 0, 9, .inl f0))]) rfl ?_
      refine j_if_eq (pc := 39) C (tgt := 107) d_Days_countRows_39 (by decide) (fun c5 => ?_) (fun c5 => ?_)
      · refine j_iinc (pc := 107) C (v := nI (a + 1)) (lv' := [(5, .int (nI (a + 1))), (0, .ref (ad 0)), (1, .ref h), (2, .int (nI (q + 1))), (3, .int rs), (4, .int la)]) d_Days_countRows_107 5 rfl (nI_1 _) (by decide) rfl ?_
        refine j_goto (pc := 110) C (tgt := 17) d_Days_countRows_110 (by decide) ?_
        refine j_locs (lv' := [(0, .ref (ad 0)), (1, .ref h), (2, .int (nI (q + 1))), (3, .int rs), (4, .int la), (5, .int (nI (a + 1)))]) [1, 2, 3, 4, 5, 0] rfl ?_
        exact ih (a + 1) _ _ _ _ (by omega)
      · refine j_aload_n (pc := 42) C d_Days_countRows_42 rfl 0 rfl ?_
        refine j_aload_n (pc := 43) C d_Days_countRows_43 rfl 1 rfl ?_
        refine j_iload (pc := 44) C d_Days_countRows_44 5 rfl ?_
        refine j_callSv (pc := 46) C (c_doAct l D y ad d n4 h sa sd sw sl f0 (nI a) h4 b4 hJ hV) kw_Days_47 ks_Days_doAct ⟨by decide, by decide⟩ ⟨by decide, by decide⟩ (wr := []) [0, 1, 2, 3, 4, 5] [] rfl rfl (by decide +kernel) (by decide +kernel) (by decide +kernel) (As := [.ref (ad 0), .ref h, .int (nI a)]) (rest := []) rfl (nb rfl) rfl d_Days_countRows_46 (fun u6 _ => ?_)
        refine j_ws (ws' := [(ad 0, .inr (2, [.int (d.1 0), .int (d.1 1), .int (d.1 2), .int (d.1 3), .ref (ad 1), .int (d.1 4), .ref (ad 11), .ref (ad 12), .ref (ad 2), .ref (ad 3), .int (d.1 5), .int (d.1 6), .int (d.1 7), .int (d.1 8)])), (ad 1, .inr (1, [.int (d.1 9), .ref (ad 4), .ref (ad 5), .ref (ad 6), .ref (ad 7), .ref (ad 8), .ref (ad 9), .ref (ad 10)])), (ad 10, .inl (y 0, 9, .inl (d.2 6))), (ad 12, .inl (y 0, 6, .inl (d.2 8))), (h, .inr (7, [.int sd, .int sw, .int u6.1, .ref (sa 0), .ref (sa 1), .ref (sa 2), .ref (sa 3), .ref (sa 4), .ref (sa 5), .ref (sa 6)])), (sa 0, .inl (y 0, 9, .inl u6.2))]) rfl ?_
        refine j_aload_n (pc := 49) C d_Days_countRows_49 rfl 1 rfl ?_
        refine j_dup (pc := 50) C d_Days_countRows_50 rfl ?_
        refine j_get (pc := 51) C gf_Days_59 4 rfl rfl d_Days_countRows_51 ?_
        refine j_iconst (pc := 54) C (v := 1) d_Days_countRows_54 (by decide) ?_
        refine j_iadd (pc := 55) C (v := sd + 1) d_Days_countRows_55 rfl ?_
        refine j_put (pc := 56) C pf_Days_59 4 (ws' := [(ad 0, .inr (2, [.int (d.1 0), .int (d.1 1), .int (d.1 2), .int (d.1 3), .ref (ad 1), .int (d.1 4), .ref (ad 11), .ref (ad 12), .ref (ad 2), .ref (ad 3), .int (d.1 5), .int (d.1 6), .int (d.1 7), .int (d.1 8)])), (ad 1, .inr (1, [.int (d.1 9), .ref (ad 4), .ref (ad 5), .ref (ad 6), .ref (ad 7), .ref (ad 8), .ref (ad 9), .ref (ad 10)])), (ad 10, .inl (y 0, 9, .inl (d.2 6))), (ad 12, .inl (y 0, 6, .inl (d.2 8))), (h, .inr (7, [.int (sd + 1), .int sw, .int u6.1, .ref (sa 0), .ref (sa 1), .ref (sa 2), .ref (sa 3), .ref (sa 4), .ref (sa 5), .ref (sa 6)])), (sa 0, .inl (y 0, 9, .inl u6.2))]) rfl rfl rfl (nl rfl) rfl d_Days_countRows_56 ?_
        refine j_iload_n (pc := 59) C d_Days_countRows_59 rfl 3 rfl ?_
        refine j_aload_n (pc := 60) C d_Days_countRows_60 rfl 0 rfl ?_
        refine j_aload_n (pc := 61) C d_Days_countRows_61 rfl 1 rfl ?_
        refine j_iload_n (pc := 62) C d_Days_countRows_62 rfl 2 rfl ?_
        refine j_iconst (pc := 63) C (v := 1) d_Days_countRows_63 (by decide) ?_
        refine j_isub (pc := 64) C (v := nI q) d_Days_countRows_64 (nI_pred q) ?_
        refine j_callSi (pc := 65) C (c_countRows_6 l D y ad d n4 h sa (sd + 1) sw u6.1 u6.2 q h4 b4 hJ hV (by omega)) kw_Days_159 ks_Days_countRows ⟨by decide, by decide⟩ ⟨by decide, by decide⟩ (wr := []) [0, 1, 2, 3, 4, 5] [] rfl rfl (by decide +kernel) (by decide +kernel) (by decide +kernel) (As := [.ref (ad 0), .ref h, .int (nI q)]) (rest := [.int rs]) rfl (nb rfl) rfl d_Days_countRows_65 (fun r7 u8 hr7 => ?_)
        refine j_ws (ws' := [(ad 0, .inr (2, [.int (d.1 0), .int (d.1 1), .int (d.1 2), .int (d.1 3), .ref (ad 1), .int (d.1 4), .ref (ad 11), .ref (ad 12), .ref (ad 2), .ref (ad 3), .int (d.1 5), .int (d.1 6), .int (d.1 7), .int (d.1 8)])), (ad 1, .inr (1, [.int (d.1 9), .ref (ad 4), .ref (ad 5), .ref (ad 6), .ref (ad 7), .ref (ad 8), .ref (ad 9), .ref (ad 10)])), (ad 10, .inl (y 0, 9, .inl (d.2 6))), (ad 12, .inl (y 0, 6, .inl (d.2 8))), (h, .inr (7, [.int u8.1, .int sw, .int u8.2.1, .ref (sa 0), .ref (sa 1), .ref (sa 2), .ref (sa 3), .ref (sa 4), .ref (sa 5), .ref (sa 6)])), (sa 0, .inl (y 0, 9, .inl u8.2.2))]) rfl ?_
        refine j_iadd (pc := 68) C (v := rs + r7) d_Days_countRows_68 rfl ?_
        refine j_istore_n (pc := 69) C (lv' := [(3, .int (rs + r7)), (0, .ref (ad 0)), (1, .ref h), (2, .int (nI (q + 1))), (4, .int la), (5, .int (nI a))]) d_Days_countRows_69 rfl (by decide) rfl ?_
        refine j_aload_n (pc := 70) C d_Days_countRows_70 rfl 2 rfl ?_
        refine j_dup (pc := 71) C d_Days_countRows_71 rfl ?_
        refine j_get (pc := 72) C gf_Days_59 4 rfl rfl d_Days_countRows_72 ?_
        refine j_iconst (pc := 75) C (v := 1) d_Days_countRows_75 (by decide) ?_
        refine j_isub (pc := 76) C (v := u8.1 - 1) d_Days_countRows_76 rfl ?_
        refine j_put (pc := 77) C pf_Days_59 4 (ws' := [(ad 0, .inr (2, [.int (d.1 0), .int (d.1 1), .int (d.1 2), .int (d.1 3), .ref (ad 1), .int (d.1 4), .ref (ad 11), .ref (ad 12), .ref (ad 2), .ref (ad 3), .int (d.1 5), .int (d.1 6), .int (d.1 7), .int (d.1 8)])), (ad 1, .inr (1, [.int (d.1 9), .ref (ad 4), .ref (ad 5), .ref (ad 6), .ref (ad 7), .ref (ad 8), .ref (ad 9), .ref (ad 10)])), (ad 10, .inl (y 0, 9, .inl (d.2 6))), (ad 12, .inl (y 0, 6, .inl (d.2 8))), (h, .inr (7, [.int (u8.1 - 1), .int sw, .int u8.2.1, .ref (sa 0), .ref (sa 1), .ref (sa 2), .ref (sa 3), .ref (sa 4), .ref (sa 5), .ref (sa 6)])), (sa 0, .inl (y 0, 9, .inl u8.2.2))]) rfl rfl rfl (nl rfl) rfl d_Days_countRows_77 ?_
        refine j_iload (pc := 80) C d_Days_countRows_80 5 rfl ?_
        refine j_if_eq (pc := 82) C (tgt := 101) d_Days_countRows_82 (by decide) (fun c9 => ?_) (fun c9 => ?_)
        · refine j_aload_n (pc := 101) C d_Days_countRows_101 rfl 2 rfl ?_
          refine j_iload (pc := 102) C d_Days_countRows_102 4 rfl ?_
          refine j_put (pc := 104) C pf_Days_15 4 (ws' := [(ad 0, .inr (2, [.int (d.1 0), .int (d.1 1), .int (d.1 2), .int (d.1 3), .ref (ad 1), .int (d.1 4), .ref (ad 11), .ref (ad 12), .ref (ad 2), .ref (ad 3), .int (d.1 5), .int (d.1 6), .int (d.1 7), .int (d.1 8)])), (ad 1, .inr (1, [.int (d.1 9), .ref (ad 4), .ref (ad 5), .ref (ad 6), .ref (ad 7), .ref (ad 8), .ref (ad 9), .ref (ad 10)])), (ad 10, .inl (y 0, 9, .inl (d.2 6))), (ad 12, .inl (y 0, 6, .inl (d.2 8))), (h, .inr (7, [.int (u8.1 - 1), .int sw, .int la, .ref (sa 0), .ref (sa 1), .ref (sa 2), .ref (sa 3), .ref (sa 4), .ref (sa 5), .ref (sa 6)])), (sa 0, .inl (y 0, 9, .inl u8.2.2))]) rfl rfl rfl (nl rfl) rfl d_Days_countRows_104 ?_
          refine j_iinc (pc := 107) C (v := nI (a + 1)) (lv' := [(5, .int (nI (a + 1))), (3, .int (rs + r7)), (0, .ref (ad 0)), (1, .ref h), (2, .int (nI (q + 1))), (4, .int la)]) d_Days_countRows_107 5 rfl (nI_1 _) (by decide) rfl ?_
          refine j_goto (pc := 110) C (tgt := 17) d_Days_countRows_110 (by decide) ?_
          refine j_locs (lv' := [(0, .ref (ad 0)), (1, .ref h), (2, .int (nI (q + 1))), (3, .int (rs + r7)), (4, .int la), (5, .int (nI (a + 1)))]) [2, 3, 4, 1, 5, 0] rfl ?_
          exact ih (a + 1) _ _ _ _ (by omega)
        · refine j_aload_n (pc := 85) C d_Days_countRows_85 rfl 1 rfl ?_
          refine j_aload_n (pc := 86) C d_Days_countRows_86 rfl 2 rfl ?_
          refine j_iload (pc := 87) C d_Days_countRows_87 5 rfl ?_
          refine j_iconst (pc := 89) C (v := 1) d_Days_countRows_89 (by decide) ?_
          refine j_icmp_ne (pc := 90) C (tgt := 97) d_Days_countRows_90 (by decide) (fun c10 => ?_) (fun c10 => ?_)
          · refine j_iconst (pc := 97) C (v := (-1)) d_Days_countRows_97 (by decide) ?_
            refine j_callSv (pc := 98) C (c_moveBoards l D y ad d n4 h sa (u8.1 - 1) sw u8.2.1 u8.2.2 (-1) h4 b4 hJ hV) kw_Days_106 ks_Days_moveBoards ⟨by decide, by decide⟩ ⟨by decide, by decide⟩ (wr := []) [0, 1, 2, 3, 4, 5] [] rfl rfl (by decide +kernel) (by decide +kernel) (by decide +kernel) (As := [.ref (ad 0), .ref h, .int (-1)]) (rest := []) rfl (nb rfl) rfl d_Days_countRows_98 (fun u11 _ => ?_)
            refine j_ws (ws' := [(ad 0, .inr (2, [.int (d.1 0), .int (d.1 1), .int (d.1 2), .int (d.1 3), .ref (ad 1), .int (d.1 4), .ref (ad 11), .ref (ad 12), .ref (ad 2), .ref (ad 3), .int (d.1 5), .int (d.1 6), .int (d.1 7), .int (d.1 8)])), (ad 1, .inr (1, [.int (d.1 9), .ref (ad 4), .ref (ad 5), .ref (ad 6), .ref (ad 7), .ref (ad 8), .ref (ad 9), .ref (ad 10)])), (ad 10, .inl (y 0, 9, .inl (d.2 6))), (ad 12, .inl (y 0, 6, .inl (d.2 8))), (h, .inr (7, [.int (u8.1 - 1), .int sw, .int u8.2.1, .ref (sa 0), .ref (sa 1), .ref (sa 2), .ref (sa 3), .ref (sa 4), .ref (sa 5), .ref (sa 6)])), (sa 0, .inl (y 0, 9, .inl u11))]) rfl ?_
            refine j_aload_n (pc := 101) C d_Days_countRows_101 rfl 2 rfl ?_
            refine j_iload (pc := 102) C d_Days_countRows_102 4 rfl ?_
            refine j_put (pc := 104) C pf_Days_15 4 (ws' := [(ad 0, .inr (2, [.int (d.1 0), .int (d.1 1), .int (d.1 2), .int (d.1 3), .ref (ad 1), .int (d.1 4), .ref (ad 11), .ref (ad 12), .ref (ad 2), .ref (ad 3), .int (d.1 5), .int (d.1 6), .int (d.1 7), .int (d.1 8)])), (ad 1, .inr (1, [.int (d.1 9), .ref (ad 4), .ref (ad 5), .ref (ad 6), .ref (ad 7), .ref (ad 8), .ref (ad 9), .ref (ad 10)])), (ad 10, .inl (y 0, 9, .inl (d.2 6))), (ad 12, .inl (y 0, 6, .inl (d.2 8))), (h, .inr (7, [.int (u8.1 - 1), .int sw, .int la, .ref (sa 0), .ref (sa 1), .ref (sa 2), .ref (sa 3), .ref (sa 4), .ref (sa 5), .ref (sa 6)])), (sa 0, .inl (y 0, 9, .inl u11))]) rfl rfl rfl (nl rfl) rfl d_Days_countRows_104 ?_
            refine j_iinc (pc := 107) C (v := nI (a + 1)) (lv' := [(5, .int (nI (a + 1))), (3, .int (rs + r7)), (0, .ref (ad 0)), (1, .ref h), (2, .int (nI (q + 1))), (4, .int la)]) d_Days_countRows_107 5 rfl (nI_1 _) (by decide) rfl ?_
            refine j_goto (pc := 110) C (tgt := 17) d_Days_countRows_110 (by decide) ?_
            refine j_locs (lv' := [(0, .ref (ad 0)), (1, .ref h), (2, .int (nI (q + 1))), (3, .int (rs + r7)), (4, .int la), (5, .int (nI (a + 1)))]) [2, 3, 4, 1, 5, 0] rfl ?_
            exact ih (a + 1) _ _ _ _ (by omega)
          · refine j_iconst (pc := 93) C (v := 1) d_Days_countRows_93 (by decide) ?_
            refine j_goto (pc := 94) C (tgt := 98) d_Days_countRows_94 (by decide) ?_
            refine j_callSv (pc := 98) C (c_moveBoards l D y ad d n4 h sa (u8.1 - 1) sw u8.2.1 u8.2.2 1 h4 b4 hJ hV) kw_Days_106 ks_Days_moveBoards ⟨by decide, by decide⟩ ⟨by decide, by decide⟩ (wr := []) [0, 1, 2, 3, 4, 5] [] rfl rfl (by decide +kernel) (by decide +kernel) (by decide +kernel) (As := [.ref (ad 0), .ref h, .int 1]) (rest := []) rfl (nb rfl) rfl d_Days_countRows_98 (fun u12 _ => ?_)
            refine j_ws (ws' := [(ad 0, .inr (2, [.int (d.1 0), .int (d.1 1), .int (d.1 2), .int (d.1 3), .ref (ad 1), .int (d.1 4), .ref (ad 11), .ref (ad 12), .ref (ad 2), .ref (ad 3), .int (d.1 5), .int (d.1 6), .int (d.1 7), .int (d.1 8)])), (ad 1, .inr (1, [.int (d.1 9), .ref (ad 4), .ref (ad 5), .ref (ad 6), .ref (ad 7), .ref (ad 8), .ref (ad 9), .ref (ad 10)])), (ad 10, .inl (y 0, 9, .inl (d.2 6))), (ad 12, .inl (y 0, 6, .inl (d.2 8))), (h, .inr (7, [.int (u8.1 - 1), .int sw, .int u8.2.1, .ref (sa 0), .ref (sa 1), .ref (sa 2), .ref (sa 3), .ref (sa 4), .ref (sa 5), .ref (sa 6)])), (sa 0, .inl (y 0, 9, .inl u12))]) rfl ?_
            refine j_aload_n (pc := 101) C d_Days_countRows_101 rfl 2 rfl ?_
            refine j_iload (pc := 102) C d_Days_countRows_102 4 rfl ?_
            refine j_put (pc := 104) C pf_Days_15 4 (ws' := [(ad 0, .inr (2, [.int (d.1 0), .int (d.1 1), .int (d.1 2), .int (d.1 3), .ref (ad 1), .int (d.1 4), .ref (ad 11), .ref (ad 12), .ref (ad 2), .ref (ad 3), .int (d.1 5), .int (d.1 6), .int (d.1 7), .int (d.1 8)])), (ad 1, .inr (1, [.int (d.1 9), .ref (ad 4), .ref (ad 5), .ref (ad 6), .ref (ad 7), .ref (ad 8), .ref (ad 9), .ref (ad 10)])), (ad 10, .inl (y 0, 9, .inl (d.2 6))), (ad 12, .inl (y 0, 6, .inl (d.2 8))), (h, .inr (7, [.int (u8.1 - 1), .int sw, .int la, .ref (sa 0), .ref (sa 1), .ref (sa 2), .ref (sa 3), .ref (sa 4), .ref (sa 5), .ref (sa 6)])), (sa 0, .inl (y 0, 9, .inl u12))]) rfl rfl rfl (nl rfl) rfl d_Days_countRows_104 ?_
            refine j_iinc (pc := 107) C (v := nI (a + 1)) (lv' := [(5, .int (nI (a + 1))), (3, .int (rs + r7)), (0, .ref (ad 0)), (1, .ref h), (2, .int (nI (q + 1))), (4, .int la)]) d_Days_countRows_107 5 rfl (nI_1 _) (by decide) rfl ?_
            refine j_goto (pc := 110) C (tgt := 17) d_Days_countRows_110 (by decide) ?_
            refine j_locs (lv' := [(0, .ref (ad 0)), (1, .ref h), (2, .int (nI (q + 1))), (3, .int (rs + r7)), (4, .int la), (5, .int (nI (a + 1)))]) [2, 3, 4, 1, 5, 0] rfl ?_
            exact ih (a + 1) _ _ _ _ (by omega)
    · refine j_iload (pc := 33) C d_Days_countRows_33 5 rfl ?_
      refine j_iconst (pc := 35) C (v := 0) d_Days_countRows_35 (by decide) ?_
      refine j_callSi (pc := 36) C (c_allows l D y ad d n4 h sa sd sw sl f0 (nI j2) (nI a) 0 h4 b4 hJ hV) kw_Days_43 ks_Days_allows ⟨by decide, by decide⟩ ⟨by decide, by decide⟩ (wr := []) [5, 0, 1, 2, 3, 4] [] rfl rfl (by decide +kernel) (by decide +kernel) (by decide +kernel) (As := [.ref (ad 0), .ref h, .int (nI j2), .int (nI a), .int 0]) (rest := []) rfl (nb rfl) rfl d_Days_countRows_36 (fun r13 _ hr13 => ?_)
      refine j_ws (ws' := [(ad 0, .inr (2, [.int (d.1 0), .int (d.1 1), .int (d.1 2), .int (d.1 3), .ref (ad 1), .int (d.1 4), .ref (ad 11), .ref (ad 12), .ref (ad 2), .ref (ad 3), .int (d.1 5), .int (d.1 6), .int (d.1 7), .int (d.1 8)])), (ad 1, .inr (1, [.int (d.1 9), .ref (ad 4), .ref (ad 5), .ref (ad 6), .ref (ad 7), .ref (ad 8), .ref (ad 9), .ref (ad 10)])), (ad 10, .inl (y 0, 9, .inl (d.2 6))), (ad 12, .inl (y 0, 6, .inl (d.2 8))), (h, .inr (7, [.int sd, .int sw, .int sl, .ref (sa 0), .ref (sa 1), .ref (sa 2), .ref (sa 3), .ref (sa 4), .ref (sa 5), .ref (sa 6)])), (sa 0, .inl (y 0, 9, .inl f0))]) rfl ?_
      refine j_if_eq (pc := 39) C (tgt := 107) d_Days_countRows_39 (by decide) (fun c14 => ?_) (fun c14 => ?_)
      · refine j_iinc (pc := 107) C (v := nI (a + 1)) (lv' := [(5, .int (nI (a + 1))), (0, .ref (ad 0)), (1, .ref h), (2, .int (nI (q + 1))), (3, .int rs), (4, .int la)]) d_Days_countRows_107 5 rfl (nI_1 _) (by decide) rfl ?_
        refine j_goto (pc := 110) C (tgt := 17) d_Days_countRows_110 (by decide) ?_
        refine j_locs (lv' := [(0, .ref (ad 0)), (1, .ref h), (2, .int (nI (q + 1))), (3, .int rs), (4, .int la), (5, .int (nI (a + 1)))]) [1, 2, 3, 4, 5, 0] rfl ?_
        exact ih (a + 1) _ _ _ _ (by omega)
      · refine j_aload_n (pc := 42) C d_Days_countRows_42 rfl 0 rfl ?_
        refine j_aload_n (pc := 43) C d_Days_countRows_43 rfl 1 rfl ?_
        refine j_iload (pc := 44) C d_Days_countRows_44 5 rfl ?_
        refine j_callSv (pc := 46) C (c_doAct l D y ad d n4 h sa sd sw sl f0 (nI a) h4 b4 hJ hV) kw_Days_47 ks_Days_doAct ⟨by decide, by decide⟩ ⟨by decide, by decide⟩ (wr := []) [0, 1, 2, 3, 4, 5] [] rfl rfl (by decide +kernel) (by decide +kernel) (by decide +kernel) (As := [.ref (ad 0), .ref h, .int (nI a)]) (rest := []) rfl (nb rfl) rfl d_Days_countRows_46 (fun u15 _ => ?_)
        refine j_ws (ws' := [(ad 0, .inr (2, [.int (d.1 0), .int (d.1 1), .int (d.1 2), .int (d.1 3), .ref (ad 1), .int (d.1 4), .ref (ad 11), .ref (ad 12), .ref (ad 2), .ref (ad 3), .int (d.1 5), .int (d.1 6), .int (d.1 7), .int (d.1 8)])), (ad 1, .inr (1, [.int (d.1 9), .ref (ad 4), .ref (ad 5), .ref (ad 6), .ref (ad 7), .ref (ad 8), .ref (ad 9), .ref (ad 10)])), (ad 10, .inl (y 0, 9, .inl (d.2 6))), (ad 12, .inl (y 0, 6, .inl (d.2 8))), (h, .inr (7, [.int sd, .int sw, .int u15.1, .ref (sa 0), .ref (sa 1), .ref (sa 2), .ref (sa 3), .ref (sa 4), .ref (sa 5), .ref (sa 6)])), (sa 0, .inl (y 0, 9, .inl u15.2))]) rfl ?_
        refine j_aload_n (pc := 49) C d_Days_countRows_49 rfl 1 rfl ?_
        refine j_dup (pc := 50) C d_Days_countRows_50 rfl ?_
        refine j_get (pc := 51) C gf_Days_59 4 rfl rfl d_Days_countRows_51 ?_
        refine j_iconst (pc := 54) C (v := 1) d_Days_countRows_54 (by decide) ?_
        refine j_iadd (pc := 55) C (v := sd + 1) d_Days_countRows_55 rfl ?_
        refine j_put (pc := 56) C pf_Days_59 4 (ws' := [(ad 0, .inr (2, [.int (d.1 0), .int (d.1 1), .int (d.1 2), .int (d.1 3), .ref (ad 1), .int (d.1 4), .ref (ad 11), .ref (ad 12), .ref (ad 2), .ref (ad 3), .int (d.1 5), .int (d.1 6), .int (d.1 7), .int (d.1 8)])), (ad 1, .inr (1, [.int (d.1 9), .ref (ad 4), .ref (ad 5), .ref (ad 6), .ref (ad 7), .ref (ad 8), .ref (ad 9), .ref (ad 10)])), (ad 10, .inl (y 0, 9, .inl (d.2 6))), (ad 12, .inl (y 0, 6, .inl (d.2 8))), (h, .inr (7, [.int (sd + 1), .int sw, .int u15.1, .ref (sa 0), .ref (sa 1), .ref (sa 2), .ref (sa 3), .ref (sa 4), .ref (sa 5), .ref (sa 6)])), (sa 0, .inl (y 0, 9, .inl u15.2))]) rfl rfl rfl (nl rfl) rfl d_Days_countRows_56 ?_
        refine j_iload_n (pc := 59) C d_Days_countRows_59 rfl 3 rfl ?_
        refine j_aload_n (pc := 60) C d_Days_countRows_60 rfl 0 rfl ?_
        refine j_aload_n (pc := 61) C d_Days_countRows_61 rfl 1 rfl ?_
        refine j_iload_n (pc := 62) C d_Days_countRows_62 rfl 2 rfl ?_
        refine j_iconst (pc := 63) C (v := 1) d_Days_countRows_63 (by decide) ?_
        refine j_isub (pc := 64) C (v := nI q) d_Days_countRows_64 (nI_pred q) ?_
        refine j_callSi (pc := 65) C (c_countRows_6 l D y ad d n4 h sa (sd + 1) sw u15.1 u15.2 q h4 b4 hJ hV (by omega)) kw_Days_159 ks_Days_countRows ⟨by decide, by decide⟩ ⟨by decide, by decide⟩ (wr := []) [0, 1, 2, 3, 4, 5] [] rfl rfl (by decide +kernel) (by decide +kernel) (by decide +kernel) (As := [.ref (ad 0), .ref h, .int (nI q)]) (rest := [.int rs]) rfl (nb rfl) rfl d_Days_countRows_65 (fun r16 u17 hr16 => ?_)
        refine j_ws (ws' := [(ad 0, .inr (2, [.int (d.1 0), .int (d.1 1), .int (d.1 2), .int (d.1 3), .ref (ad 1), .int (d.1 4), .ref (ad 11), .ref (ad 12), .ref (ad 2), .ref (ad 3), .int (d.1 5), .int (d.1 6), .int (d.1 7), .int (d.1 8)])), (ad 1, .inr (1, [.int (d.1 9), .ref (ad 4), .ref (ad 5), .ref (ad 6), .ref (ad 7), .ref (ad 8), .ref (ad 9), .ref (ad 10)])), (ad 10, .inl (y 0, 9, .inl (d.2 6))), (ad 12, .inl (y 0, 6, .inl (d.2 8))), (h, .inr (7, [.int u17.1, .int sw, .int u17.2.1, .ref (sa 0), .ref (sa 1), .ref (sa 2), .ref (sa 3), .ref (sa 4), .ref (sa 5), .ref (sa 6)])), (sa 0, .inl (y 0, 9, .inl u17.2.2))]) rfl ?_
        refine j_iadd (pc := 68) C (v := rs + r16) d_Days_countRows_68 rfl ?_
        refine j_istore_n (pc := 69) C (lv' := [(3, .int (rs + r16)), (0, .ref (ad 0)), (1, .ref h), (2, .int (nI (q + 1))), (4, .int la), (5, .int (nI a))]) d_Days_countRows_69 rfl (by decide) rfl ?_
        refine j_aload_n (pc := 70) C d_Days_countRows_70 rfl 2 rfl ?_
        refine j_dup (pc := 71) C d_Days_countRows_71 rfl ?_
        refine j_get (pc := 72) C gf_Days_59 4 rfl rfl d_Days_countRows_72 ?_
        refine j_iconst (pc := 75) C (v := 1) d_Days_countRows_75 (by decide) ?_
        refine j_isub (pc := 76) C (v := u17.1 - 1) d_Days_countRows_76 rfl ?_
        refine j_put (pc := 77) C pf_Days_59 4 (ws' := [(ad 0, .inr (2, [.int (d.1 0), .int (d.1 1), .int (d.1 2), .int (d.1 3), .ref (ad 1), .int (d.1 4), .ref (ad 11), .ref (ad 12), .ref (ad 2), .ref (ad 3), .int (d.1 5), .int (d.1 6), .int (d.1 7), .int (d.1 8)])), (ad 1, .inr (1, [.int (d.1 9), .ref (ad 4), .ref (ad 5), .ref (ad 6), .ref (ad 7), .ref (ad 8), .ref (ad 9), .ref (ad 10)])), (ad 10, .inl (y 0, 9, .inl (d.2 6))), (ad 12, .inl (y 0, 6, .inl (d.2 8))), (h, .inr (7, [.int (u17.1 - 1), .int sw, .int u17.2.1, .ref (sa 0), .ref (sa 1), .ref (sa 2), .ref (sa 3), .ref (sa 4), .ref (sa 5), .ref (sa 6)])), (sa 0, .inl (y 0, 9, .inl u17.2.2))]) rfl rfl rfl (nl rfl) rfl d_Days_countRows_77 ?_
        refine j_iload (pc := 80) C d_Days_countRows_80 5 rfl ?_
        refine j_if_eq (pc := 82) C (tgt := 101) d_Days_countRows_82 (by decide) (fun c18 => ?_) (fun c18 => ?_)
        · refine j_aload_n (pc := 101) C d_Days_countRows_101 rfl 2 rfl ?_
          refine j_iload (pc := 102) C d_Days_countRows_102 4 rfl ?_
          refine j_put (pc := 104) C pf_Days_15 4 (ws' := [(ad 0, .inr (2, [.int (d.1 0), .int (d.1 1), .int (d.1 2), .int (d.1 3), .ref (ad 1), .int (d.1 4), .ref (ad 11), .ref (ad 12), .ref (ad 2), .ref (ad 3), .int (d.1 5), .int (d.1 6), .int (d.1 7), .int (d.1 8)])), (ad 1, .inr (1, [.int (d.1 9), .ref (ad 4), .ref (ad 5), .ref (ad 6), .ref (ad 7), .ref (ad 8), .ref (ad 9), .ref (ad 10)])), (ad 10, .inl (y 0, 9, .inl (d.2 6))), (ad 12, .inl (y 0, 6, .inl (d.2 8))), (h, .inr (7, [.int (u17.1 - 1), .int sw, .int la, .ref (sa 0), .ref (sa 1), .ref (sa 2), .ref (sa 3), .ref (sa 4), .ref (sa 5), .ref (sa 6)])), (sa 0, .inl (y 0, 9, .inl u17.2.2))]) rfl rfl rfl (nl rfl) rfl d_Days_countRows_104 ?_
          refine j_iinc (pc := 107) C (v := nI (a + 1)) (lv' := [(5, .int (nI (a + 1))), (3, .int (rs + r16)), (0, .ref (ad 0)), (1, .ref h), (2, .int (nI (q + 1))), (4, .int la)]) d_Days_countRows_107 5 rfl (nI_1 _) (by decide) rfl ?_
          refine j_goto (pc := 110) C (tgt := 17) d_Days_countRows_110 (by decide) ?_
          refine j_locs (lv' := [(0, .ref (ad 0)), (1, .ref h), (2, .int (nI (q + 1))), (3, .int (rs + r16)), (4, .int la), (5, .int (nI (a + 1)))]) [2, 3, 4, 1, 5, 0] rfl ?_
          exact ih (a + 1) _ _ _ _ (by omega)
        · refine j_aload_n (pc := 85) C d_Days_countRows_85 rfl 1 rfl ?_
          refine j_aload_n (pc := 86) C d_Days_countRows_86 rfl 2 rfl ?_
          refine j_iload (pc := 87) C d_Days_countRows_87 5 rfl ?_
          refine j_iconst (pc := 89) C (v := 1) d_Days_countRows_89 (by decide) ?_
          refine j_icmp_ne (pc := 90) C (tgt := 97) d_Days_countRows_90 (by decide) (fun c19 => ?_) (fun c19 => ?_)
          · refine j_iconst (pc := 97) C (v := (-1)) d_Days_countRows_97 (by decide) ?_
            refine j_callSv (pc := 98) C (c_moveBoards l D y ad d n4 h sa (u17.1 - 1) sw u17.2.1 u17.2.2 (-1) h4 b4 hJ hV) kw_Days_106 ks_Days_moveBoards ⟨by decide, by decide⟩ ⟨by decide, by decide⟩ (wr := []) [0, 1, 2, 3, 4, 5] [] rfl rfl (by decide +kernel) (by decide +kernel) (by decide +kernel) (As := [.ref (ad 0), .ref h, .int (-1)]) (rest := []) rfl (nb rfl) rfl d_Days_countRows_98 (fun u20 _ => ?_)
            refine j_ws (ws' := [(ad 0, .inr (2, [.int (d.1 0), .int (d.1 1), .int (d.1 2), .int (d.1 3), .ref (ad 1), .int (d.1 4), .ref (ad 11), .ref (ad 12), .ref (ad 2), .ref (ad 3), .int (d.1 5), .int (d.1 6), .int (d.1 7), .int (d.1 8)])), (ad 1, .inr (1, [.int (d.1 9), .ref (ad 4), .ref (ad 5), .ref (ad 6), .ref (ad 7), .ref (ad 8), .ref (ad 9), .ref (ad 10)])), (ad 10, .inl (y 0, 9, .inl (d.2 6))), (ad 12, .inl (y 0, 6, .inl (d.2 8))), (h, .inr (7, [.int (u17.1 - 1), .int sw, .int u17.2.1, .ref (sa 0), .ref (sa 1), .ref (sa 2), .ref (sa 3), .ref (sa 4), .ref (sa 5), .ref (sa 6)])), (sa 0, .inl (y 0, 9, .inl u20))]) rfl ?_
            refine j_aload_n (pc := 101) C d_Days_countRows_101 rfl 2 rfl ?_
            refine j_iload (pc := 102) C d_Days_countRows_102 4 rfl ?_
            refine j_put (pc := 104) C pf_Days_15 4 (ws' := [(ad 0, .inr (2, [.int (d.1 0), .int (d.1 1), .int (d.1 2), .int (d.1 3), .ref (ad 1), .int (d.1 4), .ref (ad 11), .ref (ad 12), .ref (ad 2), .ref (ad 3), .int (d.1 5), .int (d.1 6), .int (d.1 7), .int (d.1 8)])), (ad 1, .inr (1, [.int (d.1 9), .ref (ad 4), .ref (ad 5), .ref (ad 6), .ref (ad 7), .ref (ad 8), .ref (ad 9), .ref (ad 10)])), (ad 10, .inl (y 0, 9, .inl (d.2 6))), (ad 12, .inl (y 0, 6, .inl (d.2 8))), (h, .inr (7, [.int (u17.1 - 1), .int sw, .int la, .ref (sa 0), .ref (sa 1), .ref (sa 2), .ref (sa 3), .ref (sa 4), .ref (sa 5), .ref (sa 6)])), (sa 0, .inl (y 0, 9, .inl u20))]) rfl rfl rfl (nl rfl) rfl d_Days_countRows_104 ?_
            refine j_iinc (pc := 107) C (v := nI (a + 1)) (lv' := [(5, .int (nI (a + 1))), (3, .int (rs + r16)), (0, .ref (ad 0)), (1, .ref h), (2, .int (nI (q + 1))), (4, .int la)]) d_Days_countRows_107 5 rfl (nI_1 _) (by decide) rfl ?_
            refine j_goto (pc := 110) C (tgt := 17) d_Days_countRows_110 (by decide) ?_
            refine j_locs (lv' := [(0, .ref (ad 0)), (1, .ref h), (2, .int (nI (q + 1))), (3, .int (rs + r16)), (4, .int la), (5, .int (nI (a + 1)))]) [2, 3, 4, 1, 5, 0] rfl ?_
            exact ih (a + 1) _ _ _ _ (by omega)
          · refine j_iconst (pc := 93) C (v := 1) d_Days_countRows_93 (by decide) ?_
            refine j_goto (pc := 94) C (tgt := 98) d_Days_countRows_94 (by decide) ?_
            refine j_callSv (pc := 98) C (c_moveBoards l D y ad d n4 h sa (u17.1 - 1) sw u17.2.1 u17.2.2 1 h4 b4 hJ hV) kw_Days_106 ks_Days_moveBoards ⟨by decide, by decide⟩ ⟨by decide, by decide⟩ (wr := []) [0, 1, 2, 3, 4, 5] [] rfl rfl (by decide +kernel) (by decide +kernel) (by decide +kernel) (As := [.ref (ad 0), .ref h, .int 1]) (rest := []) rfl (nb rfl) rfl d_Days_countRows_98 (fun u21 _ => ?_)
            refine j_ws (ws' := [(ad 0, .inr (2, [.int (d.1 0), .int (d.1 1), .int (d.1 2), .int (d.1 3), .ref (ad 1), .int (d.1 4), .ref (ad 11), .ref (ad 12), .ref (ad 2), .ref (ad 3), .int (d.1 5), .int (d.1 6), .int (d.1 7), .int (d.1 8)])), (ad 1, .inr (1, [.int (d.1 9), .ref (ad 4), .ref (ad 5), .ref (ad 6), .ref (ad 7), .ref (ad 8), .ref (ad 9), .ref (ad 10)])), (ad 10, .inl (y 0, 9, .inl (d.2 6))), (ad 12, .inl (y 0, 6, .inl (d.2 8))), (h, .inr (7, [.int (u17.1 - 1), .int sw, .int u17.2.1, .ref (sa 0), .ref (sa 1), .ref (sa 2), .ref (sa 3), .ref (sa 4), .ref (sa 5), .ref (sa 6)])), (sa 0, .inl (y 0, 9, .inl u21))]) rfl ?_
            refine j_aload_n (pc := 101) C d_Days_countRows_101 rfl 2 rfl ?_
            refine j_iload (pc := 102) C d_Days_countRows_102 4 rfl ?_
            refine j_put (pc := 104) C pf_Days_15 4 (ws' := [(ad 0, .inr (2, [.int (d.1 0), .int (d.1 1), .int (d.1 2), .int (d.1 3), .ref (ad 1), .int (d.1 4), .ref (ad 11), .ref (ad 12), .ref (ad 2), .ref (ad 3), .int (d.1 5), .int (d.1 6), .int (d.1 7), .int (d.1 8)])), (ad 1, .inr (1, [.int (d.1 9), .ref (ad 4), .ref (ad 5), .ref (ad 6), .ref (ad 7), .ref (ad 8), .ref (ad 9), .ref (ad 10)])), (ad 10, .inl (y 0, 9, .inl (d.2 6))), (ad 12, .inl (y 0, 6, .inl (d.2 8))), (h, .inr (7, [.int (u17.1 - 1), .int sw, .int la, .ref (sa 0), .ref (sa 1), .ref (sa 2), .ref (sa 3), .ref (sa 4), .ref (sa 5), .ref (sa 6)])), (sa 0, .inl (y 0, 9, .inl u21))]) rfl rfl rfl (nl rfl) rfl d_Days_countRows_104 ?_
            refine j_iinc (pc := 107) C (v := nI (a + 1)) (lv' := [(5, .int (nI (a + 1))), (3, .int (rs + r16)), (0, .ref (ad 0)), (1, .ref h), (2, .int (nI (q + 1))), (4, .int la)]) d_Days_countRows_107 5 rfl (nI_1 _) (by decide) rfl ?_
            refine j_goto (pc := 110) C (tgt := 17) d_Days_countRows_110 (by decide) ?_
            refine j_locs (lv' := [(0, .ref (ad 0)), (1, .ref h), (2, .int (nI (q + 1))), (3, .int (rs + r16)), (4, .int la), (5, .int (nI (a + 1)))]) [2, 3, 4, 1, 5, 0] rfl ?_
            exact ih (a + 1) _ _ _ _ (by omega)
set_option maxHeartbeats 4000000 in
set_option maxRecDepth 100000 in
theorem c_countRows_7 (l : Launch) (D : va_G) (y : Nat → ClassId) (ad : Nat → Nat) (d : LD) (n4 : Nat) (h : Nat) (sa : Nat → Nat) (sd : Int32) (sw : Int32) (sl : Int32) (f0 : Nat → Int32) (k : Nat) (h4 : d.1 4 = nI n4) (b4 : n4 ≤ 6) (hJ : ∀ j, j < 9 → d.2 6 j = -1 ∨ ∃ q, q < 9 ∧ d.2 6 j = nI q) (hV : ∀ j, j < n4 → ∃ q, q < 9 ∧ d.2 8 j = nI q) (hk : k ≤ 7) : CT l D y ⟨"NineBoards$Days", "countRows", "(LNineBoards$Lake;LNineBoards$State;I)I"⟩ prog_3_method_14_code 6 (some .int) ({ frames := 10, cells := 0, slots := 0, locals := 240 } : Room) [.ref (ad 0), .ref h, .int (nI k)] [(ad 0, .inr (2, [.int (d.1 0), .int (d.1 1), .int (d.1 2), .int (d.1 3), .ref (ad 1), .int (d.1 4), .ref (ad 11), .ref (ad 12), .ref (ad 2), .ref (ad 3), .int (d.1 5), .int (d.1 6), .int (d.1 7), .int (d.1 8)])), (ad 1, .inr (1, [.int (d.1 9), .ref (ad 4), .ref (ad 5), .ref (ad 6), .ref (ad 7), .ref (ad 8), .ref (ad 9), .ref (ad 10)])), (ad 10, .inl (y 0, 9, .inl (d.2 6))), (ad 12, .inl (y 0, 6, .inl (d.2 8))), (h, .inr (7, [.int sd, .int sw, .int sl, .ref (sa 0), .ref (sa 1), .ref (sa 2), .ref (sa 3), .ref (sa 4), .ref (sa 5), .ref (sa 6)])), (sa 0, .inl (y 0, 9, .inl f0))] (QI D [(ad 0, .inr (2, [.int (d.1 0), .int (d.1 1), .int (d.1 2), .int (d.1 3), .ref (ad 1), .int (d.1 4), .ref (ad 11), .ref (ad 12), .ref (ad 2), .ref (ad 3), .int (d.1 5), .int (d.1 6), .int (d.1 7), .int (d.1 8)])), (ad 1, .inr (1, [.int (d.1 9), .ref (ad 4), .ref (ad 5), .ref (ad 6), .ref (ad 7), .ref (ad 8), .ref (ad 9), .ref (ad 10)])), (ad 10, .inl (y 0, 9, .inl (d.2 6))), (ad 12, .inl (y 0, 6, .inl (d.2 8))), (h, .inr (7, [.int sd, .int sw, .int sl, .ref (sa 0), .ref (sa 1), .ref (sa 2), .ref (sa 3), .ref (sa 4), .ref (sa 5), .ref (sa 6)])), (sa 0, .inl (y 0, 9, .inl f0))] (fun (r : Int32) (u : Int32 × Int32 × (Nat → Int32)) => True) (fun u => [(ad 0, .inr (2, [.int (d.1 0), .int (d.1 1), .int (d.1 2), .int (d.1 3), .ref (ad 1), .int (d.1 4), .ref (ad 11), .ref (ad 12), .ref (ad 2), .ref (ad 3), .int (d.1 5), .int (d.1 6), .int (d.1 7), .int (d.1 8)])), (ad 1, .inr (1, [.int (d.1 9), .ref (ad 4), .ref (ad 5), .ref (ad 6), .ref (ad 7), .ref (ad 8), .ref (ad 9), .ref (ad 10)])), (ad 10, .inl (y 0, 9, .inl (d.2 6))), (ad 12, .inl (y 0, 6, .inl (d.2 8))), (h, .inr (7, [.int u.1, .int sw, .int u.2.1, .ref (sa 0), .ref (sa 1), .ref (sa 2), .ref (sa 3), .ref (sa 4), .ref (sa 5), .ref (sa 6)])), (sa 0, .inl (y 0, 9, .inl u.2.2))])) := by
  refine CT.of (by decide) (nb rfl) ?_
  intro p e s m args below meth c C hr
  refine j_lv (lv' := [(0, .ref (ad 0)), (1, .ref h), (2, .int (nI k))]) rfl ?_
  by_cases h0 : k = 0
  · subst h0
    refine j_iload_n (pc := 0) C d_Days_countRows_0 rfl 2 rfl ?_
    refine j_if_gtF (pc := 1) C (tgt := 6) d_Days_countRows_1 (by decide) (by decide) ?_
    refine j_iconst (pc := 4) C (v := 1) d_Days_countRows_4 (by decide) ?_
    exact j_iret (pc := 5) C hr rfl (sd, sl, f0) trivial [0, 1, 2, 3, 4, 5] rfl (by decide) (by decide) (by decide) d_Days_countRows_5
  · obtain ⟨q, rfl⟩ : ∃ q, k = q + 1 := ⟨k - 1, by omega⟩
    refine j_iload_n (pc := 0) C d_Days_countRows_0 rfl 2 rfl ?_
    refine j_if_gtT (pc := 1) C (tgt := 6) d_Days_countRows_1 (by decide) (show nI 0 < nI (q + 1) from nI_lt (by omega) (by omega)) ?_
    refine j_iconst (pc := 6) C (v := 0) d_Days_countRows_6 (by decide) ?_
    refine j_istore_n (pc := 7) C (lv' := [(3, .int 0), (0, .ref (ad 0)), (1, .ref h), (2, .int (nI (q + 1)))]) d_Days_countRows_7 rfl (by decide) rfl ?_
    refine j_aload_n (pc := 8) C d_Days_countRows_8 rfl 2 rfl ?_
    refine j_get (pc := 9) C gf_Days_15 4 rfl rfl d_Days_countRows_9 ?_
    refine j_istore (pc := 12) C (lv' := [(4, .int sl), (3, .int 0), (0, .ref (ad 0)), (1, .ref h), (2, .int (nI (q + 1)))]) d_Days_countRows_12 (by decide) rfl ?_
    refine j_iconst (pc := 14) C (v := 0) d_Days_countRows_14 (by decide) ?_
    refine j_istore (pc := 15) C (lv' := [(5, .int 0), (4, .int sl), (3, .int 0), (0, .ref (ad 0)), (1, .ref h), (2, .int (nI (q + 1)))]) d_Days_countRows_15 (by decide) rfl ?_
    refine j_locs (lv' := [(0, .ref (ad 0)), (1, .ref h), (2, .int (nI (q + 1))), (3, .int 0), (4, .int sl), (5, .int 0)]) [3, 4, 5, 2, 1, 0] rfl ?_
    refine j_lv (lv' := [(0, .ref (ad 0)), (1, .ref h), (2, .int (nI (q + 1))), (3, .int 0), (4, .int sl), (5, .int (nI 0))]) rfl ?_
    refine lp_rows_7 C ad d n4 h sa sw q sl h4 b4 hJ hV hk (fun rs sd sl f0 => ?_) 3 0 _ _ _ _ (by omega)
    refine j_iload_n (pc := 113) C d_Days_countRows_113 rfl 3 rfl ?_
    exact j_iret (pc := 114) C hr rfl (sd, sl, f0) trivial [0, 1, 2, 3, 4, 5] rfl (by decide) (by decide) (by decide) d_Days_countRows_114

set_option maxHeartbeats 4000000 in
set_option maxRecDepth 100000 in
theorem lp_rows_8 {p : Program} {l : Launch} {e : Env} {s : State} {m : MethodId} {args : Array Value} {below : List Frame} {meth : Method} {c : Code} {Q : State → Prop} {D : va_G} {y : Nat → ClassId} {A : Nat → Prop} (C : Cx p s m args meth c D y A prog_3_method_14_code 6 "NineBoards$Days" "countRows") (ad : Nat → Nat) (d : LD) (n4 : Nat) (h : Nat) (sa : Nat → Nat) (sw : Int32) (q : Nat) (la : Int32) (h4 : d.1 4 = nI n4) (b4 : n4 ≤ 6) (hJ : ∀ j, j < 9 → d.2 6 j = -1 ∨ ∃ q, q < 9 ∧ d.2 6 j = nI q) (hV : ∀ j, j < n4 → ∃ q, q < 9 ∧ d.2 8 j = nI q) (hq : q + 1 ≤ 8) (kx : ∀ (rs sd sl : Int32) (f0 : Nat → Int32), J p l e ({ frames := 11, cells := 0, slots := 0, locals := 265 } : Room) s m args below meth c Q D A 6 [(ad 0, .inr (2, [.int (d.1 0), .int (d.1 1), .int (d.1 2), .int (d.1 3), .ref (ad 1), .int (d.1 4), .ref (ad 11), .ref (ad 12), .ref (ad 2), .ref (ad 3), .int (d.1 5), .int (d.1 6), .int (d.1 7), .int (d.1 8)])), (ad 1, .inr (1, [.int (d.1 9), .ref (ad 4), .ref (ad 5), .ref (ad 6), .ref (ad 7), .ref (ad 8), .ref (ad 9), .ref (ad 10)])), (ad 10, .inl (y 0, 9, .inl (d.2 6))), (ad 12, .inl (y 0, 6, .inl (d.2 8))), (h, .inr (7, [.int sd, .int sw, .int sl, .ref (sa 0), .ref (sa 1), .ref (sa 2), .ref (sa 3), .ref (sa 4), .ref (sa 5), .ref (sa 6)])), (sa 0, .inl (y 0, 9, .inl f0))] [(0, .ref (ad 0)), (1, .ref h), (2, .int (nI (q + 1))), (3, .int rs), (4, .int la), (5, .int (nI 3))] 0 0 113 []) : ∀ (n : Nat) (a : Nat) (rs : Int32) (sd : Int32) (sl : Int32) (f0 : Nat → Int32), (a + n = 3) → J p l e ({ frames := 11, cells := 0, slots := 0, locals := 265 } : Room) s m args below meth c Q D A 6 [(ad 0, .inr (2, [.int (d.1 0), .int (d.1 1), .int (d.1 2), .int (d.1 3), .ref (ad 1), .int (d.1 4), .ref (ad 11), .ref (ad 12), .ref (ad 2), .ref (ad 3), .int (d.1 5), .int (d.1 6), .int (d.1 7), .int (d.1 8)])), (ad 1, .inr (1, [.int (d.1 9), .ref (ad 4), .ref (ad 5), .ref (ad 6), .ref (ad 7), .ref (ad 8), .ref (ad 9), .ref (ad 10)])), (ad 10, .inl (y 0, 9, .inl (d.2 6))), (ad 12, .inl (y 0, 6, .inl (d.2 8))), (h, .inr (7, [.int sd, .int sw, .int sl, .ref (sa 0), .ref (sa 1), .ref (sa 2), .ref (sa 3), .ref (sa 4), .ref (sa 5), .ref (sa 6)])), (sa 0, .inl (y 0, 9, .inl f0))] [(0, .ref (ad 0)), (1, .ref h), (2, .int (nI (q + 1))), (3, .int rs), (4, .int la), (5, .int (nI a))] 0 0 17 [] := by
  intro n
  induction n with
  | zero =>
    intro a rs sd sl f0 ha
    obtain rfl : a = 3 := by omega
    refine j_iload (pc := 17) C d_Days_countRows_17 5 rfl ?_
    refine j_iconst (pc := 19) C (v := 3) d_Days_countRows_19 (by decide) ?_
    refine j_icmp_geT (pc := 20) C (tgt := 113) d_Days_countRows_20 (by decide) (by decide) ?_
    exact kx _ _ _ _
  | succ n ih =>
    intro a rs sd sl f0 ha
    refine j_iload (pc := 17) C d_Days_countRows_17 5 rfl ?_
    refine j_iconst (pc := 19) C (v := 3) d_Days_countRows_19 (by decide) ?_
    refine j_icmp_geF (pc := 20) C (tgt := 113) d_Days_countRows_20 (by decide) (show ¬ nI 3 ≤ nI a from nI_ge (by omega) (by decide)) ?_
    refine j_aload_n (pc := 23) C d_Days_countRows_23 rfl 0 rfl ?_
    refine j_aload_n (pc := 24) C d_Days_countRows_24 rfl 1 rfl ?_
    refine j_aload_n (pc := 25) C d_Days_countRows_25 rfl 0 rfl ?_
    refine j_aload_n (pc := 26) C d_Days_countRows_26 rfl 1 rfl ?_
    refine j_get (pc := 27) C gf_Days_59 4 rfl rfl d_Days_countRows_27 ?_
    refine j_callVi (pc := 30) C (c_villageOn l D y ad d n4 sd h4 b4) kw_Days_109 kv_Lake_villageOn 0 2 rfl rfl ⟨by decide, by decide⟩ ⟨by decide, by decide⟩ (wr := [(ad 1, .inr (1, [.int (d.1 9), .ref (ad 4), .ref (ad 5), .ref (ad 6), .ref (ad 7), .ref (ad 8), .ref (ad 9), .ref (ad 10)])), (ad 10, .inl (y 0, 9, .inl (d.2 6))), (ad 12, .inl (y 0, 6, .inl (d.2 8))), (h, .inr (7, [.int sd, .int sw, .int sl, .ref (sa 0), .ref (sa 1), .ref (sa 2), .ref (sa 3), .ref (sa 4), .ref (sa 5), .ref (sa 6)])), (sa 0, .inl (y 0, 9, .inl f0))]) [0] [1, 2, 3, 4, 5] rfl rfl (by decide +kernel) (by decide +kernel) (by decide +kernel) (As := [.int sd]) (rest := [.ref h, .ref (ad 0)]) rfl (nb rfl) rfl d_Days_countRows_30 (fun r1 _ hr1 => ?_)
    refine j_ws (ws' := [(ad 1, .inr (1, [.int (d.1 9), .ref (ad 4), .ref (ad 5), .ref (ad 6), .ref (ad 7), .ref (ad 8), .ref (ad 9), .ref (ad 10)])), (ad 10, .inl (y 0, 9, .inl (d.2 6))), (ad 12, .inl (y 0, 6, .inl (d.2 8))), (h, .inr (7, [.int sd, .int sw, .int sl, .ref (sa 0), .ref (sa 1), .ref (sa 2), .ref (sa 3), .ref (sa 4), .ref (sa 5), .ref (sa 6)])), (sa 0, .inl (y 0, 9, .inl f0)), (ad 0, .inr (2, [.int (d.1 0), .int (d.1 1), .int (d.1 2), .int (d.1 3), .ref (ad 1), .int (d.1 4), .ref (ad 11), .ref (ad 12), .ref (ad 2), .ref (ad 3), .int (d.1 5), .int (d.1 6), .int (d.1 7), .int (d.1 8)]))]) rfl ?_
    rcases hr1 with rfl | ⟨j2, xh3, rfl⟩
    · refine j_iload (pc := 33) C d_Days_countRows_33 5 rfl ?_
      refine j_iconst (pc := 35) C (v := 0) d_Days_countRows_35 (by decide) ?_
      refine j_callSi (pc := 36) C (c_allows l D y ad d n4 h sa sd sw sl f0 (-1) (nI a) 0 h4 b4 hJ hV) kw_Days_43 ks_Days_allows ⟨by decide, by decide⟩ ⟨by decide, by decide⟩ (wr := []) [5, 0, 1, 2, 3, 4] [] rfl rfl (by decide +kernel) (by decide +kernel) (by decide +kernel) (As := [.ref (ad 0), .ref h, .int (-1), .int (nI a), .int 0]) (rest := []) rfl (nb rfl) rfl d_Days_countRows_36 (fun r4 _ hr4 => ?_)
      refine j_ws (ws' := [(ad 0, .inr (2, [.int (d.1 0), .int (d.1 1), .int (d.1 2), .int (d.1 3), .ref (ad 1), .int (d.1 4), .ref (ad 11), .ref (ad 12), .ref (ad 2), .ref (ad 3), .int (d.1 5), .int (d.1 6), .int (d.1 7), .int (d.1 8)])), (ad 1, .inr (1, [.int (d.1 9), .ref (ad 4), .ref (ad 5), .ref (ad 6), .ref (ad 7), .ref (ad 8), .ref (ad 9), .ref (ad 10)])), (ad 10, .inl (y 0, 9, .inl (d.2 6))), (ad 12, .inl (y 0, 6, .inl (d.2 8))), (h, .inr (7, [.int sd, .int sw, .int sl, .ref (sa 0), .ref (sa 1), .ref (sa 2), .ref (sa 3), .ref (sa 4), .ref (sa 5), .ref (sa 6)])), (sa 0, .inl (y 0, 9, .inl f0))]) rfl ?_
      refine j_if_eq (pc := 39) C (tgt := 107) d_Days_countRows_39 (by decide) (fun c5 => ?_) (fun c5 => ?_)
      · refine j_iinc (pc := 107) C (v := nI (a + 1)) (lv' := [(5, .int (nI (a + 1))), (0, .ref (ad 0)), (1, .ref h), (2, .int (nI (q + 1))), (3, .int rs), (4, .int la)]) d_Days_countRows_107 5 rfl (nI_1 _) (by decide) rfl ?_
        refine j_goto (pc := 110) C (tgt := 17) d_Days_countRows_110 (by decide) ?_
        refine j_locs (lv' := [(0, .ref (ad 0)), (1, .ref h), (2, .int (nI (q + 1))), (3, .int rs), (4, .int la), (5, .int (nI (a + 1)))]) [1, 2, 3, 4, 5, 0] rfl ?_
        exact ih (a + 1) _ _ _ _ (by omega)
      · refine j_aload_n (pc := 42) C d_Days_countRows_42 rfl 0 rfl ?_
        refine j_aload_n (pc := 43) C d_Days_countRows_43 rfl 1 rfl ?_
        refine j_iload (pc := 44) C d_Days_countRows_44 5 rfl ?_
        refine j_callSv (pc := 46) C (c_doAct l D y ad d n4 h sa sd sw sl f0 (nI a) h4 b4 hJ hV) kw_Days_47 ks_Days_doAct ⟨by decide, by decide⟩ ⟨by decide, by decide⟩ (wr := []) [0, 1, 2, 3, 4, 5] [] rfl rfl (by decide +kernel) (by decide +kernel) (by decide +kernel) (As := [.ref (ad 0), .ref h, .int (nI a)]) (rest := []) rfl (nb rfl) rfl d_Days_countRows_46 (fun u6 _ => ?_)
        refine j_ws (ws' := [(ad 0, .inr (2, [.int (d.1 0), .int (d.1 1), .int (d.1 2), .int (d.1 3), .ref (ad 1), .int (d.1 4), .ref (ad 11), .ref (ad 12), .ref (ad 2), .ref (ad 3), .int (d.1 5), .int (d.1 6), .int (d.1 7), .int (d.1 8)])), (ad 1, .inr (1, [.int (d.1 9), .ref (ad 4), .ref (ad 5), .ref (ad 6), .ref (ad 7), .ref (ad 8), .ref (ad 9), .ref (ad 10)])), (ad 10, .inl (y 0, 9, .inl (d.2 6))), (ad 12, .inl (y 0, 6, .inl (d.2 8))), (h, .inr (7, [.int sd, .int sw, .int u6.1, .ref (sa 0), .ref (sa 1), .ref (sa 2), .ref (sa 3), .ref (sa 4), .ref (sa 5), .ref (sa 6)])), (sa 0, .inl (y 0, 9, .inl u6.2))]) rfl ?_
        refine j_aload_n (pc := 49) C d_Days_countRows_49 rfl 1 rfl ?_
        refine j_dup (pc := 50) C d_Days_countRows_50 rfl ?_
        refine j_get (pc := 51) C gf_Days_59 4 rfl rfl d_Days_countRows_51 ?_
        refine j_iconst (pc := 54) C (v := 1) d_Days_countRows_54 (by decide) ?_
        refine j_iadd (pc := 55) C (v := sd + 1) d_Days_countRows_55 rfl ?_
        refine j_put (pc := 56) C pf_Days_59 4 (ws' := [(ad 0, .inr (2, [.int (d.1 0), .int (d.1 1), .int (d.1 2), .int (d.1 3), .ref (ad 1), .int (d.1 4), .ref (ad 11), .ref (ad 12), .ref (ad 2), .ref (ad 3), .int (d.1 5), .int (d.1 6), .int (d.1 7), .int (d.1 8)])), (ad 1, .inr (1, [.int (d.1 9), .ref (ad 4), .ref (ad 5), .ref (ad 6), .ref (ad 7), .ref (ad 8), .ref (ad 9), .ref (ad 10)])), (ad 10, .inl (y 0, 9, .inl (d.2 6))), (ad 12, .inl (y 0, 6, .inl (d.2 8))), (h, .inr (7, [.int (sd + 1), .int sw, .int u6.1, .ref (sa 0), .ref (sa 1), .ref (sa 2), .ref (sa 3), .ref (sa 4), .ref (sa 5), .ref (sa 6)])), (sa 0, .inl (y 0, 9, .inl u6.2))]) rfl rfl rfl (nl rfl) rfl d_Days_countRows_56 ?_
        refine j_iload_n (pc := 59) C d_Days_countRows_59 rfl 3 rfl ?_
        refine j_aload_n (pc := 60) C d_Days_countRows_60 rfl 0 rfl ?_
        refine j_aload_n (pc := 61) C d_Days_countRows_61 rfl 1 rfl ?_
        refine j_iload_n (pc := 62) C d_Days_countRows_62 rfl 2 rfl ?_
        refine j_iconst (pc := 63) C (v := 1) d_Days_countRows_63 (by decide) ?_
        refine j_isub (pc := 64) C (v := nI q) d_Days_countRows_64 (nI_pred q) ?_
        refine j_callSi (pc := 65) C (c_countRows_7 l D y ad d n4 h sa (sd + 1) sw u6.1 u6.2 q h4 b4 hJ hV (by omega)) kw_Days_159 ks_Days_countRows ⟨by decide, by decide⟩ ⟨by decide, by decide⟩ (wr := []) [0, 1, 2, 3, 4, 5] [] rfl rfl (by decide +kernel) (by decide +kernel) (by decide +kernel) (As := [.ref (ad 0), .ref h, .int (nI q)]) (rest := [.int rs]) rfl (nb rfl) rfl d_Days_countRows_65 (fun r7 u8 hr7 => ?_)
        refine j_ws (ws' := [(ad 0, .inr (2, [.int (d.1 0), .int (d.1 1), .int (d.1 2), .int (d.1 3), .ref (ad 1), .int (d.1 4), .ref (ad 11), .ref (ad 12), .ref (ad 2), .ref (ad 3), .int (d.1 5), .int (d.1 6), .int (d.1 7), .int (d.1 8)])), (ad 1, .inr (1, [.int (d.1 9), .ref (ad 4), .ref (ad 5), .ref (ad 6), .ref (ad 7), .ref (ad 8), .ref (ad 9), .ref (ad 10)])), (ad 10, .inl (y 0, 9, .inl (d.2 6))), (ad 12, .inl (y 0, 6, .inl (d.2 8))), (h, .inr (7, [.int u8.1, .int sw, .int u8.2.1, .ref (sa 0), .ref (sa 1), .ref (sa 2), .ref (sa 3), .ref (sa 4), .ref (sa 5), .ref (sa 6)])), (sa 0, .inl (y 0, 9, .inl u8.2.2))]) rfl ?_
        refine j_iadd (pc := 68) C (v := rs + r7) d_Days_countRows_68 rfl ?_
        refine j_istore_n (pc := 69) C (lv' := [(3, .int (rs + r7)), (0, .ref (ad 0)), (1, .ref h), (2, .int (nI (q + 1))), (4, .int la), (5, .int (nI a))]) d_Days_countRows_69 rfl (by decide) rfl ?_
        refine j_aload_n (pc := 70) C d_Days_countRows_70 rfl 2 rfl ?_
        refine j_dup (pc := 71) C d_Days_countRows_71 rfl ?_
        refine j_get (pc := 72) C gf_Days_59 4 rfl rfl d_Days_countRows_72 ?_
        refine j_iconst (pc := 75) C (v := 1) d_Days_countRows_75 (by decide) ?_
        refine j_isub (pc := 76) C (v := u8.1 - 1) d_Days_countRows_76 rfl ?_
        refine j_put (pc := 77) C pf_Days_59 4 (ws' := [(ad 0, .inr (2, [.int (d.1 0), .int (d.1 1), .int (d.1 2), .int (d.1 3), .ref (ad 1), .int (d.1 4), .ref (ad 11), .ref (ad 12), .ref (ad 2), .ref (ad 3), .int (d.1 5), .int (d.1 6), .int (d.1 7), .int (d.1 8)])), (ad 1, .inr (1, [.int (d.1 9), .ref (ad 4), .ref (ad 5), .ref (ad 6), .ref (ad 7), .ref (ad 8), .ref (ad 9), .ref (ad 10)])), (ad 10, .inl (y 0, 9, .inl (d.2 6))), (ad 12, .inl (y 0, 6, .inl (d.2 8))), (h, .inr (7, [.int (u8.1 - 1), .int sw, .int u8.2.1, .ref (sa 0), .ref (sa 1), .ref (sa 2), .ref (sa 3), .ref (sa 4), .ref (sa 5), .ref (sa 6)])), (sa 0, .inl (y 0, 9, .inl u8.2.2))]) rfl rfl rfl (nl rfl) rfl d_Days_countRows_77 ?_
        refine j_iload (pc := 80) C d_Days_countRows_80 5 rfl ?_
        refine j_if_eq (pc := 82) C (tgt := 101) d_Days_countRows_82 (by decide) (fun c9 => ?_) (fun c9 => ?_)
        · refine j_aload_n (pc := 101) C d_Days_countRows_101 rfl 2 rfl ?_
          refine j_iload (pc := 102) C d_Days_countRows_102 4 rfl ?_
          refine j_put (pc := 104) C pf_Days_15 4 (ws' := [(ad 0, .inr (2, [.int (d.1 0), .int (d.1 1), .int (d.1 2), .int (d.1 3), .ref (ad 1), .int (d.1 4), .ref (ad 11), .ref (ad 12), .ref (ad 2), .ref (ad 3), .int (d.1 5), .int (d.1 6), .int (d.1 7), .int (d.1 8)])), (ad 1, .inr (1, [.int (d.1 9), .ref (ad 4), .ref (ad 5), .ref (ad 6), .ref (ad 7), .ref (ad 8), .ref (ad 9), .ref (ad 10)])), (ad 10, .inl (y 0, 9, .inl (d.2 6))), (ad 12, .inl (y 0, 6, .inl (d.2 8))), (h, .inr (7, [.int (u8.1 - 1), .int sw, .int la, .ref (sa 0), .ref (sa 1), .ref (sa 2), .ref (sa 3), .ref (sa 4), .ref (sa 5), .ref (sa 6)])), (sa 0, .inl (y 0, 9, .inl u8.2.2))]) rfl rfl rfl (nl rfl) rfl d_Days_countRows_104 ?_
          refine j_iinc (pc := 107) C (v := nI (a + 1)) (lv' := [(5, .int (nI (a + 1))), (3, .int (rs + r7)), (0, .ref (ad 0)), (1, .ref h), (2, .int (nI (q + 1))), (4, .int la)]) d_Days_countRows_107 5 rfl (nI_1 _) (by decide) rfl ?_
          refine j_goto (pc := 110) C (tgt := 17) d_Days_countRows_110 (by decide) ?_
          refine j_locs (lv' := [(0, .ref (ad 0)), (1, .ref h), (2, .int (nI (q + 1))), (3, .int (rs + r7)), (4, .int la), (5, .int (nI (a + 1)))]) [2, 3, 4, 1, 5, 0] rfl ?_
          exact ih (a + 1) _ _ _ _ (by omega)
        · refine j_aload_n (pc := 85) C d_Days_countRows_85 rfl 1 rfl ?_
          refine j_aload_n (pc := 86) C d_Days_countRows_86 rfl 2 rfl ?_
          refine j_iload (pc := 87) C d_Days_countRows_87 5 rfl ?_
          refine j_iconst (pc := 89) C (v := 1) d_Days_countRows_89 (by decide) ?_
          refine j_icmp_ne (pc := 90) C (tgt := 97) d_Days_countRows_90 (by decide) (fun c10 => ?_) (fun c10 => ?_)
          · refine j_iconst (pc := 97) C (v := (-1)) d_Days_countRows_97 (by decide) ?_
            refine j_callSv (pc := 98) C (c_moveBoards l D y ad d n4 h sa (u8.1 - 1) sw u8.2.1 u8.2.2 (-1) h4 b4 hJ hV) kw_Days_106 ks_Days_moveBoards ⟨by decide, by decide⟩ ⟨by decide, by decide⟩ (wr := []) [0, 1, 2, 3, 4, 5] [] rfl rfl (by decide +kernel) (by decide +kernel) (by decide +kernel) (As := [.ref (ad 0), .ref h, .int (-1)]) (rest := []) rfl (nb rfl) rfl d_Days_countRows_98 (fun u11 _ => ?_)
            refine j_ws (ws' := [(ad 0, .inr (2, [.int (d.1 0), .int (d.1 1), .int (d.1 2), .int (d.1 3), .ref (ad 1), .int (d.1 4), .ref (ad 11), .ref (ad 12), .ref (ad 2), .ref (ad 3), .int (d.1 5), .int (d.1 6), .int (d.1 7), .int (d.1 8)])), (ad 1, .inr (1, [.int (d.1 9), .ref (ad 4), .ref (ad 5), .ref (ad 6), .ref (ad 7), .ref (ad 8), .ref (ad 9), .ref (ad 10)])), (ad 10, .inl (y 0, 9, .inl (d.2 6))), (ad 12, .inl (y 0, 6, .inl (d.2 8))), (h, .inr (7, [.int (u8.1 - 1), .int sw, .int u8.2.1, .ref (sa 0), .ref (sa 1), .ref (sa 2), .ref (sa 3), .ref (sa 4), .ref (sa 5), .ref (sa 6)])), (sa 0, .inl (y 0, 9, .inl u11))]) rfl ?_
            refine j_aload_n (pc := 101) C d_Days_countRows_101 rfl 2 rfl ?_
            refine j_iload (pc := 102) C d_Days_countRows_102 4 rfl ?_
            refine j_put (pc := 104) C pf_Days_15 4 (ws' := [(ad 0, .inr (2, [.int (d.1 0), .int (d.1 1), .int (d.1 2), .int (d.1 3), .ref (ad 1), .int (d.1 4), .ref (ad 11), .ref (ad 12), .ref (ad 2), .ref (ad 3), .int (d.1 5), .int (d.1 6), .int (d.1 7), .int (d.1 8)])), (ad 1, .inr (1, [.int (d.1 9), .ref (ad 4), .ref (ad 5), .ref (ad 6), .ref (ad 7), .ref (ad 8), .ref (ad 9), .ref (ad 10)])), (ad 10, .inl (y 0, 9, .inl (d.2 6))), (ad 12, .inl (y 0, 6, .inl (d.2 8))), (h, .inr (7, [.int (u8.1 - 1), .int sw, .int la, .ref (sa 0), .ref (sa 1), .ref (sa 2), .ref (sa 3), .ref (sa 4), .ref (sa 5), .ref (sa 6)])), (sa 0, .inl (y 0, 9, .inl u11))]) rfl rfl rfl (nl rfl) rfl d_Days_countRows_104 ?_
            refine j_iinc (pc := 107) C (v := nI (a + 1)) (lv' := [(5, .int (nI (a + 1))), (3, .int (rs + r7)), (0, .ref (ad 0)), (1, .ref h), (2, .int (nI (q + 1))), (4, .int la)]) d_Days_countRows_107 5 rfl (nI_1 _) (by decide) rfl ?_
            refine j_goto (pc := 110) C (tgt := 17) d_Days_countRows_110 (by decide) ?_
            refine j_locs (lv' := [(0, .ref (ad 0)), (1, .ref h), (2, .int (nI (q + 1))), (3, .int (rs + r7)), (4, .int la), (5, .int (nI (a + 1)))]) [2, 3, 4, 1, 5, 0] rfl ?_
            exact ih (a + 1) _ _ _ _ (by omega)
          · refine j_iconst (pc := 93) C (v := 1) d_Days_countRows_93 (by decide) ?_
            refine j_goto (pc := 94) C (tgt := 98) d_Days_countRows_94 (by decide) ?_
            refine j_callSv (pc := 98) C (c_moveBoards l D y ad d n4 h sa (u8.1 - 1) sw u8.2.1 u8.2.2 1 h4 b4 hJ hV) kw_Days_106 ks_Days_moveBoards ⟨by decide, by decide⟩ ⟨by decide, by decide⟩ (wr := []) [0, 1, 2, 3, 4, 5] [] rfl rfl (by decide +kernel) (by decide +kernel) (by decide +kernel) (As := [.ref (ad 0), .ref h, .int 1]) (rest := []) rfl (nb rfl) rfl d_Days_countRows_98 (fun u12 _ => ?_)
            refine j_ws (ws' := [(ad 0, .inr (2, [.int (d.1 0), .int (d.1 1), .int (d.1 2), .int (d.1 3), .ref (ad 1), .int (d.1 4), .ref (ad 11), .ref (ad 12), .ref (ad 2), .ref (ad 3), .int (d.1 5), .int (d.1 6), .int (d.1 7), .int (d.1 8)])), (ad 1, .inr (1, [.int (d.1 9), .ref (ad 4), .ref (ad 5), .ref (ad 6), .ref (ad 7), .ref (ad 8), .ref (ad 9), .ref (ad 10)])), (ad 10, .inl (y 0, 9, .inl (d.2 6))), (ad 12, .inl (y 0, 6, .inl (d.2 8))), (h, .inr (7, [.int (u8.1 - 1), .int sw, .int u8.2.1, .ref (sa 0), .ref (sa 1), .ref (sa 2), .ref (sa 3), .ref (sa 4), .ref (sa 5), .ref (sa 6)])), (sa 0, .inl (y 0, 9, .inl u12))]) rfl ?_
            refine j_aload_n (pc := 101) C d_Days_countRows_101 rfl 2 rfl ?_
            refine j_iload (pc := 102) C d_Days_countRows_102 4 rfl ?_
            refine j_put (pc := 104) C pf_Days_15 4 (ws' := [(ad 0, .inr (2, [.int (d.1 0), .int (d.1 1), .int (d.1 2), .int (d.1 3), .ref (ad 1), .int (d.1 4), .ref (ad 11), .ref (ad 12), .ref (ad 2), .ref (ad 3), .int (d.1 5), .int (d.1 6), .int (d.1 7), .int (d.1 8)])), (ad 1, .inr (1, [.int (d.1 9), .ref (ad 4), .ref (ad 5), .ref (ad 6), .ref (ad 7), .ref (ad 8), .ref (ad 9), .ref (ad 10)])), (ad 10, .inl (y 0, 9, .inl (d.2 6))), (ad 12, .inl (y 0, 6, .inl (d.2 8))), (h, .inr (7, [.int (u8.1 - 1), .int sw, .int la, .ref (sa 0), .ref (sa 1), .ref (sa 2), .ref (sa 3), .ref (sa 4), .ref (sa 5), .ref (sa 6)])), (sa 0, .inl (y 0, 9, .inl u12))]) rfl rfl rfl (nl rfl) rfl d_Days_countRows_104 ?_
            refine j_iinc (pc := 107) C (v := nI (a + 1)) (lv' := [(5, .int (nI (a + 1))), (3, .int (rs + r7)), (0, .ref (ad 0)), (1, .ref h), (2, .int (nI (q + 1))), (4, .int la)]) d_Days_countRows_107 5 rfl (nI_1 _) (by decide) rfl ?_
            refine j_goto (pc := 110) C (tgt := 17) d_Days_countRows_110 (by decide) ?_
            refine j_locs (lv' := [(0, .ref (ad 0)), (1, .ref h), (2, .int (nI (q + 1))), (3, .int (rs + r7)), (4, .int la), (5, .int (nI (a + 1)))]) [2, 3, 4, 1, 5, 0] rfl ?_
            exact ih (a + 1) _ _ _ _ (by omega)
    · refine j_iload (pc := 33) C d_Days_countRows_33 5 rfl ?_
      refine j_iconst (pc := 35) C (v := 0) d_Days_countRows_35 (by decide) ?_
      refine j_callSi (pc := 36) C (c_allows l D y ad d n4 h sa sd sw sl f0 (nI j2) (nI a) 0 h4 b4 hJ hV) kw_Days_43 ks_Days_allows ⟨by decide, by decide⟩ ⟨by decide, by decide⟩ (wr := []) [5, 0, 1, 2, 3, 4] [] rfl rfl (by decide +kernel) (by decide +kernel) (by decide +kernel) (As := [.ref (ad 0), .ref h, .int (nI j2), .int (nI a), .int 0]) (rest := []) rfl (nb rfl) rfl d_Days_countRows_36 (fun r13 _ hr13 => ?_)
      refine j_ws (ws' := [(ad 0, .inr (2, [.int (d.1 0), .int (d.1 1), .int (d.1 2), .int (d.1 3), .ref (ad 1), .int (d.1 4), .ref (ad 11), .ref (ad 12), .ref (ad 2), .ref (ad 3), .int (d.1 5), .int (d.1 6), .int (d.1 7), .int (d.1 8)])), (ad 1, .inr (1, [.int (d.1 9), .ref (ad 4), .ref (ad 5), .ref (ad 6), .ref (ad 7), .ref (ad 8), .ref (ad 9), .ref (ad 10)])), (ad 10, .inl (y 0, 9, .inl (d.2 6))), (ad 12, .inl (y 0, 6, .inl (d.2 8))), (h, .inr (7, [.int sd, .int sw, .int sl, .ref (sa 0), .ref (sa 1), .ref (sa 2), .ref (sa 3), .ref (sa 4), .ref (sa 5), .ref (sa 6)])), (sa 0, .inl (y 0, 9, .inl f0))]) rfl ?_
      refine j_if_eq (pc := 39) C (tgt := 107) d_Days_countRows_39 (by decide) (fun c14 => ?_) (fun c14 => ?_)
      · refine j_iinc (pc := 107) C (v := nI (a + 1)) (lv' := [(5, .int (nI (a + 1))), (0, .ref (ad 0)), (1, .ref h), (2, .int (nI (q + 1))), (3, .int rs), (4, .int la)]) d_Days_countRows_107 5 rfl (nI_1 _) (by decide) rfl ?_
        refine j_goto (pc := 110) C (tgt := 17) d_Days_countRows_110 (by decide) ?_
        refine j_locs (lv' := [(0, .ref (ad 0)), (1, .ref h), (2, .int (nI (q + 1))), (3, .int rs), (4, .int la), (5, .int (nI (a + 1)))]) [1, 2, 3, 4, 5, 0] rfl ?_
        exact ih (a + 1) _ _ _ _ (by omega)
      · refine j_aload_n (pc := 42) C d_Days_countRows_42 rfl 0 rfl ?_
        refine j_aload_n (pc := 43) C d_Days_countRows_43 rfl 1 rfl ?_
        refine j_iload (pc := 44) C d_Days_countRows_44 5 rfl ?_
        refine j_callSv (pc := 46) C (c_doAct l D y ad d n4 h sa sd sw sl f0 (nI a) h4 b4 hJ hV) kw_Days_47 ks_Days_doAct ⟨by decide, by decide⟩ ⟨by decide, by decide⟩ (wr := []) [0, 1, 2, 3, 4, 5] [] rfl rfl (by decide +kernel) (by decide +kernel) (by decide +kernel) (As := [.ref (ad 0), .ref h, .int (nI a)]) (rest := []) rfl (nb rfl) rfl d_Days_countRows_46 (fun u15 _ => ?_)
        refine j_ws (ws' := [(ad 0, .inr (2, [.int (d.1 0), .int (d.1 1), .int (d.1 2), .int (d.1 3), .ref (ad 1), .int (d.1 4), .ref (ad 11), .ref (ad 12), .ref (ad 2), .ref (ad 3), .int (d.1 5), .int (d.1 6), .int (d.1 7), .int (d.1 8)])), (ad 1, .inr (1, [.int (d.1 9), .ref (ad 4), .ref (ad 5), .ref (ad 6), .ref (ad 7), .ref (ad 8), .ref (ad 9), .ref (ad 10)])), (ad 10, .inl (y 0, 9, .inl (d.2 6))), (ad 12, .inl (y 0, 6, .inl (d.2 8))), (h, .inr (7, [.int sd, .int sw, .int u15.1, .ref (sa 0), .ref (sa 1), .ref (sa 2), .ref (sa 3), .ref (sa 4), .ref (sa 5), .ref (sa 6)])), (sa 0, .inl (y 0, 9, .inl u15.2))]) rfl ?_
        refine j_aload_n (pc := 49) C d_Days_countRows_49 rfl 1 rfl ?_
        refine j_dup (pc := 50) C d_Days_countRows_50 rfl ?_
        refine j_get (pc := 51) C gf_Days_59 4 rfl rfl d_Days_countRows_51 ?_
        refine j_iconst (pc := 54) C (v := 1) d_Days_countRows_54 (by decide) ?_
        refine j_iadd (pc := 55) C (v := sd + 1) d_Days_countRows_55 rfl ?_
        refine j_put (pc := 56) C pf_Days_59 4 (ws' := [(ad 0, .inr (2, [.int (d.1 0), .int (d.1 1), .int (d.1 2), .int (d.1 3), .ref (ad 1), .int (d.1 4), .ref (ad 11), .ref (ad 12), .ref (ad 2), .ref (ad 3), .int (d.1 5), .int (d.1 6), .int (d.1 7), .int (d.1 8)])), (ad 1, .inr (1, [.int (d.1 9), .ref (ad 4), .ref (ad 5), .ref (ad 6), .ref (ad 7), .ref (ad 8), .ref (ad 9), .ref (ad 10)])), (ad 10, .inl (y 0, 9, .inl (d.2 6))), (ad 12, .inl (y 0, 6, .inl (d.2 8))), (h, .inr (7, [.int (sd + 1), .int sw, .int u15.1, .ref (sa 0), .ref (sa 1), .ref (sa 2), .ref (sa 3), .ref (sa 4), .ref (sa 5), .ref (sa 6)])), (sa 0, .inl (y 0, 9, .inl u15.2))]) rfl rfl rfl (nl rfl) rfl d_Days_countRows_56 ?_
        refine j_iload_n (pc := 59) C d_Days_countRows_59 rfl 3 rfl ?_
        refine j_aload_n (pc := 60) C d_Days_countRows_60 rfl 0 rfl ?_
        refine j_aload_n (pc := 61) C d_Days_countRows_61 rfl 1 rfl ?_
        refine j_iload_n (pc := 62) C d_Days_countRows_62 rfl 2 rfl ?_
        refine j_iconst (pc := 63) C (v := 1) d_Days_countRows_63 (by decide) ?_
        refine j_isub (pc := 64) C (v := nI q) d_Days_countRows_64 (nI_pred q) ?_
        refine j_callSi (pc := 65) C (c_countRows_7 l D y ad d n4 h sa (sd + 1) sw u15.1 u15.2 q h4 b4 hJ hV (by omega)) kw_Days_159 ks_Days_countRows ⟨by decide, by decide⟩ ⟨by decide, by decide⟩ (wr := []) [0, 1, 2, 3, 4, 5] [] rfl rfl (by decide +kernel) (by decide +kernel) (by decide +kernel) (As := [.ref (ad 0), .ref h, .int (nI q)]) (rest := [.int rs]) rfl (nb rfl) rfl d_Days_countRows_65 (fun r16 u17 hr16 => ?_)
        refine j_ws (ws' := [(ad 0, .inr (2, [.int (d.1 0), .int (d.1 1), .int (d.1 2), .int (d.1 3), .ref (ad 1), .int (d.1 4), .ref (ad 11), .ref (ad 12), .ref (ad 2), .ref (ad 3), .int (d.1 5), .int (d.1 6), .int (d.1 7), .int (d.1 8)])), (ad 1, .inr (1, [.int (d.1 9), .ref (ad 4), .ref (ad 5), .ref (ad 6), .ref (ad 7), .ref (ad 8), .ref (ad 9), .ref (ad 10)])), (ad 10, .inl (y 0, 9, .inl (d.2 6))), (ad 12, .inl (y 0, 6, .inl (d.2 8))), (h, .inr (7, [.int u17.1, .int sw, .int u17.2.1, .ref (sa 0), .ref (sa 1), .ref (sa 2), .ref (sa 3), .ref (sa 4), .ref (sa 5), .ref (sa 6)])), (sa 0, .inl (y 0, 9, .inl u17.2.2))]) rfl ?_
        refine j_iadd (pc := 68) C (v := rs + r16) d_Days_countRows_68 rfl ?_
        refine j_istore_n (pc := 69) C (lv' := [(3, .int (rs + r16)), (0, .ref (ad 0)), (1, .ref h), (2, .int (nI (q + 1))), (4, .int la), (5, .int (nI a))]) d_Days_countRows_69 rfl (by decide) rfl ?_
        refine j_aload_n (pc := 70) C d_Days_countRows_70 rfl 2 rfl ?_
        refine j_dup (pc := 71) C d_Days_countRows_71 rfl ?_
        refine j_get (pc := 72) C gf_Days_59 4 rfl rfl d_Days_countRows_72 ?_
        refine j_iconst (pc := 75) C (v := 1) d_Days_countRows_75 (by decide) ?_
        refine j_isub (pc := 76) C (v := u17.1 - 1) d_Days_countRows_76 rfl ?_
        refine j_put (pc := 77) C pf_Days_59 4 (ws' := [(ad 0, .inr (2, [.int (d.1 0), .int (d.1 1), .int (d.1 2), .int (d.1 3), .ref (ad 1), .int (d.1 4), .ref (ad 11), .ref (ad 12), .ref (ad 2), .ref (ad 3), .int (d.1 5), .int (d.1 6), .int (d.1 7), .int (d.1 8)])), (ad 1, .inr (1, [.int (d.1 9), .ref (ad 4), .ref (ad 5), .ref (ad 6), .ref (ad 7), .ref (ad 8), .ref (ad 9), .ref (ad 10)])), (ad 10, .inl (y 0, 9, .inl (d.2 6))), (ad 12, .inl (y 0, 6, .inl (d.2 8))), (h, .inr (7, [.int (u17.1 - 1), .int sw, .int u17.2.1, .ref (sa 0), .ref (sa 1), .ref (sa 2), .ref (sa 3), .ref (sa 4), .ref (sa 5), .ref (sa 6)])), (sa 0, .inl (y 0, 9, .inl u17.2.2))]) rfl rfl rfl (nl rfl) rfl d_Days_countRows_77 ?_
        refine j_iload (pc := 80) C d_Days_countRows_80 5 rfl ?_
        refine j_if_eq (pc := 82) C (tgt := 101) d_Days_countRows_82 (by decide) (fun c18 => ?_) (fun c18 => ?_)
        · refine j_aload_n (pc := 101) C d_Days_countRows_101 rfl 2 rfl ?_
          refine j_iload (pc := 102) C d_Days_countRows_102 4 rfl ?_
          refine j_put (pc := 104) C pf_Days_15 4 (ws' := [(ad 0, .inr (2, [.int (d.1 0), .int (d.1 1), .int (d.1 2), .int (d.1 3), .ref (ad 1), .int (d.1 4), .ref (ad 11), .ref (ad 12), .ref (ad 2), .ref (ad 3), .int (d.1 5), .int (d.1 6), .int (d.1 7), .int (d.1 8)])), (ad 1, .inr (1, [.int (d.1 9), .ref (ad 4), .ref (ad 5), .ref (ad 6), .ref (ad 7), .ref (ad 8), .ref (ad 9), .ref (ad 10)])), (ad 10, .inl (y 0, 9, .inl (d.2 6))), (ad 12, .inl (y 0, 6, .inl (d.2 8))), (h, .inr (7, [.int (u17.1 - 1), .int sw, .int la, .ref (sa 0), .ref (sa 1), .ref (sa 2), .ref (sa 3), .ref (sa 4), .ref (sa 5), .ref (sa 6)])), (sa 0, .inl (y 0, 9, .inl u17.2.2))]) rfl rfl rfl (nl rfl) rfl d_Days_countRows_104 ?_
          refine j_iinc (pc := 107) C (v := nI (a + 1)) (lv' := [(5, .int (nI (a + 1))), (3, .int (rs + r16)), (0, .ref (ad 0)), (1, .ref h), (2, .int (nI (q + 1))), (4, .int la)]) d_Days_countRows_107 5 rfl (nI_1 _) (by decide) rfl ?_
          refine j_goto (pc := 110) C (tgt := 17) d_Days_countRows_110 (by decide) ?_
          refine j_locs (lv' := [(0, .ref (ad 0)), (1, .ref h), (2, .int (nI (q + 1))), (3, .int (rs + r16)), (4, .int la), (5, .int (nI (a + 1)))]) [2, 3, 4, 1, 5, 0] rfl ?_
          exact ih (a + 1) _ _ _ _ (by omega)
        · refine j_aload_n (pc := 85) C d_Days_countRows_85 rfl 1 rfl ?_
          refine j_aload_n (pc := 86) C d_Days_countRows_86 rfl 2 rfl ?_
          refine j_iload (pc := 87) C d_Days_countRows_87 5 rfl ?_
          refine j_iconst (pc := 89) C (v := 1) d_Days_countRows_89 (by decide) ?_
          refine j_icmp_ne (pc := 90) C (tgt := 97) d_Days_countRows_90 (by decide) (fun c19 => ?_) (fun c19 => ?_)
          · refine j_iconst (pc := 97) C (v := (-1)) d_Days_countRows_97 (by decide) ?_
            refine j_callSv (pc := 98) C (c_moveBoards l D y ad d n4 h sa (u17.1 - 1) sw u17.2.1 u17.2.2 (-1) h4 b4 hJ hV) kw_Days_106 ks_Days_moveBoards ⟨by decide, by decide⟩ ⟨by decide, by decide⟩ (wr := []) [0, 1, 2, 3, 4, 5] [] rfl rfl (by decide +kernel) (by decide +kernel) (by decide +kernel) (As := [.ref (ad 0), .ref h, .int (-1)]) (rest := []) rfl (nb rfl) rfl d_Days_countRows_98 (fun u20 _ => ?_)
            refine j_ws (ws' := [(ad 0, .inr (2, [.int (d.1 0), .int (d.1 1), .int (d.1 2), .int (d.1 3), .ref (ad 1), .int (d.1 4), .ref (ad 11), .ref (ad 12), .ref (ad 2), .ref (ad 3), .int (d.1 5), .int (d.1 6), .int (d.1 7), .int (d.1 8)])), (ad 1, .inr (1, [.int (d.1 9), .ref (ad 4), .ref (ad 5), .ref (ad 6), .ref (ad 7), .ref (ad 8), .ref (ad 9), .ref (ad 10)])), (ad 10, .inl (y 0, 9, .inl (d.2 6))), (ad 12, .inl (y 0, 6, .inl (d.2 8))), (h, .inr (7, [.int (u17.1 - 1), .int sw, .int u17.2.1, .ref (sa 0), .ref (sa 1), .ref (sa 2), .ref (sa 3), .ref (sa 4), .ref (sa 5), .ref (sa 6)])), (sa 0, .inl (y 0, 9, .inl u20))]) rfl ?_
            refine j_aload_n (pc := 101) C d_Days_countRows_101 rfl 2 rfl ?_
            refine j_iload (pc := 102) C d_Days_countRows_102 4 rfl ?_
            refine j_put (pc := 104) C pf_Days_15 4 (ws' := [(ad 0, .inr (2, [.int (d.1 0), .int (d.1 1), .int (d.1 2), .int (d.1 3), .ref (ad 1), .int (d.1 4), .ref (ad 11), .ref (ad 12), .ref (ad 2), .ref (ad 3), .int (d.1 5), .int (d.1 6), .int (d.1 7), .int (d.1 8)])), (ad 1, .inr (1, [.int (d.1 9), .ref (ad 4), .ref (ad 5), .ref (ad 6), .ref (ad 7), .ref (ad 8), .ref (ad 9), .ref (ad 10)])), (ad 10, .inl (y 0, 9, .inl (d.2 6))), (ad 12, .inl (y 0, 6, .inl (d.2 8))), (h, .inr (7, [.int (u17.1 - 1), .int sw, .int la, .ref (sa 0), .ref (sa 1), .ref (sa 2), .ref (sa 3), .ref (sa 4), .ref (sa 5), .ref (sa 6)])), (sa 0, .inl (y 0, 9, .inl u20))]) rfl rfl rfl (nl rfl) rfl d_Days_countRows_104 ?_
            refine j_iinc (pc := 107) C (v := nI (a + 1)) (lv' := [(5, .int (nI (a + 1))), (3, .int (rs + r16)), (0, .ref (ad 0)), (1, .ref h), (2, .int (nI (q + 1))), (4, .int la)]) d_Days_countRows_107 5 rfl (nI_1 _) (by decide) rfl ?_
            refine j_goto (pc := 110) C (tgt := 17) d_Days_countRows_110 (by decide) ?_
            refine j_locs (lv' := [(0, .ref (ad 0)), (1, .ref h), (2, .int (nI (q + 1))), (3, .int (rs + r16)), (4, .int la), (5, .int (nI (a + 1)))]) [2, 3, 4, 1, 5, 0] rfl ?_
            exact ih (a + 1) _ _ _ _ (by omega)
          · refine j_iconst (pc := 93) C (v := 1) d_Days_countRows_93 (by decide) ?_
            refine j_goto (pc := 94) C (tgt := 98) d_Days_countRows_94 (by decide) ?_
            refine j_callSv (pc := 98) C (c_moveBoards l D y ad d n4 h sa (u17.1 - 1) sw u17.2.1 u17.2.2 1 h4 b4 hJ hV) kw_Days_106 ks_Days_moveBoards ⟨by decide, by decide⟩ ⟨by decide, by decide⟩ (wr := []) [0, 1, 2, 3, 4, 5] [] rfl rfl (by decide +kernel) (by decide +kernel) (by decide +kernel) (As := [.ref (ad 0), .ref h, .int 1]) (rest := []) rfl (nb rfl) rfl d_Days_countRows_98 (fun u21 _ => ?_)
            refine j_ws (ws' := [(ad 0, .inr (2, [.int (d.1 0), .int (d.1 1), .int (d.1 2), .int (d.1 3), .ref (ad 1), .int (d.1 4), .ref (ad 11), .ref (ad 12), .ref (ad 2), .ref (ad 3), .int (d.1 5), .int (d.1 6), .int (d.1 7), .int (d.1 8)])), (ad 1, .inr (1, [.int (d.1 9), .ref (ad 4), .ref (ad 5), .ref (ad 6), .ref (ad 7), .ref (ad 8), .ref (ad 9), .ref (ad 10)])), (ad 10, .inl (y 0, 9, .inl (d.2 6))), (ad 12, .inl (y 0, 6, .inl (d.2 8))), (h, .inr (7, [.int (u17.1 - 1), .int sw, .int u17.2.1, .ref (sa 0), .ref (sa 1), .ref (sa 2), .ref (sa 3), .ref (sa 4), .ref (sa 5), .ref (sa 6)])), (sa 0, .inl (y 0, 9, .inl u21))]) rfl ?_
            refine j_aload_n (pc := 101) C d_Days_countRows_101 rfl 2 rfl ?_
            refine j_iload (pc := 102) C d_Days_countRows_102 4 rfl ?_
            refine j_put (pc := 104) C pf_Days_15 4 (ws' := [(ad 0, .inr (2, [.int (d.1 0), .int (d.1 1), .int (d.1 2), .int (d.1 3), .ref (ad 1), .int (d.1 4), .ref (ad 11), .ref (ad 12), .ref (ad 2), .ref (ad 3), .int (d.1 5), .int (d.1 6), .int (d.1 7), .int (d.1 8)])), (ad 1, .inr (1, [.int (d.1 9), .ref (ad 4), .ref (ad 5), .ref (ad 6), .ref (ad 7), .ref (ad 8), .ref (ad 9), .ref (ad 10)])), (ad 10, .inl (y 0, 9, .inl (d.2 6))), (ad 12, .inl (y 0, 6, .inl (d.2 8))), (h, .inr (7, [.int (u17.1 - 1), .int sw, .int la, .ref (sa 0), .ref (sa 1), .ref (sa 2), .ref (sa 3), .ref (sa 4), .ref (sa 5), .ref (sa 6)])), (sa 0, .inl (y 0, 9, .inl u21))]) rfl rfl rfl (nl rfl) rfl d_Days_countRows_104 ?_
            refine j_iinc (pc := 107) C (v := nI (a + 1)) (lv' := [(5, .int (nI (a + 1))), (3, .int (rs + r16)), (0, .ref (ad 0)), (1, .ref h), (2, .int (nI (q + 1))), (4, .int la)]) d_Days_countRows_107 5 rfl (nI_1 _) (by decide) rfl ?_
            refine j_goto (pc := 110) C (tgt := 17) d_Days_countRows_110 (by decide) ?_
            refine j_locs (lv' := [(0, .ref (ad 0)), (1, .ref h), (2, .int (nI (q + 1))), (3, .int (rs + r16)), (4, .int la), (5, .int (nI (a + 1)))]) [2, 3, 4, 1, 5, 0] rfl ?_
            exact ih (a + 1) _ _ _ _ (by omega)
set_option maxHeartbeats 4000000 in
set_option maxRecDepth 100000 in
theorem c_countRows_8 (l : Launch) (D : va_G) (y : Nat → ClassId) (ad : Nat → Nat) (d : LD) (n4 : Nat) (h : Nat) (sa : Nat → Nat) (sd : Int32) (sw : Int32) (sl : Int32) (f0 : Nat → Int32) (k : Nat) (h4 : d.1 4 = nI n4) (b4 : n4 ≤ 6) (hJ : ∀ j, j < 9 → d.2 6 j = -1 ∨ ∃ q, q < 9 ∧ d.2 6 j = nI q) (hV : ∀ j, j < n4 → ∃ q, q < 9 ∧ d.2 8 j = nI q) (hk : k ≤ 8) : CT l D y ⟨"NineBoards$Days", "countRows", "(LNineBoards$Lake;LNineBoards$State;I)I"⟩ prog_3_method_14_code 6 (some .int) ({ frames := 11, cells := 0, slots := 0, locals := 265 } : Room) [.ref (ad 0), .ref h, .int (nI k)] [(ad 0, .inr (2, [.int (d.1 0), .int (d.1 1), .int (d.1 2), .int (d.1 3), .ref (ad 1), .int (d.1 4), .ref (ad 11), .ref (ad 12), .ref (ad 2), .ref (ad 3), .int (d.1 5), .int (d.1 6), .int (d.1 7), .int (d.1 8)])), (ad 1, .inr (1, [.int (d.1 9), .ref (ad 4), .ref (ad 5), .ref (ad 6), .ref (ad 7), .ref (ad 8), .ref (ad 9), .ref (ad 10)])), (ad 10, .inl (y 0, 9, .inl (d.2 6))), (ad 12, .inl (y 0, 6, .inl (d.2 8))), (h, .inr (7, [.int sd, .int sw, .int sl, .ref (sa 0), .ref (sa 1), .ref (sa 2), .ref (sa 3), .ref (sa 4), .ref (sa 5), .ref (sa 6)])), (sa 0, .inl (y 0, 9, .inl f0))] (QI D [(ad 0, .inr (2, [.int (d.1 0), .int (d.1 1), .int (d.1 2), .int (d.1 3), .ref (ad 1), .int (d.1 4), .ref (ad 11), .ref (ad 12), .ref (ad 2), .ref (ad 3), .int (d.1 5), .int (d.1 6), .int (d.1 7), .int (d.1 8)])), (ad 1, .inr (1, [.int (d.1 9), .ref (ad 4), .ref (ad 5), .ref (ad 6), .ref (ad 7), .ref (ad 8), .ref (ad 9), .ref (ad 10)])), (ad 10, .inl (y 0, 9, .inl (d.2 6))), (ad 12, .inl (y 0, 6, .inl (d.2 8))), (h, .inr (7, [.int sd, .int sw, .int sl, .ref (sa 0), .ref (sa 1), .ref (sa 2), .ref (sa 3), .ref (sa 4), .ref (sa 5), .ref (sa 6)])), (sa 0, .inl (y 0, 9, .inl f0))] (fun (r : Int32) (u : Int32 × Int32 × (Nat → Int32)) => True) (fun u => [(ad 0, .inr (2, [.int (d.1 0), .int (d.1 1), .int (d.1 2), .int (d.1 3), .ref (ad 1), .int (d.1 4), .ref (ad 11), .ref (ad 12), .ref (ad 2), .ref (ad 3), .int (d.1 5), .int (d.1 6), .int (d.1 7), .int (d.1 8)])), (ad 1, .inr (1, [.int (d.1 9), .ref (ad 4), .ref (ad 5), .ref (ad 6), .ref (ad 7), .ref (ad 8), .ref (ad 9), .ref (ad 10)])), (ad 10, .inl (y 0, 9, .inl (d.2 6))), (ad 12, .inl (y 0, 6, .inl (d.2 8))), (h, .inr (7, [.int u.1, .int sw, .int u.2.1, .ref (sa 0), .ref (sa 1), .ref (sa 2), .ref (sa 3), .ref (sa 4), .ref (sa 5), .ref (sa 6)])), (sa 0, .inl (y 0, 9, .inl u.2.2))])) := by
  refine CT.of (by decide) (nb rfl) ?_
  intro p e s m args below meth c C hr
  refine j_lv (lv' := [(0, .ref (ad 0)), (1, .ref h), (2, .int (nI k))]) rfl ?_
  by_cases h0 : k = 0
  · subst h0
    refine j_iload_n (pc := 0) C d_Days_countRows_0 rfl 2 rfl ?_
    refine j_if_gtF (pc := 1) C (tgt := 6) d_Days_countRows_1 (by decide) (by decide) ?_
    refine j_iconst (pc := 4) C (v := 1) d_Days_countRows_4 (by decide) ?_
    exact j_iret (pc := 5) C hr rfl (sd, sl, f0) trivial [0, 1, 2, 3, 4, 5] rfl (by decide) (by decide) (by decide) d_Days_countRows_5
  · obtain ⟨q, rfl⟩ : ∃ q, k = q + 1 := ⟨k - 1, by omega⟩
    refine j_iload_n (pc := 0) C d_Days_countRows_0 rfl 2 rfl ?_
    refine j_if_gtT (pc := 1) C (tgt := 6) d_Days_countRows_1 (by decide) (show nI 0 < nI (q + 1) from nI_lt (by omega) (by omega)) ?_
    refine j_iconst (pc := 6) C (v := 0) d_Days_countRows_6 (by decide) ?_
    refine j_istore_n (pc := 7) C (lv' := [(3, .int 0), (0, .ref (ad 0)), (1, .ref h), (2, .int (nI (q + 1)))]) d_Days_countRows_7 rfl (by decide) rfl ?_
    refine j_aload_n (pc := 8) C d_Days_countRows_8 rfl 2 rfl ?_
    refine j_get (pc := 9) C gf_Days_15 4 rfl rfl d_Days_countRows_9 ?_
    refine j_istore (pc := 12) C (lv' := [(4, .int sl), (3, .int 0), (0, .ref (ad 0)), (1, .ref h), (2, .int (nI (q + 1)))]) d_Days_countRows_12 (by decide) rfl ?_
    refine j_iconst (pc := 14) C (v := 0) d_Days_countRows_14 (by decide) ?_
    refine j_istore (pc := 15) C (lv' := [(5, .int 0), (4, .int sl), (3, .int 0), (0, .ref (ad 0)), (1, .ref h), (2, .int (nI (q + 1)))]) d_Days_countRows_15 (by decide) rfl ?_
    refine j_locs (lv' := [(0, .ref (ad 0)), (1, .ref h), (2, .int (nI (q + 1))), (3, .int 0), (4, .int sl), (5, .int 0)]) [3, 4, 5, 2, 1, 0] rfl ?_
    refine j_lv (lv' := [(0, .ref (ad 0)), (1, .ref h), (2, .int (nI (q + 1))), (3, .int 0), (4, .int sl), (5, .int (nI 0))]) rfl ?_
    refine lp_rows_8 C ad d n4 h sa sw q sl h4 b4 hJ hV hk (fun rs sd sl f0 => ?_) 3 0 _ _ _ _ (by omega)
    refine j_iload_n (pc := 113) C d_Days_countRows_113 rfl 3 rfl ?_
    exact j_iret (pc := 114) C hr rfl (sd, sl, f0) trivial [0, 1, 2, 3, 4, 5] rfl (by decide) (by decide) (by decide) d_Days_countRows_114

set_option maxHeartbeats 4000000 in
set_option maxRecDepth 100000 in
theorem lp_rows_9 {p : Program} {l : Launch} {e : Env} {s : State} {m : MethodId} {args : Array Value} {below : List Frame} {meth : Method} {c : Code} {Q : State → Prop} {D : va_G} {y : Nat → ClassId} {A : Nat → Prop} (C : Cx p s m args meth c D y A prog_3_method_14_code 6 "NineBoards$Days" "countRows") (ad : Nat → Nat) (d : LD) (n4 : Nat) (h : Nat) (sa : Nat → Nat) (sw : Int32) (q : Nat) (la : Int32) (h4 : d.1 4 = nI n4) (b4 : n4 ≤ 6) (hJ : ∀ j, j < 9 → d.2 6 j = -1 ∨ ∃ q, q < 9 ∧ d.2 6 j = nI q) (hV : ∀ j, j < n4 → ∃ q, q < 9 ∧ d.2 8 j = nI q) (hq : q + 1 ≤ 9) (kx : ∀ (rs sd sl : Int32) (f0 : Nat → Int32), J p l e ({ frames := 12, cells := 0, slots := 0, locals := 290 } : Room) s m args below meth c Q D A 6 [(ad 0, .inr (2, [.int (d.1 0), .int (d.1 1), .int (d.1 2), .int (d.1 3), .ref (ad 1), .int (d.1 4), .ref (ad 11), .ref (ad 12), .ref (ad 2), .ref (ad 3), .int (d.1 5), .int (d.1 6), .int (d.1 7), .int (d.1 8)])), (ad 1, .inr (1, [.int (d.1 9), .ref (ad 4), .ref (ad 5), .ref (ad 6), .ref (ad 7), .ref (ad 8), .ref (ad 9), .ref (ad 10)])), (ad 10, .inl (y 0, 9, .inl (d.2 6))), (ad 12, .inl (y 0, 6, .inl (d.2 8))), (h, .inr (7, [.int sd, .int sw, .int sl, .ref (sa 0), .ref (sa 1), .ref (sa 2), .ref (sa 3), .ref (sa 4), .ref (sa 5), .ref (sa 6)])), (sa 0, .inl (y 0, 9, .inl f0))] [(0, .ref (ad 0)), (1, .ref h), (2, .int (nI (q + 1))), (3, .int rs), (4, .int la), (5, .int (nI 3))] 0 0 113 []) : ∀ (n : Nat) (a : Nat) (rs : Int32) (sd : Int32) (sl : Int32) (f0 : Nat → Int32), (a + n = 3) → J p l e ({ frames := 12, cells := 0, slots := 0, locals := 290 } : Room) s m args below meth c Q D A 6 [(ad 0, .inr (2, [.int (d.1 0), .int (d.1 1), .int (d.1 2), .int (d.1 3), .ref (ad 1), .int (d.1 4), .ref (ad 11), .ref (ad 12), .ref (ad 2), .ref (ad 3), .int (d.1 5), .int (d.1 6), .int (d.1 7), .int (d.1 8)])), (ad 1, .inr (1, [.int (d.1 9), .ref (ad 4), .ref (ad 5), .ref (ad 6), .ref (ad 7), .ref (ad 8), .ref (ad 9), .ref (ad 10)])), (ad 10, .inl (y 0, 9, .inl (d.2 6))), (ad 12, .inl (y 0, 6, .inl (d.2 8))), (h, .inr (7, [.int sd, .int sw, .int sl, .ref (sa 0), .ref (sa 1), .ref (sa 2), .ref (sa 3), .ref (sa 4), .ref (sa 5), .ref (sa 6)])), (sa 0, .inl (y 0, 9, .inl f0))] [(0, .ref (ad 0)), (1, .ref h), (2, .int (nI (q + 1))), (3, .int rs), (4, .int la), (5, .int (nI a))] 0 0 17 [] := by
  intro n
  induction n with
  | zero =>
    intro a rs sd sl f0 ha
    obtain rfl : a = 3 := by omega
    refine j_iload (pc := 17) C d_Days_countRows_17 5 rfl ?_
    refine j_iconst (pc := 19) C (v := 3) d_Days_countRows_19 (by decide) ?_
    refine j_icmp_geT (pc := 20) C (tgt := 113) d_Days_countRows_20 (by decide) (by decide) ?_
    exact kx _ _ _ _
  | succ n ih =>
    intro a rs sd sl f0 ha
    refine j_iload (pc := 17) C d_Days_countRows_17 5 rfl ?_
    refine j_iconst (pc := 19) C (v := 3) d_Days_countRows_19 (by decide) ?_
    refine j_icmp_geF (pc := 20) C (tgt := 113) d_Days_countRows_20 (by decide) (show ¬ nI 3 ≤ nI a from nI_ge (by omega) (by decide)) ?_
    refine j_aload_n (pc := 23) C d_Days_countRows_23 rfl 0 rfl ?_
    refine j_aload_n (pc := 24) C d_Days_countRows_24 rfl 1 rfl ?_
    refine j_aload_n (pc := 25) C d_Days_countRows_25 rfl 0 rfl ?_
    refine j_aload_n (pc := 26) C d_Days_countRows_26 rfl 1 rfl ?_
    refine j_get (pc := 27) C gf_Days_59 4 rfl rfl d_Days_countRows_27 ?_
    refine j_callVi (pc := 30) C (c_villageOn l D y ad d n4 sd h4 b4) kw_Days_109 kv_Lake_villageOn 0 2 rfl rfl ⟨by decide, by decide⟩ ⟨by decide, by decide⟩ (wr := [(ad 1, .inr (1, [.int (d.1 9), .ref (ad 4), .ref (ad 5), .ref (ad 6), .ref (ad 7), .ref (ad 8), .ref (ad 9), .ref (ad 10)])), (ad 10, .inl (y 0, 9, .inl (d.2 6))), (ad 12, .inl (y 0, 6, .inl (d.2 8))), (h, .inr (7, [.int sd, .int sw, .int sl, .ref (sa 0), .ref (sa 1), .ref (sa 2), .ref (sa 3), .ref (sa 4), .ref (sa 5), .ref (sa 6)])), (sa 0, .inl (y 0, 9, .inl f0))]) [0] [1, 2, 3, 4, 5] rfl rfl (by decide +kernel) (by decide +kernel) (by decide +kernel) (As := [.int sd]) (rest := [.ref h, .ref (ad 0)]) rfl (nb rfl) rfl d_Days_countRows_30 (fun r1 _ hr1 => ?_)
    refine j_ws (ws' := [(ad 1, .inr (1, [.int (d.1 9), .ref (ad 4), .ref (ad 5), .ref (ad 6), .ref (ad 7), .ref (ad 8), .ref (ad 9), .ref (ad 10)])), (ad 10, .inl (y 0, 9, .inl (d.2 6))), (ad 12, .inl (y 0, 6, .inl (d.2 8))), (h, .inr (7, [.int sd, .int sw, .int sl, .ref (sa 0), .ref (sa 1), .ref (sa 2), .ref (sa 3), .ref (sa 4), .ref (sa 5), .ref (sa 6)])), (sa 0, .inl (y 0, 9, .inl f0)), (ad 0, .inr (2, [.int (d.1 0), .int (d.1 1), .int (d.1 2), .int (d.1 3), .ref (ad 1), .int (d.1 4), .ref (ad 11), .ref (ad 12), .ref (ad 2), .ref (ad 3), .int (d.1 5), .int (d.1 6), .int (d.1 7), .int (d.1 8)]))]) rfl ?_
    rcases hr1 with rfl | ⟨j2, xh3, rfl⟩
    · refine j_iload (pc := 33) C d_Days_countRows_33 5 rfl ?_
      refine j_iconst (pc := 35) C (v := 0) d_Days_countRows_35 (by decide) ?_
      refine j_callSi (pc := 36) C (c_allows l D y ad d n4 h sa sd sw sl f0 (-1) (nI a) 0 h4 b4 hJ hV) kw_Days_43 ks_Days_allows ⟨by decide, by decide⟩ ⟨by decide, by decide⟩ (wr := []) [5, 0, 1, 2, 3, 4] [] rfl rfl (by decide +kernel) (by decide +kernel) (by decide +kernel) (As := [.ref (ad 0), .ref h, .int (-1), .int (nI a), .int 0]) (rest := []) rfl (nb rfl) rfl d_Days_countRows_36 (fun r4 _ hr4 => ?_)
      refine j_ws (ws' := [(ad 0, .inr (2, [.int (d.1 0), .int (d.1 1), .int (d.1 2), .int (d.1 3), .ref (ad 1), .int (d.1 4), .ref (ad 11), .ref (ad 12), .ref (ad 2), .ref (ad 3), .int (d.1 5), .int (d.1 6), .int (d.1 7), .int (d.1 8)])), (ad 1, .inr (1, [.int (d.1 9), .ref (ad 4), .ref (ad 5), .ref (ad 6), .ref (ad 7), .ref (ad 8), .ref (ad 9), .ref (ad 10)])), (ad 10, .inl (y 0, 9, .inl (d.2 6))), (ad 12, .inl (y 0, 6, .inl (d.2 8))), (h, .inr (7, [.int sd, .int sw, .int sl, .ref (sa 0), .ref (sa 1), .ref (sa 2), .ref (sa 3), .ref (sa 4), .ref (sa 5), .ref (sa 6)])), (sa 0, .inl (y 0, 9, .inl f0))]) rfl ?_
      refine j_if_eq (pc := 39) C (tgt := 107) d_Days_countRows_39 (by decide) (fun c5 => ?_) (fun c5 => ?_)
      · refine j_iinc (pc := 107) C (v := nI (a + 1)) (lv' := [(5, .int (nI (a + 1))), (0, .ref (ad 0)), (1, .ref h), (2, .int (nI (q + 1))), (3, .int rs), (4, .int la)]) d_Days_countRows_107 5 rfl (nI_1 _) (by decide) rfl ?_
        refine j_goto (pc := 110) C (tgt := 17) d_Days_countRows_110 (by decide) ?_
        refine j_locs (lv' := [(0, .ref (ad 0)), (1, .ref h), (2, .int (nI (q + 1))), (3, .int rs), (4, .int la), (5, .int (nI (a + 1)))]) [1, 2, 3, 4, 5, 0] rfl ?_
        exact ih (a + 1) _ _ _ _ (by omega)
      · refine j_aload_n (pc := 42) C d_Days_countRows_42 rfl 0 rfl ?_
        refine j_aload_n (pc := 43) C d_Days_countRows_43 rfl 1 rfl ?_
        refine j_iload (pc := 44) C d_Days_countRows_44 5 rfl ?_
        refine j_callSv (pc := 46) C (c_doAct l D y ad d n4 h sa sd sw sl f0 (nI a) h4 b4 hJ hV) kw_Days_47 ks_Days_doAct ⟨by decide, by decide⟩ ⟨by decide, by decide⟩ (wr := []) [0, 1, 2, 3, 4, 5] [] rfl rfl (by decide +kernel) (by decide +kernel) (by decide +kernel) (As := [.ref (ad 0), .ref h, .int (nI a)]) (rest := []) rfl (nb rfl) rfl d_Days_countRows_46 (fun u6 _ => ?_)
        refine j_ws (ws' := [(ad 0, .inr (2, [.int (d.1 0), .int (d.1 1), .int (d.1 2), .int (d.1 3), .ref (ad 1), .int (d.1 4), .ref (ad 11), .ref (ad 12), .ref (ad 2), .ref (ad 3), .int (d.1 5), .int (d.1 6), .int (d.1 7), .int (d.1 8)])), (ad 1, .inr (1, [.int (d.1 9), .ref (ad 4), .ref (ad 5), .ref (ad 6), .ref (ad 7), .ref (ad 8), .ref (ad 9), .ref (ad 10)])), (ad 10, .inl (y 0, 9, .inl (d.2 6))), (ad 12, .inl (y 0, 6, .inl (d.2 8))), (h, .inr (7, [.int sd, .int sw, .int u6.1, .ref (sa 0), .ref (sa 1), .ref (sa 2), .ref (sa 3), .ref (sa 4), .ref (sa 5), .ref (sa 6)])), (sa 0, .inl (y 0, 9, .inl u6.2))]) rfl ?_
        refine j_aload_n (pc := 49) C d_Days_countRows_49 rfl 1 rfl ?_
        refine j_dup (pc := 50) C d_Days_countRows_50 rfl ?_
        refine j_get (pc := 51) C gf_Days_59 4 rfl rfl d_Days_countRows_51 ?_
        refine j_iconst (pc := 54) C (v := 1) d_Days_countRows_54 (by decide) ?_
        refine j_iadd (pc := 55) C (v := sd + 1) d_Days_countRows_55 rfl ?_
        refine j_put (pc := 56) C pf_Days_59 4 (ws' := [(ad 0, .inr (2, [.int (d.1 0), .int (d.1 1), .int (d.1 2), .int (d.1 3), .ref (ad 1), .int (d.1 4), .ref (ad 11), .ref (ad 12), .ref (ad 2), .ref (ad 3), .int (d.1 5), .int (d.1 6), .int (d.1 7), .int (d.1 8)])), (ad 1, .inr (1, [.int (d.1 9), .ref (ad 4), .ref (ad 5), .ref (ad 6), .ref (ad 7), .ref (ad 8), .ref (ad 9), .ref (ad 10)])), (ad 10, .inl (y 0, 9, .inl (d.2 6))), (ad 12, .inl (y 0, 6, .inl (d.2 8))), (h, .inr (7, [.int (sd + 1), .int sw, .int u6.1, .ref (sa 0), .ref (sa 1), .ref (sa 2), .ref (sa 3), .ref (sa 4), .ref (sa 5), .ref (sa 6)])), (sa 0, .inl (y 0, 9, .inl u6.2))]) rfl rfl rfl (nl rfl) rfl d_Days_countRows_56 ?_
        refine j_iload_n (pc := 59) C d_Days_countRows_59 rfl 3 rfl ?_
        refine j_aload_n (pc := 60) C d_Days_countRows_60 rfl 0 rfl ?_
        refine j_aload_n (pc := 61) C d_Days_countRows_61 rfl 1 rfl ?_
        refine j_iload_n (pc := 62) C d_Days_countRows_62 rfl 2 rfl ?_
        refine j_iconst (pc := 63) C (v := 1) d_Days_countRows_63 (by decide) ?_
        refine j_isub (pc := 64) C (v := nI q) d_Days_countRows_64 (nI_pred q) ?_
        refine j_callSi (pc := 65) C (c_countRows_8 l D y ad d n4 h sa (sd + 1) sw u6.1 u6.2 q h4 b4 hJ hV (by omega)) kw_Days_159 ks_Days_countRows ⟨by decide, by decide⟩ ⟨by decide, by decide⟩ (wr := []) [0, 1, 2, 3, 4, 5] [] rfl rfl (by decide +kernel) (by decide +kernel) (by decide +kernel) (As := [.ref (ad 0), .ref h, .int (nI q)]) (rest := [.int rs]) rfl (nb rfl) rfl d_Days_countRows_65 (fun r7 u8 hr7 => ?_)
        refine j_ws (ws' := [(ad 0, .inr (2, [.int (d.1 0), .int (d.1 1), .int (d.1 2), .int (d.1 3), .ref (ad 1), .int (d.1 4), .ref (ad 11), .ref (ad 12), .ref (ad 2), .ref (ad 3), .int (d.1 5), .int (d.1 6), .int (d.1 7), .int (d.1 8)])), (ad 1, .inr (1, [.int (d.1 9), .ref (ad 4), .ref (ad 5), .ref (ad 6), .ref (ad 7), .ref (ad 8), .ref (ad 9), .ref (ad 10)])), (ad 10, .inl (y 0, 9, .inl (d.2 6))), (ad 12, .inl (y 0, 6, .inl (d.2 8))), (h, .inr (7, [.int u8.1, .int sw, .int u8.2.1, .ref (sa 0), .ref (sa 1), .ref (sa 2), .ref (sa 3), .ref (sa 4), .ref (sa 5), .ref (sa 6)])), (sa 0, .inl (y 0, 9, .inl u8.2.2))]) rfl ?_
        refine j_iadd (pc := 68) C (v := rs + r7) d_Days_countRows_68 rfl ?_
        refine j_istore_n (pc := 69) C (lv' := [(3, .int (rs + r7)), (0, .ref (ad 0)), (1, .ref h), (2, .int (nI (q + 1))), (4, .int la), (5, .int (nI a))]) d_Days_countRows_69 rfl (by decide) rfl ?_
        refine j_aload_n (pc := 70) C d_Days_countRows_70 rfl 2 rfl ?_
        refine j_dup (pc := 71) C d_Days_countRows_71 rfl ?_
        refine j_get (pc := 72) C gf_Days_59 4 rfl rfl d_Days_countRows_72 ?_
        refine j_iconst (pc := 75) C (v := 1) d_Days_countRows_75 (by decide) ?_
        refine j_isub (pc := 76) C (v := u8.1 - 1) d_Days_countRows_76 rfl ?_
        refine j_put (pc := 77) C pf_Days_59 4 (ws' := [(ad 0, .inr (2, [.int (d.1 0), .int (d.1 1), .int (d.1 2), .int (d.1 3), .ref (ad 1), .int (d.1 4), .ref (ad 11), .ref (ad 12), .ref (ad 2), .ref (ad 3), .int (d.1 5), .int (d.1 6), .int (d.1 7), .int (d.1 8)])), (ad 1, .inr (1, [.int (d.1 9), .ref (ad 4), .ref (ad 5), .ref (ad 6), .ref (ad 7), .ref (ad 8), .ref (ad 9), .ref (ad 10)])), (ad 10, .inl (y 0, 9, .inl (d.2 6))), (ad 12, .inl (y 0, 6, .inl (d.2 8))), (h, .inr (7, [.int (u8.1 - 1), .int sw, .int u8.2.1, .ref (sa 0), .ref (sa 1), .ref (sa 2), .ref (sa 3), .ref (sa 4), .ref (sa 5), .ref (sa 6)])), (sa 0, .inl (y 0, 9, .inl u8.2.2))]) rfl rfl rfl (nl rfl) rfl d_Days_countRows_77 ?_
        refine j_iload (pc := 80) C d_Days_countRows_80 5 rfl ?_
        refine j_if_eq (pc := 82) C (tgt := 101) d_Days_countRows_82 (by decide) (fun c9 => ?_) (fun c9 => ?_)
        · refine j_aload_n (pc := 101) C d_Days_countRows_101 rfl 2 rfl ?_
          refine j_iload (pc := 102) C d_Days_countRows_102 4 rfl ?_
          refine j_put (pc := 104) C pf_Days_15 4 (ws' := [(ad 0, .inr (2, [.int (d.1 0), .int (d.1 1), .int (d.1 2), .int (d.1 3), .ref (ad 1), .int (d.1 4), .ref (ad 11), .ref (ad 12), .ref (ad 2), .ref (ad 3), .int (d.1 5), .int (d.1 6), .int (d.1 7), .int (d.1 8)])), (ad 1, .inr (1, [.int (d.1 9), .ref (ad 4), .ref (ad 5), .ref (ad 6), .ref (ad 7), .ref (ad 8), .ref (ad 9), .ref (ad 10)])), (ad 10, .inl (y 0, 9, .inl (d.2 6))), (ad 12, .inl (y 0, 6, .inl (d.2 8))), (h, .inr (7, [.int (u8.1 - 1), .int sw, .int la, .ref (sa 0), .ref (sa 1), .ref (sa 2), .ref (sa 3), .ref (sa 4), .ref (sa 5), .ref (sa 6)])), (sa 0, .inl (y 0, 9, .inl u8.2.2))]) rfl rfl rfl (nl rfl) rfl d_Days_countRows_104 ?_
          refine j_iinc (pc := 107) C (v := nI (a + 1)) (lv' := [(5, .int (nI (a + 1))), (3, .int (rs + r7)), (0, .ref (ad 0)), (1, .ref h), (2, .int (nI (q + 1))), (4, .int la)]) d_Days_countRows_107 5 rfl (nI_1 _) (by decide) rfl ?_
          refine j_goto (pc := 110) C (tgt := 17) d_Days_countRows_110 (by decide) ?_
          refine j_locs (lv' := [(0, .ref (ad 0)), (1, .ref h), (2, .int (nI (q + 1))), (3, .int (rs + r7)), (4, .int la), (5, .int (nI (a + 1)))]) [2, 3, 4, 1, 5, 0] rfl ?_
          exact ih (a + 1) _ _ _ _ (by omega)
        · refine j_aload_n (pc := 85) C d_Days_countRows_85 rfl 1 rfl ?_
          refine j_aload_n (pc := 86) C d_Days_countRows_86 rfl 2 rfl ?_
          refine j_iload (pc := 87) C d_Days_countRows_87 5 rfl ?_
          refine j_iconst (pc := 89) C (v := 1) d_Days_countRows_89 (by decide) ?_
          refine j_icmp_ne (pc := 90) C (tgt := 97) d_Days_countRows_90 (by decide) (fun c10 => ?_) (fun c10 => ?_)
          · refine j_iconst (pc := 97) C (v := (-1)) d_Days_countRows_97 (by decide) ?_
            refine j_callSv (pc := 98) C (c_moveBoards l D y ad d n4 h sa (u8.1 - 1) sw u8.2.1 u8.2.2 (-1) h4 b4 hJ hV) kw_Days_106 ks_Days_moveBoards ⟨by decide, by decide⟩ ⟨by decide, by decide⟩ (wr := []) [0, 1, 2, 3, 4, 5] [] rfl rfl (by decide +kernel) (by decide +kernel) (by decide +kernel) (As := [.ref (ad 0), .ref h, .int (-1)]) (rest := []) rfl (nb rfl) rfl d_Days_countRows_98 (fun u11 _ => ?_)
            refine j_ws (ws' := [(ad 0, .inr (2, [.int (d.1 0), .int (d.1 1), .int (d.1 2), .int (d.1 3), .ref (ad 1), .int (d.1 4), .ref (ad 11), .ref (ad 12), .ref (ad 2), .ref (ad 3), .int (d.1 5), .int (d.1 6), .int (d.1 7), .int (d.1 8)])), (ad 1, .inr (1, [.int (d.1 9), .ref (ad 4), .ref (ad 5), .ref (ad 6), .ref (ad 7), .ref (ad 8), .ref (ad 9), .ref (ad 10)])), (ad 10, .inl (y 0, 9, .inl (d.2 6))), (ad 12, .inl (y 0, 6, .inl (d.2 8))), (h, .inr (7, [.int (u8.1 - 1), .int sw, .int u8.2.1, .ref (sa 0), .ref (sa 1), .ref (sa 2), .ref (sa 3), .ref (sa 4), .ref (sa 5), .ref (sa 6)])), (sa 0, .inl (y 0, 9, .inl u11))]) rfl ?_
            refine j_aload_n (pc := 101) C d_Days_countRows_101 rfl 2 rfl ?_
            refine j_iload (pc := 102) C d_Days_countRows_102 4 rfl ?_
            refine j_put (pc := 104) C pf_Days_15 4 (ws' := [(ad 0, .inr (2, [.int (d.1 0), .int (d.1 1), .int (d.1 2), .int (d.1 3), .ref (ad 1), .int (d.1 4), .ref (ad 11), .ref (ad 12), .ref (ad 2), .ref (ad 3), .int (d.1 5), .int (d.1 6), .int (d.1 7), .int (d.1 8)])), (ad 1, .inr (1, [.int (d.1 9), .ref (ad 4), .ref (ad 5), .ref (ad 6), .ref (ad 7), .ref (ad 8), .ref (ad 9), .ref (ad 10)])), (ad 10, .inl (y 0, 9, .inl (d.2 6))), (ad 12, .inl (y 0, 6, .inl (d.2 8))), (h, .inr (7, [.int (u8.1 - 1), .int sw, .int la, .ref (sa 0), .ref (sa 1), .ref (sa 2), .ref (sa 3), .ref (sa 4), .ref (sa 5), .ref (sa 6)])), (sa 0, .inl (y 0, 9, .inl u11))]) rfl rfl rfl (nl rfl) rfl d_Days_countRows_104 ?_
            refine j_iinc (pc := 107) C (v := nI (a + 1)) (lv' := [(5, .int (nI (a + 1))), (3, .int (rs + r7)), (0, .ref (ad 0)), (1, .ref h), (2, .int (nI (q + 1))), (4, .int la)]) d_Days_countRows_107 5 rfl (nI_1 _) (by decide) rfl ?_
            refine j_goto (pc := 110) C (tgt := 17) d_Days_countRows_110 (by decide) ?_
            refine j_locs (lv' := [(0, .ref (ad 0)), (1, .ref h), (2, .int (nI (q + 1))), (3, .int (rs + r7)), (4, .int la), (5, .int (nI (a + 1)))]) [2, 3, 4, 1, 5, 0] rfl ?_
            exact ih (a + 1) _ _ _ _ (by omega)
          · refine j_iconst (pc := 93) C (v := 1) d_Days_countRows_93 (by decide) ?_
            refine j_goto (pc := 94) C (tgt := 98) d_Days_countRows_94 (by decide) ?_
            refine j_callSv (pc := 98) C (c_moveBoards l D y ad d n4 h sa (u8.1 - 1) sw u8.2.1 u8.2.2 1 h4 b4 hJ hV) kw_Days_106 ks_Days_moveBoards ⟨by decide, by decide⟩ ⟨by decide, by decide⟩ (wr := []) [0, 1, 2, 3, 4, 5] [] rfl rfl (by decide +kernel) (by decide +kernel) (by decide +kernel) (As := [.ref (ad 0), .ref h, .int 1]) (rest := []) rfl (nb rfl) rfl d_Days_countRows_98 (fun u12 _ => ?_)
            refine j_ws (ws' := [(ad 0, .inr (2, [.int (d.1 0), .int (d.1 1), .int (d.1 2), .int (d.1 3), .ref (ad 1), .int (d.1 4), .ref (ad 11), .ref (ad 12), .ref (ad 2), .ref (ad 3), .int (d.1 5), .int (d.1 6), .int (d.1 7), .int (d.1 8)])), (ad 1, .inr (1, [.int (d.1 9), .ref (ad 4), .ref (ad 5), .ref (ad 6), .ref (ad 7), .ref (ad 8), .ref (ad 9), .ref (ad 10)])), (ad 10, .inl (y 0, 9, .inl (d.2 6))), (ad 12, .inl (y 0, 6, .inl (d.2 8))), (h, .inr (7, [.int (u8.1 - 1), .int sw, .int u8.2.1, .ref (sa 0), .ref (sa 1), .ref (sa 2), .ref (sa 3), .ref (sa 4), .ref (sa 5), .ref (sa 6)])), (sa 0, .inl (y 0, 9, .inl u12))]) rfl ?_
            refine j_aload_n (pc := 101) C d_Days_countRows_101 rfl 2 rfl ?_
            refine j_iload (pc := 102) C d_Days_countRows_102 4 rfl ?_
            refine j_put (pc := 104) C pf_Days_15 4 (ws' := [(ad 0, .inr (2, [.int (d.1 0), .int (d.1 1), .int (d.1 2), .int (d.1 3), .ref (ad 1), .int (d.1 4), .ref (ad 11), .ref (ad 12), .ref (ad 2), .ref (ad 3), .int (d.1 5), .int (d.1 6), .int (d.1 7), .int (d.1 8)])), (ad 1, .inr (1, [.int (d.1 9), .ref (ad 4), .ref (ad 5), .ref (ad 6), .ref (ad 7), .ref (ad 8), .ref (ad 9), .ref (ad 10)])), (ad 10, .inl (y 0, 9, .inl (d.2 6))), (ad 12, .inl (y 0, 6, .inl (d.2 8))), (h, .inr (7, [.int (u8.1 - 1), .int sw, .int la, .ref (sa 0), .ref (sa 1), .ref (sa 2), .ref (sa 3), .ref (sa 4), .ref (sa 5), .ref (sa 6)])), (sa 0, .inl (y 0, 9, .inl u12))]) rfl rfl rfl (nl rfl) rfl d_Days_countRows_104 ?_
            refine j_iinc (pc := 107) C (v := nI (a + 1)) (lv' := [(5, .int (nI (a + 1))), (3, .int (rs + r7)), (0, .ref (ad 0)), (1, .ref h), (2, .int (nI (q + 1))), (4, .int la)]) d_Days_countRows_107 5 rfl (nI_1 _) (by decide) rfl ?_
            refine j_goto (pc := 110) C (tgt := 17) d_Days_countRows_110 (by decide) ?_
            refine j_locs (lv' := [(0, .ref (ad 0)), (1, .ref h), (2, .int (nI (q + 1))), (3, .int (rs + r7)), (4, .int la), (5, .int (nI (a + 1)))]) [2, 3, 4, 1, 5, 0] rfl ?_
            exact ih (a + 1) _ _ _ _ (by omega)
    · refine j_iload (pc := 33) C d_Days_countRows_33 5 rfl ?_
      refine j_iconst (pc := 35) C (v := 0) d_Days_countRows_35 (by decide) ?_
      refine j_callSi (pc := 36) C (c_allows l D y ad d n4 h sa sd sw sl f0 (nI j2) (nI a) 0 h4 b4 hJ hV) kw_Days_43 ks_Days_allows ⟨by decide, by decide⟩ ⟨by decide, by decide⟩ (wr := []) [5, 0, 1, 2, 3, 4] [] rfl rfl (by decide +kernel) (by decide +kernel) (by decide +kernel) (As := [.ref (ad 0), .ref h, .int (nI j2), .int (nI a), .int 0]) (rest := []) rfl (nb rfl) rfl d_Days_countRows_36 (fun r13 _ hr13 => ?_)
      refine j_ws (ws' := [(ad 0, .inr (2, [.int (d.1 0), .int (d.1 1), .int (d.1 2), .int (d.1 3), .ref (ad 1), .int (d.1 4), .ref (ad 11), .ref (ad 12), .ref (ad 2), .ref (ad 3), .int (d.1 5), .int (d.1 6), .int (d.1 7), .int (d.1 8)])), (ad 1, .inr (1, [.int (d.1 9), .ref (ad 4), .ref (ad 5), .ref (ad 6), .ref (ad 7), .ref (ad 8), .ref (ad 9), .ref (ad 10)])), (ad 10, .inl (y 0, 9, .inl (d.2 6))), (ad 12, .inl (y 0, 6, .inl (d.2 8))), (h, .inr (7, [.int sd, .int sw, .int sl, .ref (sa 0), .ref (sa 1), .ref (sa 2), .ref (sa 3), .ref (sa 4), .ref (sa 5), .ref (sa 6)])), (sa 0, .inl (y 0, 9, .inl f0))]) rfl ?_
      refine j_if_eq (pc := 39) C (tgt := 107) d_Days_countRows_39 (by decide) (fun c14 => ?_) (fun c14 => ?_)
      · refine j_iinc (pc := 107) C (v := nI (a + 1)) (lv' := [(5, .int (nI (a + 1))), (0, .ref (ad 0)), (1, .ref h), (2, .int (nI (q + 1))), (3, .int rs), (4, .int la)]) d_Days_countRows_107 5 rfl (nI_1 _) (by decide) rfl ?_
        refine j_goto (pc := 110) C (tgt := 17) d_Days_countRows_110 (by decide) ?_
        refine j_locs (lv' := [(0, .ref (ad 0)), (1, .ref h), (2, .int (nI (q + 1))), (3, .int rs), (4, .int la), (5, .int (nI (a + 1)))]) [1, 2, 3, 4, 5, 0] rfl ?_
        exact ih (a + 1) _ _ _ _ (by omega)
      · refine j_aload_n (pc := 42) C d_Days_countRows_42 rfl 0 rfl ?_
        refine j_aload_n (pc := 43) C d_Days_countRows_43 rfl 1 rfl ?_
        refine j_iload (pc := 44) C d_Days_countRows_44 5 rfl ?_
        refine j_callSv (pc := 46) C (c_doAct l D y ad d n4 h sa sd sw sl f0 (nI a) h4 b4 hJ hV) kw_Days_47 ks_Days_doAct ⟨by decide, by decide⟩ ⟨by decide, by decide⟩ (wr := []) [0, 1, 2, 3, 4, 5] [] rfl rfl (by decide +kernel) (by decide +kernel) (by decide +kernel) (As := [.ref (ad 0), .ref h, .int (nI a)]) (rest := []) rfl (nb rfl) rfl d_Days_countRows_46 (fun u15 _ => ?_)
        refine j_ws (ws' := [(ad 0, .inr (2, [.int (d.1 0), .int (d.1 1), .int (d.1 2), .int (d.1 3), .ref (ad 1), .int (d.1 4), .ref (ad 11), .ref (ad 12), .ref (ad 2), .ref (ad 3), .int (d.1 5), .int (d.1 6), .int (d.1 7), .int (d.1 8)])), (ad 1, .inr (1, [.int (d.1 9), .ref (ad 4), .ref (ad 5), .ref (ad 6), .ref (ad 7), .ref (ad 8), .ref (ad 9), .ref (ad 10)])), (ad 10, .inl (y 0, 9, .inl (d.2 6))), (ad 12, .inl (y 0, 6, .inl (d.2 8))), (h, .inr (7, [.int sd, .int sw, .int u15.1, .ref (sa 0), .ref (sa 1), .ref (sa 2), .ref (sa 3), .ref (sa 4), .ref (sa 5), .ref (sa 6)])), (sa 0, .inl (y 0, 9, .inl u15.2))]) rfl ?_
        refine j_aload_n (pc := 49) C d_Days_countRows_49 rfl 1 rfl ?_
        refine j_dup (pc := 50) C d_Days_countRows_50 rfl ?_
        refine j_get (pc := 51) C gf_Days_59 4 rfl rfl d_Days_countRows_51 ?_
        refine j_iconst (pc := 54) C (v := 1) d_Days_countRows_54 (by decide) ?_
        refine j_iadd (pc := 55) C (v := sd + 1) d_Days_countRows_55 rfl ?_
        refine j_put (pc := 56) C pf_Days_59 4 (ws' := [(ad 0, .inr (2, [.int (d.1 0), .int (d.1 1), .int (d.1 2), .int (d.1 3), .ref (ad 1), .int (d.1 4), .ref (ad 11), .ref (ad 12), .ref (ad 2), .ref (ad 3), .int (d.1 5), .int (d.1 6), .int (d.1 7), .int (d.1 8)])), (ad 1, .inr (1, [.int (d.1 9), .ref (ad 4), .ref (ad 5), .ref (ad 6), .ref (ad 7), .ref (ad 8), .ref (ad 9), .ref (ad 10)])), (ad 10, .inl (y 0, 9, .inl (d.2 6))), (ad 12, .inl (y 0, 6, .inl (d.2 8))), (h, .inr (7, [.int (sd + 1), .int sw, .int u15.1, .ref (sa 0), .ref (sa 1), .ref (sa 2), .ref (sa 3), .ref (sa 4), .ref (sa 5), .ref (sa 6)])), (sa 0, .inl (y 0, 9, .inl u15.2))]) rfl rfl rfl (nl rfl) rfl d_Days_countRows_56 ?_
        refine j_iload_n (pc := 59) C d_Days_countRows_59 rfl 3 rfl ?_
        refine j_aload_n (pc := 60) C d_Days_countRows_60 rfl 0 rfl ?_
        refine j_aload_n (pc := 61) C d_Days_countRows_61 rfl 1 rfl ?_
        refine j_iload_n (pc := 62) C d_Days_countRows_62 rfl 2 rfl ?_
        refine j_iconst (pc := 63) C (v := 1) d_Days_countRows_63 (by decide) ?_
        refine j_isub (pc := 64) C (v := nI q) d_Days_countRows_64 (nI_pred q) ?_
        refine j_callSi (pc := 65) C (c_countRows_8 l D y ad d n4 h sa (sd + 1) sw u15.1 u15.2 q h4 b4 hJ hV (by omega)) kw_Days_159 ks_Days_countRows ⟨by decide, by decide⟩ ⟨by decide, by decide⟩ (wr := []) [0, 1, 2, 3, 4, 5] [] rfl rfl (by decide +kernel) (by decide +kernel) (by decide +kernel) (As := [.ref (ad 0), .ref h, .int (nI q)]) (rest := [.int rs]) rfl (nb rfl) rfl d_Days_countRows_65 (fun r16 u17 hr16 => ?_)
        refine j_ws (ws' := [(ad 0, .inr (2, [.int (d.1 0), .int (d.1 1), .int (d.1 2), .int (d.1 3), .ref (ad 1), .int (d.1 4), .ref (ad 11), .ref (ad 12), .ref (ad 2), .ref (ad 3), .int (d.1 5), .int (d.1 6), .int (d.1 7), .int (d.1 8)])), (ad 1, .inr (1, [.int (d.1 9), .ref (ad 4), .ref (ad 5), .ref (ad 6), .ref (ad 7), .ref (ad 8), .ref (ad 9), .ref (ad 10)])), (ad 10, .inl (y 0, 9, .inl (d.2 6))), (ad 12, .inl (y 0, 6, .inl (d.2 8))), (h, .inr (7, [.int u17.1, .int sw, .int u17.2.1, .ref (sa 0), .ref (sa 1), .ref (sa 2), .ref (sa 3), .ref (sa 4), .ref (sa 5), .ref (sa 6)])), (sa 0, .inl (y 0, 9, .inl u17.2.2))]) rfl ?_
        refine j_iadd (pc := 68) C (v := rs + r16) d_Days_countRows_68 rfl ?_
        refine j_istore_n (pc := 69) C (lv' := [(3, .int (rs + r16)), (0, .ref (ad 0)), (1, .ref h), (2, .int (nI (q + 1))), (4, .int la), (5, .int (nI a))]) d_Days_countRows_69 rfl (by decide) rfl ?_
        refine j_aload_n (pc := 70) C d_Days_countRows_70 rfl 2 rfl ?_
        refine j_dup (pc := 71) C d_Days_countRows_71 rfl ?_
        refine j_get (pc := 72) C gf_Days_59 4 rfl rfl d_Days_countRows_72 ?_
        refine j_iconst (pc := 75) C (v := 1) d_Days_countRows_75 (by decide) ?_
        refine j_isub (pc := 76) C (v := u17.1 - 1) d_Days_countRows_76 rfl ?_
        refine j_put (pc := 77) C pf_Days_59 4 (ws' := [(ad 0, .inr (2, [.int (d.1 0), .int (d.1 1), .int (d.1 2), .int (d.1 3), .ref (ad 1), .int (d.1 4), .ref (ad 11), .ref (ad 12), .ref (ad 2), .ref (ad 3), .int (d.1 5), .int (d.1 6), .int (d.1 7), .int (d.1 8)])), (ad 1, .inr (1, [.int (d.1 9), .ref (ad 4), .ref (ad 5), .ref (ad 6), .ref (ad 7), .ref (ad 8), .ref (ad 9), .ref (ad 10)])), (ad 10, .inl (y 0, 9, .inl (d.2 6))), (ad 12, .inl (y 0, 6, .inl (d.2 8))), (h, .inr (7, [.int (u17.1 - 1), .int sw, .int u17.2.1, .ref (sa 0), .ref (sa 1), .ref (sa 2), .ref (sa 3), .ref (sa 4), .ref (sa 5), .ref (sa 6)])), (sa 0, .inl (y 0, 9, .inl u17.2.2))]) rfl rfl rfl (nl rfl) rfl d_Days_countRows_77 ?_
        refine j_iload (pc := 80) C d_Days_countRows_80 5 rfl ?_
        refine j_if_eq (pc := 82) C (tgt := 101) d_Days_countRows_82 (by decide) (fun c18 => ?_) (fun c18 => ?_)
        · refine j_aload_n (pc := 101) C d_Days_countRows_101 rfl 2 rfl ?_
          refine j_iload (pc := 102) C d_Days_countRows_102 4 rfl ?_
          refine j_put (pc := 104) C pf_Days_15 4 (ws' := [(ad 0, .inr (2, [.int (d.1 0), .int (d.1 1), .int (d.1 2), .int (d.1 3), .ref (ad 1), .int (d.1 4), .ref (ad 11), .ref (ad 12), .ref (ad 2), .ref (ad 3), .int (d.1 5), .int (d.1 6), .int (d.1 7), .int (d.1 8)])), (ad 1, .inr (1, [.int (d.1 9), .ref (ad 4), .ref (ad 5), .ref (ad 6), .ref (ad 7), .ref (ad 8), .ref (ad 9), .ref (ad 10)])), (ad 10, .inl (y 0, 9, .inl (d.2 6))), (ad 12, .inl (y 0, 6, .inl (d.2 8))), (h, .inr (7, [.int (u17.1 - 1), .int sw, .int la, .ref (sa 0), .ref (sa 1), .ref (sa 2), .ref (sa 3), .ref (sa 4), .ref (sa 5), .ref (sa 6)])), (sa 0, .inl (y 0, 9, .inl u17.2.2))]) rfl rfl rfl (nl rfl) rfl d_Days_countRows_104 ?_
          refine j_iinc (pc := 107) C (v := nI (a + 1)) (lv' := [(5, .int (nI (a + 1))), (3, .int (rs + r16)), (0, .ref (ad 0)), (1, .ref h), (2, .int (nI (q + 1))), (4, .int la)]) d_Days_countRows_107 5 rfl (nI_1 _) (by decide) rfl ?_
          refine j_goto (pc := 110) C (tgt := 17) d_Days_countRows_110 (by decide) ?_
          refine j_locs (lv' := [(0, .ref (ad 0)), (1, .ref h), (2, .int (nI (q + 1))), (3, .int (rs + r16)), (4, .int la), (5, .int (nI (a + 1)))]) [2, 3, 4, 1, 5, 0] rfl ?_
          exact ih (a + 1) _ _ _ _ (by omega)
        · refine j_aload_n (pc := 85) C d_Days_countRows_85 rfl 1 rfl ?_
          refine j_aload_n (pc := 86) C d_Days_countRows_86 rfl 2 rfl ?_
          refine j_iload (pc := 87) C d_Days_countRows_87 5 rfl ?_
          refine j_iconst (pc := 89) C (v := 1) d_Days_countRows_89 (by decide) ?_
          refine j_icmp_ne (pc := 90) C (tgt := 97) d_Days_countRows_90 (by decide) (fun c19 => ?_) (fun c19 => ?_)
          · refine j_iconst (pc := 97) C (v := (-1)) d_Days_countRows_97 (by decide) ?_
            refine j_callSv (pc := 98) C (c_moveBoards l D y ad d n4 h sa (u17.1 - 1) sw u17.2.1 u17.2.2 (-1) h4 b4 hJ hV) kw_Days_106 ks_Days_moveBoards ⟨by decide, by decide⟩ ⟨by decide, by decide⟩ (wr := []) [0, 1, 2, 3, 4, 5] [] rfl rfl (by decide +kernel) (by decide +kernel) (by decide +kernel) (As := [.ref (ad 0), .ref h, .int (-1)]) (rest := []) rfl (nb rfl) rfl d_Days_countRows_98 (fun u20 _ => ?_)
            refine j_ws (ws' := [(ad 0, .inr (2, [.int (d.1 0), .int (d.1 1), .int (d.1 2), .int (d.1 3), .ref (ad 1), .int (d.1 4), .ref (ad 11), .ref (ad 12), .ref (ad 2), .ref (ad 3), .int (d.1 5), .int (d.1 6), .int (d.1 7), .int (d.1 8)])), (ad 1, .inr (1, [.int (d.1 9), .ref (ad 4), .ref (ad 5), .ref (ad 6), .ref (ad 7), .ref (ad 8), .ref (ad 9), .ref (ad 10)])), (ad 10, .inl (y 0, 9, .inl (d.2 6))), (ad 12, .inl (y 0, 6, .inl (d.2 8))), (h, .inr (7, [.int (u17.1 - 1), .int sw, .int u17.2.1, .ref (sa 0), .ref (sa 1), .ref (sa 2), .ref (sa 3), .ref (sa 4), .ref (sa 5), .ref (sa 6)])), (sa 0, .inl (y 0, 9, .inl u20))]) rfl ?_
            refine j_aload_n (pc := 101) C d_Days_countRows_101 rfl 2 rfl ?_
            refine j_iload (pc := 102) C d_Days_countRows_102 4 rfl ?_
            refine j_put (pc := 104) C pf_Days_15 4 (ws' := [(ad 0, .inr (2, [.int (d.1 0), .int (d.1 1), .int (d.1 2), .int (d.1 3), .ref (ad 1), .int (d.1 4), .ref (ad 11), .ref (ad 12), .ref (ad 2), .ref (ad 3), .int (d.1 5), .int (d.1 6), .int (d.1 7), .int (d.1 8)])), (ad 1, .inr (1, [.int (d.1 9), .ref (ad 4), .ref (ad 5), .ref (ad 6), .ref (ad 7), .ref (ad 8), .ref (ad 9), .ref (ad 10)])), (ad 10, .inl (y 0, 9, .inl (d.2 6))), (ad 12, .inl (y 0, 6, .inl (d.2 8))), (h, .inr (7, [.int (u17.1 - 1), .int sw, .int la, .ref (sa 0), .ref (sa 1), .ref (sa 2), .ref (sa 3), .ref (sa 4), .ref (sa 5), .ref (sa 6)])), (sa 0, .inl (y 0, 9, .inl u20))]) rfl rfl rfl (nl rfl) rfl d_Days_countRows_104 ?_
            refine j_iinc (pc := 107) C (v := nI (a + 1)) (lv' := [(5, .int (nI (a + 1))), (3, .int (rs + r16)), (0, .ref (ad 0)), (1, .ref h), (2, .int (nI (q + 1))), (4, .int la)]) d_Days_countRows_107 5 rfl (nI_1 _) (by decide) rfl ?_
            refine j_goto (pc := 110) C (tgt := 17) d_Days_countRows_110 (by decide) ?_
            refine j_locs (lv' := [(0, .ref (ad 0)), (1, .ref h), (2, .int (nI (q + 1))), (3, .int (rs + r16)), (4, .int la), (5, .int (nI (a + 1)))]) [2, 3, 4, 1, 5, 0] rfl ?_
            exact ih (a + 1) _ _ _ _ (by omega)
          · refine j_iconst (pc := 93) C (v := 1) d_Days_countRows_93 (by decide) ?_
            refine j_goto (pc := 94) C (tgt := 98) d_Days_countRows_94 (by decide) ?_
            refine j_callSv (pc := 98) C (c_moveBoards l D y ad d n4 h sa (u17.1 - 1) sw u17.2.1 u17.2.2 1 h4 b4 hJ hV) kw_Days_106 ks_Days_moveBoards ⟨by decide, by decide⟩ ⟨by decide, by decide⟩ (wr := []) [0, 1, 2, 3, 4, 5] [] rfl rfl (by decide +kernel) (by decide +kernel) (by decide +kernel) (As := [.ref (ad 0), .ref h, .int 1]) (rest := []) rfl (nb rfl) rfl d_Days_countRows_98 (fun u21 _ => ?_)
            refine j_ws (ws' := [(ad 0, .inr (2, [.int (d.1 0), .int (d.1 1), .int (d.1 2), .int (d.1 3), .ref (ad 1), .int (d.1 4), .ref (ad 11), .ref (ad 12), .ref (ad 2), .ref (ad 3), .int (d.1 5), .int (d.1 6), .int (d.1 7), .int (d.1 8)])), (ad 1, .inr (1, [.int (d.1 9), .ref (ad 4), .ref (ad 5), .ref (ad 6), .ref (ad 7), .ref (ad 8), .ref (ad 9), .ref (ad 10)])), (ad 10, .inl (y 0, 9, .inl (d.2 6))), (ad 12, .inl (y 0, 6, .inl (d.2 8))), (h, .inr (7, [.int (u17.1 - 1), .int sw, .int u17.2.1, .ref (sa 0), .ref (sa 1), .ref (sa 2), .ref (sa 3), .ref (sa 4), .ref (sa 5), .ref (sa 6)])), (sa 0, .inl (y 0, 9, .inl u21))]) rfl ?_
            refine j_aload_n (pc := 101) C d_Days_countRows_101 rfl 2 rfl ?_
            refine j_iload (pc := 102) C d_Days_countRows_102 4 rfl ?_
            refine j_put (pc := 104) C pf_Days_15 4 (ws' := [(ad 0, .inr (2, [.int (d.1 0), .int (d.1 1), .int (d.1 2), .int (d.1 3), .ref (ad 1), .int (d.1 4), .ref (ad 11), .ref (ad 12), .ref (ad 2), .ref (ad 3), .int (d.1 5), .int (d.1 6), .int (d.1 7), .int (d.1 8)])), (ad 1, .inr (1, [.int (d.1 9), .ref (ad 4), .ref (ad 5), .ref (ad 6), .ref (ad 7), .ref (ad 8), .ref (ad 9), .ref (ad 10)])), (ad 10, .inl (y 0, 9, .inl (d.2 6))), (ad 12, .inl (y 0, 6, .inl (d.2 8))), (h, .inr (7, [.int (u17.1 - 1), .int sw, .int la, .ref (sa 0), .ref (sa 1), .ref (sa 2), .ref (sa 3), .ref (sa 4), .ref (sa 5), .ref (sa 6)])), (sa 0, .inl (y 0, 9, .inl u21))]) rfl rfl rfl (nl rfl) rfl d_Days_countRows_104 ?_
            refine j_iinc (pc := 107) C (v := nI (a + 1)) (lv' := [(5, .int (nI (a + 1))), (3, .int (rs + r16)), (0, .ref (ad 0)), (1, .ref h), (2, .int (nI (q + 1))), (4, .int la)]) d_Days_countRows_107 5 rfl (nI_1 _) (by decide) rfl ?_
            refine j_goto (pc := 110) C (tgt := 17) d_Days_countRows_110 (by decide) ?_
            refine j_locs (lv' := [(0, .ref (ad 0)), (1, .ref h), (2, .int (nI (q + 1))), (3, .int (rs + r16)), (4, .int la), (5, .int (nI (a + 1)))]) [2, 3, 4, 1, 5, 0] rfl ?_
            exact ih (a + 1) _ _ _ _ (by omega)
set_option maxHeartbeats 4000000 in
set_option maxRecDepth 100000 in
theorem c_countRows_9 (l : Launch) (D : va_G) (y : Nat → ClassId) (ad : Nat → Nat) (d : LD) (n4 : Nat) (h : Nat) (sa : Nat → Nat) (sd : Int32) (sw : Int32) (sl : Int32) (f0 : Nat → Int32) (k : Nat) (h4 : d.1 4 = nI n4) (b4 : n4 ≤ 6) (hJ : ∀ j, j < 9 → d.2 6 j = -1 ∨ ∃ q, q < 9 ∧ d.2 6 j = nI q) (hV : ∀ j, j < n4 → ∃ q, q < 9 ∧ d.2 8 j = nI q) (hk : k ≤ 9) : CT l D y ⟨"NineBoards$Days", "countRows", "(LNineBoards$Lake;LNineBoards$State;I)I"⟩ prog_3_method_14_code 6 (some .int) ({ frames := 12, cells := 0, slots := 0, locals := 290 } : Room) [.ref (ad 0), .ref h, .int (nI k)] [(ad 0, .inr (2, [.int (d.1 0), .int (d.1 1), .int (d.1 2), .int (d.1 3), .ref (ad 1), .int (d.1 4), .ref (ad 11), .ref (ad 12), .ref (ad 2), .ref (ad 3), .int (d.1 5), .int (d.1 6), .int (d.1 7), .int (d.1 8)])), (ad 1, .inr (1, [.int (d.1 9), .ref (ad 4), .ref (ad 5), .ref (ad 6), .ref (ad 7), .ref (ad 8), .ref (ad 9), .ref (ad 10)])), (ad 10, .inl (y 0, 9, .inl (d.2 6))), (ad 12, .inl (y 0, 6, .inl (d.2 8))), (h, .inr (7, [.int sd, .int sw, .int sl, .ref (sa 0), .ref (sa 1), .ref (sa 2), .ref (sa 3), .ref (sa 4), .ref (sa 5), .ref (sa 6)])), (sa 0, .inl (y 0, 9, .inl f0))] (QI D [(ad 0, .inr (2, [.int (d.1 0), .int (d.1 1), .int (d.1 2), .int (d.1 3), .ref (ad 1), .int (d.1 4), .ref (ad 11), .ref (ad 12), .ref (ad 2), .ref (ad 3), .int (d.1 5), .int (d.1 6), .int (d.1 7), .int (d.1 8)])), (ad 1, .inr (1, [.int (d.1 9), .ref (ad 4), .ref (ad 5), .ref (ad 6), .ref (ad 7), .ref (ad 8), .ref (ad 9), .ref (ad 10)])), (ad 10, .inl (y 0, 9, .inl (d.2 6))), (ad 12, .inl (y 0, 6, .inl (d.2 8))), (h, .inr (7, [.int sd, .int sw, .int sl, .ref (sa 0), .ref (sa 1), .ref (sa 2), .ref (sa 3), .ref (sa 4), .ref (sa 5), .ref (sa 6)])), (sa 0, .inl (y 0, 9, .inl f0))] (fun (r : Int32) (u : Int32 × Int32 × (Nat → Int32)) => True) (fun u => [(ad 0, .inr (2, [.int (d.1 0), .int (d.1 1), .int (d.1 2), .int (d.1 3), .ref (ad 1), .int (d.1 4), .ref (ad 11), .ref (ad 12), .ref (ad 2), .ref (ad 3), .int (d.1 5), .int (d.1 6), .int (d.1 7), .int (d.1 8)])), (ad 1, .inr (1, [.int (d.1 9), .ref (ad 4), .ref (ad 5), .ref (ad 6), .ref (ad 7), .ref (ad 8), .ref (ad 9), .ref (ad 10)])), (ad 10, .inl (y 0, 9, .inl (d.2 6))), (ad 12, .inl (y 0, 6, .inl (d.2 8))), (h, .inr (7, [.int u.1, .int sw, .int u.2.1, .ref (sa 0), .ref (sa 1), .ref (sa 2), .ref (sa 3), .ref (sa 4), .ref (sa 5), .ref (sa 6)])), (sa 0, .inl (y 0, 9, .inl u.2.2))])) := by
  refine CT.of (by decide) (nb rfl) ?_
  intro p e s m args below meth c C hr
  refine j_lv (lv' := [(0, .ref (ad 0)), (1, .ref h), (2, .int (nI k))]) rfl ?_
  by_cases h0 : k = 0
  · subst h0
    refine j_iload_n (pc := 0) C d_Days_countRows_0 rfl 2 rfl ?_
    refine j_if_gtF (pc := 1) C (tgt := 6) d_Days_countRows_1 (by decide) (by decide) ?_
    refine j_iconst (pc := 4) C (v := 1) d_Days_countRows_4 (by decide) ?_
    exact j_iret (pc := 5) C hr rfl (sd, sl, f0) trivial [0, 1, 2, 3, 4, 5] rfl (by decide) (by decide) (by decide) d_Days_countRows_5
  · obtain ⟨q, rfl⟩ : ∃ q, k = q + 1 := ⟨k - 1, by omega⟩
    refine j_iload_n (pc := 0) C d_Days_countRows_0 rfl 2 rfl ?_
    refine j_if_gtT (pc := 1) C (tgt := 6) d_Days_countRows_1 (by decide) (show nI 0 < nI (q + 1) from nI_lt (by omega) (by omega)) ?_
    refine j_iconst (pc := 6) C (v := 0) d_Days_countRows_6 (by decide) ?_
    refine j_istore_n (pc := 7) C (lv' := [(3, .int 0), (0, .ref (ad 0)), (1, .ref h), (2, .int (nI (q + 1)))]) d_Days_countRows_7 rfl (by decide) rfl ?_
    refine j_aload_n (pc := 8) C d_Days_countRows_8 rfl 2 rfl ?_
    refine j_get (pc := 9) C gf_Days_15 4 rfl rfl d_Days_countRows_9 ?_
    refine j_istore (pc := 12) C (lv' := [(4, .int sl), (3, .int 0), (0, .ref (ad 0)), (1, .ref h), (2, .int (nI (q + 1)))]) d_Days_countRows_12 (by decide) rfl ?_
    refine j_iconst (pc := 14) C (v := 0) d_Days_countRows_14 (by decide) ?_
    refine j_istore (pc := 15) C (lv' := [(5, .int 0), (4, .int sl), (3, .int 0), (0, .ref (ad 0)), (1, .ref h), (2, .int (nI (q + 1)))]) d_Days_countRows_15 (by decide) rfl ?_
    refine j_locs (lv' := [(0, .ref (ad 0)), (1, .ref h), (2, .int (nI (q + 1))), (3, .int 0), (4, .int sl), (5, .int 0)]) [3, 4, 5, 2, 1, 0] rfl ?_
    refine j_lv (lv' := [(0, .ref (ad 0)), (1, .ref h), (2, .int (nI (q + 1))), (3, .int 0), (4, .int sl), (5, .int (nI 0))]) rfl ?_
    refine lp_rows_9 C ad d n4 h sa sw q sl h4 b4 hJ hV hk (fun rs sd sl f0 => ?_) 3 0 _ _ _ _ (by omega)
    refine j_iload_n (pc := 113) C d_Days_countRows_113 rfl 3 rfl ?_
    exact j_iret (pc := 114) C hr rfl (sd, sl, f0) trivial [0, 1, 2, 3, 4, 5] rfl (by decide) (by decide) (by decide) d_Days_countRows_114

set_option maxHeartbeats 4000000 in
set_option maxRecDepth 100000 in
theorem lp_rows_10 {p : Program} {l : Launch} {e : Env} {s : State} {m : MethodId} {args : Array Value} {below : List Frame} {meth : Method} {c : Code} {Q : State → Prop} {D : va_G} {y : Nat → ClassId} {A : Nat → Prop} (C : Cx p s m args meth c D y A prog_3_method_14_code 6 "NineBoards$Days" "countRows") (ad : Nat → Nat) (d : LD) (n4 : Nat) (h : Nat) (sa : Nat → Nat) (sw : Int32) (q : Nat) (la : Int32) (h4 : d.1 4 = nI n4) (b4 : n4 ≤ 6) (hJ : ∀ j, j < 9 → d.2 6 j = -1 ∨ ∃ q, q < 9 ∧ d.2 6 j = nI q) (hV : ∀ j, j < n4 → ∃ q, q < 9 ∧ d.2 8 j = nI q) (hq : q + 1 ≤ 10) (kx : ∀ (rs sd sl : Int32) (f0 : Nat → Int32), J p l e ({ frames := 13, cells := 0, slots := 0, locals := 315 } : Room) s m args below meth c Q D A 6 [(ad 0, .inr (2, [.int (d.1 0), .int (d.1 1), .int (d.1 2), .int (d.1 3), .ref (ad 1), .int (d.1 4), .ref (ad 11), .ref (ad 12), .ref (ad 2), .ref (ad 3), .int (d.1 5), .int (d.1 6), .int (d.1 7), .int (d.1 8)])), (ad 1, .inr (1, [.int (d.1 9), .ref (ad 4), .ref (ad 5), .ref (ad 6), .ref (ad 7), .ref (ad 8), .ref (ad 9), .ref (ad 10)])), (ad 10, .inl (y 0, 9, .inl (d.2 6))), (ad 12, .inl (y 0, 6, .inl (d.2 8))), (h, .inr (7, [.int sd, .int sw, .int sl, .ref (sa 0), .ref (sa 1), .ref (sa 2), .ref (sa 3), .ref (sa 4), .ref (sa 5), .ref (sa 6)])), (sa 0, .inl (y 0, 9, .inl f0))] [(0, .ref (ad 0)), (1, .ref h), (2, .int (nI (q + 1))), (3, .int rs), (4, .int la), (5, .int (nI 3))] 0 0 113 []) : ∀ (n : Nat) (a : Nat) (rs : Int32) (sd : Int32) (sl : Int32) (f0 : Nat → Int32), (a + n = 3) → J p l e ({ frames := 13, cells := 0, slots := 0, locals := 315 } : Room) s m args below meth c Q D A 6 [(ad 0, .inr (2, [.int (d.1 0), .int (d.1 1), .int (d.1 2), .int (d.1 3), .ref (ad 1), .int (d.1 4), .ref (ad 11), .ref (ad 12), .ref (ad 2), .ref (ad 3), .int (d.1 5), .int (d.1 6), .int (d.1 7), .int (d.1 8)])), (ad 1, .inr (1, [.int (d.1 9), .ref (ad 4), .ref (ad 5), .ref (ad 6), .ref (ad 7), .ref (ad 8), .ref (ad 9), .ref (ad 10)])), (ad 10, .inl (y 0, 9, .inl (d.2 6))), (ad 12, .inl (y 0, 6, .inl (d.2 8))), (h, .inr (7, [.int sd, .int sw, .int sl, .ref (sa 0), .ref (sa 1), .ref (sa 2), .ref (sa 3), .ref (sa 4), .ref (sa 5), .ref (sa 6)])), (sa 0, .inl (y 0, 9, .inl f0))] [(0, .ref (ad 0)), (1, .ref h), (2, .int (nI (q + 1))), (3, .int rs), (4, .int la), (5, .int (nI a))] 0 0 17 [] := by
  intro n
  induction n with
  | zero =>
    intro a rs sd sl f0 ha
    obtain rfl : a = 3 := by omega
    refine j_iload (pc := 17) C d_Days_countRows_17 5 rfl ?_
    refine j_iconst (pc := 19) C (v := 3) d_Days_countRows_19 (by decide) ?_
    refine j_icmp_geT (pc := 20) C (tgt := 113) d_Days_countRows_20 (by decide) (by decide) ?_
    exact kx _ _ _ _
  | succ n ih =>
    intro a rs sd sl f0 ha
    refine j_iload (pc := 17) C d_Days_countRows_17 5 rfl ?_
    refine j_iconst (pc := 19) C (v := 3) d_Days_countRows_19 (by decide) ?_
    refine j_icmp_geF (pc := 20) C (tgt := 113) d_Days_countRows_20 (by decide) (show ¬ nI 3 ≤ nI a from nI_ge (by omega) (by decide)) ?_
    refine j_aload_n (pc := 23) C d_Days_countRows_23 rfl 0 rfl ?_
    refine j_aload_n (pc := 24) C d_Days_countRows_24 rfl 1 rfl ?_
    refine j_aload_n (pc := 25) C d_Days_countRows_25 rfl 0 rfl ?_
    refine j_aload_n (pc := 26) C d_Days_countRows_26 rfl 1 rfl ?_
    refine j_get (pc := 27) C gf_Days_59 4 rfl rfl d_Days_countRows_27 ?_
    refine j_callVi (pc := 30) C (c_villageOn l D y ad d n4 sd h4 b4) kw_Days_109 kv_Lake_villageOn 0 2 rfl rfl ⟨by decide, by decide⟩ ⟨by decide, by decide⟩ (wr := [(ad 1, .inr (1, [.int (d.1 9), .ref (ad 4), .ref (ad 5), .ref (ad 6), .ref (ad 7), .ref (ad 8), .ref (ad 9), .ref (ad 10)])), (ad 10, .inl (y 0, 9, .inl (d.2 6))), (ad 12, .inl (y 0, 6, .inl (d.2 8))), (h, .inr (7, [.int sd, .int sw, .int sl, .ref (sa 0), .ref (sa 1), .ref (sa 2), .ref (sa 3), .ref (sa 4), .ref (sa 5), .ref (sa 6)])), (sa 0, .inl (y 0, 9, .inl f0))]) [0] [1, 2, 3, 4, 5] rfl rfl (by decide +kernel) (by decide +kernel) (by decide +kernel) (As := [.int sd]) (rest := [.ref h, .ref (ad 0)]) rfl (nb rfl) rfl d_Days_countRows_30 (fun r1 _ hr1 => ?_)
    refine j_ws (ws' := [(ad 1, .inr (1, [.int (d.1 9), .ref (ad 4), .ref (ad 5), .ref (ad 6), .ref (ad 7), .ref (ad 8), .ref (ad 9), .ref (ad 10)])), (ad 10, .inl (y 0, 9, .inl (d.2 6))), (ad 12, .inl (y 0, 6, .inl (d.2 8))), (h, .inr (7, [.int sd, .int sw, .int sl, .ref (sa 0), .ref (sa 1), .ref (sa 2), .ref (sa 3), .ref (sa 4), .ref (sa 5), .ref (sa 6)])), (sa 0, .inl (y 0, 9, .inl f0)), (ad 0, .inr (2, [.int (d.1 0), .int (d.1 1), .int (d.1 2), .int (d.1 3), .ref (ad 1), .int (d.1 4), .ref (ad 11), .ref (ad 12), .ref (ad 2), .ref (ad 3), .int (d.1 5), .int (d.1 6), .int (d.1 7), .int (d.1 8)]))]) rfl ?_
    rcases hr1 with rfl | ⟨j2, xh3, rfl⟩
    · refine j_iload (pc := 33) C d_Days_countRows_33 5 rfl ?_
      refine j_iconst (pc := 35) C (v := 0) d_Days_countRows_35 (by decide) ?_
      refine j_callSi (pc := 36) C (c_allows l D y ad d n4 h sa sd sw sl f0 (-1) (nI a) 0 h4 b4 hJ hV) kw_Days_43 ks_Days_allows ⟨by decide, by decide⟩ ⟨by decide, by decide⟩ (wr := []) [5, 0, 1, 2, 3, 4] [] rfl rfl (by decide +kernel) (by decide +kernel) (by decide +kernel) (As := [.ref (ad 0), .ref h, .int (-1), .int (nI a), .int 0]) (rest := []) rfl (nb rfl) rfl d_Days_countRows_36 (fun r4 _ hr4 => ?_)
      refine j_ws (ws' := [(ad 0, .inr (2, [.int (d.1 0), .int (d.1 1), .int (d.1 2), .int (d.1 3), .ref (ad 1), .int (d.1 4), .ref (ad 11), .ref (ad 12), .ref (ad 2), .ref (ad 3), .int (d.1 5), .int (d.1 6), .int (d.1 7), .int (d.1 8)])), (ad 1, .inr (1, [.int (d.1 9), .ref (ad 4), .ref (ad 5), .ref (ad 6), .ref (ad 7), .ref (ad 8), .ref (ad 9), .ref (ad 10)])), (ad 10, .inl (y 0, 9, .inl (d.2 6))), (ad 12, .inl (y 0, 6, .inl (d.2 8))), (h, .inr (7, [.int sd, .int sw, .int sl, .ref (sa 0), .ref (sa 1), .ref (sa 2), .ref (sa 3), .ref (sa 4), .ref (sa 5), .ref (sa 6)])), (sa 0, .inl (y 0, 9, .inl f0))]) rfl ?_
      refine j_if_eq (pc := 39) C (tgt := 107) d_Days_countRows_39 (by decide) (fun c5 => ?_) (fun c5 => ?_)
      · refine j_iinc (pc := 107) C (v := nI (a + 1)) (lv' := [(5, .int (nI (a + 1))), (0, .ref (ad 0)), (1, .ref h), (2, .int (nI (q + 1))), (3, .int rs), (4, .int la)]) d_Days_countRows_107 5 rfl (nI_1 _) (by decide) rfl ?_
        refine j_goto (pc := 110) C (tgt := 17) d_Days_countRows_110 (by decide) ?_
        refine j_locs (lv' := [(0, .ref (ad 0)), (1, .ref h), (2, .int (nI (q + 1))), (3, .int rs), (4, .int la), (5, .int (nI (a + 1)))]) [1, 2, 3, 4, 5, 0] rfl ?_
        exact ih (a + 1) _ _ _ _ (by omega)
      · refine j_aload_n (pc := 42) C d_Days_countRows_42 rfl 0 rfl ?_
        refine j_aload_n (pc := 43) C d_Days_countRows_43 rfl 1 rfl ?_
        refine j_iload (pc := 44) C d_Days_countRows_44 5 rfl ?_
        refine j_callSv (pc := 46) C (c_doAct l D y ad d n4 h sa sd sw sl f0 (nI a) h4 b4 hJ hV) kw_Days_47 ks_Days_doAct ⟨by decide, by decide⟩ ⟨by decide, by decide⟩ (wr := []) [0, 1, 2, 3, 4, 5] [] rfl rfl (by decide +kernel) (by decide +kernel) (by decide +kernel) (As := [.ref (ad 0), .ref h, .int (nI a)]) (rest := []) rfl (nb rfl) rfl d_Days_countRows_46 (fun u6 _ => ?_)
        refine j_ws (ws' := [(ad 0, .inr (2, [.int (d.1 0), .int (d.1 1), .int (d.1 2), .int (d.1 3), .ref (ad 1), .int (d.1 4), .ref (ad 11), .ref (ad 12), .ref (ad 2), .ref (ad 3), .int (d.1 5), .int (d.1 6), .int (d.1 7), .int (d.1 8)])), (ad 1, .inr (1, [.int (d.1 9), .ref (ad 4), .ref (ad 5), .ref (ad 6), .ref (ad 7), .ref (ad 8), .ref (ad 9), .ref (ad 10)])), (ad 10, .inl (y 0, 9, .inl (d.2 6))), (ad 12, .inl (y 0, 6, .inl (d.2 8))), (h, .inr (7, [.int sd, .int sw, .int u6.1, .ref (sa 0), .ref (sa 1), .ref (sa 2), .ref (sa 3), .ref (sa 4), .ref (sa 5), .ref (sa 6)])), (sa 0, .inl (y 0, 9, .inl u6.2))]) rfl ?_
        refine j_aload_n (pc := 49) C d_Days_countRows_49 rfl 1 rfl ?_
        refine j_dup (pc := 50) C d_Days_countRows_50 rfl ?_
        refine j_get (pc := 51) C gf_Days_59 4 rfl rfl d_Days_countRows_51 ?_
        refine j_iconst (pc := 54) C (v := 1) d_Days_countRows_54 (by decide) ?_
        refine j_iadd (pc := 55) C (v := sd + 1) d_Days_countRows_55 rfl ?_
        refine j_put (pc := 56) C pf_Days_59 4 (ws' := [(ad 0, .inr (2, [.int (d.1 0), .int (d.1 1), .int (d.1 2), .int (d.1 3), .ref (ad 1), .int (d.1 4), .ref (ad 11), .ref (ad 12), .ref (ad 2), .ref (ad 3), .int (d.1 5), .int (d.1 6), .int (d.1 7), .int (d.1 8)])), (ad 1, .inr (1, [.int (d.1 9), .ref (ad 4), .ref (ad 5), .ref (ad 6), .ref (ad 7), .ref (ad 8), .ref (ad 9), .ref (ad 10)])), (ad 10, .inl (y 0, 9, .inl (d.2 6))), (ad 12, .inl (y 0, 6, .inl (d.2 8))), (h, .inr (7, [.int (sd + 1), .int sw, .int u6.1, .ref (sa 0), .ref (sa 1), .ref (sa 2), .ref (sa 3), .ref (sa 4), .ref (sa 5), .ref (sa 6)])), (sa 0, .inl (y 0, 9, .inl u6.2))]) rfl rfl rfl (nl rfl) rfl d_Days_countRows_56 ?_
        refine j_iload_n (pc := 59) C d_Days_countRows_59 rfl 3 rfl ?_
        refine j_aload_n (pc := 60) C d_Days_countRows_60 rfl 0 rfl ?_
        refine j_aload_n (pc := 61) C d_Days_countRows_61 rfl 1 rfl ?_
        refine j_iload_n (pc := 62) C d_Days_countRows_62 rfl 2 rfl ?_
        refine j_iconst (pc := 63) C (v := 1) d_Days_countRows_63 (by decide) ?_
        refine j_isub (pc := 64) C (v := nI q) d_Days_countRows_64 (nI_pred q) ?_
        refine j_callSi (pc := 65) C (c_countRows_9 l D y ad d n4 h sa (sd + 1) sw u6.1 u6.2 q h4 b4 hJ hV (by omega)) kw_Days_159 ks_Days_countRows ⟨by decide, by decide⟩ ⟨by decide, by decide⟩ (wr := []) [0, 1, 2, 3, 4, 5] [] rfl rfl (by decide +kernel) (by decide +kernel) (by decide +kernel) (As := [.ref (ad 0), .ref h, .int (nI q)]) (rest := [.int rs]) rfl (nb rfl) rfl d_Days_countRows_65 (fun r7 u8 hr7 => ?_)
        refine j_ws (ws' := [(ad 0, .inr (2, [.int (d.1 0), .int (d.1 1), .int (d.1 2), .int (d.1 3), .ref (ad 1), .int (d.1 4), .ref (ad 11), .ref (ad 12), .ref (ad 2), .ref (ad 3), .int (d.1 5), .int (d.1 6), .int (d.1 7), .int (d.1 8)])), (ad 1, .inr (1, [.int (d.1 9), .ref (ad 4), .ref (ad 5), .ref (ad 6), .ref (ad 7), .ref (ad 8), .ref (ad 9), .ref (ad 10)])), (ad 10, .inl (y 0, 9, .inl (d.2 6))), (ad 12, .inl (y 0, 6, .inl (d.2 8))), (h, .inr (7, [.int u8.1, .int sw, .int u8.2.1, .ref (sa 0), .ref (sa 1), .ref (sa 2), .ref (sa 3), .ref (sa 4), .ref (sa 5), .ref (sa 6)])), (sa 0, .inl (y 0, 9, .inl u8.2.2))]) rfl ?_
        refine j_iadd (pc := 68) C (v := rs + r7) d_Days_countRows_68 rfl ?_
        refine j_istore_n (pc := 69) C (lv' := [(3, .int (rs + r7)), (0, .ref (ad 0)), (1, .ref h), (2, .int (nI (q + 1))), (4, .int la), (5, .int (nI a))]) d_Days_countRows_69 rfl (by decide) rfl ?_
        refine j_aload_n (pc := 70) C d_Days_countRows_70 rfl 2 rfl ?_
        refine j_dup (pc := 71) C d_Days_countRows_71 rfl ?_
        refine j_get (pc := 72) C gf_Days_59 4 rfl rfl d_Days_countRows_72 ?_
        refine j_iconst (pc := 75) C (v := 1) d_Days_countRows_75 (by decide) ?_
        refine j_isub (pc := 76) C (v := u8.1 - 1) d_Days_countRows_76 rfl ?_
        refine j_put (pc := 77) C pf_Days_59 4 (ws' := [(ad 0, .inr (2, [.int (d.1 0), .int (d.1 1), .int (d.1 2), .int (d.1 3), .ref (ad 1), .int (d.1 4), .ref (ad 11), .ref (ad 12), .ref (ad 2), .ref (ad 3), .int (d.1 5), .int (d.1 6), .int (d.1 7), .int (d.1 8)])), (ad 1, .inr (1, [.int (d.1 9), .ref (ad 4), .ref (ad 5), .ref (ad 6), .ref (ad 7), .ref (ad 8), .ref (ad 9), .ref (ad 10)])), (ad 10, .inl (y 0, 9, .inl (d.2 6))), (ad 12, .inl (y 0, 6, .inl (d.2 8))), (h, .inr (7, [.int (u8.1 - 1), .int sw, .int u8.2.1, .ref (sa 0), .ref (sa 1), .ref (sa 2), .ref (sa 3), .ref (sa 4), .ref (sa 5), .ref (sa 6)])), (sa 0, .inl (y 0, 9, .inl u8.2.2))]) rfl rfl rfl (nl rfl) rfl d_Days_countRows_77 ?_
        refine j_iload (pc := 80) C d_Days_countRows_80 5 rfl ?_
        refine j_if_eq (pc := 82) C (tgt := 101) d_Days_countRows_82 (by decide) (fun c9 => ?_) (fun c9 => ?_)
        · refine j_aload_n (pc := 101) C d_Days_countRows_101 rfl 2 rfl ?_
          refine j_iload (pc := 102) C d_Days_countRows_102 4 rfl ?_
          refine j_put (pc := 104) C pf_Days_15 4 (ws' := [(ad 0, .inr (2, [.int (d.1 0), .int (d.1 1), .int (d.1 2), .int (d.1 3), .ref (ad 1), .int (d.1 4), .ref (ad 11), .ref (ad 12), .ref (ad 2), .ref (ad 3), .int (d.1 5), .int (d.1 6), .int (d.1 7), .int (d.1 8)])), (ad 1, .inr (1, [.int (d.1 9), .ref (ad 4), .ref (ad 5), .ref (ad 6), .ref (ad 7), .ref (ad 8), .ref (ad 9), .ref (ad 10)])), (ad 10, .inl (y 0, 9, .inl (d.2 6))), (ad 12, .inl (y 0, 6, .inl (d.2 8))), (h, .inr (7, [.int (u8.1 - 1), .int sw, .int la, .ref (sa 0), .ref (sa 1), .ref (sa 2), .ref (sa 3), .ref (sa 4), .ref (sa 5), .ref (sa 6)])), (sa 0, .inl (y 0, 9, .inl u8.2.2))]) rfl rfl rfl (nl rfl) rfl d_Days_countRows_104 ?_
          refine j_iinc (pc := 107) C (v := nI (a + 1)) (lv' := [(5, .int (nI (a + 1))), (3, .int (rs + r7)), (0, .ref (ad 0)), (1, .ref h), (2, .int (nI (q + 1))), (4, .int la)]) d_Days_countRows_107 5 rfl (nI_1 _) (by decide) rfl ?_
          refine j_goto (pc := 110) C (tgt := 17) d_Days_countRows_110 (by decide) ?_
          refine j_locs (lv' := [(0, .ref (ad 0)), (1, .ref h), (2, .int (nI (q + 1))), (3, .int (rs + r7)), (4, .int la), (5, .int (nI (a + 1)))]) [2, 3, 4, 1, 5, 0] rfl ?_
          exact ih (a + 1) _ _ _ _ (by omega)
        · refine j_aload_n (pc := 85) C d_Days_countRows_85 rfl 1 rfl ?_
          refine j_aload_n (pc := 86) C d_Days_countRows_86 rfl 2 rfl ?_
          refine j_iload (pc := 87) C d_Days_countRows_87 5 rfl ?_
          refine j_iconst (pc := 89) C (v := 1) d_Days_countRows_89 (by decide) ?_
          refine j_icmp_ne (pc := 90) C (tgt := 97) d_Days_countRows_90 (by decide) (fun c10 => ?_) (fun c10 => ?_)
          · refine j_iconst (pc := 97) C (v := (-1)) d_Days_countRows_97 (by decide) ?_
            refine j_callSv (pc := 98) C (c_moveBoards l D y ad d n4 h sa (u8.1 - 1) sw u8.2.1 u8.2.2 (-1) h4 b4 hJ hV) kw_Days_106 ks_Days_moveBoards ⟨by decide, by decide⟩ ⟨by decide, by decide⟩ (wr := []) [0, 1, 2, 3, 4, 5] [] rfl rfl (by decide +kernel) (by decide +kernel) (by decide +kernel) (As := [.ref (ad 0), .ref h, .int (-1)]) (rest := []) rfl (nb rfl) rfl d_Days_countRows_98 (fun u11 _ => ?_)
            refine j_ws (ws' := [(ad 0, .inr (2, [.int (d.1 0), .int (d.1 1), .int (d.1 2), .int (d.1 3), .ref (ad 1), .int (d.1 4), .ref (ad 11), .ref (ad 12), .ref (ad 2), .ref (ad 3), .int (d.1 5), .int (d.1 6), .int (d.1 7), .int (d.1 8)])), (ad 1, .inr (1, [.int (d.1 9), .ref (ad 4), .ref (ad 5), .ref (ad 6), .ref (ad 7), .ref (ad 8), .ref (ad 9), .ref (ad 10)])), (ad 10, .inl (y 0, 9, .inl (d.2 6))), (ad 12, .inl (y 0, 6, .inl (d.2 8))), (h, .inr (7, [.int (u8.1 - 1), .int sw, .int u8.2.1, .ref (sa 0), .ref (sa 1), .ref (sa 2), .ref (sa 3), .ref (sa 4), .ref (sa 5), .ref (sa 6)])), (sa 0, .inl (y 0, 9, .inl u11))]) rfl ?_
            refine j_aload_n (pc := 101) C d_Days_countRows_101 rfl 2 rfl ?_
            refine j_iload (pc := 102) C d_Days_countRows_102 4 rfl ?_
            refine j_put (pc := 104) C pf_Days_15 4 (ws' := [(ad 0, .inr (2, [.int (d.1 0), .int (d.1 1), .int (d.1 2), .int (d.1 3), .ref (ad 1), .int (d.1 4), .ref (ad 11), .ref (ad 12), .ref (ad 2), .ref (ad 3), .int (d.1 5), .int (d.1 6), .int (d.1 7), .int (d.1 8)])), (ad 1, .inr (1, [.int (d.1 9), .ref (ad 4), .ref (ad 5), .ref (ad 6), .ref (ad 7), .ref (ad 8), .ref (ad 9), .ref (ad 10)])), (ad 10, .inl (y 0, 9, .inl (d.2 6))), (ad 12, .inl (y 0, 6, .inl (d.2 8))), (h, .inr (7, [.int (u8.1 - 1), .int sw, .int la, .ref (sa 0), .ref (sa 1), .ref (sa 2), .ref (sa 3), .ref (sa 4), .ref (sa 5), .ref (sa 6)])), (sa 0, .inl (y 0, 9, .inl u11))]) rfl rfl rfl (nl rfl) rfl d_Days_countRows_104 ?_
            refine j_iinc (pc := 107) C (v := nI (a + 1)) (lv' := [(5, .int (nI (a + 1))), (3, .int (rs + r7)), (0, .ref (ad 0)), (1, .ref h), (2, .int (nI (q + 1))), (4, .int la)]) d_Days_countRows_107 5 rfl (nI_1 _) (by decide) rfl ?_
            refine j_goto (pc := 110) C (tgt := 17) d_Days_countRows_110 (by decide) ?_
            refine j_locs (lv' := [(0, .ref (ad 0)), (1, .ref h), (2, .int (nI (q + 1))), (3, .int (rs + r7)), (4, .int la), (5, .int (nI (a + 1)))]) [2, 3, 4, 1, 5, 0] rfl ?_
            exact ih (a + 1) _ _ _ _ (by omega)
          · refine j_iconst (pc := 93) C (v := 1) d_Days_countRows_93 (by decide) ?_
            refine j_goto (pc := 94) C (tgt := 98) d_Days_countRows_94 (by decide) ?_
            refine j_callSv (pc := 98) C (c_moveBoards l D y ad d n4 h sa (u8.1 - 1) sw u8.2.1 u8.2.2 1 h4 b4 hJ hV) kw_Days_106 ks_Days_moveBoards ⟨by decide, by decide⟩ ⟨by decide, by decide⟩ (wr := []) [0, 1, 2, 3, 4, 5] [] rfl rfl (by decide +kernel) (by decide +kernel) (by decide +kernel) (As := [.ref (ad 0), .ref h, .int 1]) (rest := []) rfl (nb rfl) rfl d_Days_countRows_98 (fun u12 _ => ?_)
            refine j_ws (ws' := [(ad 0, .inr (2, [.int (d.1 0), .int (d.1 1), .int (d.1 2), .int (d.1 3), .ref (ad 1), .int (d.1 4), .ref (ad 11), .ref (ad 12), .ref (ad 2), .ref (ad 3), .int (d.1 5), .int (d.1 6), .int (d.1 7), .int (d.1 8)])), (ad 1, .inr (1, [.int (d.1 9), .ref (ad 4), .ref (ad 5), .ref (ad 6), .ref (ad 7), .ref (ad 8), .ref (ad 9), .ref (ad 10)])), (ad 10, .inl (y 0, 9, .inl (d.2 6))), (ad 12, .inl (y 0, 6, .inl (d.2 8))), (h, .inr (7, [.int (u8.1 - 1), .int sw, .int u8.2.1, .ref (sa 0), .ref (sa 1), .ref (sa 2), .ref (sa 3), .ref (sa 4), .ref (sa 5), .ref (sa 6)])), (sa 0, .inl (y 0, 9, .inl u12))]) rfl ?_
            refine j_aload_n (pc := 101) C d_Days_countRows_101 rfl 2 rfl ?_
            refine j_iload (pc := 102) C d_Days_countRows_102 4 rfl ?_
            refine j_put (pc := 104) C pf_Days_15 4 (ws' := [(ad 0, .inr (2, [.int (d.1 0), .int (d.1 1), .int (d.1 2), .int (d.1 3), .ref (ad 1), .int (d.1 4), .ref (ad 11), .ref (ad 12), .ref (ad 2), .ref (ad 3), .int (d.1 5), .int (d.1 6), .int (d.1 7), .int (d.1 8)])), (ad 1, .inr (1, [.int (d.1 9), .ref (ad 4), .ref (ad 5), .ref (ad 6), .ref (ad 7), .ref (ad 8), .ref (ad 9), .ref (ad 10)])), (ad 10, .inl (y 0, 9, .inl (d.2 6))), (ad 12, .inl (y 0, 6, .inl (d.2 8))), (h, .inr (7, [.int (u8.1 - 1), .int sw, .int la, .ref (sa 0), .ref (sa 1), .ref (sa 2), .ref (sa 3), .ref (sa 4), .ref (sa 5), .ref (sa 6)])), (sa 0, .inl (y 0, 9, .inl u12))]) rfl rfl rfl (nl rfl) rfl d_Days_countRows_104 ?_
            refine j_iinc (pc := 107) C (v := nI (a + 1)) (lv' := [(5, .int (nI (a + 1))), (3, .int (rs + r7)), (0, .ref (ad 0)), (1, .ref h), (2, .int (nI (q + 1))), (4, .int la)]) d_Days_countRows_107 5 rfl (nI_1 _) (by decide) rfl ?_
            refine j_goto (pc := 110) C (tgt := 17) d_Days_countRows_110 (by decide) ?_
            refine j_locs (lv' := [(0, .ref (ad 0)), (1, .ref h), (2, .int (nI (q + 1))), (3, .int (rs + r7)), (4, .int la), (5, .int (nI (a + 1)))]) [2, 3, 4, 1, 5, 0] rfl ?_
            exact ih (a + 1) _ _ _ _ (by omega)
    · refine j_iload (pc := 33) C d_Days_countRows_33 5 rfl ?_
      refine j_iconst (pc := 35) C (v := 0) d_Days_countRows_35 (by decide) ?_
      refine j_callSi (pc := 36) C (c_allows l D y ad d n4 h sa sd sw sl f0 (nI j2) (nI a) 0 h4 b4 hJ hV) kw_Days_43 ks_Days_allows ⟨by decide, by decide⟩ ⟨by decide, by decide⟩ (wr := []) [5, 0, 1, 2, 3, 4] [] rfl rfl (by decide +kernel) (by decide +kernel) (by decide +kernel) (As := [.ref (ad 0), .ref h, .int (nI j2), .int (nI a), .int 0]) (rest := []) rfl (nb rfl) rfl d_Days_countRows_36 (fun r13 _ hr13 => ?_)
      refine j_ws (ws' := [(ad 0, .inr (2, [.int (d.1 0), .int (d.1 1), .int (d.1 2), .int (d.1 3), .ref (ad 1), .int (d.1 4), .ref (ad 11), .ref (ad 12), .ref (ad 2), .ref (ad 3), .int (d.1 5), .int (d.1 6), .int (d.1 7), .int (d.1 8)])), (ad 1, .inr (1, [.int (d.1 9), .ref (ad 4), .ref (ad 5), .ref (ad 6), .ref (ad 7), .ref (ad 8), .ref (ad 9), .ref (ad 10)])), (ad 10, .inl (y 0, 9, .inl (d.2 6))), (ad 12, .inl (y 0, 6, .inl (d.2 8))), (h, .inr (7, [.int sd, .int sw, .int sl, .ref (sa 0), .ref (sa 1), .ref (sa 2), .ref (sa 3), .ref (sa 4), .ref (sa 5), .ref (sa 6)])), (sa 0, .inl (y 0, 9, .inl f0))]) rfl ?_
      refine j_if_eq (pc := 39) C (tgt := 107) d_Days_countRows_39 (by decide) (fun c14 => ?_) (fun c14 => ?_)
      · refine j_iinc (pc := 107) C (v := nI (a + 1)) (lv' := [(5, .int (nI (a + 1))), (0, .ref (ad 0)), (1, .ref h), (2, .int (nI (q + 1))), (3, .int rs), (4, .int la)]) d_Days_countRows_107 5 rfl (nI_1 _) (by decide) rfl ?_
        refine j_goto (pc := 110) C (tgt := 17) d_Days_countRows_110 (by decide) ?_
        refine j_locs (lv' := [(0, .ref (ad 0)), (1, .ref h), (2, .int (nI (q + 1))), (3, .int rs), (4, .int la), (5, .int (nI (a + 1)))]) [1, 2, 3, 4, 5, 0] rfl ?_
        exact ih (a + 1) _ _ _ _ (by omega)
      · refine j_aload_n (pc := 42) C d_Days_countRows_42 rfl 0 rfl ?_
        refine j_aload_n (pc := 43) C d_Days_countRows_43 rfl 1 rfl ?_
        refine j_iload (pc := 44) C d_Days_countRows_44 5 rfl ?_
        refine j_callSv (pc := 46) C (c_doAct l D y ad d n4 h sa sd sw sl f0 (nI a) h4 b4 hJ hV) kw_Days_47 ks_Days_doAct ⟨by decide, by decide⟩ ⟨by decide, by decide⟩ (wr := []) [0, 1, 2, 3, 4, 5] [] rfl rfl (by decide +kernel) (by decide +kernel) (by decide +kernel) (As := [.ref (ad 0), .ref h, .int (nI a)]) (rest := []) rfl (nb rfl) rfl d_Days_countRows_46 (fun u15 _ => ?_)
        refine j_ws (ws' := [(ad 0, .inr (2, [.int (d.1 0), .int (d.1 1), .int (d.1 2), .int (d.1 3), .ref (ad 1), .int (d.1 4), .ref (ad 11), .ref (ad 12), .ref (ad 2), .ref (ad 3), .int (d.1 5), .int (d.1 6), .int (d.1 7), .int (d.1 8)])), (ad 1, .inr (1, [.int (d.1 9), .ref (ad 4), .ref (ad 5), .ref (ad 6), .ref (ad 7), .ref (ad 8), .ref (ad 9), .ref (ad 10)])), (ad 10, .inl (y 0, 9, .inl (d.2 6))), (ad 12, .inl (y 0, 6, .inl (d.2 8))), (h, .inr (7, [.int sd, .int sw, .int u15.1, .ref (sa 0), .ref (sa 1), .ref (sa 2), .ref (sa 3), .ref (sa 4), .ref (sa 5), .ref (sa 6)])), (sa 0, .inl (y 0, 9, .inl u15.2))]) rfl ?_
        refine j_aload_n (pc := 49) C d_Days_countRows_49 rfl 1 rfl ?_
        refine j_dup (pc := 50) C d_Days_countRows_50 rfl ?_
        refine j_get (pc := 51) C gf_Days_59 4 rfl rfl d_Days_countRows_51 ?_
        refine j_iconst (pc := 54) C (v := 1) d_Days_countRows_54 (by decide) ?_
        refine j_iadd (pc := 55) C (v := sd + 1) d_Days_countRows_55 rfl ?_
        refine j_put (pc := 56) C pf_Days_59 4 (ws' := [(ad 0, .inr (2, [.int (d.1 0), .int (d.1 1), .int (d.1 2), .int (d.1 3), .ref (ad 1), .int (d.1 4), .ref (ad 11), .ref (ad 12), .ref (ad 2), .ref (ad 3), .int (d.1 5), .int (d.1 6), .int (d.1 7), .int (d.1 8)])), (ad 1, .inr (1, [.int (d.1 9), .ref (ad 4), .ref (ad 5), .ref (ad 6), .ref (ad 7), .ref (ad 8), .ref (ad 9), .ref (ad 10)])), (ad 10, .inl (y 0, 9, .inl (d.2 6))), (ad 12, .inl (y 0, 6, .inl (d.2 8))), (h, .inr (7, [.int (sd + 1), .int sw, .int u15.1, .ref (sa 0), .ref (sa 1), .ref (sa 2), .ref (sa 3), .ref (sa 4), .ref (sa 5), .ref (sa 6)])), (sa 0, .inl (y 0, 9, .inl u15.2))]) rfl rfl rfl (nl rfl) rfl d_Days_countRows_56 ?_
        refine j_iload_n (pc := 59) C d_Days_countRows_59 rfl 3 rfl ?_
        refine j_aload_n (pc := 60) C d_Days_countRows_60 rfl 0 rfl ?_
        refine j_aload_n (pc := 61) C d_Days_countRows_61 rfl 1 rfl ?_
        refine j_iload_n (pc := 62) C d_Days_countRows_62 rfl 2 rfl ?_
        refine j_iconst (pc := 63) C (v := 1) d_Days_countRows_63 (by decide) ?_
        refine j_isub (pc := 64) C (v := nI q) d_Days_countRows_64 (nI_pred q) ?_
        refine j_callSi (pc := 65) C (c_countRows_9 l D y ad d n4 h sa (sd + 1) sw u15.1 u15.2 q h4 b4 hJ hV (by omega)) kw_Days_159 ks_Days_countRows ⟨by decide, by decide⟩ ⟨by decide, by decide⟩ (wr := []) [0, 1, 2, 3, 4, 5] [] rfl rfl (by decide +kernel) (by decide +kernel) (by decide +kernel) (As := [.ref (ad 0), .ref h, .int (nI q)]) (rest := [.int rs]) rfl (nb rfl) rfl d_Days_countRows_65 (fun r16 u17 hr16 => ?_)
        refine j_ws (ws' := [(ad 0, .inr (2, [.int (d.1 0), .int (d.1 1), .int (d.1 2), .int (d.1 3), .ref (ad 1), .int (d.1 4), .ref (ad 11), .ref (ad 12), .ref (ad 2), .ref (ad 3), .int (d.1 5), .int (d.1 6), .int (d.1 7), .int (d.1 8)])), (ad 1, .inr (1, [.int (d.1 9), .ref (ad 4), .ref (ad 5), .ref (ad 6), .ref (ad 7), .ref (ad 8), .ref (ad 9), .ref (ad 10)])), (ad 10, .inl (y 0, 9, .inl (d.2 6))), (ad 12, .inl (y 0, 6, .inl (d.2 8))), (h, .inr (7, [.int u17.1, .int sw, .int u17.2.1, .ref (sa 0), .ref (sa 1), .ref (sa 2), .ref (sa 3), .ref (sa 4), .ref (sa 5), .ref (sa 6)])), (sa 0, .inl (y 0, 9, .inl u17.2.2))]) rfl ?_
        refine j_iadd (pc := 68) C (v := rs + r16) d_Days_countRows_68 rfl ?_
        refine j_istore_n (pc := 69) C (lv' := [(3, .int (rs + r16)), (0, .ref (ad 0)), (1, .ref h), (2, .int (nI (q + 1))), (4, .int la), (5, .int (nI a))]) d_Days_countRows_69 rfl (by decide) rfl ?_
        refine j_aload_n (pc := 70) C d_Days_countRows_70 rfl 2 rfl ?_
        refine j_dup (pc := 71) C d_Days_countRows_71 rfl ?_
        refine j_get (pc := 72) C gf_Days_59 4 rfl rfl d_Days_countRows_72 ?_
        refine j_iconst (pc := 75) C (v := 1) d_Days_countRows_75 (by decide) ?_
        refine j_isub (pc := 76) C (v := u17.1 - 1) d_Days_countRows_76 rfl ?_
        refine j_put (pc := 77) C pf_Days_59 4 (ws' := [(ad 0, .inr (2, [.int (d.1 0), .int (d.1 1), .int (d.1 2), .int (d.1 3), .ref (ad 1), .int (d.1 4), .ref (ad 11), .ref (ad 12), .ref (ad 2), .ref (ad 3), .int (d.1 5), .int (d.1 6), .int (d.1 7), .int (d.1 8)])), (ad 1, .inr (1, [.int (d.1 9), .ref (ad 4), .ref (ad 5), .ref (ad 6), .ref (ad 7), .ref (ad 8), .ref (ad 9), .ref (ad 10)])), (ad 10, .inl (y 0, 9, .inl (d.2 6))), (ad 12, .inl (y 0, 6, .inl (d.2 8))), (h, .inr (7, [.int (u17.1 - 1), .int sw, .int u17.2.1, .ref (sa 0), .ref (sa 1), .ref (sa 2), .ref (sa 3), .ref (sa 4), .ref (sa 5), .ref (sa 6)])), (sa 0, .inl (y 0, 9, .inl u17.2.2))]) rfl rfl rfl (nl rfl) rfl d_Days_countRows_77 ?_
        refine j_iload (pc := 80) C d_Days_countRows_80 5 rfl ?_
        refine j_if_eq (pc := 82) C (tgt := 101) d_Days_countRows_82 (by decide) (fun c18 => ?_) (fun c18 => ?_)
        · refine j_aload_n (pc := 101) C d_Days_countRows_101 rfl 2 rfl ?_
          refine j_iload (pc := 102) C d_Days_countRows_102 4 rfl ?_
          refine j_put (pc := 104) C pf_Days_15 4 (ws' := [(ad 0, .inr (2, [.int (d.1 0), .int (d.1 1), .int (d.1 2), .int (d.1 3), .ref (ad 1), .int (d.1 4), .ref (ad 11), .ref (ad 12), .ref (ad 2), .ref (ad 3), .int (d.1 5), .int (d.1 6), .int (d.1 7), .int (d.1 8)])), (ad 1, .inr (1, [.int (d.1 9), .ref (ad 4), .ref (ad 5), .ref (ad 6), .ref (ad 7), .ref (ad 8), .ref (ad 9), .ref (ad 10)])), (ad 10, .inl (y 0, 9, .inl (d.2 6))), (ad 12, .inl (y 0, 6, .inl (d.2 8))), (h, .inr (7, [.int (u17.1 - 1), .int sw, .int la, .ref (sa 0), .ref (sa 1), .ref (sa 2), .ref (sa 3), .ref (sa 4), .ref (sa 5), .ref (sa 6)])), (sa 0, .inl (y 0, 9, .inl u17.2.2))]) rfl rfl rfl (nl rfl) rfl d_Days_countRows_104 ?_
          refine j_iinc (pc := 107) C (v := nI (a + 1)) (lv' := [(5, .int (nI (a + 1))), (3, .int (rs + r16)), (0, .ref (ad 0)), (1, .ref h), (2, .int (nI (q + 1))), (4, .int la)]) d_Days_countRows_107 5 rfl (nI_1 _) (by decide) rfl ?_
          refine j_goto (pc := 110) C (tgt := 17) d_Days_countRows_110 (by decide) ?_
          refine j_locs (lv' := [(0, .ref (ad 0)), (1, .ref h), (2, .int (nI (q + 1))), (3, .int (rs + r16)), (4, .int la), (5, .int (nI (a + 1)))]) [2, 3, 4, 1, 5, 0] rfl ?_
          exact ih (a + 1) _ _ _ _ (by omega)
        · refine j_aload_n (pc := 85) C d_Days_countRows_85 rfl 1 rfl ?_
          refine j_aload_n (pc := 86) C d_Days_countRows_86 rfl 2 rfl ?_
          refine j_iload (pc := 87) C d_Days_countRows_87 5 rfl ?_
          refine j_iconst (pc := 89) C (v := 1) d_Days_countRows_89 (by decide) ?_
          refine j_icmp_ne (pc := 90) C (tgt := 97) d_Days_countRows_90 (by decide) (fun c19 => ?_) (fun c19 => ?_)
          · refine j_iconst (pc := 97) C (v := (-1)) d_Days_countRows_97 (by decide) ?_
            refine j_callSv (pc := 98) C (c_moveBoards l D y ad d n4 h sa (u17.1 - 1) sw u17.2.1 u17.2.2 (-1) h4 b4 hJ hV) kw_Days_106 ks_Days_moveBoards ⟨by decide, by decide⟩ ⟨by decide, by decide⟩ (wr := []) [0, 1, 2, 3, 4, 5] [] rfl rfl (by decide +kernel) (by decide +kernel) (by decide +kernel) (As := [.ref (ad 0), .ref h, .int (-1)]) (rest := []) rfl (nb rfl) rfl d_Days_countRows_98 (fun u20 _ => ?_)
            refine j_ws (ws' := [(ad 0, .inr (2, [.int (d.1 0), .int (d.1 1), .int (d.1 2), .int (d.1 3), .ref (ad 1), .int (d.1 4), .ref (ad 11), .ref (ad 12), .ref (ad 2), .ref (ad 3), .int (d.1 5), .int (d.1 6), .int (d.1 7), .int (d.1 8)])), (ad 1, .inr (1, [.int (d.1 9), .ref (ad 4), .ref (ad 5), .ref (ad 6), .ref (ad 7), .ref (ad 8), .ref (ad 9), .ref (ad 10)])), (ad 10, .inl (y 0, 9, .inl (d.2 6))), (ad 12, .inl (y 0, 6, .inl (d.2 8))), (h, .inr (7, [.int (u17.1 - 1), .int sw, .int u17.2.1, .ref (sa 0), .ref (sa 1), .ref (sa 2), .ref (sa 3), .ref (sa 4), .ref (sa 5), .ref (sa 6)])), (sa 0, .inl (y 0, 9, .inl u20))]) rfl ?_
            refine j_aload_n (pc := 101) C d_Days_countRows_101 rfl 2 rfl ?_
            refine j_iload (pc := 102) C d_Days_countRows_102 4 rfl ?_
            refine j_put (pc := 104) C pf_Days_15 4 (ws' := [(ad 0, .inr (2, [.int (d.1 0), .int (d.1 1), .int (d.1 2), .int (d.1 3), .ref (ad 1), .int (d.1 4), .ref (ad 11), .ref (ad 12), .ref (ad 2), .ref (ad 3), .int (d.1 5), .int (d.1 6), .int (d.1 7), .int (d.1 8)])), (ad 1, .inr (1, [.int (d.1 9), .ref (ad 4), .ref (ad 5), .ref (ad 6), .ref (ad 7), .ref (ad 8), .ref (ad 9), .ref (ad 10)])), (ad 10, .inl (y 0, 9, .inl (d.2 6))), (ad 12, .inl (y 0, 6, .inl (d.2 8))), (h, .inr (7, [.int (u17.1 - 1), .int sw, .int la, .ref (sa 0), .ref (sa 1), .ref (sa 2), .ref (sa 3), .ref (sa 4), .ref (sa 5), .ref (sa 6)])), (sa 0, .inl (y 0, 9, .inl u20))]) rfl rfl rfl (nl rfl) rfl d_Days_countRows_104 ?_
            refine j_iinc (pc := 107) C (v := nI (a + 1)) (lv' := [(5, .int (nI (a + 1))), (3, .int (rs + r16)), (0, .ref (ad 0)), (1, .ref h), (2, .int (nI (q + 1))), (4, .int la)]) d_Days_countRows_107 5 rfl (nI_1 _) (by decide) rfl ?_
            refine j_goto (pc := 110) C (tgt := 17) d_Days_countRows_110 (by decide) ?_
            refine j_locs (lv' := [(0, .ref (ad 0)), (1, .ref h), (2, .int (nI (q + 1))), (3, .int (rs + r16)), (4, .int la), (5, .int (nI (a + 1)))]) [2, 3, 4, 1, 5, 0] rfl ?_
            exact ih (a + 1) _ _ _ _ (by omega)
          · refine j_iconst (pc := 93) C (v := 1) d_Days_countRows_93 (by decide) ?_
            refine j_goto (pc := 94) C (tgt := 98) d_Days_countRows_94 (by decide) ?_
            refine j_callSv (pc := 98) C (c_moveBoards l D y ad d n4 h sa (u17.1 - 1) sw u17.2.1 u17.2.2 1 h4 b4 hJ hV) kw_Days_106 ks_Days_moveBoards ⟨by decide, by decide⟩ ⟨by decide, by decide⟩ (wr := []) [0, 1, 2, 3, 4, 5] [] rfl rfl (by decide +kernel) (by decide +kernel) (by decide +kernel) (As := [.ref (ad 0), .ref h, .int 1]) (rest := []) rfl (nb rfl) rfl d_Days_countRows_98 (fun u21 _ => ?_)
            refine j_ws (ws' := [(ad 0, .inr (2, [.int (d.1 0), .int (d.1 1), .int (d.1 2), .int (d.1 3), .ref (ad 1), .int (d.1 4), .ref (ad 11), .ref (ad 12), .ref (ad 2), .ref (ad 3), .int (d.1 5), .int (d.1 6), .int (d.1 7), .int (d.1 8)])), (ad 1, .inr (1, [.int (d.1 9), .ref (ad 4), .ref (ad 5), .ref (ad 6), .ref (ad 7), .ref (ad 8), .ref (ad 9), .ref (ad 10)])), (ad 10, .inl (y 0, 9, .inl (d.2 6))), (ad 12, .inl (y 0, 6, .inl (d.2 8))), (h, .inr (7, [.int (u17.1 - 1), .int sw, .int u17.2.1, .ref (sa 0), .ref (sa 1), .ref (sa 2), .ref (sa 3), .ref (sa 4), .ref (sa 5), .ref (sa 6)])), (sa 0, .inl (y 0, 9, .inl u21))]) rfl ?_
            refine j_aload_n (pc := 101) C d_Days_countRows_101 rfl 2 rfl ?_
            refine j_iload (pc := 102) C d_Days_countRows_102 4 rfl ?_
            refine j_put (pc := 104) C pf_Days_15 4 (ws' := [(ad 0, .inr (2, [.int (d.1 0), .int (d.1 1), .int (d.1 2), .int (d.1 3), .ref (ad 1), .int (d.1 4), .ref (ad 11), .ref (ad 12), .ref (ad 2), .ref (ad 3), .int (d.1 5), .int (d.1 6), .int (d.1 7), .int (d.1 8)])), (ad 1, .inr (1, [.int (d.1 9), .ref (ad 4), .ref (ad 5), .ref (ad 6), .ref (ad 7), .ref (ad 8), .ref (ad 9), .ref (ad 10)])), (ad 10, .inl (y 0, 9, .inl (d.2 6))), (ad 12, .inl (y 0, 6, .inl (d.2 8))), (h, .inr (7, [.int (u17.1 - 1), .int sw, .int la, .ref (sa 0), .ref (sa 1), .ref (sa 2), .ref (sa 3), .ref (sa 4), .ref (sa 5), .ref (sa 6)])), (sa 0, .inl (y 0, 9, .inl u21))]) rfl rfl rfl (nl rfl) rfl d_Days_countRows_104 ?_
            refine j_iinc (pc := 107) C (v := nI (a + 1)) (lv' := [(5, .int (nI (a + 1))), (3, .int (rs + r16)), (0, .ref (ad 0)), (1, .ref h), (2, .int (nI (q + 1))), (4, .int la)]) d_Days_countRows_107 5 rfl (nI_1 _) (by decide) rfl ?_
            refine j_goto (pc := 110) C (tgt := 17) d_Days_countRows_110 (by decide) ?_
            refine j_locs (lv' := [(0, .ref (ad 0)), (1, .ref h), (2, .int (nI (q + 1))), (3, .int (rs + r16)), (4, .int la), (5, .int (nI (a + 1)))]) [2, 3, 4, 1, 5, 0] rfl ?_
            exact ih (a + 1) _ _ _ _ (by omega)
set_option maxHeartbeats 4000000 in
set_option maxRecDepth 100000 in
theorem c_countRows_10 (l : Launch) (D : va_G) (y : Nat → ClassId) (ad : Nat → Nat) (d : LD) (n4 : Nat) (h : Nat) (sa : Nat → Nat) (sd : Int32) (sw : Int32) (sl : Int32) (f0 : Nat → Int32) (k : Nat) (h4 : d.1 4 = nI n4) (b4 : n4 ≤ 6) (hJ : ∀ j, j < 9 → d.2 6 j = -1 ∨ ∃ q, q < 9 ∧ d.2 6 j = nI q) (hV : ∀ j, j < n4 → ∃ q, q < 9 ∧ d.2 8 j = nI q) (hk : k ≤ 10) : CT l D y ⟨"NineBoards$Days", "countRows", "(LNineBoards$Lake;LNineBoards$State;I)I"⟩ prog_3_method_14_code 6 (some .int) ({ frames := 13, cells := 0, slots := 0, locals := 315 } : Room) [.ref (ad 0), .ref h, .int (nI k)] [(ad 0, .inr (2, [.int (d.1 0), .int (d.1 1), .int (d.1 2), .int (d.1 3), .ref (ad 1), .int (d.1 4), .ref (ad 11), .ref (ad 12), .ref (ad 2), .ref (ad 3), .int (d.1 5), .int (d.1 6), .int (d.1 7), .int (d.1 8)])), (ad 1, .inr (1, [.int (d.1 9), .ref (ad 4), .ref (ad 5), .ref (ad 6), .ref (ad 7), .ref (ad 8), .ref (ad 9), .ref (ad 10)])), (ad 10, .inl (y 0, 9, .inl (d.2 6))), (ad 12, .inl (y 0, 6, .inl (d.2 8))), (h, .inr (7, [.int sd, .int sw, .int sl, .ref (sa 0), .ref (sa 1), .ref (sa 2), .ref (sa 3), .ref (sa 4), .ref (sa 5), .ref (sa 6)])), (sa 0, .inl (y 0, 9, .inl f0))] (QI D [(ad 0, .inr (2, [.int (d.1 0), .int (d.1 1), .int (d.1 2), .int (d.1 3), .ref (ad 1), .int (d.1 4), .ref (ad 11), .ref (ad 12), .ref (ad 2), .ref (ad 3), .int (d.1 5), .int (d.1 6), .int (d.1 7), .int (d.1 8)])), (ad 1, .inr (1, [.int (d.1 9), .ref (ad 4), .ref (ad 5), .ref (ad 6), .ref (ad 7), .ref (ad 8), .ref (ad 9), .ref (ad 10)])), (ad 10, .inl (y 0, 9, .inl (d.2 6))), (ad 12, .inl (y 0, 6, .inl (d.2 8))), (h, .inr (7, [.int sd, .int sw, .int sl, .ref (sa 0), .ref (sa 1), .ref (sa 2), .ref (sa 3), .ref (sa 4), .ref (sa 5), .ref (sa 6)])), (sa 0, .inl (y 0, 9, .inl f0))] (fun (r : Int32) (u : Int32 × Int32 × (Nat → Int32)) => True) (fun u => [(ad 0, .inr (2, [.int (d.1 0), .int (d.1 1), .int (d.1 2), .int (d.1 3), .ref (ad 1), .int (d.1 4), .ref (ad 11), .ref (ad 12), .ref (ad 2), .ref (ad 3), .int (d.1 5), .int (d.1 6), .int (d.1 7), .int (d.1 8)])), (ad 1, .inr (1, [.int (d.1 9), .ref (ad 4), .ref (ad 5), .ref (ad 6), .ref (ad 7), .ref (ad 8), .ref (ad 9), .ref (ad 10)])), (ad 10, .inl (y 0, 9, .inl (d.2 6))), (ad 12, .inl (y 0, 6, .inl (d.2 8))), (h, .inr (7, [.int u.1, .int sw, .int u.2.1, .ref (sa 0), .ref (sa 1), .ref (sa 2), .ref (sa 3), .ref (sa 4), .ref (sa 5), .ref (sa 6)])), (sa 0, .inl (y 0, 9, .inl u.2.2))])) := by
  refine CT.of (by decide) (nb rfl) ?_
  intro p e s m args below meth c C hr
  refine j_lv (lv' := [(0, .ref (ad 0)), (1, .ref h), (2, .int (nI k))]) rfl ?_
  by_cases h0 : k = 0
  · subst h0
    refine j_iload_n (pc := 0) C d_Days_countRows_0 rfl 2 rfl ?_
    refine j_if_gtF (pc := 1) C (tgt := 6) d_Days_countRows_1 (by decide) (by decide) ?_
    refine j_iconst (pc := 4) C (v := 1) d_Days_countRows_4 (by decide) ?_
    exact j_iret (pc := 5) C hr rfl (sd, sl, f0) trivial [0, 1, 2, 3, 4, 5] rfl (by decide) (by decide) (by decide) d_Days_countRows_5
  · obtain ⟨q, rfl⟩ : ∃ q, k = q + 1 := ⟨k - 1, by omega⟩
    refine j_iload_n (pc := 0) C d_Days_countRows_0 rfl 2 rfl ?_
    refine j_if_gtT (pc := 1) C (tgt := 6) d_Days_countRows_1 (by decide) (show nI 0 < nI (q + 1) from nI_lt (by omega) (by omega)) ?_
    refine j_iconst (pc := 6) C (v := 0) d_Days_countRows_6 (by decide) ?_
    refine j_istore_n (pc := 7) C (lv' := [(3, .int 0), (0, .ref (ad 0)), (1, .ref h), (2, .int (nI (q + 1)))]) d_Days_countRows_7 rfl (by decide) rfl ?_
    refine j_aload_n (pc := 8) C d_Days_countRows_8 rfl 2 rfl ?_
    refine j_get (pc := 9) C gf_Days_15 4 rfl rfl d_Days_countRows_9 ?_
    refine j_istore (pc := 12) C (lv' := [(4, .int sl), (3, .int 0), (0, .ref (ad 0)), (1, .ref h), (2, .int (nI (q + 1)))]) d_Days_countRows_12 (by decide) rfl ?_
    refine j_iconst (pc := 14) C (v := 0) d_Days_countRows_14 (by decide) ?_
    refine j_istore (pc := 15) C (lv' := [(5, .int 0), (4, .int sl), (3, .int 0), (0, .ref (ad 0)), (1, .ref h), (2, .int (nI (q + 1)))]) d_Days_countRows_15 (by decide) rfl ?_
    refine j_locs (lv' := [(0, .ref (ad 0)), (1, .ref h), (2, .int (nI (q + 1))), (3, .int 0), (4, .int sl), (5, .int 0)]) [3, 4, 5, 2, 1, 0] rfl ?_
    refine j_lv (lv' := [(0, .ref (ad 0)), (1, .ref h), (2, .int (nI (q + 1))), (3, .int 0), (4, .int sl), (5, .int (nI 0))]) rfl ?_
    refine lp_rows_10 C ad d n4 h sa sw q sl h4 b4 hJ hV hk (fun rs sd sl f0 => ?_) 3 0 _ _ _ _ (by omega)
    refine j_iload_n (pc := 113) C d_Days_countRows_113 rfl 3 rfl ?_
    exact j_iret (pc := 114) C hr rfl (sd, sl, f0) trivial [0, 1, 2, 3, 4, 5] rfl (by decide) (by decide) (by decide) d_Days_countRows_114

set_option maxHeartbeats 4000000 in
set_option maxRecDepth 100000 in
theorem lp_rows_11 {p : Program} {l : Launch} {e : Env} {s : State} {m : MethodId} {args : Array Value} {below : List Frame} {meth : Method} {c : Code} {Q : State → Prop} {D : va_G} {y : Nat → ClassId} {A : Nat → Prop} (C : Cx p s m args meth c D y A prog_3_method_14_code 6 "NineBoards$Days" "countRows") (ad : Nat → Nat) (d : LD) (n4 : Nat) (h : Nat) (sa : Nat → Nat) (sw : Int32) (q : Nat) (la : Int32) (h4 : d.1 4 = nI n4) (b4 : n4 ≤ 6) (hJ : ∀ j, j < 9 → d.2 6 j = -1 ∨ ∃ q, q < 9 ∧ d.2 6 j = nI q) (hV : ∀ j, j < n4 → ∃ q, q < 9 ∧ d.2 8 j = nI q) (hq : q + 1 ≤ 11) (kx : ∀ (rs sd sl : Int32) (f0 : Nat → Int32), J p l e ({ frames := 14, cells := 0, slots := 0, locals := 340 } : Room) s m args below meth c Q D A 6 [(ad 0, .inr (2, [.int (d.1 0), .int (d.1 1), .int (d.1 2), .int (d.1 3), .ref (ad 1), .int (d.1 4), .ref (ad 11), .ref (ad 12), .ref (ad 2), .ref (ad 3), .int (d.1 5), .int (d.1 6), .int (d.1 7), .int (d.1 8)])), (ad 1, .inr (1, [.int (d.1 9), .ref (ad 4), .ref (ad 5), .ref (ad 6), .ref (ad 7), .ref (ad 8), .ref (ad 9), .ref (ad 10)])), (ad 10, .inl (y 0, 9, .inl (d.2 6))), (ad 12, .inl (y 0, 6, .inl (d.2 8))), (h, .inr (7, [.int sd, .int sw, .int sl, .ref (sa 0), .ref (sa 1), .ref (sa 2), .ref (sa 3), .ref (sa 4), .ref (sa 5), .ref (sa 6)])), (sa 0, .inl (y 0, 9, .inl f0))] [(0, .ref (ad 0)), (1, .ref h), (2, .int (nI (q + 1))), (3, .int rs), (4, .int la), (5, .int (nI 3))] 0 0 113 []) : ∀ (n : Nat) (a : Nat) (rs : Int32) (sd : Int32) (sl : Int32) (f0 : Nat → Int32), (a + n = 3) → J p l e ({ frames := 14, cells := 0, slots := 0, locals := 340 } : Room) s m args below meth c Q D A 6 [(ad 0, .inr (2, [.int (d.1 0), .int (d.1 1), .int (d.1 2), .int (d.1 3), .ref (ad 1), .int (d.1 4), .ref (ad 11), .ref (ad 12), .ref (ad 2), .ref (ad 3), .int (d.1 5), .int (d.1 6), .int (d.1 7), .int (d.1 8)])), (ad 1, .inr (1, [.int (d.1 9), .ref (ad 4), .ref (ad 5), .ref (ad 6), .ref (ad 7), .ref (ad 8), .ref (ad 9), .ref (ad 10)])), (ad 10, .inl (y 0, 9, .inl (d.2 6))), (ad 12, .inl (y 0, 6, .inl (d.2 8))), (h, .inr (7, [.int sd, .int sw, .int sl, .ref (sa 0), .ref (sa 1), .ref (sa 2), .ref (sa 3), .ref (sa 4), .ref (sa 5), .ref (sa 6)])), (sa 0, .inl (y 0, 9, .inl f0))] [(0, .ref (ad 0)), (1, .ref h), (2, .int (nI (q + 1))), (3, .int rs), (4, .int la), (5, .int (nI a))] 0 0 17 [] := by
  intro n
  induction n with
  | zero =>
    intro a rs sd sl f0 ha
    obtain rfl : a = 3 := by omega
    refine j_iload (pc := 17) C d_Days_countRows_17 5 rfl ?_
    refine j_iconst (pc := 19) C (v := 3) d_Days_countRows_19 (by decide) ?_
    refine j_icmp_geT (pc := 20) C (tgt := 113) d_Days_countRows_20 (by decide) (by decide) ?_
    exact kx _ _ _ _
  | succ n ih =>
    intro a rs sd sl f0 ha
    refine j_iload (pc := 17) C d_Days_countRows_17 5 rfl ?_
    refine j_iconst (pc := 19) C (v := 3) d_Days_countRows_19 (by decide) ?_
    refine j_icmp_geF (pc := 20) C (tgt := 113) d_Days_countRows_20 (by decide) (show ¬ nI 3 ≤ nI a from nI_ge (by omega) (by decide)) ?_
    refine j_aload_n (pc := 23) C d_Days_countRows_23 rfl 0 rfl ?_
    refine j_aload_n (pc := 24) C d_Days_countRows_24 rfl 1 rfl ?_
    refine j_aload_n (pc := 25) C d_Days_countRows_25 rfl 0 rfl ?_
    refine j_aload_n (pc := 26) C d_Days_countRows_26 rfl 1 rfl ?_
    refine j_get (pc := 27) C gf_Days_59 4 rfl rfl d_Days_countRows_27 ?_
    refine j_callVi (pc := 30) C (c_villageOn l D y ad d n4 sd h4 b4) kw_Days_109 kv_Lake_villageOn 0 2 rfl rfl ⟨by decide, by decide⟩ ⟨by decide, by decide⟩ (wr := [(ad 1, .inr (1, [.int (d.1 9), .ref (ad 4), .ref (ad 5), .ref (ad 6), .ref (ad 7), .ref (ad 8), .ref (ad 9), .ref (ad 10)])), (ad 10, .inl (y 0, 9, .inl (d.2 6))), (ad 12, .inl (y 0, 6, .inl (d.2 8))), (h, .inr (7, [.int sd, .int sw, .int sl, .ref (sa 0), .ref (sa 1), .ref (sa 2), .ref (sa 3), .ref (sa 4), .ref (sa 5), .ref (sa 6)])), (sa 0, .inl (y 0, 9, .inl f0))]) [0] [1, 2, 3, 4, 5] rfl rfl (by decide +kernel) (by decide +kernel) (by decide +kernel) (As := [.int sd]) (rest := [.ref h, .ref (ad 0)]) rfl (nb rfl) rfl d_Days_countRows_30 (fun r1 _ hr1 => ?_)
    refine j_ws (ws' := [(ad 1, .inr (1, [.int (d.1 9), .ref (ad 4), .ref (ad 5), .ref (ad 6), .ref (ad 7), .ref (ad 8), .ref (ad 9), .ref (ad 10)])), (ad 10, .inl (y 0, 9, .inl (d.2 6))), (ad 12, .inl (y 0, 6, .inl (d.2 8))), (h, .inr (7, [.int sd, .int sw, .int sl, .ref (sa 0), .ref (sa 1), .ref (sa 2), .ref (sa 3), .ref (sa 4), .ref (sa 5), .ref (sa 6)])), (sa 0, .inl (y 0, 9, .inl f0)), (ad 0, .inr (2, [.int (d.1 0), .int (d.1 1), .int (d.1 2), .int (d.1 3), .ref (ad 1), .int (d.1 4), .ref (ad 11), .ref (ad 12), .ref (ad 2), .ref (ad 3), .int (d.1 5), .int (d.1 6), .int (d.1 7), .int (d.1 8)]))]) rfl ?_
    rcases hr1 with rfl | ⟨j2, xh3, rfl⟩
    · refine j_iload (pc := 33) C d_Days_countRows_33 5 rfl ?_
      refine j_iconst (pc := 35) C (v := 0) d_Days_countRows_35 (by decide) ?_
      refine j_callSi (pc := 36) C (c_allows l D y ad d n4 h sa sd sw sl f0 (-1) (nI a) 0 h4 b4 hJ hV) kw_Days_43 ks_Days_allows ⟨by decide, by decide⟩ ⟨by decide, by decide⟩ (wr := []) [5, 0, 1, 2, 3, 4] [] rfl rfl (by decide +kernel) (by decide +kernel) (by decide +kernel) (As := [.ref (ad 0), .ref h, .int (-1), .int (nI a), .int 0]) (rest := []) rfl (nb rfl) rfl d_Days_countRows_36 (fun r4 _ hr4 => ?_)
      refine j_ws (ws' := [(ad 0, .inr (2, [.int (d.1 0), .int (d.1 1), .int (d.1 2), .int (d.1 3), .ref (ad 1), .int (d.1 4), .ref (ad 11), .ref (ad 12), .ref (ad 2), .ref (ad 3), .int (d.1 5), .int (d.1 6), .int (d.1 7), .int (d.1 8)])), (ad 1, .inr (1, [.int (d.1 9), .ref (ad 4), .ref (ad 5), .ref (ad 6), .ref (ad 7), .ref (ad 8), .ref (ad 9), .ref (ad 10)])), (ad 10, .inl (y 0, 9, .inl (d.2 6))), (ad 12, .inl (y 0, 6, .inl (d.2 8))), (h, .inr (7, [.int sd, .int sw, .int sl, .ref (sa 0), .ref (sa 1), .ref (sa 2), .ref (sa 3), .ref (sa 4), .ref (sa 5), .ref (sa 6)])), (sa 0, .inl (y 0, 9, .inl f0))]) rfl ?_
      refine j_if_eq (pc := 39) C (tgt := 107) d_Days_countRows_39 (by decide) (fun c5 => ?_) (fun c5 => ?_)
      · refine j_iinc (pc := 107) C (v := nI (a + 1)) (lv' := [(5, .int (nI (a + 1))), (0, .ref (ad 0)), (1, .ref h), (2, .int (nI (q + 1))), (3, .int rs), (4, .int la)]) d_Days_countRows_107 5 rfl (nI_1 _) (by decide) rfl ?_
        refine j_goto (pc := 110) C (tgt := 17) d_Days_countRows_110 (by decide) ?_
        refine j_locs (lv' := [(0, .ref (ad 0)), (1, .ref h), (2, .int (nI (q + 1))), (3, .int rs), (4, .int la), (5, .int (nI (a + 1)))]) [1, 2, 3, 4, 5, 0] rfl ?_
        exact ih (a + 1) _ _ _ _ (by omega)
      · refine j_aload_n (pc := 42) C d_Days_countRows_42 rfl 0 rfl ?_
        refine j_aload_n (pc := 43) C d_Days_countRows_43 rfl 1 rfl ?_
        refine j_iload (pc := 44) C d_Days_countRows_44 5 rfl ?_
        refine j_callSv (pc := 46) C (c_doAct l D y ad d n4 h sa sd sw sl f0 (nI a) h4 b4 hJ hV) kw_Days_47 ks_Days_doAct ⟨by decide, by decide⟩ ⟨by decide, by decide⟩ (wr := []) [0, 1, 2, 3, 4, 5] [] rfl rfl (by decide +kernel) (by decide +kernel) (by decide +kernel) (As := [.ref (ad 0), .ref h, .int (nI a)]) (rest := []) rfl (nb rfl) rfl d_Days_countRows_46 (fun u6 _ => ?_)
        refine j_ws (ws' := [(ad 0, .inr (2, [.int (d.1 0), .int (d.1 1), .int (d.1 2), .int (d.1 3), .ref (ad 1), .int (d.1 4), .ref (ad 11), .ref (ad 12), .ref (ad 2), .ref (ad 3), .int (d.1 5), .int (d.1 6), .int (d.1 7), .int (d.1 8)])), (ad 1, .inr (1, [.int (d.1 9), .ref (ad 4), .ref (ad 5), .ref (ad 6), .ref (ad 7), .ref (ad 8), .ref (ad 9), .ref (ad 10)])), (ad 10, .inl (y 0, 9, .inl (d.2 6))), (ad 12, .inl (y 0, 6, .inl (d.2 8))), (h, .inr (7, [.int sd, .int sw, .int u6.1, .ref (sa 0), .ref (sa 1), .ref (sa 2), .ref (sa 3), .ref (sa 4), .ref (sa 5), .ref (sa 6)])), (sa 0, .inl (y 0, 9, .inl u6.2))]) rfl ?_
        refine j_aload_n (pc := 49) C d_Days_countRows_49 rfl 1 rfl ?_
        refine j_dup (pc := 50) C d_Days_countRows_50 rfl ?_
        refine j_get (pc := 51) C gf_Days_59 4 rfl rfl d_Days_countRows_51 ?_
        refine j_iconst (pc := 54) C (v := 1) d_Days_countRows_54 (by decide) ?_
        refine j_iadd (pc := 55) C (v := sd + 1) d_Days_countRows_55 rfl ?_
        refine j_put (pc := 56) C pf_Days_59 4 (ws' := [(ad 0, .inr (2, [.int (d.1 0), .int (d.1 1), .int (d.1 2), .int (d.1 3), .ref (ad 1), .int (d.1 4), .ref (ad 11), .ref (ad 12), .ref (ad 2), .ref (ad 3), .int (d.1 5), .int (d.1 6), .int (d.1 7), .int (d.1 8)])), (ad 1, .inr (1, [.int (d.1 9), .ref (ad 4), .ref (ad 5), .ref (ad 6), .ref (ad 7), .ref (ad 8), .ref (ad 9), .ref (ad 10)])), (ad 10, .inl (y 0, 9, .inl (d.2 6))), (ad 12, .inl (y 0, 6, .inl (d.2 8))), (h, .inr (7, [.int (sd + 1), .int sw, .int u6.1, .ref (sa 0), .ref (sa 1), .ref (sa 2), .ref (sa 3), .ref (sa 4), .ref (sa 5), .ref (sa 6)])), (sa 0, .inl (y 0, 9, .inl u6.2))]) rfl rfl rfl (nl rfl) rfl d_Days_countRows_56 ?_
        refine j_iload_n (pc := 59) C d_Days_countRows_59 rfl 3 rfl ?_
        refine j_aload_n (pc := 60) C d_Days_countRows_60 rfl 0 rfl ?_
        refine j_aload_n (pc := 61) C d_Days_countRows_61 rfl 1 rfl ?_
        refine j_iload_n (pc := 62) C d_Days_countRows_62 rfl 2 rfl ?_
        refine j_iconst (pc := 63) C (v := 1) d_Days_countRows_63 (by decide) ?_
        refine j_isub (pc := 64) C (v := nI q) d_Days_countRows_64 (nI_pred q) ?_
        refine j_callSi (pc := 65) C (c_countRows_10 l D y ad d n4 h sa (sd + 1) sw u6.1 u6.2 q h4 b4 hJ hV (by omega)) kw_Days_159 ks_Days_countRows ⟨by decide, by decide⟩ ⟨by decide, by decide⟩ (wr := []) [0, 1, 2, 3, 4, 5] [] rfl rfl (by decide +kernel) (by decide +kernel) (by decide +kernel) (As := [.ref (ad 0), .ref h, .int (nI q)]) (rest := [.int rs]) rfl (nb rfl) rfl d_Days_countRows_65 (fun r7 u8 hr7 => ?_)
        refine j_ws (ws' := [(ad 0, .inr (2, [.int (d.1 0), .int (d.1 1), .int (d.1 2), .int (d.1 3), .ref (ad 1), .int (d.1 4), .ref (ad 11), .ref (ad 12), .ref (ad 2), .ref (ad 3), .int (d.1 5), .int (d.1 6), .int (d.1 7), .int (d.1 8)])), (ad 1, .inr (1, [.int (d.1 9), .ref (ad 4), .ref (ad 5), .ref (ad 6), .ref (ad 7), .ref (ad 8), .ref (ad 9), .ref (ad 10)])), (ad 10, .inl (y 0, 9, .inl (d.2 6))), (ad 12, .inl (y 0, 6, .inl (d.2 8))), (h, .inr (7, [.int u8.1, .int sw, .int u8.2.1, .ref (sa 0), .ref (sa 1), .ref (sa 2), .ref (sa 3), .ref (sa 4), .ref (sa 5), .ref (sa 6)])), (sa 0, .inl (y 0, 9, .inl u8.2.2))]) rfl ?_
        refine j_iadd (pc := 68) C (v := rs + r7) d_Days_countRows_68 rfl ?_
        refine j_istore_n (pc := 69) C (lv' := [(3, .int (rs + r7)), (0, .ref (ad 0)), (1, .ref h), (2, .int (nI (q + 1))), (4, .int la), (5, .int (nI a))]) d_Days_countRows_69 rfl (by decide) rfl ?_
        refine j_aload_n (pc := 70) C d_Days_countRows_70 rfl 2 rfl ?_
        refine j_dup (pc := 71) C d_Days_countRows_71 rfl ?_
        refine j_get (pc := 72) C gf_Days_59 4 rfl rfl d_Days_countRows_72 ?_
        refine j_iconst (pc := 75) C (v := 1) d_Days_countRows_75 (by decide) ?_
        refine j_isub (pc := 76) C (v := u8.1 - 1) d_Days_countRows_76 rfl ?_
        refine j_put (pc := 77) C pf_Days_59 4 (ws' := [(ad 0, .inr (2, [.int (d.1 0), .int (d.1 1), .int (d.1 2), .int (d.1 3), .ref (ad 1), .int (d.1 4), .ref (ad 11), .ref (ad 12), .ref (ad 2), .ref (ad 3), .int (d.1 5), .int (d.1 6), .int (d.1 7), .int (d.1 8)])), (ad 1, .inr (1, [.int (d.1 9), .ref (ad 4), .ref (ad 5), .ref (ad 6), .ref (ad 7), .ref (ad 8), .ref (ad 9), .ref (ad 10)])), (ad 10, .inl (y 0, 9, .inl (d.2 6))), (ad 12, .inl (y 0, 6, .inl (d.2 8))), (h, .inr (7, [.int (u8.1 - 1), .int sw, .int u8.2.1, .ref (sa 0), .ref (sa 1), .ref (sa 2), .ref (sa 3), .ref (sa 4), .ref (sa 5), .ref (sa 6)])), (sa 0, .inl (y 0, 9, .inl u8.2.2))]) rfl rfl rfl (nl rfl) rfl d_Days_countRows_77 ?_
        refine j_iload (pc := 80) C d_Days_countRows_80 5 rfl ?_
        refine j_if_eq (pc := 82) C (tgt := 101) d_Days_countRows_82 (by decide) (fun c9 => ?_) (fun c9 => ?_)
        · refine j_aload_n (pc := 101) C d_Days_countRows_101 rfl 2 rfl ?_
          refine j_iload (pc := 102) C d_Days_countRows_102 4 rfl ?_
          refine j_put (pc := 104) C pf_Days_15 4 (ws' := [(ad 0, .inr (2, [.int (d.1 0), .int (d.1 1), .int (d.1 2), .int (d.1 3), .ref (ad 1), .int (d.1 4), .ref (ad 11), .ref (ad 12), .ref (ad 2), .ref (ad 3), .int (d.1 5), .int (d.1 6), .int (d.1 7), .int (d.1 8)])), (ad 1, .inr (1, [.int (d.1 9), .ref (ad 4), .ref (ad 5), .ref (ad 6), .ref (ad 7), .ref (ad 8), .ref (ad 9), .ref (ad 10)])), (ad 10, .inl (y 0, 9, .inl (d.2 6))), (ad 12, .inl (y 0, 6, .inl (d.2 8))), (h, .inr (7, [.int (u8.1 - 1), .int sw, .int la, .ref (sa 0), .ref (sa 1), .ref (sa 2), .ref (sa 3), .ref (sa 4), .ref (sa 5), .ref (sa 6)])), (sa 0, .inl (y 0, 9, .inl u8.2.2))]) rfl rfl rfl (nl rfl) rfl d_Days_countRows_104 ?_
          refine j_iinc (pc := 107) C (v := nI (a + 1)) (lv' := [(5, .int (nI (a + 1))), (3, .int (rs + r7)), (0, .ref (ad 0)), (1, .ref h), (2, .int (nI (q + 1))), (4, .int la)]) d_Days_countRows_107 5 rfl (nI_1 _) (by decide) rfl ?_
          refine j_goto (pc := 110) C (tgt := 17) d_Days_countRows_110 (by decide) ?_
          refine j_locs (lv' := [(0, .ref (ad 0)), (1, .ref h), (2, .int (nI (q + 1))), (3, .int (rs + r7)), (4, .int la), (5, .int (nI (a + 1)))]) [2, 3, 4, 1, 5, 0] rfl ?_
          exact ih (a + 1) _ _ _ _ (by omega)
        · refine j_aload_n (pc := 85) C d_Days_countRows_85 rfl 1 rfl ?_
          refine j_aload_n (pc := 86) C d_Days_countRows_86 rfl 2 rfl ?_
          refine j_iload (pc := 87) C d_Days_countRows_87 5 rfl ?_
          refine j_iconst (pc := 89) C (v := 1) d_Days_countRows_89 (by decide) ?_
          refine j_icmp_ne (pc := 90) C (tgt := 97) d_Days_countRows_90 (by decide) (fun c10 => ?_) (fun c10 => ?_)
          · refine j_iconst (pc := 97) C (v := (-1)) d_Days_countRows_97 (by decide) ?_
            refine j_callSv (pc := 98) C (c_moveBoards l D y ad d n4 h sa (u8.1 - 1) sw u8.2.1 u8.2.2 (-1) h4 b4 hJ hV) kw_Days_106 ks_Days_moveBoards ⟨by decide, by decide⟩ ⟨by decide, by decide⟩ (wr := []) [0, 1, 2, 3, 4, 5] [] rfl rfl (by decide +kernel) (by decide +kernel) (by decide +kernel) (As := [.ref (ad 0), .ref h, .int (-1)]) (rest := []) rfl (nb rfl) rfl d_Days_countRows_98 (fun u11 _ => ?_)
            refine j_ws (ws' := [(ad 0, .inr (2, [.int (d.1 0), .int (d.1 1), .int (d.1 2), .int (d.1 3), .ref (ad 1), .int (d.1 4), .ref (ad 11), .ref (ad 12), .ref (ad 2), .ref (ad 3), .int (d.1 5), .int (d.1 6), .int (d.1 7), .int (d.1 8)])), (ad 1, .inr (1, [.int (d.1 9), .ref (ad 4), .ref (ad 5), .ref (ad 6), .ref (ad 7), .ref (ad 8), .ref (ad 9), .ref (ad 10)])), (ad 10, .inl (y 0, 9, .inl (d.2 6))), (ad 12, .inl (y 0, 6, .inl (d.2 8))), (h, .inr (7, [.int (u8.1 - 1), .int sw, .int u8.2.1, .ref (sa 0), .ref (sa 1), .ref (sa 2), .ref (sa 3), .ref (sa 4), .ref (sa 5), .ref (sa 6)])), (sa 0, .inl (y 0, 9, .inl u11))]) rfl ?_
            refine j_aload_n (pc := 101) C d_Days_countRows_101 rfl 2 rfl ?_
            refine j_iload (pc := 102) C d_Days_countRows_102 4 rfl ?_
            refine j_put (pc := 104) C pf_Days_15 4 (ws' := [(ad 0, .inr (2, [.int (d.1 0), .int (d.1 1), .int (d.1 2), .int (d.1 3), .ref (ad 1), .int (d.1 4), .ref (ad 11), .ref (ad 12), .ref (ad 2), .ref (ad 3), .int (d.1 5), .int (d.1 6), .int (d.1 7), .int (d.1 8)])), (ad 1, .inr (1, [.int (d.1 9), .ref (ad 4), .ref (ad 5), .ref (ad 6), .ref (ad 7), .ref (ad 8), .ref (ad 9), .ref (ad 10)])), (ad 10, .inl (y 0, 9, .inl (d.2 6))), (ad 12, .inl (y 0, 6, .inl (d.2 8))), (h, .inr (7, [.int (u8.1 - 1), .int sw, .int la, .ref (sa 0), .ref (sa 1), .ref (sa 2), .ref (sa 3), .ref (sa 4), .ref (sa 5), .ref (sa 6)])), (sa 0, .inl (y 0, 9, .inl u11))]) rfl rfl rfl (nl rfl) rfl d_Days_countRows_104 ?_
            refine j_iinc (pc := 107) C (v := nI (a + 1)) (lv' := [(5, .int (nI (a + 1))), (3, .int (rs + r7)), (0, .ref (ad 0)), (1, .ref h), (2, .int (nI (q + 1))), (4, .int la)]) d_Days_countRows_107 5 rfl (nI_1 _) (by decide) rfl ?_
            refine j_goto (pc := 110) C (tgt := 17) d_Days_countRows_110 (by decide) ?_
            refine j_locs (lv' := [(0, .ref (ad 0)), (1, .ref h), (2, .int (nI (q + 1))), (3, .int (rs + r7)), (4, .int la), (5, .int (nI (a + 1)))]) [2, 3, 4, 1, 5, 0] rfl ?_
            exact ih (a + 1) _ _ _ _ (by omega)
          · refine j_iconst (pc := 93) C (v := 1) d_Days_countRows_93 (by decide) ?_
            refine j_goto (pc := 94) C (tgt := 98) d_Days_countRows_94 (by decide) ?_
            refine j_callSv (pc := 98) C (c_moveBoards l D y ad d n4 h sa (u8.1 - 1) sw u8.2.1 u8.2.2 1 h4 b4 hJ hV) kw_Days_106 ks_Days_moveBoards ⟨by decide, by decide⟩ ⟨by decide, by decide⟩ (wr := []) [0, 1, 2, 3, 4, 5] [] rfl rfl (by decide +kernel) (by decide +kernel) (by decide +kernel) (As := [.ref (ad 0), .ref h, .int 1]) (rest := []) rfl (nb rfl) rfl d_Days_countRows_98 (fun u12 _ => ?_)
            refine j_ws (ws' := [(ad 0, .inr (2, [.int (d.1 0), .int (d.1 1), .int (d.1 2), .int (d.1 3), .ref (ad 1), .int (d.1 4), .ref (ad 11), .ref (ad 12), .ref (ad 2), .ref (ad 3), .int (d.1 5), .int (d.1 6), .int (d.1 7), .int (d.1 8)])), (ad 1, .inr (1, [.int (d.1 9), .ref (ad 4), .ref (ad 5), .ref (ad 6), .ref (ad 7), .ref (ad 8), .ref (ad 9), .ref (ad 10)])), (ad 10, .inl (y 0, 9, .inl (d.2 6))), (ad 12, .inl (y 0, 6, .inl (d.2 8))), (h, .inr (7, [.int (u8.1 - 1), .int sw, .int u8.2.1, .ref (sa 0), .ref (sa 1), .ref (sa 2), .ref (sa 3), .ref (sa 4), .ref (sa 5), .ref (sa 6)])), (sa 0, .inl (y 0, 9, .inl u12))]) rfl ?_
            refine j_aload_n (pc := 101) C d_Days_countRows_101 rfl 2 rfl ?_
            refine j_iload (pc := 102) C d_Days_countRows_102 4 rfl ?_
            refine j_put (pc := 104) C pf_Days_15 4 (ws' := [(ad 0, .inr (2, [.int (d.1 0), .int (d.1 1), .int (d.1 2), .int (d.1 3), .ref (ad 1), .int (d.1 4), .ref (ad 11), .ref (ad 12), .ref (ad 2), .ref (ad 3), .int (d.1 5), .int (d.1 6), .int (d.1 7), .int (d.1 8)])), (ad 1, .inr (1, [.int (d.1 9), .ref (ad 4), .ref (ad 5), .ref (ad 6), .ref (ad 7), .ref (ad 8), .ref (ad 9), .ref (ad 10)])), (ad 10, .inl (y 0, 9, .inl (d.2 6))), (ad 12, .inl (y 0, 6, .inl (d.2 8))), (h, .inr (7, [.int (u8.1 - 1), .int sw, .int la, .ref (sa 0), .ref (sa 1), .ref (sa 2), .ref (sa 3), .ref (sa 4), .ref (sa 5), .ref (sa 6)])), (sa 0, .inl (y 0, 9, .inl u12))]) rfl rfl rfl (nl rfl) rfl d_Days_countRows_104 ?_
            refine j_iinc (pc := 107) C (v := nI (a + 1)) (lv' := [(5, .int (nI (a + 1))), (3, .int (rs + r7)), (0, .ref (ad 0)), (1, .ref h), (2, .int (nI (q + 1))), (4, .int la)]) d_Days_countRows_107 5 rfl (nI_1 _) (by decide) rfl ?_
            refine j_goto (pc := 110) C (tgt := 17) d_Days_countRows_110 (by decide) ?_
            refine j_locs (lv' := [(0, .ref (ad 0)), (1, .ref h), (2, .int (nI (q + 1))), (3, .int (rs + r7)), (4, .int la), (5, .int (nI (a + 1)))]) [2, 3, 4, 1, 5, 0] rfl ?_
            exact ih (a + 1) _ _ _ _ (by omega)
    · refine j_iload (pc := 33) C d_Days_countRows_33 5 rfl ?_
      refine j_iconst (pc := 35) C (v := 0) d_Days_countRows_35 (by decide) ?_
      refine j_callSi (pc := 36) C (c_allows l D y ad d n4 h sa sd sw sl f0 (nI j2) (nI a) 0 h4 b4 hJ hV) kw_Days_43 ks_Days_allows ⟨by decide, by decide⟩ ⟨by decide, by decide⟩ (wr := []) [5, 0, 1, 2, 3, 4] [] rfl rfl (by decide +kernel) (by decide +kernel) (by decide +kernel) (As := [.ref (ad 0), .ref h, .int (nI j2), .int (nI a), .int 0]) (rest := []) rfl (nb rfl) rfl d_Days_countRows_36 (fun r13 _ hr13 => ?_)
      refine j_ws (ws' := [(ad 0, .inr (2, [.int (d.1 0), .int (d.1 1), .int (d.1 2), .int (d.1 3), .ref (ad 1), .int (d.1 4), .ref (ad 11), .ref (ad 12), .ref (ad 2), .ref (ad 3), .int (d.1 5), .int (d.1 6), .int (d.1 7), .int (d.1 8)])), (ad 1, .inr (1, [.int (d.1 9), .ref (ad 4), .ref (ad 5), .ref (ad 6), .ref (ad 7), .ref (ad 8), .ref (ad 9), .ref (ad 10)])), (ad 10, .inl (y 0, 9, .inl (d.2 6))), (ad 12, .inl (y 0, 6, .inl (d.2 8))), (h, .inr (7, [.int sd, .int sw, .int sl, .ref (sa 0), .ref (sa 1), .ref (sa 2), .ref (sa 3), .ref (sa 4), .ref (sa 5), .ref (sa 6)])), (sa 0, .inl (y 0, 9, .inl f0))]) rfl ?_
      refine j_if_eq (pc := 39) C (tgt := 107) d_Days_countRows_39 (by decide) (fun c14 => ?_) (fun c14 => ?_)
      · refine j_iinc (pc := 107) C (v := nI (a + 1)) (lv' := [(5, .int (nI (a + 1))), (0, .ref (ad 0)), (1, .ref h), (2, .int (nI (q + 1))), (3, .int rs), (4, .int la)]) d_Days_countRows_107 5 rfl (nI_1 _) (by decide) rfl ?_
        refine j_goto (pc := 110) C (tgt := 17) d_Days_countRows_110 (by decide) ?_
        refine j_locs (lv' := [(0, .ref (ad 0)), (1, .ref h), (2, .int (nI (q + 1))), (3, .int rs), (4, .int la), (5, .int (nI (a + 1)))]) [1, 2, 3, 4, 5, 0] rfl ?_
        exact ih (a + 1) _ _ _ _ (by omega)
      · refine j_aload_n (pc := 42) C d_Days_countRows_42 rfl 0 rfl ?_
        refine j_aload_n (pc := 43) C d_Days_countRows_43 rfl 1 rfl ?_
        refine j_iload (pc := 44) C d_Days_countRows_44 5 rfl ?_
        refine j_callSv (pc := 46) C (c_doAct l D y ad d n4 h sa sd sw sl f0 (nI a) h4 b4 hJ hV) kw_Days_47 ks_Days_doAct ⟨by decide, by decide⟩ ⟨by decide, by decide⟩ (wr := []) [0, 1, 2, 3, 4, 5] [] rfl rfl (by decide +kernel) (by decide +kernel) (by decide +kernel) (As := [.ref (ad 0), .ref h, .int (nI a)]) (rest := []) rfl (nb rfl) rfl d_Days_countRows_46 (fun u15 _ => ?_)
        refine j_ws (ws' := [(ad 0, .inr (2, [.int (d.1 0), .int (d.1 1), .int (d.1 2), .int (d.1 3), .ref (ad 1), .int (d.1 4), .ref (ad 11), .ref (ad 12), .ref (ad 2), .ref (ad 3), .int (d.1 5), .int (d.1 6), .int (d.1 7), .int (d.1 8)])), (ad 1, .inr (1, [.int (d.1 9), .ref (ad 4), .ref (ad 5), .ref (ad 6), .ref (ad 7), .ref (ad 8), .ref (ad 9), .ref (ad 10)])), (ad 10, .inl (y 0, 9, .inl (d.2 6))), (ad 12, .inl (y 0, 6, .inl (d.2 8))), (h, .inr (7, [.int sd, .int sw, .int u15.1, .ref (sa 0), .ref (sa 1), .ref (sa 2), .ref (sa 3), .ref (sa 4), .ref (sa 5), .ref (sa 6)])), (sa 0, .inl (y 0, 9, .inl u15.2))]) rfl ?_
        refine j_aload_n (pc := 49) C d_Days_countRows_49 rfl 1 rfl ?_
        refine j_dup (pc := 50) C d_Days_countRows_50 rfl ?_
        refine j_get (pc := 51) C gf_Days_59 4 rfl rfl d_Days_countRows_51 ?_
        refine j_iconst (pc := 54) C (v := 1) d_Days_countRows_54 (by decide) ?_
        refine j_iadd (pc := 55) C (v := sd + 1) d_Days_countRows_55 rfl ?_
        refine j_put (pc := 56) C pf_Days_59 4 (ws' := [(ad 0, .inr (2, [.int (d.1 0), .int (d.1 1), .int (d.1 2), .int (d.1 3), .ref (ad 1), .int (d.1 4), .ref (ad 11), .ref (ad 12), .ref (ad 2), .ref (ad 3), .int (d.1 5), .int (d.1 6), .int (d.1 7), .int (d.1 8)])), (ad 1, .inr (1, [.int (d.1 9), .ref (ad 4), .ref (ad 5), .ref (ad 6), .ref (ad 7), .ref (ad 8), .ref (ad 9), .ref (ad 10)])), (ad 10, .inl (y 0, 9, .inl (d.2 6))), (ad 12, .inl (y 0, 6, .inl (d.2 8))), (h, .inr (7, [.int (sd + 1), .int sw, .int u15.1, .ref (sa 0), .ref (sa 1), .ref (sa 2), .ref (sa 3), .ref (sa 4), .ref (sa 5), .ref (sa 6)])), (sa 0, .inl (y 0, 9, .inl u15.2))]) rfl rfl rfl (nl rfl) rfl d_Days_countRows_56 ?_
        refine j_iload_n (pc := 59) C d_Days_countRows_59 rfl 3 rfl ?_
        refine j_aload_n (pc := 60) C d_Days_countRows_60 rfl 0 rfl ?_
        refine j_aload_n (pc := 61) C d_Days_countRows_61 rfl 1 rfl ?_
        refine j_iload_n (pc := 62) C d_Days_countRows_62 rfl 2 rfl ?_
        refine j_iconst (pc := 63) C (v := 1) d_Days_countRows_63 (by decide) ?_
        refine j_isub (pc := 64) C (v := nI q) d_Days_countRows_64 (nI_pred q) ?_
        refine j_callSi (pc := 65) C (c_countRows_10 l D y ad d n4 h sa (sd + 1) sw u15.1 u15.2 q h4 b4 hJ hV (by omega)) kw_Days_159 ks_Days_countRows ⟨by decide, by decide⟩ ⟨by decide, by decide⟩ (wr := []) [0, 1, 2, 3, 4, 5] [] rfl rfl (by decide +kernel) (by decide +kernel) (by decide +kernel) (As := [.ref (ad 0), .ref h, .int (nI q)]) (rest := [.int rs]) rfl (nb rfl) rfl d_Days_countRows_65 (fun r16 u17 hr16 => ?_)
        refine j_ws (ws' := [(ad 0, .inr (2, [.int (d.1 0), .int (d.1 1), .int (d.1 2), .int (d.1 3), .ref (ad 1), .int (d.1 4), .ref (ad 11), .ref (ad 12), .ref (ad 2), .ref (ad 3), .int (d.1 5), .int (d.1 6), .int (d.1 7), .int (d.1 8)])), (ad 1, .inr (1, [.int (d.1 9), .ref (ad 4), .ref (ad 5), .ref (ad 6), .ref (ad 7), .ref (ad 8), .ref (ad 9), .ref (ad 10)])), (ad 10, .inl (y 0, 9, .inl (d.2 6))), (ad 12, .inl (y 0, 6, .inl (d.2 8))), (h, .inr (7, [.int u17.1, .int sw, .int u17.2.1, .ref (sa 0), .ref (sa 1), .ref (sa 2), .ref (sa 3), .ref (sa 4), .ref (sa 5), .ref (sa 6)])), (sa 0, .inl (y 0, 9, .inl u17.2.2))]) rfl ?_
        refine j_iadd (pc := 68) C (v := rs + r16) d_Days_countRows_68 rfl ?_
        refine j_istore_n (pc := 69) C (lv' := [(3, .int (rs + r16)), (0, .ref (ad 0)), (1, .ref h), (2, .int (nI (q + 1))), (4, .int la), (5, .int (nI a))]) d_Days_countRows_69 rfl (by decide) rfl ?_
        refine j_aload_n (pc := 70) C d_Days_countRows_70 rfl 2 rfl ?_
        refine j_dup (pc := 71) C d_Days_countRows_71 rfl ?_
        refine j_get (pc := 72) C gf_Days_59 4 rfl rfl d_Days_countRows_72 ?_
        refine j_iconst (pc := 75) C (v := 1) d_Days_countRows_75 (by decide) ?_
        refine j_isub (pc := 76) C (v := u17.1 - 1) d_Days_countRows_76 rfl ?_
        refine j_put (pc := 77) C pf_Days_59 4 (ws' := [(ad 0, .inr (2, [.int (d.1 0), .int (d.1 1), .int (d.1 2), .int (d.1 3), .ref (ad 1), .int (d.1 4), .ref (ad 11), .ref (ad 12), .ref (ad 2), .ref (ad 3), .int (d.1 5), .int (d.1 6), .int (d.1 7), .int (d.1 8)])), (ad 1, .inr (1, [.int (d.1 9), .ref (ad 4), .ref (ad 5), .ref (ad 6), .ref (ad 7), .ref (ad 8), .ref (ad 9), .ref (ad 10)])), (ad 10, .inl (y 0, 9, .inl (d.2 6))), (ad 12, .inl (y 0, 6, .inl (d.2 8))), (h, .inr (7, [.int (u17.1 - 1), .int sw, .int u17.2.1, .ref (sa 0), .ref (sa 1), .ref (sa 2), .ref (sa 3), .ref (sa 4), .ref (sa 5), .ref (sa 6)])), (sa 0, .inl (y 0, 9, .inl u17.2.2))]) rfl rfl rfl (nl rfl) rfl d_Days_countRows_77 ?_
        refine j_iload (pc := 80) C d_Days_countRows_80 5 rfl ?_
        refine j_if_eq (pc := 82) C (tgt := 101) d_Days_countRows_82 (by decide) (fun c18 => ?_) (fun c18 => ?_)
        · refine j_aload_n (pc := 101) C d_Days_countRows_101 rfl 2 rfl ?_
          refine j_iload (pc := 102) C d_Days_countRows_102 4 rfl ?_
          refine j_put (pc := 104) C pf_Days_15 4 (ws' := [(ad 0, .inr (2, [.int (d.1 0), .int (d.1 1), .int (d.1 2), .int (d.1 3), .ref (ad 1), .int (d.1 4), .ref (ad 11), .ref (ad 12), .ref (ad 2), .ref (ad 3), .int (d.1 5), .int (d.1 6), .int (d.1 7), .int (d.1 8)])), (ad 1, .inr (1, [.int (d.1 9), .ref (ad 4), .ref (ad 5), .ref (ad 6), .ref (ad 7), .ref (ad 8), .ref (ad 9), .ref (ad 10)])), (ad 10, .inl (y 0, 9, .inl (d.2 6))), (ad 12, .inl (y 0, 6, .inl (d.2 8))), (h, .inr (7, [.int (u17.1 - 1), .int sw, .int la, .ref (sa 0), .ref (sa 1), .ref (sa 2), .ref (sa 3), .ref (sa 4), .ref (sa 5), .ref (sa 6)])), (sa 0, .inl (y 0, 9, .inl u17.2.2))]) rfl rfl rfl (nl rfl) rfl d_Days_countRows_104 ?_
          refine j_iinc (pc := 107) C (v := nI (a + 1)) (lv' := [(5, .int (nI (a + 1))), (3, .int (rs + r16)), (0, .ref (ad 0)), (1, .ref h), (2, .int (nI (q + 1))), (4, .int la)]) d_Days_countRows_107 5 rfl (nI_1 _) (by decide) rfl ?_
          refine j_goto (pc := 110) C (tgt := 17) d_Days_countRows_110 (by decide) ?_
          refine j_locs (lv' := [(0, .ref (ad 0)), (1, .ref h), (2, .int (nI (q + 1))), (3, .int (rs + r16)), (4, .int la), (5, .int (nI (a + 1)))]) [2, 3, 4, 1, 5, 0] rfl ?_
          exact ih (a + 1) _ _ _ _ (by omega)
        · refine j_aload_n (pc := 85) C d_Days_countRows_85 rfl 1 rfl ?_
          refine j_aload_n (pc := 86) C d_Days_countRows_86 rfl 2 rfl ?_
          refine j_iload (pc := 87) C d_Days_countRows_87 5 rfl ?_
          refine j_iconst (pc := 89) C (v := 1) d_Days_countRows_89 (by decide) ?_
          refine j_icmp_ne (pc := 90) C (tgt := 97) d_Days_countRows_90 (by decide) (fun c19 => ?_) (fun c19 => ?_)
          · refine j_iconst (pc := 97) C (v := (-1)) d_Days_countRows_97 (by decide) ?_
            refine j_callSv (pc := 98) C (c_moveBoards l D y ad d n4 h sa (u17.1 - 1) sw u17.2.1 u17.2.2 (-1) h4 b4 hJ hV) kw_Days_106 ks_Days_moveBoards ⟨by decide, by decide⟩ ⟨by decide, by decide⟩ (wr := []) [0, 1, 2, 3, 4, 5] [] rfl rfl (by decide +kernel) (by decide +kernel) (by decide +kernel) (As := [.ref (ad 0), .ref h, .int (-1)]) (rest := []) rfl (nb rfl) rfl d_Days_countRows_98 (fun u20 _ => ?_)
            refine j_ws (ws' := [(ad 0, .inr (2, [.int (d.1 0), .int (d.1 1), .int (d.1 2), .int (d.1 3), .ref (ad 1), .int (d.1 4), .ref (ad 11), .ref (ad 12), .ref (ad 2), .ref (ad 3), .int (d.1 5), .int (d.1 6), .int (d.1 7), .int (d.1 8)])), (ad 1, .inr (1, [.int (d.1 9), .ref (ad 4), .ref (ad 5), .ref (ad 6), .ref (ad 7), .ref (ad 8), .ref (ad 9), .ref (ad 10)])), (ad 10, .inl (y 0, 9, .inl (d.2 6))), (ad 12, .inl (y 0, 6, .inl (d.2 8))), (h, .inr (7, [.int (u17.1 - 1), .int sw, .int u17.2.1, .ref (sa 0), .ref (sa 1), .ref (sa 2), .ref (sa 3), .ref (sa 4), .ref (sa 5), .ref (sa 6)])), (sa 0, .inl (y 0, 9, .inl u20))]) rfl ?_
            refine j_aload_n (pc := 101) C d_Days_countRows_101 rfl 2 rfl ?_
            refine j_iload (pc := 102) C d_Days_countRows_102 4 rfl ?_
            refine j_put (pc := 104) C pf_Days_15 4 (ws' := [(ad 0, .inr (2, [.int (d.1 0), .int (d.1 1), .int (d.1 2), .int (d.1 3), .ref (ad 1), .int (d.1 4), .ref (ad 11), .ref (ad 12), .ref (ad 2), .ref (ad 3), .int (d.1 5), .int (d.1 6), .int (d.1 7), .int (d.1 8)])), (ad 1, .inr (1, [.int (d.1 9), .ref (ad 4), .ref (ad 5), .ref (ad 6), .ref (ad 7), .ref (ad 8), .ref (ad 9), .ref (ad 10)])), (ad 10, .inl (y 0, 9, .inl (d.2 6))), (ad 12, .inl (y 0, 6, .inl (d.2 8))), (h, .inr (7, [.int (u17.1 - 1), .int sw, .int la, .ref (sa 0), .ref (sa 1), .ref (sa 2), .ref (sa 3), .ref (sa 4), .ref (sa 5), .ref (sa 6)])), (sa 0, .inl (y 0, 9, .inl u20))]) rfl rfl rfl (nl rfl) rfl d_Days_countRows_104 ?_
            refine j_iinc (pc := 107) C (v := nI (a + 1)) (lv' := [(5, .int (nI (a + 1))), (3, .int (rs + r16)), (0, .ref (ad 0)), (1, .ref h), (2, .int (nI (q + 1))), (4, .int la)]) d_Days_countRows_107 5 rfl (nI_1 _) (by decide) rfl ?_
            refine j_goto (pc := 110) C (tgt := 17) d_Days_countRows_110 (by decide) ?_
            refine j_locs (lv' := [(0, .ref (ad 0)), (1, .ref h), (2, .int (nI (q + 1))), (3, .int (rs + r16)), (4, .int la), (5, .int (nI (a + 1)))]) [2, 3, 4, 1, 5, 0] rfl ?_
            exact ih (a + 1) _ _ _ _ (by omega)
          · refine j_iconst (pc := 93) C (v := 1) d_Days_countRows_93 (by decide) ?_
            refine j_goto (pc := 94) C (tgt := 98) d_Days_countRows_94 (by decide) ?_
            refine j_callSv (pc := 98) C (c_moveBoards l D y ad d n4 h sa (u17.1 - 1) sw u17.2.1 u17.2.2 1 h4 b4 hJ hV) kw_Days_106 ks_Days_moveBoards ⟨by decide, by decide⟩ ⟨by decide, by decide⟩ (wr := []) [0, 1, 2, 3, 4, 5] [] rfl rfl (by decide +kernel) (by decide +kernel) (by decide +kernel) (As := [.ref (ad 0), .ref h, .int 1]) (rest := []) rfl (nb rfl) rfl d_Days_countRows_98 (fun u21 _ => ?_)
            refine j_ws (ws' := [(ad 0, .inr (2, [.int (d.1 0), .int (d.1 1), .int (d.1 2), .int (d.1 3), .ref (ad 1), .int (d.1 4), .ref (ad 11), .ref (ad 12), .ref (ad 2), .ref (ad 3), .int (d.1 5), .int (d.1 6), .int (d.1 7), .int (d.1 8)])), (ad 1, .inr (1, [.int (d.1 9), .ref (ad 4), .ref (ad 5), .ref (ad 6), .ref (ad 7), .ref (ad 8), .ref (ad 9), .ref (ad 10)])), (ad 10, .inl (y 0, 9, .inl (d.2 6))), (ad 12, .inl (y 0, 6, .inl (d.2 8))), (h, .inr (7, [.int (u17.1 - 1), .int sw, .int u17.2.1, .ref (sa 0), .ref (sa 1), .ref (sa 2), .ref (sa 3), .ref (sa 4), .ref (sa 5), .ref (sa 6)])), (sa 0, .inl (y 0, 9, .inl u21))]) rfl ?_
            refine j_aload_n (pc := 101) C d_Days_countRows_101 rfl 2 rfl ?_
            refine j_iload (pc := 102) C d_Days_countRows_102 4 rfl ?_
            refine j_put (pc := 104) C pf_Days_15 4 (ws' := [(ad 0, .inr (2, [.int (d.1 0), .int (d.1 1), .int (d.1 2), .int (d.1 3), .ref (ad 1), .int (d.1 4), .ref (ad 11), .ref (ad 12), .ref (ad 2), .ref (ad 3), .int (d.1 5), .int (d.1 6), .int (d.1 7), .int (d.1 8)])), (ad 1, .inr (1, [.int (d.1 9), .ref (ad 4), .ref (ad 5), .ref (ad 6), .ref (ad 7), .ref (ad 8), .ref (ad 9), .ref (ad 10)])), (ad 10, .inl (y 0, 9, .inl (d.2 6))), (ad 12, .inl (y 0, 6, .inl (d.2 8))), (h, .inr (7, [.int (u17.1 - 1), .int sw, .int la, .ref (sa 0), .ref (sa 1), .ref (sa 2), .ref (sa 3), .ref (sa 4), .ref (sa 5), .ref (sa 6)])), (sa 0, .inl (y 0, 9, .inl u21))]) rfl rfl rfl (nl rfl) rfl d_Days_countRows_104 ?_
            refine j_iinc (pc := 107) C (v := nI (a + 1)) (lv' := [(5, .int (nI (a + 1))), (3, .int (rs + r16)), (0, .ref (ad 0)), (1, .ref h), (2, .int (nI (q + 1))), (4, .int la)]) d_Days_countRows_107 5 rfl (nI_1 _) (by decide) rfl ?_
            refine j_goto (pc := 110) C (tgt := 17) d_Days_countRows_110 (by decide) ?_
            refine j_locs (lv' := [(0, .ref (ad 0)), (1, .ref h), (2, .int (nI (q + 1))), (3, .int (rs + r16)), (4, .int la), (5, .int (nI (a + 1)))]) [2, 3, 4, 1, 5, 0] rfl ?_
            exact ih (a + 1) _ _ _ _ (by omega)
set_option maxHeartbeats 4000000 in
set_option maxRecDepth 100000 in
theorem c_countRows_11 (l : Launch) (D : va_G) (y : Nat → ClassId) (ad : Nat → Nat) (d : LD) (n4 : Nat) (h : Nat) (sa : Nat → Nat) (sd : Int32) (sw : Int32) (sl : Int32) (f0 : Nat → Int32) (k : Nat) (h4 : d.1 4 = nI n4) (b4 : n4 ≤ 6) (hJ : ∀ j, j < 9 → d.2 6 j = -1 ∨ ∃ q, q < 9 ∧ d.2 6 j = nI q) (hV : ∀ j, j < n4 → ∃ q, q < 9 ∧ d.2 8 j = nI q) (hk : k ≤ 11) : CT l D y ⟨"NineBoards$Days", "countRows", "(LNineBoards$Lake;LNineBoards$State;I)I"⟩ prog_3_method_14_code 6 (some .int) ({ frames := 14, cells := 0, slots := 0, locals := 340 } : Room) [.ref (ad 0), .ref h, .int (nI k)] [(ad 0, .inr (2, [.int (d.1 0), .int (d.1 1), .int (d.1 2), .int (d.1 3), .ref (ad 1), .int (d.1 4), .ref (ad 11), .ref (ad 12), .ref (ad 2), .ref (ad 3), .int (d.1 5), .int (d.1 6), .int (d.1 7), .int (d.1 8)])), (ad 1, .inr (1, [.int (d.1 9), .ref (ad 4), .ref (ad 5), .ref (ad 6), .ref (ad 7), .ref (ad 8), .ref (ad 9), .ref (ad 10)])), (ad 10, .inl (y 0, 9, .inl (d.2 6))), (ad 12, .inl (y 0, 6, .inl (d.2 8))), (h, .inr (7, [.int sd, .int sw, .int sl, .ref (sa 0), .ref (sa 1), .ref (sa 2), .ref (sa 3), .ref (sa 4), .ref (sa 5), .ref (sa 6)])), (sa 0, .inl (y 0, 9, .inl f0))] (QI D [(ad 0, .inr (2, [.int (d.1 0), .int (d.1 1), .int (d.1 2), .int (d.1 3), .ref (ad 1), .int (d.1 4), .ref (ad 11), .ref (ad 12), .ref (ad 2), .ref (ad 3), .int (d.1 5), .int (d.1 6), .int (d.1 7), .int (d.1 8)])), (ad 1, .inr (1, [.int (d.1 9), .ref (ad 4), .ref (ad 5), .ref (ad 6), .ref (ad 7), .ref (ad 8), .ref (ad 9), .ref (ad 10)])), (ad 10, .inl (y 0, 9, .inl (d.2 6))), (ad 12, .inl (y 0, 6, .inl (d.2 8))), (h, .inr (7, [.int sd, .int sw, .int sl, .ref (sa 0), .ref (sa 1), .ref (sa 2), .ref (sa 3), .ref (sa 4), .ref (sa 5), .ref (sa 6)])), (sa 0, .inl (y 0, 9, .inl f0))] (fun (r : Int32) (u : Int32 × Int32 × (Nat → Int32)) => True) (fun u => [(ad 0, .inr (2, [.int (d.1 0), .int (d.1 1), .int (d.1 2), .int (d.1 3), .ref (ad 1), .int (d.1 4), .ref (ad 11), .ref (ad 12), .ref (ad 2), .ref (ad 3), .int (d.1 5), .int (d.1 6), .int (d.1 7), .int (d.1 8)])), (ad 1, .inr (1, [.int (d.1 9), .ref (ad 4), .ref (ad 5), .ref (ad 6), .ref (ad 7), .ref (ad 8), .ref (ad 9), .ref (ad 10)])), (ad 10, .inl (y 0, 9, .inl (d.2 6))), (ad 12, .inl (y 0, 6, .inl (d.2 8))), (h, .inr (7, [.int u.1, .int sw, .int u.2.1, .ref (sa 0), .ref (sa 1), .ref (sa 2), .ref (sa 3), .ref (sa 4), .ref (sa 5), .ref (sa 6)])), (sa 0, .inl (y 0, 9, .inl u.2.2))])) := by
  refine CT.of (by decide) (nb rfl) ?_
  intro p e s m args below meth c C hr
  refine j_lv (lv' := [(0, .ref (ad 0)), (1, .ref h), (2, .int (nI k))]) rfl ?_
  by_cases h0 : k = 0
  · subst h0
    refine j_iload_n (pc := 0) C d_Days_countRows_0 rfl 2 rfl ?_
    refine j_if_gtF (pc := 1) C (tgt := 6) d_Days_countRows_1 (by decide) (by decide) ?_
    refine j_iconst (pc := 4) C (v := 1) d_Days_countRows_4 (by decide) ?_
    exact j_iret (pc := 5) C hr rfl (sd, sl, f0) trivial [0, 1, 2, 3, 4, 5] rfl (by decide) (by decide) (by decide) d_Days_countRows_5
  · obtain ⟨q, rfl⟩ : ∃ q, k = q + 1 := ⟨k - 1, by omega⟩
    refine j_iload_n (pc := 0) C d_Days_countRows_0 rfl 2 rfl ?_
    refine j_if_gtT (pc := 1) C (tgt := 6) d_Days_countRows_1 (by decide) (show nI 0 < nI (q + 1) from nI_lt (by omega) (by omega)) ?_
    refine j_iconst (pc := 6) C (v := 0) d_Days_countRows_6 (by decide) ?_
    refine j_istore_n (pc := 7) C (lv' := [(3, .int 0), (0, .ref (ad 0)), (1, .ref h), (2, .int (nI (q + 1)))]) d_Days_countRows_7 rfl (by decide) rfl ?_
    refine j_aload_n (pc := 8) C d_Days_countRows_8 rfl 2 rfl ?_
    refine j_get (pc := 9) C gf_Days_15 4 rfl rfl d_Days_countRows_9 ?_
    refine j_istore (pc := 12) C (lv' := [(4, .int sl), (3, .int 0), (0, .ref (ad 0)), (1, .ref h), (2, .int (nI (q + 1)))]) d_Days_countRows_12 (by decide) rfl ?_
    refine j_iconst (pc := 14) C (v := 0) d_Days_countRows_14 (by decide) ?_
    refine j_istore (pc := 15) C (lv' := [(5, .int 0), (4, .int sl), (3, .int 0), (0, .ref (ad 0)), (1, .ref h), (2, .int (nI (q + 1)))]) d_Days_countRows_15 (by decide) rfl ?_
    refine j_locs (lv' := [(0, .ref (ad 0)), (1, .ref h), (2, .int (nI (q + 1))), (3, .int 0), (4, .int sl), (5, .int 0)]) [3, 4, 5, 2, 1, 0] rfl ?_
    refine j_lv (lv' := [(0, .ref (ad 0)), (1, .ref h), (2, .int (nI (q + 1))), (3, .int 0), (4, .int sl), (5, .int (nI 0))]) rfl ?_
    refine lp_rows_11 C ad d n4 h sa sw q sl h4 b4 hJ hV hk (fun rs sd sl f0 => ?_) 3 0 _ _ _ _ (by omega)
    refine j_iload_n (pc := 113) C d_Days_countRows_113 rfl 3 rfl ?_
    exact j_iret (pc := 114) C hr rfl (sd, sl, f0) trivial [0, 1, 2, 3, 4, 5] rfl (by decide) (by decide) (by decide) d_Days_countRows_114

set_option maxHeartbeats 4000000 in
set_option maxRecDepth 100000 in
theorem lp_rows_12 {p : Program} {l : Launch} {e : Env} {s : State} {m : MethodId} {args : Array Value} {below : List Frame} {meth : Method} {c : Code} {Q : State → Prop} {D : va_G} {y : Nat → ClassId} {A : Nat → Prop} (C : Cx p s m args meth c D y A prog_3_method_14_code 6 "NineBoards$Days" "countRows") (ad : Nat → Nat) (d : LD) (n4 : Nat) (h : Nat) (sa : Nat → Nat) (sw : Int32) (q : Nat) (la : Int32) (h4 : d.1 4 = nI n4) (b4 : n4 ≤ 6) (hJ : ∀ j, j < 9 → d.2 6 j = -1 ∨ ∃ q, q < 9 ∧ d.2 6 j = nI q) (hV : ∀ j, j < n4 → ∃ q, q < 9 ∧ d.2 8 j = nI q) (hq : q + 1 ≤ 12) (kx : ∀ (rs sd sl : Int32) (f0 : Nat → Int32), J p l e ({ frames := 15, cells := 0, slots := 0, locals := 365 } : Room) s m args below meth c Q D A 6 [(ad 0, .inr (2, [.int (d.1 0), .int (d.1 1), .int (d.1 2), .int (d.1 3), .ref (ad 1), .int (d.1 4), .ref (ad 11), .ref (ad 12), .ref (ad 2), .ref (ad 3), .int (d.1 5), .int (d.1 6), .int (d.1 7), .int (d.1 8)])), (ad 1, .inr (1, [.int (d.1 9), .ref (ad 4), .ref (ad 5), .ref (ad 6), .ref (ad 7), .ref (ad 8), .ref (ad 9), .ref (ad 10)])), (ad 10, .inl (y 0, 9, .inl (d.2 6))), (ad 12, .inl (y 0, 6, .inl (d.2 8))), (h, .inr (7, [.int sd, .int sw, .int sl, .ref (sa 0), .ref (sa 1), .ref (sa 2), .ref (sa 3), .ref (sa 4), .ref (sa 5), .ref (sa 6)])), (sa 0, .inl (y 0, 9, .inl f0))] [(0, .ref (ad 0)), (1, .ref h), (2, .int (nI (q + 1))), (3, .int rs), (4, .int la), (5, .int (nI 3))] 0 0 113 []) : ∀ (n : Nat) (a : Nat) (rs : Int32) (sd : Int32) (sl : Int32) (f0 : Nat → Int32), (a + n = 3) → J p l e ({ frames := 15, cells := 0, slots := 0, locals := 365 } : Room) s m args below meth c Q D A 6 [(ad 0, .inr (2, [.int (d.1 0), .int (d.1 1), .int (d.1 2), .int (d.1 3), .ref (ad 1), .int (d.1 4), .ref (ad 11), .ref (ad 12), .ref (ad 2), .ref (ad 3), .int (d.1 5), .int (d.1 6), .int (d.1 7), .int (d.1 8)])), (ad 1, .inr (1, [.int (d.1 9), .ref (ad 4), .ref (ad 5), .ref (ad 6), .ref (ad 7), .ref (ad 8), .ref (ad 9), .ref (ad 10)])), (ad 10, .inl (y 0, 9, .inl (d.2 6))), (ad 12, .inl (y 0, 6, .inl (d.2 8))), (h, .inr (7, [.int sd, .int sw, .int sl, .ref (sa 0), .ref (sa 1), .ref (sa 2), .ref (sa 3), .ref (sa 4), .ref (sa 5), .ref (sa 6)])), (sa 0, .inl (y 0, 9, .inl f0))] [(0, .ref (ad 0)), (1, .ref h), (2, .int (nI (q + 1))), (3, .int rs), (4, .int la), (5, .int (nI a))] 0 0 17 [] := by
  intro n
  induction n with
  | zero =>
    intro a rs sd sl f0 ha
    obtain rfl : a = 3 := by omega
    refine j_iload (pc := 17) C d_Days_countRows_17 5 rfl ?_
    refine j_iconst (pc := 19) C (v := 3) d_Days_countRows_19 (by decide) ?_
    refine j_icmp_geT (pc := 20) C (tgt := 113) d_Days_countRows_20 (by decide) (by decide) ?_
    exact kx _ _ _ _
  | succ n ih =>
    intro a rs sd sl f0 ha
    refine j_iload (pc := 17) C d_Days_countRows_17 5 rfl ?_
    refine j_iconst (pc := 19) C (v := 3) d_Days_countRows_19 (by decide) ?_
    refine j_icmp_geF (pc := 20) C (tgt := 113) d_Days_countRows_20 (by decide) (show ¬ nI 3 ≤ nI a from nI_ge (by omega) (by decide)) ?_
    refine j_aload_n (pc := 23) C d_Days_countRows_23 rfl 0 rfl ?_
    refine j_aload_n (pc := 24) C d_Days_countRows_24 rfl 1 rfl ?_
    refine j_aload_n (pc := 25) C d_Days_countRows_25 rfl 0 rfl ?_
    refine j_aload_n (pc := 26) C d_Days_countRows_26 rfl 1 rfl ?_
    refine j_get (pc := 27) C gf_Days_59 4 rfl rfl d_Days_countRows_27 ?_
    refine j_callVi (pc := 30) C (c_villageOn l D y ad d n4 sd h4 b4) kw_Days_109 kv_Lake_villageOn 0 2 rfl rfl ⟨by decide, by decide⟩ ⟨by decide, by decide⟩ (wr := [(ad 1, .inr (1, [.int (d.1 9), .ref (ad 4), .ref (ad 5), .ref (ad 6), .ref (ad 7), .ref (ad 8), .ref (ad 9), .ref (ad 10)])), (ad 10, .inl (y 0, 9, .inl (d.2 6))), (ad 12, .inl (y 0, 6, .inl (d.2 8))), (h, .inr (7, [.int sd, .int sw, .int sl, .ref (sa 0), .ref (sa 1), .ref (sa 2), .ref (sa 3), .ref (sa 4), .ref (sa 5), .ref (sa 6)])), (sa 0, .inl (y 0, 9, .inl f0))]) [0] [1, 2, 3, 4, 5] rfl rfl (by decide +kernel) (by decide +kernel) (by decide +kernel) (As := [.int sd]) (rest := [.ref h, .ref (ad 0)]) rfl (nb rfl) rfl d_Days_countRows_30 (fun r1 _ hr1 => ?_)
    refine j_ws (ws' := [(ad 1, .inr (1, [.int (d.1 9), .ref (ad 4), .ref (ad 5), .ref (ad 6), .ref (ad 7), .ref (ad 8), .ref (ad 9), .ref (ad 10)])), (ad 10, .inl (y 0, 9, .inl (d.2 6))), (ad 12, .inl (y 0, 6, .inl (d.2 8))), (h, .inr (7, [.int sd, .int sw, .int sl, .ref (sa 0), .ref (sa 1), .ref (sa 2), .ref (sa 3), .ref (sa 4), .ref (sa 5), .ref (sa 6)])), (sa 0, .inl (y 0, 9, .inl f0)), (ad 0, .inr (2, [.int (d.1 0), .int (d.1 1), .int (d.1 2), .int (d.1 3), .ref (ad 1), .int (d.1 4), .ref (ad 11), .ref (ad 12), .ref (ad 2), .ref (ad 3), .int (d.1 5), .int (d.1 6), .int (d.1 7), .int (d.1 8)]))]) rfl ?_
    rcases hr1 with rfl | ⟨j2, xh3, rfl⟩
    · refine j_iload (pc := 33) C d_Days_countRows_33 5 rfl ?_
      refine j_iconst (pc := 35) C (v := 0) d_Days_countRows_35 (by decide) ?_
      refine j_callSi (pc := 36) C (c_allows l D y ad d n4 h sa sd sw sl f0 (-1) (nI a) 0 h4 b4 hJ hV) kw_Days_43 ks_Days_allows ⟨by decide, by decide⟩ ⟨by decide, by decide⟩ (wr := []) [5, 0, 1, 2, 3, 4] [] rfl rfl (by decide +kernel) (by decide +kernel) (by decide +kernel) (As := [.ref (ad 0), .ref h, .int (-1), .int (nI a), .int 0]) (rest := []) rfl (nb rfl) rfl d_Days_countRows_36 (fun r4 _ hr4 => ?_)
      refine j_ws (ws' := [(ad 0, .inr (2, [.int (d.1 0), .int (d.1 1), .int (d.1 2), .int (d.1 3), .ref (ad 1), .int (d.1 4), .ref (ad 11), .ref (ad 12), .ref (ad 2), .ref (ad 3), .int (d.1 5), .int (d.1 6), .int (d.1 7), .int (d.1 8)])), (ad 1, .inr (1, [.int (d.1 9), .ref (ad 4), .ref (ad 5), .ref (ad 6), .ref (ad 7), .ref (ad 8), .ref (ad 9), .ref (ad 10)])), (ad 10, .inl (y 0, 9, .inl (d.2 6))), (ad 12, .inl (y 0, 6, .inl (d.2 8))), (h, .inr (7, [.int sd, .int sw, .int sl, .ref (sa 0), .ref (sa 1), .ref (sa 2), .ref (sa 3), .ref (sa 4), .ref (sa 5), .ref (sa 6)])), (sa 0, .inl (y 0, 9, .inl f0))]) rfl ?_
      refine j_if_eq (pc := 39) C (tgt := 107) d_Days_countRows_39 (by decide) (fun c5 => ?_) (fun c5 => ?_)
      · refine j_iinc (pc := 107) C (v := nI (a + 1)) (lv' := [(5, .int (nI (a + 1))), (0, .ref (ad 0)), (1, .ref h), (2, .int (nI (q + 1))), (3, .int rs), (4, .int la)]) d_Days_countRows_107 5 rfl (nI_1 _) (by decide) rfl ?_
        refine j_goto (pc := 110) C (tgt := 17) d_Days_countRows_110 (by decide) ?_
        refine j_locs (lv' := [(0, .ref (ad 0)), (1, .ref h), (2, .int (nI (q + 1))), (3, .int rs), (4, .int la), (5, .int (nI (a + 1)))]) [1, 2, 3, 4, 5, 0] rfl ?_
        exact ih (a + 1) _ _ _ _ (by omega)
      · refine j_aload_n (pc := 42) C d_Days_countRows_42 rfl 0 rfl ?_
        refine j_aload_n (pc := 43) C d_Days_countRows_43 rfl 1 rfl ?_
        refine j_iload (pc := 44) C d_Days_countRows_44 5 rfl ?_
        refine j_callSv (pc := 46) C (c_doAct l D y ad d n4 h sa sd sw sl f0 (nI a) h4 b4 hJ hV) kw_Days_47 ks_Days_doAct ⟨by decide, by decide⟩ ⟨by decide, by decide⟩ (wr := []) [0, 1, 2, 3, 4, 5] [] rfl rfl (by decide +kernel) (by decide +kernel) (by decide +kernel) (As := [.ref (ad 0), .ref h, .int (nI a)]) (rest := []) rfl (nb rfl) rfl d_Days_countRows_46 (fun u6 _ => ?_)
        refine j_ws (ws' := [(ad 0, .inr (2, [.int (d.1 0), .int (d.1 1), .int (d.1 2), .int (d.1 3), .ref (ad 1), .int (d.1 4), .ref (ad 11), .ref (ad 12), .ref (ad 2), .ref (ad 3), .int (d.1 5), .int (d.1 6), .int (d.1 7), .int (d.1 8)])), (ad 1, .inr (1, [.int (d.1 9), .ref (ad 4), .ref (ad 5), .ref (ad 6), .ref (ad 7), .ref (ad 8), .ref (ad 9), .ref (ad 10)])), (ad 10, .inl (y 0, 9, .inl (d.2 6))), (ad 12, .inl (y 0, 6, .inl (d.2 8))), (h, .inr (7, [.int sd, .int sw, .int u6.1, .ref (sa 0), .ref (sa 1), .ref (sa 2), .ref (sa 3), .ref (sa 4), .ref (sa 5), .ref (sa 6)])), (sa 0, .inl (y 0, 9, .inl u6.2))]) rfl ?_
        refine j_aload_n (pc := 49) C d_Days_countRows_49 rfl 1 rfl ?_
        refine j_dup (pc := 50) C d_Days_countRows_50 rfl ?_
        refine j_get (pc := 51) C gf_Days_59 4 rfl rfl d_Days_countRows_51 ?_
        refine j_iconst (pc := 54) C (v := 1) d_Days_countRows_54 (by decide) ?_
        refine j_iadd (pc := 55) C (v := sd + 1) d_Days_countRows_55 rfl ?_
        refine j_put (pc := 56) C pf_Days_59 4 (ws' := [(ad 0, .inr (2, [.int (d.1 0), .int (d.1 1), .int (d.1 2), .int (d.1 3), .ref (ad 1), .int (d.1 4), .ref (ad 11), .ref (ad 12), .ref (ad 2), .ref (ad 3), .int (d.1 5), .int (d.1 6), .int (d.1 7), .int (d.1 8)])), (ad 1, .inr (1, [.int (d.1 9), .ref (ad 4), .ref (ad 5), .ref (ad 6), .ref (ad 7), .ref (ad 8), .ref (ad 9), .ref (ad 10)])), (ad 10, .inl (y 0, 9, .inl (d.2 6))), (ad 12, .inl (y 0, 6, .inl (d.2 8))), (h, .inr (7, [.int (sd + 1), .int sw, .int u6.1, .ref (sa 0), .ref (sa 1), .ref (sa 2), .ref (sa 3), .ref (sa 4), .ref (sa 5), .ref (sa 6)])), (sa 0, .inl (y 0, 9, .inl u6.2))]) rfl rfl rfl (nl rfl) rfl d_Days_countRows_56 ?_
        refine j_iload_n (pc := 59) C d_Days_countRows_59 rfl 3 rfl ?_
        refine j_aload_n (pc := 60) C d_Days_countRows_60 rfl 0 rfl ?_
        refine j_aload_n (pc := 61) C d_Days_countRows_61 rfl 1 rfl ?_
        refine j_iload_n (pc := 62) C d_Days_countRows_62 rfl 2 rfl ?_
        refine j_iconst (pc := 63) C (v := 1) d_Days_countRows_63 (by decide) ?_
        refine j_isub (pc := 64) C (v := nI q) d_Days_countRows_64 (nI_pred q) ?_
        refine j_callSi (pc := 65) C (c_countRows_11 l D y ad d n4 h sa (sd + 1) sw u6.1 u6.2 q h4 b4 hJ hV (by omega)) kw_Days_159 ks_Days_countRows ⟨by decide, by decide⟩ ⟨by decide, by decide⟩ (wr := []) [0, 1, 2, 3, 4, 5] [] rfl rfl (by decide +kernel) (by decide +kernel) (by decide +kernel) (As := [.ref (ad 0), .ref h, .int (nI q)]) (rest := [.int rs]) rfl (nb rfl) rfl d_Days_countRows_65 (fun r7 u8 hr7 => ?_)
        refine j_ws (ws' := [(ad 0, .inr (2, [.int (d.1 0), .int (d.1 1), .int (d.1 2), .int (d.1 3), .ref (ad 1), .int (d.1 4), .ref (ad 11), .ref (ad 12), .ref (ad 2), .ref (ad 3), .int (d.1 5), .int (d.1 6), .int (d.1 7), .int (d.1 8)])), (ad 1, .inr (1, [.int (d.1 9), .ref (ad 4), .ref (ad 5), .ref (ad 6), .ref (ad 7), .ref (ad 8), .ref (ad 9), .ref (ad 10)])), (ad 10, .inl (y 0, 9, .inl (d.2 6))), (ad 12, .inl (y 0, 6, .inl (d.2 8))), (h, .inr (7, [.int u8.1, .int sw, .int u8.2.1, .ref (sa 0), .ref (sa 1), .ref (sa 2), .ref (sa 3), .ref (sa 4), .ref (sa 5), .ref (sa 6)])), (sa 0, .inl (y 0, 9, .inl u8.2.2))]) rfl ?_
        refine j_iadd (pc := 68) C (v := rs + r7) d_Days_countRows_68 rfl ?_
        refine j_istore_n (pc := 69) C (lv' := [(3, .int (rs + r7)), (0, .ref (ad 0)), (1, .ref h), (2, .int (nI (q + 1))), (4, .int la), (5, .int (nI a))]) d_Days_countRows_69 rfl (by decide) rfl ?_
        refine j_aload_n (pc := 70) C d_Days_countRows_70 rfl 2 rfl ?_
        refine j_dup (pc := 71) C d_Days_countRows_71 rfl ?_
        refine j_get (pc := 72) C gf_Days_59 4 rfl rfl d_Days_countRows_72 ?_
        refine j_iconst (pc := 75) C (v := 1) d_Days_countRows_75 (by decide) ?_
        refine j_isub (pc := 76) C (v := u8.1 - 1) d_Days_countRows_76 rfl ?_
        refine j_put (pc := 77) C pf_Days_59 4 (ws' := [(ad 0, .inr (2, [.int (d.1 0), .int (d.1 1), .int (d.1 2), .int (d.1 3), .ref (ad 1), .int (d.1 4), .ref (ad 11), .ref (ad 12), .ref (ad 2), .ref (ad 3), .int (d.1 5), .int (d.1 6), .int (d.1 7), .int (d.1 8)])), (ad 1, .inr (1, [.int (d.1 9), .ref (ad 4), .ref (ad 5), .ref (ad 6), .ref (ad 7), .ref (ad 8), .ref (ad 9), .ref (ad 10)])), (ad 10, .inl (y 0, 9, .inl (d.2 6))), (ad 12, .inl (y 0, 6, .inl (d.2 8))), (h, .inr (7, [.int (u8.1 - 1), .int sw, .int u8.2.1, .ref (sa 0), .ref (sa 1), .ref (sa 2), .ref (sa 3), .ref (sa 4), .ref (sa 5), .ref (sa 6)])), (sa 0, .inl (y 0, 9, .inl u8.2.2))]) rfl rfl rfl (nl rfl) rfl d_Days_countRows_77 ?_
        refine j_iload (pc := 80) C d_Days_countRows_80 5 rfl ?_
        refine j_if_eq (pc := 82) C (tgt := 101) d_Days_countRows_82 (by decide) (fun c9 => ?_) (fun c9 => ?_)
        · refine j_aload_n (pc := 101) C d_Days_countRows_101 rfl 2 rfl ?_
          refine j_iload (pc := 102) C d_Days_countRows_102 4 rfl ?_
          refine j_put (pc := 104) C pf_Days_15 4 (ws' := [(ad 0, .inr (2, [.int (d.1 0), .int (d.1 1), .int (d.1 2), .int (d.1 3), .ref (ad 1), .int (d.1 4), .ref (ad 11), .ref (ad 12), .ref (ad 2), .ref (ad 3), .int (d.1 5), .int (d.1 6), .int (d.1 7), .int (d.1 8)])), (ad 1, .inr (1, [.int (d.1 9), .ref (ad 4), .ref (ad 5), .ref (ad 6), .ref (ad 7), .ref (ad 8), .ref (ad 9), .ref (ad 10)])), (ad 10, .inl (y 0, 9, .inl (d.2 6))), (ad 12, .inl (y 0, 6, .inl (d.2 8))), (h, .inr (7, [.int (u8.1 - 1), .int sw, .int la, .ref (sa 0), .ref (sa 1), .ref (sa 2), .ref (sa 3), .ref (sa 4), .ref (sa 5), .ref (sa 6)])), (sa 0, .inl (y 0, 9, .inl u8.2.2))]) rfl rfl rfl (nl rfl) rfl d_Days_countRows_104 ?_
          refine j_iinc (pc := 107) C (v := nI (a + 1)) (lv' := [(5, .int (nI (a + 1))), (3, .int (rs + r7)), (0, .ref (ad 0)), (1, .ref h), (2, .int (nI (q + 1))), (4, .int la)]) d_Days_countRows_107 5 rfl (nI_1 _) (by decide) rfl ?_
          refine j_goto (pc := 110) C (tgt := 17) d_Days_countRows_110 (by decide) ?_
          refine j_locs (lv' := [(0, .ref (ad 0)), (1, .ref h), (2, .int (nI (q + 1))), (3, .int (rs + r7)), (4, .int la), (5, .int (nI (a + 1)))]) [2, 3, 4, 1, 5, 0] rfl ?_
          exact ih (a + 1) _ _ _ _ (by omega)
        · refine j_aload_n (pc := 85) C d_Days_countRows_85 rfl 1 rfl ?_
          refine j_aload_n (pc := 86) C d_Days_countRows_86 rfl 2 rfl ?_
          refine j_iload (pc := 87) C d_Days_countRows_87 5 rfl ?_
          refine j_iconst (pc := 89) C (v := 1) d_Days_countRows_89 (by decide) ?_
          refine j_icmp_ne (pc := 90) C (tgt := 97) d_Days_countRows_90 (by decide) (fun c10 => ?_) (fun c10 => ?_)
          · refine j_iconst (pc := 97) C (v := (-1)) d_Days_countRows_97 (by decide) ?_
            refine j_callSv (pc := 98) C (c_moveBoards l D y ad d n4 h sa (u8.1 - 1) sw u8.2.1 u8.2.2 (-1) h4 b4 hJ hV) kw_Days_106 ks_Days_moveBoards ⟨by decide, by decide⟩ ⟨by decide, by decide⟩ (wr := []) [0, 1, 2, 3, 4, 5] [] rfl rfl (by decide +kernel) (by decide +kernel) (by decide +kernel) (As := [.ref (ad 0), .ref h, .int (-1)]) (rest := []) rfl (nb rfl) rfl d_Days_countRows_98 (fun u11 _ => ?_)
            refine j_ws (ws' := [(ad 0, .inr (2, [.int (d.1 0), .int (d.1 1), .int (d.1 2), .int (d.1 3), .ref (ad 1), .int (d.1 4), .ref (ad 11), .ref (ad 12), .ref (ad 2), .ref (ad 3), .int (d.1 5), .int (d.1 6), .int (d.1 7), .int (d.1 8)])), (ad 1, .inr (1, [.int (d.1 9), .ref (ad 4), .ref (ad 5), .ref (ad 6), .ref (ad 7), .ref (ad 8), .ref (ad 9), .ref (ad 10)])), (ad 10, .inl (y 0, 9, .inl (d.2 6))), (ad 12, .inl (y 0, 6, .inl (d.2 8))), (h, .inr (7, [.int (u8.1 - 1), .int sw, .int u8.2.1, .ref (sa 0), .ref (sa 1), .ref (sa 2), .ref (sa 3), .ref (sa 4), .ref (sa 5), .ref (sa 6)])), (sa 0, .inl (y 0, 9, .inl u11))]) rfl ?_
            refine j_aload_n (pc := 101) C d_Days_countRows_101 rfl 2 rfl ?_
            refine j_iload (pc := 102) C d_Days_countRows_102 4 rfl ?_
            refine j_put (pc := 104) C pf_Days_15 4 (ws' := [(ad 0, .inr (2, [.int (d.1 0), .int (d.1 1), .int (d.1 2), .int (d.1 3), .ref (ad 1), .int (d.1 4), .ref (ad 11), .ref (ad 12), .ref (ad 2), .ref (ad 3), .int (d.1 5), .int (d.1 6), .int (d.1 7), .int (d.1 8)])), (ad 1, .inr (1, [.int (d.1 9), .ref (ad 4), .ref (ad 5), .ref (ad 6), .ref (ad 7), .ref (ad 8), .ref (ad 9), .ref (ad 10)])), (ad 10, .inl (y 0, 9, .inl (d.2 6))), (ad 12, .inl (y 0, 6, .inl (d.2 8))), (h, .inr (7, [.int (u8.1 - 1), .int sw, .int la, .ref (sa 0), .ref (sa 1), .ref (sa 2), .ref (sa 3), .ref (sa 4), .ref (sa 5), .ref (sa 6)])), (sa 0, .inl (y 0, 9, .inl u11))]) rfl rfl rfl (nl rfl) rfl d_Days_countRows_104 ?_
            refine j_iinc (pc := 107) C (v := nI (a + 1)) (lv' := [(5, .int (nI (a + 1))), (3, .int (rs + r7)), (0, .ref (ad 0)), (1, .ref h), (2, .int (nI (q + 1))), (4, .int la)]) d_Days_countRows_107 5 rfl (nI_1 _) (by decide) rfl ?_
            refine j_goto (pc := 110) C (tgt := 17) d_Days_countRows_110 (by decide) ?_
            refine j_locs (lv' := [(0, .ref (ad 0)), (1, .ref h), (2, .int (nI (q + 1))), (3, .int (rs + r7)), (4, .int la), (5, .int (nI (a + 1)))]) [2, 3, 4, 1, 5, 0] rfl ?_
            exact ih (a + 1) _ _ _ _ (by omega)
          · refine j_iconst (pc := 93) C (v := 1) d_Days_countRows_93 (by decide) ?_
            refine j_goto (pc := 94) C (tgt := 98) d_Days_countRows_94 (by decide) ?_
            refine j_callSv (pc := 98) C (c_moveBoards l D y ad d n4 h sa (u8.1 - 1) sw u8.2.1 u8.2.2 1 h4 b4 hJ hV) kw_Days_106 ks_Days_moveBoards ⟨by decide, by decide⟩ ⟨by decide, by decide⟩ (wr := []) [0, 1, 2, 3, 4, 5] [] rfl rfl (by decide +kernel) (by decide +kernel) (by decide +kernel) (As := [.ref (ad 0), .ref h, .int 1]) (rest := []) rfl (nb rfl) rfl d_Days_countRows_98 (fun u12 _ => ?_)
            refine j_ws (ws' := [(ad 0, .inr (2, [.int (d.1 0), .int (d.1 1), .int (d.1 2), .int (d.1 3), .ref (ad 1), .int (d.1 4), .ref (ad 11), .ref (ad 12), .ref (ad 2), .ref (ad 3), .int (d.1 5), .int (d.1 6), .int (d.1 7), .int (d.1 8)])), (ad 1, .inr (1, [.int (d.1 9), .ref (ad 4), .ref (ad 5), .ref (ad 6), .ref (ad 7), .ref (ad 8), .ref (ad 9), .ref (ad 10)])), (ad 10, .inl (y 0, 9, .inl (d.2 6))), (ad 12, .inl (y 0, 6, .inl (d.2 8))), (h, .inr (7, [.int (u8.1 - 1), .int sw, .int u8.2.1, .ref (sa 0), .ref (sa 1), .ref (sa 2), .ref (sa 3), .ref (sa 4), .ref (sa 5), .ref (sa 6)])), (sa 0, .inl (y 0, 9, .inl u12))]) rfl ?_
            refine j_aload_n (pc := 101) C d_Days_countRows_101 rfl 2 rfl ?_
            refine j_iload (pc := 102) C d_Days_countRows_102 4 rfl ?_
            refine j_put (pc := 104) C pf_Days_15 4 (ws' := [(ad 0, .inr (2, [.int (d.1 0), .int (d.1 1), .int (d.1 2), .int (d.1 3), .ref (ad 1), .int (d.1 4), .ref (ad 11), .ref (ad 12), .ref (ad 2), .ref (ad 3), .int (d.1 5), .int (d.1 6), .int (d.1 7), .int (d.1 8)])), (ad 1, .inr (1, [.int (d.1 9), .ref (ad 4), .ref (ad 5), .ref (ad 6), .ref (ad 7), .ref (ad 8), .ref (ad 9), .ref (ad 10)])), (ad 10, .inl (y 0, 9, .inl (d.2 6))), (ad 12, .inl (y 0, 6, .inl (d.2 8))), (h, .inr (7, [.int (u8.1 - 1), .int sw, .int la, .ref (sa 0), .ref (sa 1), .ref (sa 2), .ref (sa 3), .ref (sa 4), .ref (sa 5), .ref (sa 6)])), (sa 0, .inl (y 0, 9, .inl u12))]) rfl rfl rfl (nl rfl) rfl d_Days_countRows_104 ?_
            refine j_iinc (pc := 107) C (v := nI (a + 1)) (lv' := [(5, .int (nI (a + 1))), (3, .int (rs + r7)), (0, .ref (ad 0)), (1, .ref h), (2, .int (nI (q + 1))), (4, .int la)]) d_Days_countRows_107 5 rfl (nI_1 _) (by decide) rfl ?_
            refine j_goto (pc := 110) C (tgt := 17) d_Days_countRows_110 (by decide) ?_
            refine j_locs (lv' := [(0, .ref (ad 0)), (1, .ref h), (2, .int (nI (q + 1))), (3, .int (rs + r7)), (4, .int la), (5, .int (nI (a + 1)))]) [2, 3, 4, 1, 5, 0] rfl ?_
            exact ih (a + 1) _ _ _ _ (by omega)
    · refine j_iload (pc := 33) C d_Days_countRows_33 5 rfl ?_
      refine j_iconst (pc := 35) C (v := 0) d_Days_countRows_35 (by decide) ?_
      refine j_callSi (pc := 36) C (c_allows l D y ad d n4 h sa sd sw sl f0 (nI j2) (nI a) 0 h4 b4 hJ hV) kw_Days_43 ks_Days_allows ⟨by decide, by decide⟩ ⟨by decide, by decide⟩ (wr := []) [5, 0, 1, 2, 3, 4] [] rfl rfl (by decide +kernel) (by decide +kernel) (by decide +kernel) (As := [.ref (ad 0), .ref h, .int (nI j2), .int (nI a), .int 0]) (rest := []) rfl (nb rfl) rfl d_Days_countRows_36 (fun r13 _ hr13 => ?_)
      refine j_ws (ws' := [(ad 0, .inr (2, [.int (d.1 0), .int (d.1 1), .int (d.1 2), .int (d.1 3), .ref (ad 1), .int (d.1 4), .ref (ad 11), .ref (ad 12), .ref (ad 2), .ref (ad 3), .int (d.1 5), .int (d.1 6), .int (d.1 7), .int (d.1 8)])), (ad 1, .inr (1, [.int (d.1 9), .ref (ad 4), .ref (ad 5), .ref (ad 6), .ref (ad 7), .ref (ad 8), .ref (ad 9), .ref (ad 10)])), (ad 10, .inl (y 0, 9, .inl (d.2 6))), (ad 12, .inl (y 0, 6, .inl (d.2 8))), (h, .inr (7, [.int sd, .int sw, .int sl, .ref (sa 0), .ref (sa 1), .ref (sa 2), .ref (sa 3), .ref (sa 4), .ref (sa 5), .ref (sa 6)])), (sa 0, .inl (y 0, 9, .inl f0))]) rfl ?_
      refine j_if_eq (pc := 39) C (tgt := 107) d_Days_countRows_39 (by decide) (fun c14 => ?_) (fun c14 => ?_)
      · refine j_iinc (pc := 107) C (v := nI (a + 1)) (lv' := [(5, .int (nI (a + 1))), (0, .ref (ad 0)), (1, .ref h), (2, .int (nI (q + 1))), (3, .int rs), (4, .int la)]) d_Days_countRows_107 5 rfl (nI_1 _) (by decide) rfl ?_
        refine j_goto (pc := 110) C (tgt := 17) d_Days_countRows_110 (by decide) ?_
        refine j_locs (lv' := [(0, .ref (ad 0)), (1, .ref h), (2, .int (nI (q + 1))), (3, .int rs), (4, .int la), (5, .int (nI (a + 1)))]) [1, 2, 3, 4, 5, 0] rfl ?_
        exact ih (a + 1) _ _ _ _ (by omega)
      · refine j_aload_n (pc := 42) C d_Days_countRows_42 rfl 0 rfl ?_
        refine j_aload_n (pc := 43) C d_Days_countRows_43 rfl 1 rfl ?_
        refine j_iload (pc := 44) C d_Days_countRows_44 5 rfl ?_
        refine j_callSv (pc := 46) C (c_doAct l D y ad d n4 h sa sd sw sl f0 (nI a) h4 b4 hJ hV) kw_Days_47 ks_Days_doAct ⟨by decide, by decide⟩ ⟨by decide, by decide⟩ (wr := []) [0, 1, 2, 3, 4, 5] [] rfl rfl (by decide +kernel) (by decide +kernel) (by decide +kernel) (As := [.ref (ad 0), .ref h, .int (nI a)]) (rest := []) rfl (nb rfl) rfl d_Days_countRows_46 (fun u15 _ => ?_)
        refine j_ws (ws' := [(ad 0, .inr (2, [.int (d.1 0), .int (d.1 1), .int (d.1 2), .int (d.1 3), .ref (ad 1), .int (d.1 4), .ref (ad 11), .ref (ad 12), .ref (ad 2), .ref (ad 3), .int (d.1 5), .int (d.1 6), .int (d.1 7), .int (d.1 8)])), (ad 1, .inr (1, [.int (d.1 9), .ref (ad 4), .ref (ad 5), .ref (ad 6), .ref (ad 7), .ref (ad 8), .ref (ad 9), .ref (ad 10)])), (ad 10, .inl (y 0, 9, .inl (d.2 6))), (ad 12, .inl (y 0, 6, .inl (d.2 8))), (h, .inr (7, [.int sd, .int sw, .int u15.1, .ref (sa 0), .ref (sa 1), .ref (sa 2), .ref (sa 3), .ref (sa 4), .ref (sa 5), .ref (sa 6)])), (sa 0, .inl (y 0, 9, .inl u15.2))]) rfl ?_
        refine j_aload_n (pc := 49) C d_Days_countRows_49 rfl 1 rfl ?_
        refine j_dup (pc := 50) C d_Days_countRows_50 rfl ?_
        refine j_get (pc := 51) C gf_Days_59 4 rfl rfl d_Days_countRows_51 ?_
        refine j_iconst (pc := 54) C (v := 1) d_Days_countRows_54 (by decide) ?_
        refine j_iadd (pc := 55) C (v := sd + 1) d_Days_countRows_55 rfl ?_
        refine j_put (pc := 56) C pf_Days_59 4 (ws' := [(ad 0, .inr (2, [.int (d.1 0), .int (d.1 1), .int (d.1 2), .int (d.1 3), .ref (ad 1), .int (d.1 4), .ref (ad 11), .ref (ad 12), .ref (ad 2), .ref (ad 3), .int (d.1 5), .int (d.1 6), .int (d.1 7), .int (d.1 8)])), (ad 1, .inr (1, [.int (d.1 9), .ref (ad 4), .ref (ad 5), .ref (ad 6), .ref (ad 7), .ref (ad 8), .ref (ad 9), .ref (ad 10)])), (ad 10, .inl (y 0, 9, .inl (d.2 6))), (ad 12, .inl (y 0, 6, .inl (d.2 8))), (h, .inr (7, [.int (sd + 1), .int sw, .int u15.1, .ref (sa 0), .ref (sa 1), .ref (sa 2), .ref (sa 3), .ref (sa 4), .ref (sa 5), .ref (sa 6)])), (sa 0, .inl (y 0, 9, .inl u15.2))]) rfl rfl rfl (nl rfl) rfl d_Days_countRows_56 ?_
        refine j_iload_n (pc := 59) C d_Days_countRows_59 rfl 3 rfl ?_
        refine j_aload_n (pc := 60) C d_Days_countRows_60 rfl 0 rfl ?_
        refine j_aload_n (pc := 61) C d_Days_countRows_61 rfl 1 rfl ?_
        refine j_iload_n (pc := 62) C d_Days_countRows_62 rfl 2 rfl ?_
        refine j_iconst (pc := 63) C (v := 1) d_Days_countRows_63 (by decide) ?_
        refine j_isub (pc := 64) C (v := nI q) d_Days_countRows_64 (nI_pred q) ?_
        refine j_callSi (pc := 65) C (c_countRows_11 l D y ad d n4 h sa (sd + 1) sw u15.1 u15.2 q h4 b4 hJ hV (by omega)) kw_Days_159 ks_Days_countRows ⟨by decide, by decide⟩ ⟨by decide, by decide⟩ (wr := []) [0, 1, 2, 3, 4, 5] [] rfl rfl (by decide +kernel) (by decide +kernel) (by decide +kernel) (As := [.ref (ad 0), .ref h, .int (nI q)]) (rest := [.int rs]) rfl (nb rfl) rfl d_Days_countRows_65 (fun r16 u17 hr16 => ?_)
        refine j_ws (ws' := [(ad 0, .inr (2, [.int (d.1 0), .int (d.1 1), .int (d.1 2), .int (d.1 3), .ref (ad 1), .int (d.1 4), .ref (ad 11), .ref (ad 12), .ref (ad 2), .ref (ad 3), .int (d.1 5), .int (d.1 6), .int (d.1 7), .int (d.1 8)])), (ad 1, .inr (1, [.int (d.1 9), .ref (ad 4), .ref (ad 5), .ref (ad 6), .ref (ad 7), .ref (ad 8), .ref (ad 9), .ref (ad 10)])), (ad 10, .inl (y 0, 9, .inl (d.2 6))), (ad 12, .inl (y 0, 6, .inl (d.2 8))), (h, .inr (7, [.int u17.1, .int sw, .int u17.2.1, .ref (sa 0), .ref (sa 1), .ref (sa 2), .ref (sa 3), .ref (sa 4), .ref (sa 5), .ref (sa 6)])), (sa 0, .inl (y 0, 9, .inl u17.2.2))]) rfl ?_
        refine j_iadd (pc := 68) C (v := rs + r16) d_Days_countRows_68 rfl ?_
        refine j_istore_n (pc := 69) C (lv' := [(3, .int (rs + r16)), (0, .ref (ad 0)), (1, .ref h), (2, .int (nI (q + 1))), (4, .int la), (5, .int (nI a))]) d_Days_countRows_69 rfl (by decide) rfl ?_
        refine j_aload_n (pc := 70) C d_Days_countRows_70 rfl 2 rfl ?_
        refine j_dup (pc := 71) C d_Days_countRows_71 rfl ?_
        refine j_get (pc := 72) C gf_Days_59 4 rfl rfl d_Days_countRows_72 ?_
        refine j_iconst (pc := 75) C (v := 1) d_Days_countRows_75 (by decide) ?_
        refine j_isub (pc := 76) C (v := u17.1 - 1) d_Days_countRows_76 rfl ?_
        refine j_put (pc := 77) C pf_Days_59 4 (ws' := [(ad 0, .inr (2, [.int (d.1 0), .int (d.1 1), .int (d.1 2), .int (d.1 3), .ref (ad 1), .int (d.1 4), .ref (ad 11), .ref (ad 12), .ref (ad 2), .ref (ad 3), .int (d.1 5), .int (d.1 6), .int (d.1 7), .int (d.1 8)])), (ad 1, .inr (1, [.int (d.1 9), .ref (ad 4), .ref (ad 5), .ref (ad 6), .ref (ad 7), .ref (ad 8), .ref (ad 9), .ref (ad 10)])), (ad 10, .inl (y 0, 9, .inl (d.2 6))), (ad 12, .inl (y 0, 6, .inl (d.2 8))), (h, .inr (7, [.int (u17.1 - 1), .int sw, .int u17.2.1, .ref (sa 0), .ref (sa 1), .ref (sa 2), .ref (sa 3), .ref (sa 4), .ref (sa 5), .ref (sa 6)])), (sa 0, .inl (y 0, 9, .inl u17.2.2))]) rfl rfl rfl (nl rfl) rfl d_Days_countRows_77 ?_
        refine j_iload (pc := 80) C d_Days_countRows_80 5 rfl ?_
        refine j_if_eq (pc := 82) C (tgt := 101) d_Days_countRows_82 (by decide) (fun c18 => ?_) (fun c18 => ?_)
        · refine j_aload_n (pc := 101) C d_Days_countRows_101 rfl 2 rfl ?_
          refine j_iload (pc := 102) C d_Days_countRows_102 4 rfl ?_
          refine j_put (pc := 104) C pf_Days_15 4 (ws' := [(ad 0, .inr (2, [.int (d.1 0), .int (d.1 1), .int (d.1 2), .int (d.1 3), .ref (ad 1), .int (d.1 4), .ref (ad 11), .ref (ad 12), .ref (ad 2), .ref (ad 3), .int (d.1 5), .int (d.1 6), .int (d.1 7), .int (d.1 8)])), (ad 1, .inr (1, [.int (d.1 9), .ref (ad 4), .ref (ad 5), .ref (ad 6), .ref (ad 7), .ref (ad 8), .ref (ad 9), .ref (ad 10)])), (ad 10, .inl (y 0, 9, .inl (d.2 6))), (ad 12, .inl (y 0, 6, .inl (d.2 8))), (h, .inr (7, [.int (u17.1 - 1), .int sw, .int la, .ref (sa 0), .ref (sa 1), .ref (sa 2), .ref (sa 3), .ref (sa 4), .ref (sa 5), .ref (sa 6)])), (sa 0, .inl (y 0, 9, .inl u17.2.2))]) rfl rfl rfl (nl rfl) rfl d_Days_countRows_104 ?_
          refine j_iinc (pc := 107) C (v := nI (a + 1)) (lv' := [(5, .int (nI (a + 1))), (3, .int (rs + r16)), (0, .ref (ad 0)), (1, .ref h), (2, .int (nI (q + 1))), (4, .int la)]) d_Days_countRows_107 5 rfl (nI_1 _) (by decide) rfl ?_
          refine j_goto (pc := 110) C (tgt := 17) d_Days_countRows_110 (by decide) ?_
          refine j_locs (lv' := [(0, .ref (ad 0)), (1, .ref h), (2, .int (nI (q + 1))), (3, .int (rs + r16)), (4, .int la), (5, .int (nI (a + 1)))]) [2, 3, 4, 1, 5, 0] rfl ?_
          exact ih (a + 1) _ _ _ _ (by omega)
        · refine j_aload_n (pc := 85) C d_Days_countRows_85 rfl 1 rfl ?_
          refine j_aload_n (pc := 86) C d_Days_countRows_86 rfl 2 rfl ?_
          refine j_iload (pc := 87) C d_Days_countRows_87 5 rfl ?_
          refine j_iconst (pc := 89) C (v := 1) d_Days_countRows_89 (by decide) ?_
          refine j_icmp_ne (pc := 90) C (tgt := 97) d_Days_countRows_90 (by decide) (fun c19 => ?_) (fun c19 => ?_)
          · refine j_iconst (pc := 97) C (v := (-1)) d_Days_countRows_97 (by decide) ?_
            refine j_callSv (pc := 98) C (c_moveBoards l D y ad d n4 h sa (u17.1 - 1) sw u17.2.1 u17.2.2 (-1) h4 b4 hJ hV) kw_Days_106 ks_Days_moveBoards ⟨by decide, by decide⟩ ⟨by decide, by decide⟩ (wr := []) [0, 1, 2, 3, 4, 5] [] rfl rfl (by decide +kernel) (by decide +kernel) (by decide +kernel) (As := [.ref (ad 0), .ref h, .int (-1)]) (rest := []) rfl (nb rfl) rfl d_Days_countRows_98 (fun u20 _ => ?_)
            refine j_ws (ws' := [(ad 0, .inr (2, [.int (d.1 0), .int (d.1 1), .int (d.1 2), .int (d.1 3), .ref (ad 1), .int (d.1 4), .ref (ad 11), .ref (ad 12), .ref (ad 2), .ref (ad 3), .int (d.1 5), .int (d.1 6), .int (d.1 7), .int (d.1 8)])), (ad 1, .inr (1, [.int (d.1 9), .ref (ad 4), .ref (ad 5), .ref (ad 6), .ref (ad 7), .ref (ad 8), .ref (ad 9), .ref (ad 10)])), (ad 10, .inl (y 0, 9, .inl (d.2 6))), (ad 12, .inl (y 0, 6, .inl (d.2 8))), (h, .inr (7, [.int (u17.1 - 1), .int sw, .int u17.2.1, .ref (sa 0), .ref (sa 1), .ref (sa 2), .ref (sa 3), .ref (sa 4), .ref (sa 5), .ref (sa 6)])), (sa 0, .inl (y 0, 9, .inl u20))]) rfl ?_
            refine j_aload_n (pc := 101) C d_Days_countRows_101 rfl 2 rfl ?_
            refine j_iload (pc := 102) C d_Days_countRows_102 4 rfl ?_
            refine j_put (pc := 104) C pf_Days_15 4 (ws' := [(ad 0, .inr (2, [.int (d.1 0), .int (d.1 1), .int (d.1 2), .int (d.1 3), .ref (ad 1), .int (d.1 4), .ref (ad 11), .ref (ad 12), .ref (ad 2), .ref (ad 3), .int (d.1 5), .int (d.1 6), .int (d.1 7), .int (d.1 8)])), (ad 1, .inr (1, [.int (d.1 9), .ref (ad 4), .ref (ad 5), .ref (ad 6), .ref (ad 7), .ref (ad 8), .ref (ad 9), .ref (ad 10)])), (ad 10, .inl (y 0, 9, .inl (d.2 6))), (ad 12, .inl (y 0, 6, .inl (d.2 8))), (h, .inr (7, [.int (u17.1 - 1), .int sw, .int la, .ref (sa 0), .ref (sa 1), .ref (sa 2), .ref (sa 3), .ref (sa 4), .ref (sa 5), .ref (sa 6)])), (sa 0, .inl (y 0, 9, .inl u20))]) rfl rfl rfl (nl rfl) rfl d_Days_countRows_104 ?_
            refine j_iinc (pc := 107) C (v := nI (a + 1)) (lv' := [(5, .int (nI (a + 1))), (3, .int (rs + r16)), (0, .ref (ad 0)), (1, .ref h), (2, .int (nI (q + 1))), (4, .int la)]) d_Days_countRows_107 5 rfl (nI_1 _) (by decide) rfl ?_
            refine j_goto (pc := 110) C (tgt := 17) d_Days_countRows_110 (by decide) ?_
            refine j_locs (lv' := [(0, .ref (ad 0)), (1, .ref h), (2, .int (nI (q + 1))), (3, .int (rs + r16)), (4, .int la), (5, .int (nI (a + 1)))]) [2, 3, 4, 1, 5, 0] rfl ?_
            exact ih (a + 1) _ _ _ _ (by omega)
          · refine j_iconst (pc := 93) C (v := 1) d_Days_countRows_93 (by decide) ?_
            refine j_goto (pc := 94) C (tgt := 98) d_Days_countRows_94 (by decide) ?_
            refine j_callSv (pc := 98) C (c_moveBoards l D y ad d n4 h sa (u17.1 - 1) sw u17.2.1 u17.2.2 1 h4 b4 hJ hV) kw_Days_106 ks_Days_moveBoards ⟨by decide, by decide⟩ ⟨by decide, by decide⟩ (wr := []) [0, 1, 2, 3, 4, 5] [] rfl rfl (by decide +kernel) (by decide +kernel) (by decide +kernel) (As := [.ref (ad 0), .ref h, .int 1]) (rest := []) rfl (nb rfl) rfl d_Days_countRows_98 (fun u21 _ => ?_)
            refine j_ws (ws' := [(ad 0, .inr (2, [.int (d.1 0), .int (d.1 1), .int (d.1 2), .int (d.1 3), .ref (ad 1), .int (d.1 4), .ref (ad 11), .ref (ad 12), .ref (ad 2), .ref (ad 3), .int (d.1 5), .int (d.1 6), .int (d.1 7), .int (d.1 8)])), (ad 1, .inr (1, [.int (d.1 9), .ref (ad 4), .ref (ad 5), .ref (ad 6), .ref (ad 7), .ref (ad 8), .ref (ad 9), .ref (ad 10)])), (ad 10, .inl (y 0, 9, .inl (d.2 6))), (ad 12, .inl (y 0, 6, .inl (d.2 8))), (h, .inr (7, [.int (u17.1 - 1), .int sw, .int u17.2.1, .ref (sa 0), .ref (sa 1), .ref (sa 2), .ref (sa 3), .ref (sa 4), .ref (sa 5), .ref (sa 6)])), (sa 0, .inl (y 0, 9, .inl u21))]) rfl ?_
            refine j_aload_n (pc := 101) C d_Days_countRows_101 rfl 2 rfl ?_
            refine j_iload (pc := 102) C d_Days_countRows_102 4 rfl ?_
            refine j_put (pc := 104) C pf_Days_15 4 (ws' := [(ad 0, .inr (2, [.int (d.1 0), .int (d.1 1), .int (d.1 2), .int (d.1 3), .ref (ad 1), .int (d.1 4), .ref (ad 11), .ref (ad 12), .ref (ad 2), .ref (ad 3), .int (d.1 5), .int (d.1 6), .int (d.1 7), .int (d.1 8)])), (ad 1, .inr (1, [.int (d.1 9), .ref (ad 4), .ref (ad 5), .ref (ad 6), .ref (ad 7), .ref (ad 8), .ref (ad 9), .ref (ad 10)])), (ad 10, .inl (y 0, 9, .inl (d.2 6))), (ad 12, .inl (y 0, 6, .inl (d.2 8))), (h, .inr (7, [.int (u17.1 - 1), .int sw, .int la, .ref (sa 0), .ref (sa 1), .ref (sa 2), .ref (sa 3), .ref (sa 4), .ref (sa 5), .ref (sa 6)])), (sa 0, .inl (y 0, 9, .inl u21))]) rfl rfl rfl (nl rfl) rfl d_Days_countRows_104 ?_
            refine j_iinc (pc := 107) C (v := nI (a + 1)) (lv' := [(5, .int (nI (a + 1))), (3, .int (rs + r16)), (0, .ref (ad 0)), (1, .ref h), (2, .int (nI (q + 1))), (4, .int la)]) d_Days_countRows_107 5 rfl (nI_1 _) (by decide) rfl ?_
            refine j_goto (pc := 110) C (tgt := 17) d_Days_countRows_110 (by decide) ?_
            refine j_locs (lv' := [(0, .ref (ad 0)), (1, .ref h), (2, .int (nI (q + 1))), (3, .int (rs + r16)), (4, .int la), (5, .int (nI (a + 1)))]) [2, 3, 4, 1, 5, 0] rfl ?_
            exact ih (a + 1) _ _ _ _ (by omega)
set_option maxHeartbeats 4000000 in
set_option maxRecDepth 100000 in
theorem c_countRows_12 (l : Launch) (D : va_G) (y : Nat → ClassId) (ad : Nat → Nat) (d : LD) (n4 : Nat) (h : Nat) (sa : Nat → Nat) (sd : Int32) (sw : Int32) (sl : Int32) (f0 : Nat → Int32) (k : Nat) (h4 : d.1 4 = nI n4) (b4 : n4 ≤ 6) (hJ : ∀ j, j < 9 → d.2 6 j = -1 ∨ ∃ q, q < 9 ∧ d.2 6 j = nI q) (hV : ∀ j, j < n4 → ∃ q, q < 9 ∧ d.2 8 j = nI q) (hk : k ≤ 12) : CT l D y ⟨"NineBoards$Days", "countRows", "(LNineBoards$Lake;LNineBoards$State;I)I"⟩ prog_3_method_14_code 6 (some .int) ({ frames := 15, cells := 0, slots := 0, locals := 365 } : Room) [.ref (ad 0), .ref h, .int (nI k)] [(ad 0, .inr (2, [.int (d.1 0), .int (d.1 1), .int (d.1 2), .int (d.1 3), .ref (ad 1), .int (d.1 4), .ref (ad 11), .ref (ad 12), .ref (ad 2), .ref (ad 3), .int (d.1 5), .int (d.1 6), .int (d.1 7), .int (d.1 8)])), (ad 1, .inr (1, [.int (d.1 9), .ref (ad 4), .ref (ad 5), .ref (ad 6), .ref (ad 7), .ref (ad 8), .ref (ad 9), .ref (ad 10)])), (ad 10, .inl (y 0, 9, .inl (d.2 6))), (ad 12, .inl (y 0, 6, .inl (d.2 8))), (h, .inr (7, [.int sd, .int sw, .int sl, .ref (sa 0), .ref (sa 1), .ref (sa 2), .ref (sa 3), .ref (sa 4), .ref (sa 5), .ref (sa 6)])), (sa 0, .inl (y 0, 9, .inl f0))] (QI D [(ad 0, .inr (2, [.int (d.1 0), .int (d.1 1), .int (d.1 2), .int (d.1 3), .ref (ad 1), .int (d.1 4), .ref (ad 11), .ref (ad 12), .ref (ad 2), .ref (ad 3), .int (d.1 5), .int (d.1 6), .int (d.1 7), .int (d.1 8)])), (ad 1, .inr (1, [.int (d.1 9), .ref (ad 4), .ref (ad 5), .ref (ad 6), .ref (ad 7), .ref (ad 8), .ref (ad 9), .ref (ad 10)])), (ad 10, .inl (y 0, 9, .inl (d.2 6))), (ad 12, .inl (y 0, 6, .inl (d.2 8))), (h, .inr (7, [.int sd, .int sw, .int sl, .ref (sa 0), .ref (sa 1), .ref (sa 2), .ref (sa 3), .ref (sa 4), .ref (sa 5), .ref (sa 6)])), (sa 0, .inl (y 0, 9, .inl f0))] (fun (r : Int32) (u : Int32 × Int32 × (Nat → Int32)) => True) (fun u => [(ad 0, .inr (2, [.int (d.1 0), .int (d.1 1), .int (d.1 2), .int (d.1 3), .ref (ad 1), .int (d.1 4), .ref (ad 11), .ref (ad 12), .ref (ad 2), .ref (ad 3), .int (d.1 5), .int (d.1 6), .int (d.1 7), .int (d.1 8)])), (ad 1, .inr (1, [.int (d.1 9), .ref (ad 4), .ref (ad 5), .ref (ad 6), .ref (ad 7), .ref (ad 8), .ref (ad 9), .ref (ad 10)])), (ad 10, .inl (y 0, 9, .inl (d.2 6))), (ad 12, .inl (y 0, 6, .inl (d.2 8))), (h, .inr (7, [.int u.1, .int sw, .int u.2.1, .ref (sa 0), .ref (sa 1), .ref (sa 2), .ref (sa 3), .ref (sa 4), .ref (sa 5), .ref (sa 6)])), (sa 0, .inl (y 0, 9, .inl u.2.2))])) := by
  refine CT.of (by decide) (nb rfl) ?_
  intro p e s m args below meth c C hr
  refine j_lv (lv' := [(0, .ref (ad 0)), (1, .ref h), (2, .int (nI k))]) rfl ?_
  by_cases h0 : k = 0
  · subst h0
    refine j_iload_n (pc := 0) C d_Days_countRows_0 rfl 2 rfl ?_
    refine j_if_gtF (pc := 1) C (tgt := 6) d_Days_countRows_1 (by decide) (by decide) ?_
    refine j_iconst (pc := 4) C (v := 1) d_Days_countRows_4 (by decide) ?_
    exact j_iret (pc := 5) C hr rfl (sd, sl, f0) trivial [0, 1, 2, 3, 4, 5] rfl (by decide) (by decide) (by decide) d_Days_countRows_5
  · obtain ⟨q, rfl⟩ : ∃ q, k = q + 1 := ⟨k - 1, by omega⟩
    refine j_iload_n (pc := 0) C d_Days_countRows_0 rfl 2 rfl ?_
    refine j_if_gtT (pc := 1) C (tgt := 6) d_Days_countRows_1 (by decide) (show nI 0 < nI (q + 1) from nI_lt (by omega) (by omega)) ?_
    refine j_iconst (pc := 6) C (v := 0) d_Days_countRows_6 (by decide) ?_
    refine j_istore_n (pc := 7) C (lv' := [(3, .int 0), (0, .ref (ad 0)), (1, .ref h), (2, .int (nI (q + 1)))]) d_Days_countRows_7 rfl (by decide) rfl ?_
    refine j_aload_n (pc := 8) C d_Days_countRows_8 rfl 2 rfl ?_
    refine j_get (pc := 9) C gf_Days_15 4 rfl rfl d_Days_countRows_9 ?_
    refine j_istore (pc := 12) C (lv' := [(4, .int sl), (3, .int 0), (0, .ref (ad 0)), (1, .ref h), (2, .int (nI (q + 1)))]) d_Days_countRows_12 (by decide) rfl ?_
    refine j_iconst (pc := 14) C (v := 0) d_Days_countRows_14 (by decide) ?_
    refine j_istore (pc := 15) C (lv' := [(5, .int 0), (4, .int sl), (3, .int 0), (0, .ref (ad 0)), (1, .ref h), (2, .int (nI (q + 1)))]) d_Days_countRows_15 (by decide) rfl ?_
    refine j_locs (lv' := [(0, .ref (ad 0)), (1, .ref h), (2, .int (nI (q + 1))), (3, .int 0), (4, .int sl), (5, .int 0)]) [3, 4, 5, 2, 1, 0] rfl ?_
    refine j_lv (lv' := [(0, .ref (ad 0)), (1, .ref h), (2, .int (nI (q + 1))), (3, .int 0), (4, .int sl), (5, .int (nI 0))]) rfl ?_
    refine lp_rows_12 C ad d n4 h sa sw q sl h4 b4 hJ hV hk (fun rs sd sl f0 => ?_) 3 0 _ _ _ _ (by omega)
    refine j_iload_n (pc := 113) C d_Days_countRows_113 rfl 3 rfl ?_
    exact j_iret (pc := 114) C hr rfl (sd, sl, f0) trivial [0, 1, 2, 3, 4, 5] rfl (by decide) (by decide) (by decide) d_Days_countRows_114
