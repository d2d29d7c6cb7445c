theorem Met_ofWF {l : Launch} {y : MethodName} {ws ws' : List Cond} {rm : Room} {Pc : Array Value → State → Prop} {Qc : Array Value → State → Outcome → State → Prop} {mc ms : Nat} {free : Addr → Prop} {cc : ByteArray} {maxL : Nat} {ret : Option FieldType}
    (hy : plainFor y = true) (hw : ws = Cond.code y cc maxL ret :: ws')
    (body : ∀ p e s m args below meth c s₁, BodyLoose p l y (headSpec ws rm) cc maxL ret e s m args below meth c s₁ → c.maxLocals = maxL → Pc args s →
      W p l e (headSpec ws rm).room s m args below meth c s.heap [] 0 0 (MQ below Qc args s mc ms free) (entryFrame m args maxL)) : Met l y ws rm Pc Qc mc ms free := by
  refine MetFree.of_bodySF (code := cc) (maxLocals := maxL) (ret := ret) hy ?_ ?_
  · intro args s m h hn
    obtain ⟨meth, c, h1, h2, h3, h4, h5, h6, -, -⟩ := Cond.code_spec hn (atoms_spec (ws := ws) h _ (by rw [hw]; exact List.mem_cons_self))
    exact ⟨meth, c, h1, h2, h3, h4, h5, h6⟩
  · intro p e s m args below meth c s₁ B hml hP _
    have hh0 : s₁.heap = s.heap := by rw [B.state]; rfl
    obtain ⟨t, a1, o, b1, b2, b3⟩ := body p e s m args below meth c s₁ B hml hP s₁ hh0 (Stand.of_body B)
    exact ⟨t, o, a1, b1, b2, ⟨b3.1, b3.2⟩⟩
theorem CT_ofF {l : Launch} {D : va_G} {y : Nat → ClassId} {nm : MethodName} {b : ByteArray} {mL : Nat} {ret : Option FieldType} {rm : Room} {av : List Value} {ws : va_W} {Qf : Nat → Array Value → State → Outcome → State → Prop} (hy : plainFor nm = true) (hav : (lg_sl av).length ≤ mL)
    (body : ∀ (p : Program) (e : Env) (s : State) (m : MethodId) (args : Array Value) (below : List Frame) (meth : Method) (c : Code), Cx p s m args meth c D y (va_A ws s.heap.size) b mL nm.cls nm.name → meth.sig.returnType = ret → J p l e rm s m args below meth c (MQ below (Qf s.heap.size) args s rm.cells rm.slots (va_A ws s.heap.size)) D (va_A ws s.heap.size) mL ws (lv_args 0 av) 0 0 0 []) : CT l D y nm b mL ret rm av ws Qf := by
  intro sz
  refine Met_ofWF (cc := b) (maxL := mL) (ret := ret) hy rfl ?_
  intro p e s m args below meth c s₁ B hml hv
  obtain ⟨rfl, hsz, hP, hK, hD0, hN⟩ := hv
  subst hsz
  have hts := atoms_spec (ws := Cond.code nm b mL ret :: TB) B.pre
  have hC : Cx p s m av.toArray meth c D y (va_A ws s.heap.size) b mL nm.cls nm.name := ⟨B.exec, B.bytes, hml, findClass_of_methodNamed B.named, fun w h => hts w (List.mem_cons_of_mem _ h), hK, fun q h => Or.inr h, B.notSynchronized, (name_of_methodNamed B.named B.method).1, hN⟩
  have hl := lv_entry av (n := mL) hav
  rw [lg_entry_eq]
  exact body p e s m av.toArray below meth c hC B.returns s.heap [] _ hP hD0.self va_S.rf hl
theorem d_Math_floorDiv_0 : decode prog_14_method_47_code 0 = .ok (.iload_n 0, 1) := by decide +kernel
theorem d_Math_floorDiv_1 : decode prog_14_method_47_code 1 = .ok (.iload_n 1, 1) := by decide +kernel
theorem d_Math_floorDiv_2 : decode prog_14_method_47_code 2 = .ok (.idiv, 1) := by decide +kernel
theorem d_Math_floorDiv_3 : decode prog_14_method_47_code 3 = .ok (.istore_n 2, 1) := by decide +kernel
theorem d_Math_floorDiv_4 : decode prog_14_method_47_code 4 = .ok (.iload_n 0, 1) := by decide +kernel
theorem d_Math_floorDiv_5 : decode prog_14_method_47_code 5 = .ok (.iload_n 1, 1) := by decide +kernel
theorem d_Math_floorDiv_6 : decode prog_14_method_47_code 6 = .ok (.ixor, 1) := by decide +kernel
theorem d_Math_floorDiv_7 : decode prog_14_method_47_code 7 = .ok (.ifCond .ge 14, 3) := by decide +kernel
theorem d_Math_floorDiv_21 : decode prog_14_method_47_code 21 = .ok (.iload_n 2, 1) := by decide +kernel
theorem d_Math_floorDiv_22 : decode prog_14_method_47_code 22 = .ok (.ireturn, 1) := by decide +kernel
set_option maxHeartbeats 4000000 in
set_option maxRecDepth 100000 in
theorem c_floorDiv_0 (l : Launch) (D : va_G) (y : Nat → ClassId)   : CT l D y ⟨"java/lang/Math", "floorDiv", "(II)I"⟩ prog_14_method_47_code 3 (some .int) ({ frames := 0, cells := 0, slots := 0, locals := 0 } : Room) [.int 0, .int 1] [] (QI D [] (fun (r : Int32) (_ : Unit) => r = 0) (fun _ => [])) := by
  refine CT_ofF (by decide +kernel) (nb rfl) ?_
  intro p e s m args below meth c C hr
  refine j_lv (lv' := [(0, .int 0), (1, .int 1)]) rfl ?_
  refine j_iload_n (pc := 0) C d_Math_floorDiv_0 rfl 0 rfl ?_
  refine j_iload_n (pc := 1) C d_Math_floorDiv_1 rfl 1 rfl ?_
  refine j_idiv (pc := 2) C (v := 0) d_Math_floorDiv_2 (by decide) (by decide) ?_
  refine j_istore_n (pc := 3) C (lv' := [(2, .int 0), (0, .int 0), (1, .int 1)]) d_Math_floorDiv_3 rfl (by decide) rfl ?_
  refine j_iload_n (pc := 4) C d_Math_floorDiv_4 rfl 1 rfl ?_
  refine j_iload_n (pc := 5) C d_Math_floorDiv_5 rfl 2 rfl ?_
  refine j_ixor (pc := 6) C (v := 1) d_Math_floorDiv_6 (by decide) ?_
  refine j_if_geT (pc := 7) C (tgt := 21) d_Math_floorDiv_7 (by decide) (by decide) ?_
  refine j_iload_n (pc := 21) C d_Math_floorDiv_21 rfl 0 rfl ?_
  exact j_iret (pc := 22) C hr rfl () rfl [] rfl (by decide) (by decide) (by decide) d_Math_floorDiv_22
theorem d_Math_floorDiv_10 : decode prog_14_method_47_code 10 = .ok (.iload_n 2, 1) := by decide +kernel
theorem d_Math_floorDiv_11 : decode prog_14_method_47_code 11 = .ok (.iload_n 1, 1) := by decide +kernel
theorem d_Math_floorDiv_12 : decode prog_14_method_47_code 12 = .ok (.imul, 1) := by decide +kernel
theorem d_Math_floorDiv_13 : decode prog_14_method_47_code 13 = .ok (.iload_n 0, 1) := by decide +kernel
theorem d_Math_floorDiv_14 : decode prog_14_method_47_code 14 = .ok (.if_icmp .eq 7, 3) := by decide +kernel
theorem d_Math_floorDiv_17 : decode prog_14_method_47_code 17 = .ok (.iload_n 2, 1) := by decide +kernel
theorem d_Math_floorDiv_18 : decode prog_14_method_47_code 18 = .ok (.iconst 1, 1) := by decide +kernel
theorem d_Math_floorDiv_19 : decode prog_14_method_47_code 19 = .ok (.isub, 1) := by decide +kernel
theorem d_Math_floorDiv_20 : decode prog_14_method_47_code 20 = .ok (.ireturn, 1) := by decide +kernel
set_option maxHeartbeats 4000000 in
set_option maxRecDepth 100000 in
theorem c_floorDiv_x (l : Launch) (D : va_G) (y : Nat → ClassId) (x : Int32)  : CT l D y ⟨"java/lang/Math", "floorDiv", "(II)I"⟩ prog_14_method_47_code 3 (some .int) ({ frames := 0, cells := 0, slots := 0, locals := 0 } : Room) [.int x, .int 1] [] (QI D [] (fun (r : Int32) (u : Unit) => True) (fun _ => [])) := by
  refine CT_ofF (by decide +kernel) (nb rfl) ?_
  intro p e s m args below meth c C hr
  refine j_lv (lv' := [(0, .int x), (1, .int 1)]) rfl ?_
  refine j_iload_n (pc := 0) C d_Math_floorDiv_0 rfl 0 rfl ?_
  refine j_iload_n (pc := 1) C d_Math_floorDiv_1 rfl 1 rfl ?_
  refine j_idiv (pc := 2) C (v := x / 1) d_Math_floorDiv_2 (by decide) rfl ?_
  refine j_istore_n (pc := 3) C (lv' := [(2, .int (x / 1)), (0, .int x), (1, .int 1)]) d_Math_floorDiv_3 rfl (by decide) rfl ?_
  refine j_iload_n (pc := 4) C d_Math_floorDiv_4 rfl 1 rfl ?_
  refine j_iload_n (pc := 5) C d_Math_floorDiv_5 rfl 2 rfl ?_
  refine j_ixor (pc := 6) C (v := x ^^^ 1) d_Math_floorDiv_6 rfl ?_
  refine j_if_ge (pc := 7) C (tgt := 21) d_Math_floorDiv_7 (by decide) (fun c1 => ?_) (fun c1 => ?_)
  · refine j_iload_n (pc := 21) C d_Math_floorDiv_21 rfl 0 rfl ?_
    exact j_iret (pc := 22) C hr rfl () trivial [] rfl (by decide) (by decide) (by decide) d_Math_floorDiv_22
  · refine j_iload_n (pc := 10) C d_Math_floorDiv_10 rfl 0 rfl ?_
    refine j_iload_n (pc := 11) C d_Math_floorDiv_11 rfl 2 rfl ?_
    refine j_imul (pc := 12) C (v := (x / 1) * 1) d_Math_floorDiv_12 rfl ?_
    refine j_iload_n (pc := 13) C d_Math_floorDiv_13 rfl 1 rfl ?_
    refine j_icmp_eq (pc := 14) C (tgt := 21) d_Math_floorDiv_14 (by decide) (fun c2 => ?_) (fun c2 => ?_)
    · refine j_iload_n (pc := 21) C d_Math_floorDiv_21 rfl 0 rfl ?_
      exact j_iret (pc := 22) C hr rfl () trivial [] rfl (by decide) (by decide) (by decide) d_Math_floorDiv_22
    · refine j_iload_n (pc := 17) C d_Math_floorDiv_17 rfl 0 rfl ?_
      refine j_iconst (pc := 18) C (v := 1) d_Math_floorDiv_18 (by decide) ?_
      refine j_isub (pc := 19) C (v := (x / 1) - 1) d_Math_floorDiv_19 rfl ?_
      exact j_iret (pc := 20) C hr rfl () trivial [] rfl (by decide) (by decide) (by decide) d_Math_floorDiv_20
theorem d_Lake_levelAt_0 : decode prog_5_method_7_code 0 = .ok (.aload_n 0, 1) := by decide +kernel
theorem d_Lake_levelAt_1 : decode prog_5_method_7_code 1 = .ok (.getfield 46, 3) := by decide +kernel
theorem gf_Lake_46 : GF "NineBoards$Lake" 46 2 1 := ⟨_, _, _, rfl, ci_Lake, by decide, (mt_2 (List.mem_of_getElem? (i := 33) rfl) rfl)⟩
theorem d_Lake_levelAt_4 : decode prog_5_method_7_code 4 = .ok (.ifCond .le 14, 3) := by decide +kernel
theorem d_Lake_levelAt_7 : decode prog_5_method_7_code 7 = .ok (.iload_n 1, 1) := by decide +kernel
theorem d_Lake_levelAt_8 : decode prog_5_method_7_code 8 = .ok (.aload_n 0, 1) := by decide +kernel
theorem d_Lake_levelAt_9 : decode prog_5_method_7_code 9 = .ok (.getfield 46, 3) := by decide +kernel
theorem d_Lake_levelAt_12 : decode prog_5_method_7_code 12 = .ok (.invokestatic 78, 3) := by decide +kernel
theorem kw_Lake_78 : KW "NineBoards$Lake" 78 ⟨"java/lang/Math", "floorDiv", "(II)I"⟩ prog_14_method_47_code 3 (some .int) 2 := ⟨(mt_3 (List.mem_of_getElem? (i := 217) rfl) rfl), (mt_1 (List.mem_of_getElem? (i := 3) rfl) rfl), (mt_3 (List.mem_of_getElem? (i := 219) rfl) rfl), by decide +kernel⟩
theorem ks_Math_floorDiv : Cond.static ⟨"java/lang/Math", "floorDiv", "(II)I"⟩ ∈ TB := (mt_3 (List.mem_of_getElem? (i := 218) rfl) rfl)
theorem d_Lake_levelAt_15 : decode prog_5_method_7_code 15 = .ok (.goto 4, 3) := by decide +kernel
theorem d_Lake_levelAt_19 : decode prog_5_method_7_code 19 = .ok (.ireturn, 1) := by decide +kernel
set_option maxHeartbeats 4000000 in
set_option maxRecDepth 100000 in
theorem c_levelAt_0 (l : Launch) (D : va_G) (y : Nat → ClassId) (k : Nat) (g : Nat) (vn : Nat) (vg : Nat) (t : Nat) (r : Nat)  : CT l D y ⟨"NineBoards$Lake", "levelAt", "(I)I"⟩ prog_5_method_7_code 2 (some .int) ({ frames := 1, cells := 0, slots := 0, locals := 22 } : Room) [.ref k, .int 0] [(k, .inr (2, [.int 0, .int 1, .int 1, .int 0, .ref g, .int 0, .ref vn, .ref vg, .ref t, .ref r, .int 0, .int 0, .int 9999, .int 0]))] (QI D [(k, .inr (2, [.int 0, .int 1, .int 1, .int 0, .ref g, .int 0, .ref vn, .ref vg, .ref t, .ref r, .int 0, .int 0, .int 9999, .int 0]))] (fun (r : Int32) (_ : Unit) => r = 0) (fun _ => [(k, .inr (2, [.int 0, .int 1, .int 1, .int 0, .ref g, .int 0, .ref vn, .ref vg, .ref t, .ref r, .int 0, .int 0, .int 9999, .int 0]))])) := by
  refine CT.of (by decide) (nb rfl) ?_
  intro p e s m args below meth c C hr
  refine j_lv (lv' := [(0, .ref k), (1, .int 0)]) rfl ?_
  refine j_aload_n (pc := 0) C d_Lake_levelAt_0 rfl 0 rfl ?_
  refine j_get (pc := 1) C gf_Lake_46 0 rfl rfl d_Lake_levelAt_1 ?_
  refine j_if_leF (pc := 4) C (tgt := 18) d_Lake_levelAt_4 (by decide) (by decide) ?_
  refine j_iload_n (pc := 7) C d_Lake_levelAt_7 rfl 1 rfl ?_
  refine j_aload_n (pc := 8) C d_Lake_levelAt_8 rfl 0 rfl ?_
  refine j_get (pc := 9) C gf_Lake_46 0 rfl rfl d_Lake_levelAt_9 ?_
  refine j_callSi (pc := 12) C (c_floorDiv_0 l D y ) kw_Lake_78 ks_Math_floorDiv ⟨by decide, by decide⟩ ⟨by decide, by decide⟩ (wr := [(k, .inr (2, [.int 0, .int 1, .int 1, .int 0, .ref g, .int 0, .ref vn, .ref vg, .ref t, .ref r, .int 0, .int 0, .int 9999, .int 0]))]) [] [0] rfl rfl (by decide) (by decide) (by decide) (As := [.int 0, .int 1]) (rest := []) rfl (nb rfl) rfl d_Lake_levelAt_12 (fun r1 _ hr1 => ?_)
  subst hr1
  refine j_ws (ws' := [(k, .inr (2, [.int 0, .int 1, .int 1, .int 0, .ref g, .int 0, .ref vn, .ref vg, .ref t, .ref r, .int 0, .int 0, .int 9999, .int 0]))]) rfl ?_
  refine j_st (st' := [.int 0]) rfl ?_
  refine j_goto (pc := 15) C (tgt := 19) d_Lake_levelAt_15 (by decide) ?_
  exact j_iret (pc := 19) C hr rfl () rfl [0] rfl (by decide) (by decide) (by decide) d_Lake_levelAt_19
set_option maxHeartbeats 4000000 in
set_option maxRecDepth 100000 in
theorem c_levelAt_x (l : Launch) (D : va_G) (y : Nat → ClassId) (k : Nat) (g : Nat) (vn : Nat) (vg : Nat) (t : Nat) (r : Nat) (x : Int32)  : CT l D y ⟨"NineBoards$Lake", "levelAt", "(I)I"⟩ prog_5_method_7_code 2 (some .int) ({ frames := 1, cells := 0, slots := 0, locals := 22 } : Room) [.ref k, .int x] [(k, .inr (2, [.int 0, .int 1, .int 1, .int 0, .ref g, .int 0, .ref vn, .ref vg, .ref t, .ref r, .int 0, .int 0, .int 9999, .int 0]))] (QI D [(k, .inr (2, [.int 0, .int 1, .int 1, .int 0, .ref g, .int 0, .ref vn, .ref vg, .ref t, .ref r, .int 0, .int 0, .int 9999, .int 0]))] (fun (r : Int32) (u : Unit) => True) (fun _ => [(k, .inr (2, [.int 0, .int 1, .int 1, .int 0, .ref g, .int 0, .ref vn, .ref vg, .ref t, .ref r, .int 0, .int 0, .int 9999, .int 0]))])) := by
  refine CT.of (by decide) (nb rfl) ?_
  intro p e s m args below meth c C hr
  refine j_lv (lv' := [(0, .ref k), (1, .int x)]) rfl ?_
  refine j_aload_n (pc := 0) C d_Lake_levelAt_0 rfl 0 rfl ?_
  refine j_get (pc := 1) C gf_Lake_46 0 rfl rfl d_Lake_levelAt_1 ?_
  refine j_if_leF (pc := 4) C (tgt := 18) d_Lake_levelAt_4 (by decide) (by decide) ?_
  refine j_iload_n (pc := 7) C d_Lake_levelAt_7 rfl 1 rfl ?_
  refine j_aload_n (pc := 8) C d_Lake_levelAt_8 rfl 0 rfl ?_
  refine j_get (pc := 9) C gf_Lake_46 0 rfl rfl d_Lake_levelAt_9 ?_
  refine j_callSi (pc := 12) C (c_floorDiv_x l D y x) kw_Lake_78 ks_Math_floorDiv ⟨by decide, by decide⟩ ⟨by decide, by decide⟩ (wr := [(k, .inr (2, [.int 0, .int 1, .int 1, .int 0, .ref g, .int 0, .ref vn, .ref vg, .ref t, .ref r, .int 0, .int 0, .int 9999, .int 0]))]) [] [0] rfl rfl (by decide) (by decide) (by decide) (As := [.int x, .int 1]) (rest := []) rfl (nb rfl) rfl d_Lake_levelAt_12 (fun r1 _ hr1 => ?_)
  refine j_ws (ws' := [(k, .inr (2, [.int 0, .int 1, .int 1, .int 0, .ref g, .int 0, .ref vn, .ref vg, .ref t, .ref r, .int 0, .int 0, .int 9999, .int 0]))]) rfl ?_
  refine j_goto (pc := 15) C (tgt := 19) d_Lake_levelAt_15 (by decide) ?_
  exact j_iret (pc := 19) C hr rfl () trivial [0] rfl (by decide) (by decide) (by decide) d_Lake_levelAt_19
theorem d_Lake_villageOn_0 : decode prog_5_method_8_code 0 = .ok (.aload_n 0, 1) := by decide +kernel
theorem d_Lake_villageOn_1 : decode prog_5_method_8_code 1 = .ok (.getfield 58, 3) := by decide +kernel
theorem gf_Lake_58 : GF "NineBoards$Lake" 58 2 5 := ⟨_, _, _, rfl, ci_Lake, by decide, (mt_2 (List.mem_of_getElem? (i := 46) rfl) rfl)⟩
theorem d_Lake_villageOn_4 : decode prog_5_method_8_code 4 = .ok (.ifCond .le 14, 3) := by decide +kernel
theorem d_Lake_villageOn_18 : decode prog_5_method_8_code 18 = .ok (.iconst (-1), 1) := by decide +kernel
theorem d_Lake_villageOn_19 : decode prog_5_method_8_code 19 = .ok (.ireturn, 1) := by decide +kernel
set_option maxHeartbeats 4000000 in
set_option maxRecDepth 100000 in
theorem c_villageOn (l : Launch) (D : va_G) (y : Nat → ClassId) (k : Nat) (g : Nat) (vn : Nat) (vg : Nat) (t : Nat) (r : Nat) (d : Int32)  : CT l D y ⟨"NineBoards$Lake", "villageOn", "(I)I"⟩ prog_5_method_8_code 2 (some .int) ({ frames := 0, cells := 0, slots := 0, locals := 0 } : Room) [.ref k, .int d] [(k, .inr (2, [.int 0, .int 1, .int 1, .int 0, .ref g, .int 0, .ref vn, .ref vg, .ref t, .ref r, .int 0, .int 0, .int 9999, .int 0]))] (QI D [(k, .inr (2, [.int 0, .int 1, .int 1, .int 0, .ref g, .int 0, .ref vn, .ref vg, .ref t, .ref r, .int 0, .int 0, .int 9999, .int 0]))] (fun (r : Int32) (_ : Unit) => r = (-1)) (fun _ => [(k, .inr (2, [.int 0, .int 1, .int 1, .int 0, .ref g, .int 0, .ref vn, .ref vg, .ref t, .ref r, .int 0, .int 0, .int 9999, .int 0]))])) := by
  refine CT.of (by decide) (nb rfl) ?_
  intro p e s m args below meth c C hr
  refine j_lv (lv' := [(0, .ref k), (1, .int d)]) rfl ?_
  refine j_aload_n (pc := 0) C d_Lake_villageOn_0 rfl 0 rfl ?_
  refine j_get (pc := 1) C gf_Lake_58 0 rfl rfl d_Lake_villageOn_1 ?_
  refine j_if_leT (pc := 4) C (tgt := 18) d_Lake_villageOn_4 (by decide) (by decide) ?_
  refine j_iconst (pc := 18) C (v := (-1)) d_Lake_villageOn_18 (by decide) ?_
  exact j_iret (pc := 19) C hr rfl () rfl [0] rfl (by decide) (by decide) (by decide) d_Lake_villageOn_19
theorem d_Lake_hasVillage_0 : decode prog_5_method_4_code 0 = .ok (.iload_n 1, 1) := by decide +kernel
theorem d_Lake_hasVillage_1 : decode prog_5_method_4_code 1 = .ok (.ifCond .lt 15, 3) := by decide +kernel
theorem d_Lake_hasVillage_16 : decode prog_5_method_4_code 16 = .ok (.iconst 0, 1) := by decide +kernel
theorem d_Lake_hasVillage_17 : decode prog_5_method_4_code 17 = .ok (.ireturn, 1) := by decide +kernel
theorem d_Lake_hasVillage_4 : decode prog_5_method_4_code 4 = .ok (.iload_n 1, 1) := by decide +kernel
theorem d_Lake_hasVillage_5 : decode prog_5_method_4_code 5 = .ok (.aload_n 0, 1) := by decide +kernel
theorem d_Lake_hasVillage_6 : decode prog_5_method_4_code 6 = .ok (.getfield 58, 3) := by decide +kernel
theorem d_Lake_hasVillage_9 : decode prog_5_method_4_code 9 = .ok (.if_icmp .ge 7, 3) := by decide +kernel
set_option maxHeartbeats 4000000 in
set_option maxRecDepth 100000 in
theorem c_hasVillage (l : Launch) (D : va_G) (y : Nat → ClassId) (k : Nat) (g : Nat) (vn : Nat) (vg : Nat) (t : Nat) (r : Nat) (v : Int32)  : CT l D y ⟨"NineBoards$Lake", "hasVillage", "(I)Z"⟩ prog_5_method_4_code 2 (some .boolean) ({ frames := 0, cells := 0, slots := 0, locals := 0 } : Room) [.ref k, .int v] [(k, .inr (2, [.int 0, .int 1, .int 1, .int 0, .ref g, .int 0, .ref vn, .ref vg, .ref t, .ref r, .int 0, .int 0, .int 9999, .int 0]))] (QI D [(k, .inr (2, [.int 0, .int 1, .int 1, .int 0, .ref g, .int 0, .ref vn, .ref vg, .ref t, .ref r, .int 0, .int 0, .int 9999, .int 0]))] (fun (r : Int32) (_ : Unit) => r = 0) (fun _ => [(k, .inr (2, [.int 0, .int 1, .int 1, .int 0, .ref g, .int 0, .ref vn, .ref vg, .ref t, .ref r, .int 0, .int 0, .int 9999, .int 0]))])) := by
  refine CT.of (by decide) (nb rfl) ?_
  intro p e s m args below meth c C hr
  refine j_lv (lv' := [(0, .ref k), (1, .int v)]) rfl ?_
  refine j_iload_n (pc := 0) C d_Lake_hasVillage_0 rfl 1 rfl ?_
  refine j_if_lt (pc := 1) C (tgt := 16) d_Lake_hasVillage_1 (by decide) (fun c1 => ?_) (fun c1 => ?_)
  · refine j_iconst (pc := 16) C (v := 0) d_Lake_hasVillage_16 (by decide) ?_
    exact j_iret (pc := 17) C hr (by decide) () rfl [0] rfl (by decide) (by decide) (by decide) d_Lake_hasVillage_17
  · refine j_iload_n (pc := 4) C d_Lake_hasVillage_4 rfl 1 rfl ?_
    refine j_aload_n (pc := 5) C d_Lake_hasVillage_5 rfl 0 rfl ?_
    refine j_get (pc := 6) C gf_Lake_58 0 rfl rfl d_Lake_hasVillage_6 ?_
    refine j_icmp_geT (pc := 9) C (tgt := 16) d_Lake_hasVillage_9 (by decide) (ge_of_nlt c1) ?_
    refine j_iconst (pc := 16) C (v := 0) d_Lake_hasVillage_16 (by decide) ?_
    exact j_iret (pc := 17) C hr (by decide) () rfl [0] rfl (by decide) (by decide) (by decide) d_Lake_hasVillage_17
theorem d_Lake_hasGate_0 : decode prog_5_method_3_code 0 = .ok (.iload_n 1, 1) := by decide +kernel
theorem d_Lake_hasGate_1 : decode prog_5_method_3_code 1 = .ok (.ifCond .lt 18, 3) := by decide +kernel
theorem d_Lake_hasGate_19 : decode prog_5_method_3_code 19 = .ok (.iconst 0, 1) := by decide +kernel
theorem d_Lake_hasGate_20 : decode prog_5_method_3_code 20 = .ok (.ireturn, 1) := by decide +kernel
theorem d_Lake_hasGate_4 : decode prog_5_method_3_code 4 = .ok (.iload_n 1, 1) := by decide +kernel
theorem d_Lake_hasGate_5 : decode prog_5_method_3_code 5 = .ok (.aload_n 0, 1) := by decide +kernel
theorem d_Lake_hasGate_6 : decode prog_5_method_3_code 6 = .ok (.getfield 12, 3) := by decide +kernel
theorem d_Lake_hasGate_9 : decode prog_5_method_3_code 9 = .ok (.getfield 55, 3) := by decide +kernel
theorem gf_Lake_55 : GF "NineBoards$Lake" 55 1 0 := ⟨_, _, _, rfl, ci_Gates, by decide, (mt_1 (List.mem_of_getElem? (i := 140) rfl) rfl)⟩
theorem d_Lake_hasGate_12 : decode prog_5_method_3_code 12 = .ok (.if_icmp .ge 7, 3) := by decide +kernel
set_option maxHeartbeats 4000000 in
set_option maxRecDepth 100000 in
theorem c_hasGate (l : Launch) (D : va_G) (y : Nat → ClassId) (k : Nat) (g : Nat) (vn : Nat) (vg : Nat) (t : Nat) (r : Nat) (g0 : Nat) (g1 : Nat) (g2 : Nat) (g3 : Nat) (g4 : Nat) (g5 : Nat) (g6 : Nat) (v : Int32)  : CT l D y ⟨"NineBoards$Lake", "hasGate", "(I)Z"⟩ prog_5_method_3_code 2 (some .boolean) ({ frames := 0, cells := 0, slots := 0, locals := 0 } : Room) [.ref k, .int v] [(k, .inr (2, [.int 0, .int 1, .int 1, .int 0, .ref g, .int 0, .ref vn, .ref vg, .ref t, .ref r, .int 0, .int 0, .int 9999, .int 0])), (g, .inr (1, [.int 0, .ref g0, .ref g1, .ref g2, .ref g3, .ref g4, .ref g5, .ref g6]))] (QI D [(k, .inr (2, [.int 0, .int 1, .int 1, .int 0, .ref g, .int 0, .ref vn, .ref vg, .ref t, .ref r, .int 0, .int 0, .int 9999, .int 0])), (g, .inr (1, [.int 0, .ref g0, .ref g1, .ref g2, .ref g3, .ref g4, .ref g5, .ref g6]))] (fun (r : Int32) (_ : Unit) => r = 0) (fun _ => [(k, .inr (2, [.int 0, .int 1, .int 1, .int 0, .ref g, .int 0, .ref vn, .ref vg, .ref t, .ref r, .int 0, .int 0, .int 9999, .int 0])), (g, .inr (1, [.int 0, .ref g0, .ref g1, .ref g2, .ref g3, .ref g4, .ref g5, .ref g6]))])) := by
  refine CT.of (by decide) (nb rfl) ?_
  intro p e s m args below meth c C hr
  refine j_lv (lv' := [(0, .ref k), (1, .int v)]) rfl ?_
  refine j_iload_n (pc := 0) C d_Lake_hasGate_0 rfl 1 rfl ?_
  refine j_if_lt (pc := 1) C (tgt := 19) d_Lake_hasGate_1 (by decide) (fun c1 => ?_) (fun c1 => ?_)
  · refine j_iconst (pc := 19) C (v := 0) d_Lake_hasGate_19 (by decide) ?_
    exact j_iret (pc := 20) C hr (by decide) () rfl [0, 1] rfl (by decide) (by decide) (by decide) d_Lake_hasGate_20
  · refine j_iload_n (pc := 4) C d_Lake_hasGate_4 rfl 1 rfl ?_
    refine j_aload_n (pc := 5) C d_Lake_hasGate_5 rfl 0 rfl ?_
    refine j_get (pc := 6) C gf_Lake_12 0 rfl rfl d_Lake_hasGate_6 ?_
    refine j_get (pc := 9) C gf_Lake_55 1 rfl rfl d_Lake_hasGate_9 ?_
    refine j_icmp_geT (pc := 12) C (tgt := 19) d_Lake_hasGate_12 (by decide) (ge_of_nlt c1) ?_
    refine j_iconst (pc := 19) C (v := 0) d_Lake_hasGate_19 (by decide) ?_
    exact j_iret (pc := 20) C hr (by decide) () rfl [0, 1] rfl (by decide) (by decide) (by decide) d_Lake_hasGate_20
theorem d_Lake_hasThing_0 : decode prog_5_method_5_code 0 = .ok (.iload_n 1, 1) := by decide +kernel
theorem d_Lake_hasThing_1 : decode prog_5_method_5_code 1 = .ok (.ifCond .lt 18, 3) := by decide +kernel
theorem d_Lake_hasThing_19 : decode prog_5_method_5_code 19 = .ok (.iconst 0, 1) := by decide +kernel
theorem d_Lake_hasThing_20 : decode prog_5_method_5_code 20 = .ok (.ireturn, 1) := by decide +kernel
theorem d_Lake_hasThing_4 : decode prog_5_method_5_code 4 = .ok (.iload_n 1, 1) := by decide +kernel
theorem d_Lake_hasThing_5 : decode prog_5_method_5_code 5 = .ok (.aload_n 0, 1) := by decide +kernel
theorem d_Lake_hasThing_6 : decode prog_5_method_5_code 6 = .ok (.getfield 28, 3) := by decide +kernel
theorem d_Lake_hasThing_9 : decode prog_5_method_5_code 9 = .ok (.getfield 61, 3) := by decide +kernel
theorem gf_Lake_61 : GF "NineBoards$Lake" 61 8 0 := ⟨_, _, _, rfl, ci_Things, by decide, (mt_1 (List.mem_of_getElem? (i := 187) rfl) rfl)⟩
theorem d_Lake_hasThing_12 : decode prog_5_method_5_code 12 = .ok (.if_icmp .ge 7, 3) := by decide +kernel
set_option maxHeartbeats 4000000 in
set_option maxRecDepth 100000 in
theorem c_hasThing (l : Launch) (D : va_G) (y : Nat → ClassId) (k : Nat) (g : Nat) (vn : Nat) (vg : Nat) (t : Nat) (r : Nat) (t0 : Nat) (t1 : Nat) (t2 : Nat) (t3 : Nat) (t4 : Nat) (t5 : Nat) (t6 : Nat) (v : Int32)  : CT l D y ⟨"NineBoards$Lake", "hasThing", "(I)Z"⟩ prog_5_method_5_code 2 (some .boolean) ({ frames := 0, cells := 0, slots := 0, locals := 0 } : Room) [.ref k, .int v] [(k, .inr (2, [.int 0, .int 1, .int 1, .int 0, .ref g, .int 0, .ref vn, .ref vg, .ref t, .ref r, .int 0, .int 0, .int 9999, .int 0])), (t, .inr (8, [.int 0, .ref t0, .ref t1, .ref t2, .ref t3, .ref t4, .ref t5, .ref t6]))] (QI D [(k, .inr (2, [.int 0, .int 1, .int 1, .int 0, .ref g, .int 0, .ref vn, .ref vg, .ref t, .ref r, .int 0, .int 0, .int 9999, .int 0])), (t, .inr (8, [.int 0, .ref t0, .ref t1, .ref t2, .ref t3, .ref t4, .ref t5, .ref t6]))] (fun (r : Int32) (_ : Unit) => r = 0) (fun _ => [(k, .inr (2, [.int 0, .int 1, .int 1, .int 0, .ref g, .int 0, .ref vn, .ref vg, .ref t, .ref r, .int 0, .int 0, .int 9999, .int 0])), (t, .inr (8, [.int 0, .ref t0, .ref t1, .ref t2, .ref t3, .ref t4, .ref t5, .ref t6]))])) := by
  refine CT.of (by decide) (nb rfl) ?_
  intro p e s m args below meth c C hr
  refine j_lv (lv' := [(0, .ref k), (1, .int v)]) rfl ?_
  refine j_iload_n (pc := 0) C d_Lake_hasThing_0 rfl 1 rfl ?_
  refine j_if_lt (pc := 1) C (tgt := 19) d_Lake_hasThing_1 (by decide) (fun c1 => ?_) (fun c1 => ?_)
  · refine j_iconst (pc := 19) C (v := 0) d_Lake_hasThing_19 (by decide) ?_
    exact j_iret (pc := 20) C hr (by decide) () rfl [0, 1] rfl (by decide) (by decide) (by decide) d_Lake_hasThing_20
  · refine j_iload_n (pc := 4) C d_Lake_hasThing_4 rfl 1 rfl ?_
    refine j_aload_n (pc := 5) C d_Lake_hasThing_5 rfl 0 rfl ?_
    refine j_get (pc := 6) C gf_Lake_28 0 rfl rfl d_Lake_hasThing_6 ?_
    refine j_get (pc := 9) C gf_Lake_61 1 rfl rfl d_Lake_hasThing_9 ?_
    refine j_icmp_geT (pc := 12) C (tgt := 19) d_Lake_hasThing_12 (by decide) (ge_of_nlt c1) ?_
    refine j_iconst (pc := 19) C (v := 0) d_Lake_hasThing_19 (by decide) ?_
    exact j_iret (pc := 20) C hr (by decide) () rfl [0, 1] rfl (by decide) (by decide) (by decide) d_Lake_hasThing_20
theorem d_Rules_amount_0 : decode prog_9_method_3_code 0 = .ok (.iconst 0, 1) := by decide +kernel
theorem d_Rules_amount_1 : decode prog_9_method_3_code 1 = .ok (.istore 5, 2) := by decide +kernel
theorem d_Rules_amount_3 : decode prog_9_method_3_code 3 = .ok (.iload 5, 2) := by decide +kernel
theorem d_Rules_amount_5 : decode prog_9_method_3_code 5 = .ok (.aload_n 0, 1) := by decide +kernel
theorem d_Rules_amount_6 : decode prog_9_method_3_code 6 = .ok (.getfield 34, 3) := by decide +kernel
theorem gf_Rules_34 : GF "NineBoards$Rules" 34 6 0 := ⟨_, _, _, rfl, ci_Rules, by decide, (mt_1 (List.mem_of_getElem? (i := 233) rfl) rfl)⟩
theorem d_Rules_amount_9 : decode prog_9_method_3_code 9 = .ok (.if_icmp .ge 82, 3) := by decide +kernel
theorem d_Rules_amount_91 : decode prog_9_method_3_code 91 = .ok (.iconst 0, 1) := by decide +kernel
theorem d_Rules_amount_92 : decode prog_9_method_3_code 92 = .ok (.ireturn, 1) := by decide +kernel
set_option maxHeartbeats 4000000 in
set_option maxRecDepth 100000 in
theorem c_amount (l : Launch) (D : va_G) (y : Nat → ClassId) (r : Nat) (r0 : Nat) (r1 : Nat) (r2 : Nat) (r3 : Nat) (r4 : Nat) (r5 : Nat) (x0 : Int32) (x1 : Int32) (x2 : Int32) (x3 : Int32)  : CT l D y ⟨"NineBoards$Rules", "amount", "(IIII)I"⟩ prog_9_method_3_code 7 (some .int) ({ frames := 0, cells := 0, slots := 0, locals := 0 } : Room) [.ref r, .int x0, .int x1, .int x2, .int x3] [(r, .inr (6, [.int 0, .int 0, .ref r0, .ref r1, .ref r2, .ref r3, .ref r4, .ref r5]))] (QI D [(r, .inr (6, [.int 0, .int 0, .ref r0, .ref r1, .ref r2, .ref r3, .ref r4, .ref r5]))] (fun (r : Int32) (_ : Unit) => r = 0) (fun _ => [(r, .inr (6, [.int 0, .int 0, .ref r0, .ref r1, .ref r2, .ref r3, .ref r4, .ref r5]))])) := by
  refine CT.of (by decide) (nb rfl) ?_
  intro p e s m args below meth c C hr
  refine j_lv (lv' := [(0, .ref r), (1, .int x0), (2, .int x1), (3, .int x2), (4, .int x3)]) rfl ?_
  refine j_iconst (pc := 0) C (v := 0) d_Rules_amount_0 (by decide) ?_
  refine j_istore (pc := 1) C (lv' := [(5, .int 0), (0, .ref r), (1, .int x0), (2, .int x1), (3, .int x2), (4, .int x3)]) d_Rules_amount_1 (by decide) rfl ?_
  refine j_iload (pc := 3) C d_Rules_amount_3 0 rfl ?_
  refine j_aload_n (pc := 5) C d_Rules_amount_5 rfl 1 rfl ?_
  refine j_get (pc := 6) C gf_Rules_34 0 rfl rfl d_Rules_amount_6 ?_
  refine j_icmp_geT (pc := 9) C (tgt := 91) d_Rules_amount_9 (by decide) (by decide) ?_
  refine j_iconst (pc := 91) C (v := 0) d_Rules_amount_91 (by decide) ?_
  exact j_iret (pc := 92) C hr rfl () rfl [0] rfl (by decide) (by decide) (by decide) d_Rules_amount_92
theorem d_Days_allows_0 : decode prog_3_method_2_code 0 = .ok (.iload_n 3, 1) := by decide +kernel
theorem d_Days_allows_1 : decode prog_3_method_2_code 1 = .ok (.ifCond .ne 5, 3) := by decide +kernel
theorem d_Days_allows_4 : decode prog_3_method_2_code 4 = .ok (.iconst 1, 1) := by decide +kernel
theorem d_Days_allows_5 : decode prog_3_method_2_code 5 = .ok (.ireturn, 1) := by decide +kernel
set_option maxHeartbeats 4000000 in
set_option maxRecDepth 100000 in
theorem c_allows_0 (l : Launch) (D : va_G) (y : Nat → ClassId) (k : Nat) (h : Nat) (v : Int32) (w : Int32)  : CT l D y ⟨"NineBoards$Days", "allows", "(LNineBoards$Lake;LNineBoards$State;III)Z"⟩ prog_3_method_2_code 7 (some .boolean) ({ frames := 0, cells := 0, slots := 0, locals := 0 } : Room) [.ref k, .ref h, .int v, .int 0, .int w] [] (QI D [] (fun (r : Int32) (_ : Unit) => r = 1) (fun _ => [])) := by
  refine CT.of (by decide) (nb rfl) ?_
  intro p e s m args below meth c C hr
  refine j_lv (lv' := [(0, .ref k), (1, .ref h), (2, .int v), (3, .int 0), (4, .int w)]) rfl ?_
  refine j_iload_n (pc := 0) C d_Days_allows_0 rfl 3 rfl ?_
  refine j_if_neF (pc := 1) C (tgt := 6) d_Days_allows_1 (by decide) (by decide) ?_
  refine j_iconst (pc := 4) C (v := 1) d_Days_allows_4 (by decide) ?_
  exact j_iret (pc := 5) C hr (by decide) () rfl [] rfl (by decide) (by decide) (by decide) d_Days_allows_5
theorem d_Days_allows_6 : decode prog_3_method_2_code 6 = .ok (.iload_n 3, 1) := by decide +kernel
theorem d_Days_allows_7 : decode prog_3_method_2_code 7 = .ok (.iconst 1, 1) := by decide +kernel
theorem d_Days_allows_8 : decode prog_3_method_2_code 8 = .ok (.if_icmp .eq 8, 3) := by decide +kernel
theorem d_Days_allows_16 : decode prog_3_method_2_code 16 = .ok (.aload_n 0, 1) := by decide +kernel
theorem d_Days_allows_17 : decode prog_3_method_2_code 17 = .ok (.iload_n 2, 1) := by decide +kernel
theorem d_Days_allows_18 : decode prog_3_method_2_code 18 = .ok (.invokevirtual 9, 3) := by decide +kernel
theorem kw_Days_9 : KW "NineBoards$Days" 9 ⟨"NineBoards$Lake", "hasVillage", "(I)Z"⟩ prog_5_method_4_code 2 (some .boolean) 1 := ⟨(mt_4 (List.mem_of_getElem? (i := 40) rfl) rfl), (mt_1 (List.mem_of_getElem? (i := 6) rfl) rfl), (mt_3 (List.mem_of_getElem? (i := 231) rfl) rfl), by decide +kernel⟩
theorem kv_Lake_hasVillage : Cond.instanceMethod ⟨"NineBoards$Lake", "hasVillage", "(I)Z"⟩ ∈ TB ∧ Cond.selects "NineBoards$Lake" ⟨"NineBoards$Lake", "hasVillage", "(I)Z"⟩ ⟨"NineBoards$Lake", "hasVillage", "(I)Z"⟩ ∈ TB := ⟨(mt_3 (List.mem_of_getElem? (i := 229) rfl) rfl), (mt_3 (List.mem_of_getElem? (i := 230) rfl) rfl)⟩
theorem d_Days_allows_21 : decode prog_3_method_2_code 21 = .ok (.ifCond .eq 9, 3) := by decide +kernel
theorem d_Days_allows_30 : decode prog_3_method_2_code 30 = .ok (.iconst 0, 1) := by decide +kernel
theorem d_Days_allows_31 : decode prog_3_method_2_code 31 = .ok (.ireturn, 1) := by decide +kernel
theorem d_Days_allows_11 : decode prog_3_method_2_code 11 = .ok (.iload_n 3, 1) := by decide +kernel
theorem d_Days_allows_12 : decode prog_3_method_2_code 12 = .ok (.iconst 2, 1) := by decide +kernel
theorem d_Days_allows_13 : decode prog_3_method_2_code 13 = .ok (.if_icmp .ne 17, 3) := by decide +kernel
set_option maxHeartbeats 4000000 in
set_option maxRecDepth 100000 in
theorem c_allows_n (l : Launch) (D : va_G) (y : Nat → ClassId) (k : Nat) (g : Nat) (vn : Nat) (vg : Nat) (t : Nat) (r : Nat) (h : Nat) (v : Int32) (x : Int32) (w : Int32) (hx : ¬ x = 0) : CT l D y ⟨"NineBoards$Days", "allows", "(LNineBoards$Lake;LNineBoards$State;III)Z"⟩ prog_3_method_2_code 7 (some .boolean) ({ frames := 1, cells := 0, slots := 0, locals := 21 } : Room) [.ref k, .ref h, .int v, .int x, .int w] [(k, .inr (2, [.int 0, .int 1, .int 1, .int 0, .ref g, .int 0, .ref vn, .ref vg, .ref t, .ref r, .int 0, .int 0, .int 9999, .int 0]))] (QI D [(k, .inr (2, [.int 0, .int 1, .int 1, .int 0, .ref g, .int 0, .ref vn, .ref vg, .ref t, .ref r, .int 0, .int 0, .int 9999, .int 0]))] (fun (r : Int32) (_ : Unit) => r = 0) (fun _ => [(k, .inr (2, [.int 0, .int 1, .int 1, .int 0, .ref g, .int 0, .ref vn, .ref vg, .ref t, .ref r, .int 0, .int 0, .int 9999, .int 0]))])) := by
  refine CT.of (by decide) (nb rfl) ?_
  intro p e s m args below meth c C hr
  refine j_lv (lv' := [(0, .ref k), (1, .ref h), (2, .int v), (3, .int x), (4, .int w)]) rfl ?_
  refine j_iload_n (pc := 0) C d_Days_allows_0 rfl 3 rfl ?_
  refine j_if_neT (pc := 1) C (tgt := 6) d_Days_allows_1 (by decide) hx ?_
  refine j_iload_n (pc := 6) C d_Days_allows_6 rfl 3 rfl ?_
  refine j_iconst (pc := 7) C (v := 1) d_Days_allows_7 (by decide) ?_
  refine j_icmp_eq (pc := 8) C (tgt := 16) d_Days_allows_8 (by decide) (fun c1 => ?_) (fun c1 => ?_)
  · refine j_aload_n (pc := 16) C d_Days_allows_16 rfl 0 rfl ?_
    refine j_iload_n (pc := 17) C d_Days_allows_17 rfl 2 rfl ?_
    refine j_callVi (pc := 18) C (c_hasVillage l D y k g vn vg t r v) kw_Days_9 kv_Lake_hasVillage 0 2 rfl rfl ⟨by decide, by decide⟩ ⟨by decide, by decide⟩ (wr := []) [0] [] rfl rfl (by decide) (by decide) (by decide) (As := [.int v]) (rest := []) rfl (nb rfl) rfl d_Days_allows_18 (fun r2 _ hr2 => ?_)
    subst hr2
    refine j_ws (ws' := [(k, .inr (2, [.int 0, .int 1, .int 1, .int 0, .ref g, .int 0, .ref vn, .ref vg, .ref t, .ref r, .int 0, .int 0, .int 9999, .int 0]))]) rfl ?_
    refine j_st (st' := [.int 0]) rfl ?_
    refine j_if_eqT (pc := 21) C (tgt := 30) d_Days_allows_21 (by decide) (by decide) ?_
    refine j_iconst (pc := 30) C (v := 0) d_Days_allows_30 (by decide) ?_
    exact j_iret (pc := 31) C hr (by decide) () rfl [0] rfl (by decide) (by decide) (by decide) d_Days_allows_31
  · refine j_iload_n (pc := 11) C d_Days_allows_11 rfl 3 rfl ?_
    refine j_iconst (pc := 12) C (v := 2) d_Days_allows_12 (by decide) ?_
    refine j_icmp_ne (pc := 13) C (tgt := 30) d_Days_allows_13 (by decide) (fun c3 => ?_) (fun c3 => ?_)
    · refine j_iconst (pc := 30) C (v := 0) d_Days_allows_30 (by decide) ?_
      exact j_iret (pc := 31) C hr (by decide) () rfl [0] rfl (by decide) (by decide) (by decide) d_Days_allows_31
    · refine j_aload_n (pc := 16) C d_Days_allows_16 rfl 0 rfl ?_
      refine j_iload_n (pc := 17) C d_Days_allows_17 rfl 2 rfl ?_
      refine j_callVi (pc := 18) C (c_hasVillage l D y k g vn vg t r v) kw_Days_9 kv_Lake_hasVillage 0 2 rfl rfl ⟨by decide, by decide⟩ ⟨by decide, by decide⟩ (wr := []) [0] [] rfl rfl (by decide) (by decide) (by decide) (As := [.int v]) (rest := []) rfl (nb rfl) rfl d_Days_allows_18 (fun r4 _ hr4 => ?_)
      subst hr4
      refine j_ws (ws' := [(k, .inr (2, [.int 0, .int 1, .int 1, .int 0, .ref g, .int 0, .ref vn, .ref vg, .ref t, .ref r, .int 0, .int 0, .int 9999, .int 0]))]) rfl ?_
      refine j_st (st' := [.int 0]) rfl ?_
      refine j_if_eqT (pc := 21) C (tgt := 30) d_Days_allows_21 (by decide) (by decide) ?_
      refine j_iconst (pc := 30) C (v := 0) d_Days_allows_30 (by decide) ?_
      exact j_iret (pc := 31) C hr (by decide) () rfl [0] rfl (by decide) (by decide) (by decide) d_Days_allows_31
theorem d_Days_doAct_0 : decode prog_3_method_6_code 0 = .ok (.iload_n 2, 1) := by decide +kernel
theorem d_Days_doAct_1 : decode prog_3_method_6_code 1 = .ok (.ifCond .eq 23, 3) := by decide +kernel
theorem d_Days_doAct_24 : decode prog_3_method_6_code 24 = .ok (.return_, 1) := by decide +kernel
set_option maxHeartbeats 4000000 in
set_option maxRecDepth 100000 in
theorem c_doAct (l : Launch) (D : va_G) (y : Nat → ClassId) (k : Nat) (h : Nat)  : CT l D y ⟨"NineBoards$Days", "doAct", "(LNineBoards$Lake;LNineBoards$State;I)V"⟩ prog_3_method_6_code 3 none ({ frames := 0, cells := 0, slots := 0, locals := 0 } : Room) [.ref k, .ref h, .int 0] [] (QV D [] (fun (_ : Unit) => True) (fun _ => [])) := by
  refine CT.of (by decide) (nb rfl) ?_
  intro p e s m args below meth c C hr
  refine j_lv (lv' := [(0, .ref k), (1, .ref h), (2, .int 0)]) rfl ?_
  refine j_iload_n (pc := 0) C d_Days_doAct_0 rfl 2 rfl ?_
  refine j_if_eqT (pc := 1) C (tgt := 24) d_Days_doAct_1 (by decide) (by decide) ?_
  exact j_vret (pc := 24) C hr () trivial [] rfl (by decide) (by decide) (by decide) d_Days_doAct_24
theorem d_Days_setFlows_0 : decode prog_3_method_8_code 0 = .ok (.aload_n 0, 1) := by decide +kernel
theorem d_Days_setFlows_1 : decode prog_3_method_8_code 1 = .ok (.aload_n 1, 1) := by decide +kernel
theorem d_Days_setFlows_2 : decode prog_3_method_8_code 2 = .ok (.getfield 62, 3) := by decide +kernel
theorem gf_Days_62 : GF "NineBoards$Days" 62 7 1 := ⟨_, _, _, rfl, ci_State, by decide, (mt_1 (List.mem_of_getElem? (i := 58) rfl) rfl)⟩
theorem d_Days_setFlows_5 : decode prog_3_method_8_code 5 = .ok (.invokevirtual 65, 3) := by decide +kernel
theorem kw_Days_65 : KW "NineBoards$Days" 65 ⟨"NineBoards$Lake", "levelAt", "(I)I"⟩ prog_5_method_7_code 2 (some .int) 1 := ⟨(mt_4 (List.mem_of_getElem? (i := 6) rfl) rfl), (mt_1 (List.mem_of_getElem? (i := 6) rfl) rfl), (mt_3 (List.mem_of_getElem? (i := 216) rfl) rfl), by decide +kernel⟩
theorem kv_Lake_levelAt : Cond.instanceMethod ⟨"NineBoards$Lake", "levelAt", "(I)I"⟩ ∈ TB ∧ Cond.selects "NineBoards$Lake" ⟨"NineBoards$Lake", "levelAt", "(I)I"⟩ ⟨"NineBoards$Lake", "levelAt", "(I)I"⟩ ∈ TB := ⟨(mt_3 (List.mem_of_getElem? (i := 214) rfl) rfl), (mt_3 (List.mem_of_getElem? (i := 215) rfl) rfl)⟩
theorem d_Days_setFlows_8 : decode prog_3_method_8_code 8 = .ok (.istore_n 2, 1) := by decide +kernel
theorem d_Days_setFlows_9 : decode prog_3_method_8_code 9 = .ok (.aload_n 1, 1) := by decide +kernel
theorem d_Days_setFlows_10 : decode prog_3_method_8_code 10 = .ok (.getfield 62, 3) := by decide +kernel
theorem d_Days_setFlows_13 : decode prog_3_method_8_code 13 = .ok (.istore_n 3, 1) := by decide +kernel
theorem d_Days_setFlows_14 : decode prog_3_method_8_code 14 = .ok (.iconst 0, 1) := by decide +kernel
theorem d_Days_setFlows_15 : decode prog_3_method_8_code 15 = .ok (.istore 4, 2) := by decide +kernel
theorem d_Days_setFlows_17 : decode prog_3_method_8_code 17 = .ok (.iload 4, 2) := by decide +kernel
theorem d_Days_setFlows_19 : decode prog_3_method_8_code 19 = .ok (.aload_n 0, 1) := by decide +kernel
theorem d_Days_setFlows_20 : decode prog_3_method_8_code 20 = .ok (.getfield 25, 3) := by decide +kernel
theorem gf_Days_25 : GF "NineBoards$Days" 25 2 4 := ⟨_, _, _, rfl, ci_Lake, by decide, (mt_2 (List.mem_of_getElem? (i := 43) rfl) rfl)⟩
theorem d_Days_setFlows_23 : decode prog_3_method_8_code 23 = .ok (.getfield 112, 3) := by decide +kernel
theorem gf_Days_112 : GF "NineBoards$Days" 112 1 0 := ⟨_, _, _, rfl, ci_Gates, by decide, (mt_1 (List.mem_of_getElem? (i := 143) rfl) rfl)⟩
theorem d_Days_setFlows_26 : decode prog_3_method_8_code 26 = .ok (.if_icmp .ge 51, 3) := by decide +kernel
theorem d_Days_setFlows_77 : decode prog_3_method_8_code 77 = .ok (.aload_n 1, 1) := by decide +kernel
theorem d_Days_setFlows_78 : decode prog_3_method_8_code 78 = .ok (.getfield 62, 3) := by decide +kernel
theorem d_Days_setFlows_81 : decode prog_3_method_8_code 81 = .ok (.iload_n 3, 1) := by decide +kernel
theorem d_Days_setFlows_82 : decode prog_3_method_8_code 82 = .ok (.isub, 1) := by decide +kernel
theorem d_Days_setFlows_83 : decode prog_3_method_8_code 83 = .ok (.ireturn, 1) := by decide +kernel
set_option maxHeartbeats 4000000 in
set_option maxRecDepth 100000 in
theorem c_setFlows (l : Launch) (D : va_G) (y : Nat → ClassId) (k : Nat) (g : Nat) (vn : Nat) (vg : Nat) (t : Nat) (r : Nat) (g0 : Nat) (g1 : Nat) (g2 : Nat) (g3 : Nat) (g4 : Nat) (g5 : Nat) (g6 : Nat) (h : Nat) (a0 : Nat) (a1 : Nat) (a2 : Nat) (a3 : Nat) (a4 : Nat) (a5 : Nat) (a6 : Nat) (d : Int32)  : CT l D y ⟨"NineBoards$Days", "setFlows", "(LNineBoards$Lake;LNineBoards$State;)I"⟩ prog_3_method_8_code 5 (some .int) ({ frames := 2, cells := 0, slots := 0, locals := 43 } : Room) [.ref k, .ref h] [(k, .inr (2, [.int 0, .int 1, .int 1, .int 0, .ref g, .int 0, .ref vn, .ref vg, .ref t, .ref r, .int 0, .int 0, .int 9999, .int 0])), (g, .inr (1, [.int 0, .ref g0, .ref g1, .ref g2, .ref g3, .ref g4, .ref g5, .ref g6])), (h, .inr (7, [.int d, .int 0, .int 0, .ref a0, .ref a1, .ref a2, .ref a3, .ref a4, .ref a5, .ref a6]))] (QI D [(k, .inr (2, [.int 0, .int 1, .int 1, .int 0, .ref g, .int 0, .ref vn, .ref vg, .ref t, .ref r, .int 0, .int 0, .int 9999, .int 0])), (g, .inr (1, [.int 0, .ref g0, .ref g1, .ref g2, .ref g3, .ref g4, .ref g5, .ref g6])), (h, .inr (7, [.int d, .int 0, .int 0, .ref a0, .ref a1, .ref a2, .ref a3, .ref a4, .ref a5, .ref a6]))] (fun (r : Int32) (_ : Unit) => r = 0) (fun _ => [(k, .inr (2, [.int 0, .int 1, .int 1, .int 0, .ref g, .int 0, .ref vn, .ref vg, .ref t, .ref r, .int 0, .int 0, .int 9999, .int 0])), (g, .inr (1, [.int 0, .ref g0, .ref g1, .ref g2, .ref g3, .ref g4, .ref g5, .ref g6])), (h, .inr (7, [.int d, .int 0, .int 0, .ref a0, .ref a1, .ref a2, .ref a3, .ref a4, .ref a5, .ref a6]))])) := by
  refine CT.of (by decide) (nb rfl) ?_
  intro p e s m args below meth c C hr
  refine j_lv (lv' := [(0, .ref k), (1, .ref h)]) rfl ?_
  refine j_aload_n (pc := 0) C d_Days_setFlows_0 rfl 0 rfl ?_
  refine j_aload_n (pc := 1) C d_Days_setFlows_1 rfl 1 rfl ?_
  refine j_get (pc := 2) C gf_Days_62 2 rfl rfl d_Days_setFlows_2 ?_
  refine j_callVi (pc := 5) C (c_levelAt_0 l D y k g vn vg t r) kw_Days_65 kv_Lake_levelAt 0 2 rfl rfl ⟨by decide, by decide⟩ ⟨by decide, by decide⟩ (wr := [(g, .inr (1, [.int 0, .ref g0, .ref g1, .ref g2, .ref g3, .ref g4, .ref g5, .ref g6])), (h, .inr (7, [.int d, .int 0, .int 0, .ref a0, .ref a1, .ref a2, .ref a3, .ref a4, .ref a5, .ref a6]))]) [0] [1, 2] rfl rfl (by decide) (by decide) (by decide) (As := [.int 0]) (rest := []) rfl (nb rfl) rfl d_Days_setFlows_5 (fun r1 _ hr1 => ?_)
  subst hr1
  refine j_ws (ws' := [(g, .inr (1, [.int 0, .ref g0, .ref g1, .ref g2, .ref g3, .ref g4, .ref g5, .ref g6])), (h, .inr (7, [.int d, .int 0, .int 0, .ref a0, .ref a1, .ref a2, .ref a3, .ref a4, .ref a5, .ref a6])), (k, .inr (2, [.int 0, .int 1, .int 1, .int 0, .ref g, .int 0, .ref vn, .ref vg, .ref t, .ref r, .int 0, .int 0, .int 9999, .int 0]))]) rfl ?_
  refine j_st (st' := [.int 0]) rfl ?_
  refine j_istore_n (pc := 8) C (lv' := [(2, .int 0), (0, .ref k), (1, .ref h)]) d_Days_setFlows_8 rfl (by decide) rfl ?_
  refine j_aload_n (pc := 9) C d_Days_setFlows_9 rfl 2 rfl ?_
  refine j_get (pc := 10) C gf_Days_62 1 rfl rfl d_Days_setFlows_10 ?_
  refine j_istore_n (pc := 13) C (lv' := [(3, .int 0), (2, .int 0), (0, .ref k), (1, .ref h)]) d_Days_setFlows_13 rfl (by decide) rfl ?_
  refine j_iconst (pc := 14) C (v := 0) d_Days_setFlows_14 (by decide) ?_
  refine j_istore (pc := 15) C (lv' := [(4, .int 0), (3, .int 0), (2, .int 0), (0, .ref k), (1, .ref h)]) d_Days_setFlows_15 (by decide) rfl ?_
  refine j_iload (pc := 17) C d_Days_setFlows_17 0 rfl ?_
  refine j_aload_n (pc := 19) C d_Days_setFlows_19 rfl 3 rfl ?_
  refine j_get (pc := 20) C gf_Days_25 2 rfl rfl d_Days_setFlows_20 ?_
  refine j_get (pc := 23) C gf_Days_112 0 rfl rfl d_Days_setFlows_23 ?_
  refine j_icmp_geT (pc := 26) C (tgt := 77) d_Days_setFlows_26 (by decide) (by decide) ?_
  refine j_aload_n (pc := 77) C d_Days_setFlows_77 rfl 4 rfl ?_
  refine j_get (pc := 78) C gf_Days_62 1 rfl rfl d_Days_setFlows_78 ?_
  refine j_iload_n (pc := 81) C d_Days_setFlows_81 rfl 1 rfl ?_
  refine j_isub (pc := 82) C (v := 0) d_Days_setFlows_82 (by decide) ?_
  exact j_iret (pc := 83) C hr rfl () rfl [2, 0, 1] rfl (by decide) (by decide) (by decide) d_Days_setFlows_83
theorem d_Days_letFlow_0 : decode prog_3_method_9_code 0 = .ok (.aload_n 0, 1) := by decide +kernel
theorem d_Days_letFlow_1 : decode prog_3_method_9_code 1 = .ok (.aload_n 1, 1) := by decide +kernel
theorem d_Days_letFlow_2 : decode prog_3_method_9_code 2 = .ok (.invokestatic 121, 3) := by decide +kernel
theorem kw_Days_121 : KW "NineBoards$Days" 121 ⟨"NineBoards$Days", "setFlows", "(LNineBoards$Lake;LNineBoards$State;)I"⟩ prog_3_method_8_code 5 (some .int) 2 := ⟨(mt_4 (List.mem_of_getElem? (i := 80) rfl) rfl), (mt_1 (List.mem_of_getElem? (i := 18) rfl) rfl), (mt_4 (List.mem_of_getElem? (i := 5) rfl) rfl), by decide +kernel⟩
theorem ks_Days_setFlows : Cond.static ⟨"NineBoards$Days", "setFlows", "(LNineBoards$Lake;LNineBoards$State;)I"⟩ ∈ TB := (mt_4 (List.mem_of_getElem? (i := 4) rfl) rfl)
theorem d_Days_letFlow_5 : decode prog_3_method_9_code 5 = .ok (.istore_n 2, 1) := by decide +kernel
theorem d_Days_letFlow_6 : decode prog_3_method_9_code 6 = .ok (.aload_n 1, 1) := by decide +kernel
theorem d_Days_letFlow_7 : decode prog_3_method_9_code 7 = .ok (.dup, 1) := by decide +kernel
theorem d_Days_letFlow_8 : decode prog_3_method_9_code 8 = .ok (.getfield 62, 3) := by decide +kernel
theorem d_Days_letFlow_11 : decode prog_3_method_9_code 11 = .ok (.iload_n 2, 1) := by decide +kernel
theorem d_Days_letFlow_12 : decode prog_3_method_9_code 12 = .ok (.isub, 1) := by decide +kernel
theorem d_Days_letFlow_13 : decode prog_3_method_9_code 13 = .ok (.putfield 62, 3) := by decide +kernel
theorem pf_Days_62 : PF "NineBoards$Days" 62 7 1 (.int) false := ⟨_, _, _, ct_State, rfl, ci_State, by decide, (mt_1 (List.mem_of_getElem? (i := 58) rfl) rfl), cp_State, cn_State, rfl, by decide +kernel, (fun h => by cases h)⟩
theorem d_Days_letFlow_16 : decode prog_3_method_9_code 16 = .ok (.aload_n 1, 1) := by decide +kernel
theorem d_Days_letFlow_17 : decode prog_3_method_9_code 17 = .ok (.getfield 87, 3) := by decide +kernel
theorem gf_Days_87 : GF "NineBoards$Days" 87 7 9 := ⟨_, _, _, rfl, ci_State, by decide, (mt_1 (List.mem_of_getElem? (i := 83) rfl) rfl)⟩
theorem d_Days_letFlow_20 : decode prog_3_method_9_code 20 = .ok (.iconst 3, 1) := by decide +kernel
theorem d_Days_letFlow_21 : decode prog_3_method_9_code 21 = .ok (.dup2, 1) := by decide +kernel
theorem d_Days_letFlow_22 : decode prog_3_method_9_code 22 = .ok (.laload, 1) := by decide +kernel
theorem d_Days_letFlow_23 : decode prog_3_method_9_code 23 = .ok (.iload_n 2, 1) := by decide +kernel
theorem d_Days_letFlow_24 : decode prog_3_method_9_code 24 = .ok (.i2l, 1) := by decide +kernel
theorem d_Days_letFlow_25 : decode prog_3_method_9_code 25 = .ok (.ladd, 1) := by decide +kernel
theorem d_Days_letFlow_26 : decode prog_3_method_9_code 26 = .ok (.lastore, 1) := by decide +kernel
theorem d_Days_letFlow_27 : decode prog_3_method_9_code 27 = .ok (.iconst 0, 1) := by decide +kernel
theorem d_Days_letFlow_28 : decode prog_3_method_9_code 28 = .ok (.istore_n 3, 1) := by decide +kernel
theorem d_Days_letFlow_29 : decode prog_3_method_9_code 29 = .ok (.iload_n 3, 1) := by decide +kernel
theorem d_Days_letFlow_30 : decode prog_3_method_9_code 30 = .ok (.aload_n 0, 1) := by decide +kernel
theorem d_Days_letFlow_31 : decode prog_3_method_9_code 31 = .ok (.getfield 25, 3) := by decide +kernel
theorem d_Days_letFlow_34 : decode prog_3_method_9_code 34 = .ok (.getfield 112, 3) := by decide +kernel
theorem d_Days_letFlow_37 : decode prog_3_method_9_code 37 = .ok (.if_icmp .ge 25, 3) := by decide +kernel
theorem d_Days_letFlow_62 : decode prog_3_method_9_code 62 = .ok (.return_, 1) := by decide +kernel
set_option maxHeartbeats 4000000 in
set_option maxRecDepth 100000 in
theorem c_letFlow (l : Launch) (D : va_G) (y : Nat → ClassId) (k : Nat) (g : Nat) (vn : Nat) (vg : Nat) (t : Nat) (r : Nat) (g0 : Nat) (g1 : Nat) (g2 : Nat) (g3 : Nat) (g4 : Nat) (g5 : Nat) (g6 : Nat) (h : Nat) (a0 : Nat) (a1 : Nat) (a2 : Nat) (a3 : Nat) (a4 : Nat) (a5 : Nat) (a6 : Nat) (d : Int32)  : CT l D y ⟨"NineBoards$Days", "letFlow", "(LNineBoards$Lake;LNineBoards$State;)V"⟩ prog_3_method_9_code 4 none ({ frames := 3, cells := 0, slots := 0, locals := 67 } : Room) [.ref k, .ref h] [(k, .inr (2, [.int 0, .int 1, .int 1, .int 0, .ref g, .int 0, .ref vn, .ref vg, .ref t, .ref r, .int 0, .int 0, .int 9999, .int 0])), (g, .inr (1, [.int 0, .ref g0, .ref g1, .ref g2, .ref g3, .ref g4, .ref g5, .ref g6])), (h, .inr (7, [.int d, .int 0, .int 0, .ref a0, .ref a1, .ref a2, .ref a3, .ref a4, .ref a5, .ref a6])), (a6, .inl (y 1, 5, .inr (.inl (fun _ => 0))))] (QV D [(k, .inr (2, [.int 0, .int 1, .int 1, .int 0, .ref g, .int 0, .ref vn, .ref vg, .ref t, .ref r, .int 0, .int 0, .int 9999, .int 0])), (g, .inr (1, [.int 0, .ref g0, .ref g1, .ref g2, .ref g3, .ref g4, .ref g5, .ref g6])), (h, .inr (7, [.int d, .int 0, .int 0, .ref a0, .ref a1, .ref a2, .ref a3, .ref a4, .ref a5, .ref a6])), (a6, .inl (y 1, 5, .inr (.inl (fun _ => 0))))] (fun (_ : Unit) => True) (fun _ => [(k, .inr (2, [.int 0, .int 1, .int 1, .int 0, .ref g, .int 0, .ref vn, .ref vg, .ref t, .ref r, .int 0, .int 0, .int 9999, .int 0])), (g, .inr (1, [.int 0, .ref g0, .ref g1, .ref g2, .ref g3, .ref g4, .ref g5, .ref g6])), (h, .inr (7, [.int d, .int 0, .int 0, .ref a0, .ref a1, .ref a2, .ref a3, .ref a4, .ref a5, .ref a6])), (a6, .inl (y 1, 5, .inr (.inl (fun _ => 0))))])) := by
  refine CT.of (by decide) (nb rfl) ?_
  intro p e s m args below meth c C hr
  refine j_lv (lv' := [(0, .ref k), (1, .ref h)]) rfl ?_
  refine j_aload_n (pc := 0) C d_Days_letFlow_0 rfl 0 rfl ?_
  refine j_aload_n (pc := 1) C d_Days_letFlow_1 rfl 1 rfl ?_
  refine j_callSi (pc := 2) C (c_setFlows l D y k g vn vg t r g0 g1 g2 g3 g4 g5 g6 h a0 a1 a2 a3 a4 a5 a6 d) kw_Days_121 ks_Days_setFlows ⟨by decide, by decide⟩ ⟨by decide, by decide⟩ (wr := [(a6, .inl (y 1, 5, .inr (.inl (fun _ => 0))))]) [0, 1, 2] [3] rfl rfl (by decide) (by decide) (by decide) (As := [.ref k, .ref h]) (rest := []) rfl (nb rfl) rfl d_Days_letFlow_2 (fun r1 _ hr1 => ?_)
  subst hr1
  refine j_ws (ws' := [(a6, .inl (y 1, 5, .inr (.inl (fun _ => 0)))), (k, .inr (2, [.int 0, .int 1, .int 1, .int 0, .ref g, .int 0, .ref vn, .ref vg, .ref t, .ref r, .int 0, .int 0, .int 9999, .int 0])), (g, .inr (1, [.int 0, .ref g0, .ref g1, .ref g2, .ref g3, .ref g4, .ref g5, .ref g6])), (h, .inr (7, [.int d, .int 0, .int 0, .ref a0, .ref a1, .ref a2, .ref a3, .ref a4, .ref a5, .ref a6]))]) rfl ?_
  refine j_st (st' := [.int 0]) rfl ?_
  refine j_istore_n (pc := 5) C (lv' := [(2, .int 0), (0, .ref k), (1, .ref h)]) d_Days_letFlow_5 rfl (by decide) rfl ?_
  refine j_aload_n (pc := 6) C d_Days_letFlow_6 rfl 2 rfl ?_
  refine j_dup (pc := 7) C d_Days_letFlow_7 rfl ?_
  refine j_get (pc := 8) C gf_Days_62 3 rfl rfl d_Days_letFlow_8 ?_
  refine j_iload_n (pc := 11) C d_Days_letFlow_11 rfl 0 rfl ?_
  refine j_isub (pc := 12) C (v := 0) d_Days_letFlow_12 (by decide) ?_
  refine j_put (pc := 13) C pf_Days_62 3 (ws' := [(a6, .inl (y 1, 5, .inr (.inl (fun _ => 0)))), (k, .inr (2, [.int 0, .int 1, .int 1, .int 0, .ref g, .int 0, .ref vn, .ref vg, .ref t, .ref r, .int 0, .int 0, .int 9999, .int 0])), (g, .inr (1, [.int 0, .ref g0, .ref g1, .ref g2, .ref g3, .ref g4, .ref g5, .ref g6])), (h, .inr (7, [.int d, .int 0, .int 0, .ref a0, .ref a1, .ref a2, .ref a3, .ref a4, .ref a5, .ref a6]))]) rfl rfl rfl (nl rfl) rfl d_Days_letFlow_13 ?_
  refine j_aload_n (pc := 16) C d_Days_letFlow_16 rfl 2 rfl ?_
  refine j_get (pc := 17) C gf_Days_87 3 rfl rfl d_Days_letFlow_17 ?_
  refine j_iconst (pc := 20) C (v := 3) d_Days_letFlow_20 (by decide) ?_
  refine j_dup2 (pc := 21) C d_Days_letFlow_21 rfl rfl ?_
  refine j_lald (pc := 22) C 0 rfl (v := 0) (vin (by decide)) rfl d_Days_letFlow_22 ?_
  refine j_iload_n (pc := 23) C d_Days_letFlow_23 rfl 0 rfl ?_
  refine j_i2l (pc := 24) C (v := 0) d_Days_letFlow_24 (by decide) ?_
  refine j_ladd (pc := 25) C (v := 0) d_Days_letFlow_25 (by decide) ?_
  refine j_last (pc := 26) C 0 rfl (ws' := [(a6, .inl (y 1, 5, .inr (.inl (fun _ => 0)))), (k, .inr (2, [.int 0, .int 1, .int 1, .int 0, .ref g, .int 0, .ref vn, .ref vg, .ref t, .ref r, .int 0, .int 0, .int 9999, .int 0])), (g, .inr (1, [.int 0, .ref g0, .ref g1, .ref g2, .ref g3, .ref g4, .ref g5, .ref g6])), (h, .inr (7, [.int d, .int 0, .int 0, .ref a0, .ref a1, .ref a2, .ref a3, .ref a4, .ref a5, .ref a6]))]) (vin (by decide)) (by rw [up_z1]; rfl) d_Days_letFlow_26 ?_
  refine j_iconst (pc := 27) C (v := 0) d_Days_letFlow_27 (by decide) ?_
  refine j_istore_n (pc := 28) C (lv' := [(3, .int 0), (2, .int 0), (0, .ref k), (1, .ref h)]) d_Days_letFlow_28 rfl (by decide) rfl ?_
  refine j_iload_n (pc := 29) C d_Days_letFlow_29 rfl 0 rfl ?_
  refine j_aload_n (pc := 30) C d_Days_letFlow_30 rfl 2 rfl ?_
  refine j_get (pc := 31) C gf_Days_25 1 rfl rfl d_Days_letFlow_31 ?_
  refine j_get (pc := 34) C gf_Days_112 2 rfl rfl d_Days_letFlow_34 ?_
  refine j_icmp_geT (pc := 37) C (tgt := 62) d_Days_letFlow_37 (by decide) (by decide) ?_
  exact j_vret (pc := 62) C hr () trivial [1, 2, 3, 0] rfl (by decide) (by decide) (by decide) d_Days_letFlow_62
theorem d_Days_giveWorth_0 : decode prog_3_method_10_code 0 = .ok (.iconst 0, 1) := by decide +kernel
theorem d_Days_giveWorth_1 : decode prog_3_method_10_code 1 = .ok (.istore_n 3, 1) := by decide +kernel
theorem d_Days_giveWorth_2 : decode prog_3_method_10_code 2 = .ok (.iload_n 3, 1) := by decide +kernel
theorem d_Days_giveWorth_3 : decode prog_3_method_10_code 3 = .ok (.aload_n 0, 1) := by decide +kernel
theorem d_Days_giveWorth_4 : decode prog_3_method_10_code 4 = .ok (.getfield 128, 3) := by decide +kernel
theorem gf_Days_128 : GF "NineBoards$Days" 128 2 5 := ⟨_, _, _, rfl, ci_Lake, by decide, (mt_2 (List.mem_of_getElem? (i := 50) rfl) rfl)⟩
theorem d_Days_giveWorth_7 : decode prog_3_method_10_code 7 = .ok (.if_icmp .ge 17, 3) := by decide +kernel
theorem d_Days_giveWorth_24 : decode prog_3_method_10_code 24 = .ok (.aload_n 0, 1) := by decide +kernel
theorem d_Days_giveWorth_25 : decode prog_3_method_10_code 25 = .ok (.getfield 134, 3) := by decide +kernel
theorem gf_Days_134 : GF "NineBoards$Days" 134 2 8 := ⟨_, _, _, rfl, ci_Lake, by decide, (mt_2 (List.mem_of_getElem? (i := 61) rfl) rfl)⟩
theorem d_Days_giveWorth_28 : decode prog_3_method_10_code 28 = .ok (.astore_n 3, 1) := by decide +kernel
theorem d_Days_giveWorth_29 : decode prog_3_method_10_code 29 = .ok (.iconst 0, 1) := by decide +kernel
theorem d_Days_giveWorth_30 : decode prog_3_method_10_code 30 = .ok (.istore 4, 2) := by decide +kernel
theorem d_Days_giveWorth_32 : decode prog_3_method_10_code 32 = .ok (.iload 4, 2) := by decide +kernel
theorem d_Days_giveWorth_34 : decode prog_3_method_10_code 34 = .ok (.aload_n 3, 1) := by decide +kernel
theorem d_Days_giveWorth_35 : decode prog_3_method_10_code 35 = .ok (.getfield 138, 3) := by decide +kernel
theorem gf_Days_138 : GF "NineBoards$Days" 138 8 0 := ⟨_, _, _, rfl, ci_Things, by decide, (mt_1 (List.mem_of_getElem? (i := 190) rfl) rfl)⟩
theorem d_Days_giveWorth_38 : decode prog_3_method_10_code 38 = .ok (.if_icmp .ge 67, 3) := by decide +kernel
theorem d_Days_giveWorth_105 : decode prog_3_method_10_code 105 = .ok (.iconst 0, 1) := by decide +kernel
theorem d_Days_giveWorth_106 : decode prog_3_method_10_code 106 = .ok (.istore 4, 2) := by decide +kernel
theorem d_Days_giveWorth_108 : decode prog_3_method_10_code 108 = .ok (.iload 4, 2) := by decide +kernel
theorem d_Days_giveWorth_110 : decode prog_3_method_10_code 110 = .ok (.aload_n 0, 1) := by decide +kernel
theorem d_Days_giveWorth_111 : decode prog_3_method_10_code 111 = .ok (.getfield 128, 3) := by decide +kernel
theorem d_Days_giveWorth_114 : decode prog_3_method_10_code 114 = .ok (.if_icmp .ge 26, 3) := by decide +kernel
theorem d_Days_giveWorth_140 : decode prog_3_method_10_code 140 = .ok (.return_, 1) := by decide +kernel
set_option maxHeartbeats 4000000 in
set_option maxRecDepth 100000 in
theorem c_giveWorth (l : Launch) (D : va_G) (y : Nat → ClassId) (k : Nat) (g : Nat) (vn : Nat) (vg : Nat) (t : Nat) (r : Nat) (t0 : Nat) (t1 : Nat) (t2 : Nat) (t3 : Nat) (t4 : Nat) (t5 : Nat) (t6 : Nat) (h : Nat) (a0 : Nat) (a1 : Nat) (a2 : Nat) (a3 : Nat) (a4 : Nat) (a5 : Nat) (a6 : Nat) (d : Int32)  : CT l D y ⟨"NineBoards$Days", "giveWorth", "(LNineBoards$Lake;LNineBoards$State;I)V"⟩ prog_3_method_10_code 5 none ({ frames := 0, cells := 0, slots := 0, locals := 0 } : Room) [.ref k, .ref h, .int 0] [(k, .inr (2, [.int 0, .int 1, .int 1, .int 0, .ref g, .int 0, .ref vn, .ref vg, .ref t, .ref r, .int 0, .int 0, .int 9999, .int 0])), (t, .inr (8, [.int 0, .ref t0, .ref t1, .ref t2, .ref t3, .ref t4, .ref t5, .ref t6])), (h, .inr (7, [.int d, .int 0, .int 0, .ref a0, .ref a1, .ref a2, .ref a3, .ref a4, .ref a5, .ref a6]))] (QV D [(k, .inr (2, [.int 0, .int 1, .int 1, .int 0, .ref g, .int 0, .ref vn, .ref vg, .ref t, .ref r, .int 0, .int 0, .int 9999, .int 0])), (t, .inr (8, [.int 0, .ref t0, .ref t1, .ref t2, .ref t3, .ref t4, .ref t5, .ref t6])), (h, .inr (7, [.int d, .int 0, .int 0, .ref a0, .ref a1, .ref a2, .ref a3, .ref a4, .ref a5, .ref a6]))] (fun (_ : Unit) => True) (fun _ => [(k, .inr (2, [.int 0, .int 1, .int 1, .int 0, .ref g, .int 0, .ref vn, .ref vg, .ref t, .ref r, .int 0, .int 0, .int 9999, .int 0])), (t, .inr (8, [.int 0, .ref t0, .ref t1, .ref t2, .ref t3, .ref t4, .ref t5, .ref t6])), (h, .inr (7, [.int d, .int 0, .int 0, .ref a0, .ref a1, .ref a2, .ref a3, .ref a4, .ref a5, .ref a6]))])) := by
  refine CT.of (by decide) (nb rfl) ?_
  intro p e s m args below meth c C hr
  refine j_lv (lv' := [(0, .ref k), (1, .ref h), (2, .int 0)]) rfl ?_
  refine j_iconst (pc := 0) C (v := 0) d_Days_giveWorth_0 (by decide) ?_
  refine j_istore_n (pc := 1) C (lv' := [(3, .int 0), (0, .ref k), (1, .ref h), (2, .int 0)]) d_Days_giveWorth_1 rfl (by decide) rfl ?_
  refine j_iload_n (pc := 2) C d_Days_giveWorth_2 rfl 0 rfl ?_
  refine j_aload_n (pc := 3) C d_Days_giveWorth_3 rfl 1 rfl ?_
  refine j_get (pc := 4) C gf_Days_128 0 rfl rfl d_Days_giveWorth_4 ?_
  refine j_icmp_geT (pc := 7) C (tgt := 24) d_Days_giveWorth_7 (by decide) (by decide) ?_
  refine j_aload_n (pc := 24) C d_Days_giveWorth_24 rfl 1 rfl ?_
  refine j_get (pc := 25) C gf_Days_134 0 rfl rfl d_Days_giveWorth_25 ?_
  refine j_astore_n (pc := 28) C (lv' := [(3, .ref t), (0, .ref k), (1, .ref h), (2, .int 0)]) d_Days_giveWorth_28 rfl (by decide) rfl ?_
  refine j_iconst (pc := 29) C (v := 0) d_Days_giveWorth_29 (by decide) ?_
  refine j_istore (pc := 30) C (lv' := [(4, .int 0), (3, .ref t), (0, .ref k), (1, .ref h), (2, .int 0)]) d_Days_giveWorth_30 (by decide) rfl ?_
  refine j_iload (pc := 32) C d_Days_giveWorth_32 0 rfl ?_
  refine j_aload_n (pc := 34) C d_Days_giveWorth_34 rfl 1 rfl ?_
  refine j_get (pc := 35) C gf_Days_138 1 rfl rfl d_Days_giveWorth_35 ?_
  refine j_icmp_geT (pc := 38) C (tgt := 105) d_Days_giveWorth_38 (by decide) (by decide) ?_
  refine j_iconst (pc := 105) C (v := 0) d_Days_giveWorth_105 (by decide) ?_
  refine j_istore (pc := 106) C (lv' := [(4, .int 0), (3, .ref t), (0, .ref k), (1, .ref h), (2, .int 0)]) d_Days_giveWorth_106 (by decide) rfl ?_
  refine j_iload (pc := 108) C d_Days_giveWorth_108 0 rfl ?_
  refine j_aload_n (pc := 110) C d_Days_giveWorth_110 rfl 2 rfl ?_
  refine j_get (pc := 111) C gf_Days_128 0 rfl rfl d_Days_giveWorth_111 ?_
  refine j_icmp_geT (pc := 114) C (tgt := 140) d_Days_giveWorth_114 (by decide) (by decide) ?_
  exact j_vret (pc := 140) C hr () trivial [0, 1, 2] rfl (by decide) (by decide) (by decide) d_Days_giveWorth_140
theorem d_Days_pass_0 : decode prog_3_method_5_code 0 = .ok (.aload_n 0, 1) := by decide +kernel
theorem d_Days_pass_1 : decode prog_3_method_5_code 1 = .ok (.aload_n 1, 1) := by decide +kernel
theorem d_Days_pass_2 : decode prog_3_method_5_code 2 = .ok (.iload_n 2, 1) := by decide +kernel
theorem d_Days_pass_3 : decode prog_3_method_5_code 3 = .ok (.invokestatic 47, 3) := by decide +kernel
theorem kw_Days_47 : KW "NineBoards$Days" 47 ⟨"NineBoards$Days", "doAct", "(LNineBoards$Lake;LNineBoards$State;I)V"⟩ prog_3_method_6_code 3 none 3 := ⟨(mt_4 (List.mem_of_getElem? (i := 70) rfl) rfl), (mt_1 (List.mem_of_getElem? (i := 18) rfl) rfl), (mt_4 (List.mem_of_getElem? (i := 72) rfl) rfl), by decide +kernel⟩
theorem ks_Days_doAct : Cond.static ⟨"NineBoards$Days", "doAct", "(LNineBoards$Lake;LNineBoards$State;I)V"⟩ ∈ TB := (mt_4 (List.mem_of_getElem? (i := 71) rfl) rfl)
theorem d_Days_pass_6 : decode prog_3_method_5_code 6 = .ok (.aload_n 0, 1) := by decide +kernel
theorem d_Days_pass_7 : decode prog_3_method_5_code 7 = .ok (.aload_n 1, 1) := by decide +kernel
theorem d_Days_pass_8 : decode prog_3_method_5_code 8 = .ok (.invokestatic 51, 3) := by decide +kernel
theorem kw_Days_51 : KW "NineBoards$Days" 51 ⟨"NineBoards$Days", "letFlow", "(LNineBoards$Lake;LNineBoards$State;)V"⟩ prog_3_method_9_code 4 none 2 := ⟨(mt_4 (List.mem_of_getElem? (i := 77) rfl) rfl), (mt_1 (List.mem_of_getElem? (i := 18) rfl) rfl), (mt_4 (List.mem_of_getElem? (i := 79) rfl) rfl), by decide +kernel⟩
theorem ks_Days_letFlow : Cond.static ⟨"NineBoards$Days", "letFlow", "(LNineBoards$Lake;LNineBoards$State;)V"⟩ ∈ TB := (mt_4 (List.mem_of_getElem? (i := 78) rfl) rfl)
theorem d_Days_pass_11 : decode prog_3_method_5_code 11 = .ok (.aload_n 0, 1) := by decide +kernel
theorem d_Days_pass_12 : decode prog_3_method_5_code 12 = .ok (.getfield 55, 3) := by decide +kernel
theorem gf_Days_55 : GF "NineBoards$Days" 55 2 9 := ⟨_, _, _, rfl, ci_Lake, by decide, (mt_2 (List.mem_of_getElem? (i := 63) rfl) rfl)⟩
theorem d_Days_pass_15 : decode prog_3_method_5_code 15 = .ok (.iconst 0, 1) := by decide +kernel
theorem d_Days_pass_16 : decode prog_3_method_5_code 16 = .ok (.aload_n 1, 1) := by decide +kernel
theorem d_Days_pass_17 : decode prog_3_method_5_code 17 = .ok (.getfield 59, 3) := by decide +kernel
theorem gf_Days_59 : GF "NineBoards$Days" 59 7 0 := ⟨_, _, _, rfl, ci_State, by decide, (mt_1 (List.mem_of_getElem? (i := 54) rfl) rfl)⟩
theorem d_Days_pass_20 : decode prog_3_method_5_code 20 = .ok (.aload_n 0, 1) := by decide +kernel
theorem d_Days_pass_21 : decode prog_3_method_5_code 21 = .ok (.aload_n 1, 1) := by decide +kernel
theorem d_Days_pass_22 : decode prog_3_method_5_code 22 = .ok (.getfield 62, 3) := by decide +kernel
theorem d_Days_pass_25 : decode prog_3_method_5_code 25 = .ok (.invokevirtual 65, 3) := by decide +kernel
theorem d_Days_pass_28 : decode prog_3_method_5_code 28 = .ok (.aload_n 1, 1) := by decide +kernel
theorem d_Days_pass_29 : decode prog_3_method_5_code 29 = .ok (.getfield 62, 3) := by decide +kernel
theorem d_Days_pass_32 : decode prog_3_method_5_code 32 = .ok (.invokevirtual 69, 3) := by decide +kernel
theorem kw_Days_69 : KW "NineBoards$Days" 69 ⟨"NineBoards$Rules", "amount", "(IIII)I"⟩ prog_9_method_3_code 7 (some .int) 4 := ⟨(mt_4 (List.mem_of_getElem? (i := 81) rfl) rfl), (mt_1 (List.mem_of_getElem? (i := 9) rfl) rfl), (mt_4 (List.mem_of_getElem? (i := 84) rfl) rfl), by decide +kernel⟩
theorem kv_Rules_amount : Cond.instanceMethod ⟨"NineBoards$Rules", "amount", "(IIII)I"⟩ ∈ TB ∧ Cond.selects "NineBoards$Rules" ⟨"NineBoards$Rules", "amount", "(IIII)I"⟩ ⟨"NineBoards$Rules", "amount", "(IIII)I"⟩ ∈ TB := ⟨(mt_4 (List.mem_of_getElem? (i := 82) rfl) rfl), (mt_4 (List.mem_of_getElem? (i := 83) rfl) rfl)⟩
theorem d_Days_pass_35 : decode prog_3_method_5_code 35 = .ok (.istore_n 3, 1) := by decide +kernel
theorem d_Days_pass_36 : decode prog_3_method_5_code 36 = .ok (.aload_n 1, 1) := by decide +kernel
theorem d_Days_pass_37 : decode prog_3_method_5_code 37 = .ok (.getfield 62, 3) := by decide +kernel
theorem d_Days_pass_40 : decode prog_3_method_5_code 40 = .ok (.iload_n 3, 1) := by decide +kernel
theorem d_Days_pass_41 : decode prog_3_method_5_code 41 = .ok (.iadd, 1) := by decide +kernel
theorem d_Days_pass_42 : decode prog_3_method_5_code 42 = .ok (.istore 4, 2) := by decide +kernel
theorem d_Days_pass_44 : decode prog_3_method_5_code 44 = .ok (.iconst 0, 1) := by decide +kernel
theorem d_Days_pass_45 : decode prog_3_method_5_code 45 = .ok (.iload 4, 2) := by decide +kernel
theorem d_Days_pass_47 : decode prog_3_method_5_code 47 = .ok (.aload_n 0, 1) := by decide +kernel
theorem d_Days_pass_48 : decode prog_3_method_5_code 48 = .ok (.getfield 75, 3) := by decide +kernel
theorem gf_Days_75 : GF "NineBoards$Days" 75 2 2 := ⟨_, _, _, rfl, ci_Lake, by decide, (mt_2 (List.mem_of_getElem? (i := 37) rfl) rfl)⟩
theorem d_Days_pass_51 : decode prog_3_method_5_code 51 = .ok (.isub, 1) := by decide +kernel
theorem d_Days_pass_52 : decode prog_3_method_5_code 52 = .ok (.invokestatic 78, 3) := by decide +kernel
theorem d_Days_pass_55 : decode prog_3_method_5_code 55 = .ok (.istore 5, 2) := by decide +kernel
theorem d_Days_pass_57 : decode prog_3_method_5_code 57 = .ok (.aload_n 1, 1) := by decide +kernel
theorem d_Days_pass_58 : decode prog_3_method_5_code 58 = .ok (.iload 4, 2) := by decide +kernel
theorem d_Days_pass_60 : decode prog_3_method_5_code 60 = .ok (.iload 5, 2) := by decide +kernel
theorem d_Days_pass_62 : decode prog_3_method_5_code 62 = .ok (.isub, 1) := by decide +kernel
theorem d_Days_pass_63 : decode prog_3_method_5_code 63 = .ok (.putfield 62, 3) := by decide +kernel
theorem d_Days_pass_66 : decode prog_3_method_5_code 66 = .ok (.aload_n 1, 1) := by decide +kernel
theorem d_Days_pass_67 : decode prog_3_method_5_code 67 = .ok (.getfield 62, 3) := by decide +kernel
theorem d_Days_pass_70 : decode prog_3_method_5_code 70 = .ok (.aload_n 0, 1) := by decide +kernel
theorem d_Days_pass_71 : decode prog_3_method_5_code 71 = .ok (.getfield 55, 3) := by decide +kernel
theorem d_Days_pass_74 : decode prog_3_method_5_code 74 = .ok (.iconst 1, 1) := by decide +kernel
theorem d_Days_pass_75 : decode prog_3_method_5_code 75 = .ok (.aload_n 1, 1) := by decide +kernel
theorem d_Days_pass_76 : decode prog_3_method_5_code 76 = .ok (.getfield 59, 3) := by decide +kernel
theorem d_Days_pass_79 : decode prog_3_method_5_code 79 = .ok (.aload_n 0, 1) := by decide +kernel
theorem d_Days_pass_80 : decode prog_3_method_5_code 80 = .ok (.aload_n 1, 1) := by decide +kernel
theorem d_Days_pass_81 : decode prog_3_method_5_code 81 = .ok (.getfield 62, 3) := by decide +kernel
theorem d_Days_pass_84 : decode prog_3_method_5_code 84 = .ok (.invokevirtual 65, 3) := by decide +kernel
theorem d_Days_pass_87 : decode prog_3_method_5_code 87 = .ok (.aload_n 1, 1) := by decide +kernel
theorem d_Days_pass_88 : decode prog_3_method_5_code 88 = .ok (.getfield 62, 3) := by decide +kernel
theorem d_Days_pass_91 : decode prog_3_method_5_code 91 = .ok (.invokevirtual 69, 3) := by decide +kernel
theorem d_Days_pass_94 : decode prog_3_method_5_code 94 = .ok (.invokestatic 84, 3) := by decide +kernel
theorem d_Days_pass_97 : decode prog_3_method_5_code 97 = .ok (.istore 6, 2) := by decide +kernel
theorem d_Days_pass_99 : decode prog_3_method_5_code 99 = .ok (.aload_n 1, 1) := by decide +kernel
theorem d_Days_pass_100 : decode prog_3_method_5_code 100 = .ok (.dup, 1) := by decide +kernel
theorem d_Days_pass_101 : decode prog_3_method_5_code 101 = .ok (.getfield 62, 3) := by decide +kernel
theorem d_Days_pass_104 : decode prog_3_method_5_code 104 = .ok (.iload 6, 2) := by decide +kernel
theorem d_Days_pass_106 : decode prog_3_method_5_code 106 = .ok (.isub, 1) := by decide +kernel
theorem d_Days_pass_107 : decode prog_3_method_5_code 107 = .ok (.putfield 62, 3) := by decide +kernel
theorem d_Days_pass_110 : decode prog_3_method_5_code 110 = .ok (.aload_n 1, 1) := by decide +kernel
theorem d_Days_pass_111 : decode prog_3_method_5_code 111 = .ok (.getfield 87, 3) := by decide +kernel
theorem d_Days_pass_114 : decode prog_3_method_5_code 114 = .ok (.iconst 1, 1) := by decide +kernel
theorem d_Days_pass_115 : decode prog_3_method_5_code 115 = .ok (.dup2, 1) := by decide +kernel
theorem d_Days_pass_116 : decode prog_3_method_5_code 116 = .ok (.laload, 1) := by decide +kernel
theorem d_Days_pass_117 : decode prog_3_method_5_code 117 = .ok (.iload_n 3, 1) := by decide +kernel
theorem d_Days_pass_118 : decode prog_3_method_5_code 118 = .ok (.i2l, 1) := by decide +kernel
theorem d_Days_pass_119 : decode prog_3_method_5_code 119 = .ok (.ladd, 1) := by decide +kernel
theorem d_Days_pass_120 : decode prog_3_method_5_code 120 = .ok (.lastore, 1) := by decide +kernel
theorem d_Days_pass_121 : decode prog_3_method_5_code 121 = .ok (.aload_n 1, 1) := by decide +kernel
theorem d_Days_pass_122 : decode prog_3_method_5_code 122 = .ok (.getfield 87, 3) := by decide +kernel
theorem d_Days_pass_125 : decode prog_3_method_5_code 125 = .ok (.iconst 2, 1) := by decide +kernel
theorem d_Days_pass_126 : decode prog_3_method_5_code 126 = .ok (.dup2, 1) := by decide +kernel
theorem d_Days_pass_127 : decode prog_3_method_5_code 127 = .ok (.laload, 1) := by decide +kernel
theorem d_Days_pass_128 : decode prog_3_method_5_code 128 = .ok (.iload 5, 2) := by decide +kernel
theorem d_Days_pass_130 : decode prog_3_method_5_code 130 = .ok (.i2l, 1) := by decide +kernel
theorem d_Days_pass_131 : decode prog_3_method_5_code 131 = .ok (.ladd, 1) := by decide +kernel
theorem d_Days_pass_132 : decode prog_3_method_5_code 132 = .ok (.lastore, 1) := by decide +kernel
theorem d_Days_pass_133 : decode prog_3_method_5_code 133 = .ok (.aload_n 1, 1) := by decide +kernel
theorem d_Days_pass_134 : decode prog_3_method_5_code 134 = .ok (.getfield 87, 3) := by decide +kernel
theorem d_Days_pass_137 : decode prog_3_method_5_code 137 = .ok (.iconst 4, 1) := by decide +kernel
theorem d_Days_pass_138 : decode prog_3_method_5_code 138 = .ok (.dup2, 1) := by decide +kernel
theorem d_Days_pass_139 : decode prog_3_method_5_code 139 = .ok (.laload, 1) := by decide +kernel
theorem d_Days_pass_140 : decode prog_3_method_5_code 140 = .ok (.iload 6, 2) := by decide +kernel
theorem d_Days_pass_142 : decode prog_3_method_5_code 142 = .ok (.i2l, 1) := by decide +kernel
theorem d_Days_pass_143 : decode prog_3_method_5_code 143 = .ok (.ladd, 1) := by decide +kernel
theorem d_Days_pass_144 : decode prog_3_method_5_code 144 = .ok (.lastore, 1) := by decide +kernel
theorem d_Days_pass_145 : decode prog_3_method_5_code 145 = .ok (.aload_n 0, 1) := by decide +kernel
theorem d_Days_pass_146 : decode prog_3_method_5_code 146 = .ok (.aload_n 1, 1) := by decide +kernel
theorem d_Days_pass_147 : decode prog_3_method_5_code 147 = .ok (.getfield 62, 3) := by decide +kernel
theorem d_Days_pass_150 : decode prog_3_method_5_code 150 = .ok (.invokevirtual 65, 3) := by decide +kernel
theorem d_Days_pass_153 : decode prog_3_method_5_code 153 = .ok (.aload_n 0, 1) := by decide +kernel
theorem d_Days_pass_154 : decode prog_3_method_5_code 154 = .ok (.getfield 91, 3) := by decide +kernel
theorem gf_Days_91 : GF "NineBoards$Days" 91 2 10 := ⟨_, _, _, rfl, ci_Lake, by decide, (mt_2 (List.mem_of_getElem? (i := 67) rfl) rfl)⟩
theorem d_Days_pass_157 : decode prog_3_method_5_code 157 = .ok (.if_icmp .ge 10, 3) := by decide +kernel
theorem d_Days_pass_167 : decode prog_3_method_5_code 167 = .ok (.iconst 0, 1) := by decide +kernel
theorem d_Days_pass_168 : decode prog_3_method_5_code 168 = .ok (.istore 7, 2) := by decide +kernel
theorem d_Days_pass_170 : decode prog_3_method_5_code 170 = .ok (.iload 7, 2) := by decide +kernel
theorem d_Days_pass_172 : decode prog_3_method_5_code 172 = .ok (.aload_n 0, 1) := by decide +kernel
theorem d_Days_pass_173 : decode prog_3_method_5_code 173 = .ok (.iload 4, 2) := by decide +kernel
theorem d_Days_pass_175 : decode prog_3_method_5_code 175 = .ok (.invokevirtual 65, 3) := by decide +kernel
theorem d_Days_pass_178 : decode prog_3_method_5_code 178 = .ok (.aload_n 0, 1) := by decide +kernel
theorem d_Days_pass_179 : decode prog_3_method_5_code 179 = .ok (.getfield 97, 3) := by decide +kernel
theorem gf_Days_97 : GF "NineBoards$Days" 97 2 12 := ⟨_, _, _, rfl, ci_Lake, by decide, (mt_2 (List.mem_of_getElem? (i := 73) rfl) rfl)⟩
theorem d_Days_pass_182 : decode prog_3_method_5_code 182 = .ok (.if_icmp .le 10, 3) := by decide +kernel
theorem d_Days_pass_192 : decode prog_3_method_5_code 192 = .ok (.iconst 0, 1) := by decide +kernel
theorem d_Days_pass_193 : decode prog_3_method_5_code 193 = .ok (.iadd, 1) := by decide +kernel
theorem d_Days_pass_194 : decode prog_3_method_5_code 194 = .ok (.istore 7, 2) := by decide +kernel
theorem d_Days_pass_196 : decode prog_3_method_5_code 196 = .ok (.aload_n 0, 1) := by decide +kernel
theorem d_Days_pass_197 : decode prog_3_method_5_code 197 = .ok (.aload_n 1, 1) := by decide +kernel
theorem d_Days_pass_198 : decode prog_3_method_5_code 198 = .ok (.iload 7, 2) := by decide +kernel
theorem d_Days_pass_200 : decode prog_3_method_5_code 200 = .ok (.invokestatic 103, 3) := by decide +kernel
theorem kw_Days_103 : KW "NineBoards$Days" 103 ⟨"NineBoards$Days", "giveWorth", "(LNineBoards$Lake;LNineBoards$State;I)V"⟩ prog_3_method_10_code 5 none 3 := ⟨(mt_4 (List.mem_of_getElem? (i := 103) rfl) rfl), (mt_1 (List.mem_of_getElem? (i := 18) rfl) rfl), (mt_4 (List.mem_of_getElem? (i := 105) rfl) rfl), by decide +kernel⟩
theorem ks_Days_giveWorth : Cond.static ⟨"NineBoards$Days", "giveWorth", "(LNineBoards$Lake;LNineBoards$State;I)V"⟩ ∈ TB := (mt_4 (List.mem_of_getElem? (i := 104) rfl) rfl)
theorem d_Days_pass_203 : decode prog_3_method_5_code 203 = .ok (.aload_n 1, 1) := by decide +kernel
theorem d_Days_pass_204 : decode prog_3_method_5_code 204 = .ok (.dup, 1) := by decide +kernel
theorem d_Days_pass_205 : decode prog_3_method_5_code 205 = .ok (.getfield 59, 3) := by decide +kernel
theorem d_Days_pass_208 : decode prog_3_method_5_code 208 = .ok (.iconst 1, 1) := by decide +kernel
theorem d_Days_pass_209 : decode prog_3_method_5_code 209 = .ok (.iadd, 1) := by decide +kernel
theorem d_Days_pass_210 : decode prog_3_method_5_code 210 = .ok (.putfield 59, 3) := by decide +kernel
theorem pf_Days_59 : PF "NineBoards$Days" 59 7 0 (.int) false := ⟨_, _, _, ct_State, rfl, ci_State, by decide, (mt_1 (List.mem_of_getElem? (i := 54) rfl) rfl), cp_State, cn_State, rfl, by decide +kernel, (fun h => by cases h)⟩
theorem d_Days_pass_213 : decode prog_3_method_5_code 213 = .ok (.return_, 1) := by decide +kernel
set_option maxHeartbeats 4000000 in
set_option maxRecDepth 100000 in
theorem c_pass (l : Launch) (D : va_G) (y : Nat → ClassId) (k : Nat) (g : Nat) (vn : Nat) (vg : Nat) (t : Nat) (r : Nat) (g0 : Nat) (g1 : Nat) (g2 : Nat) (g3 : Nat) (g4 : Nat) (g5 : Nat) (g6 : Nat) (t0 : Nat) (t1 : Nat) (t2 : Nat) (t3 : Nat) (t4 : Nat) (t5 : Nat) (t6 : Nat) (r0 : Nat) (r1 : Nat) (r2 : Nat) (r3 : Nat) (r4 : Nat) (r5 : Nat) (h : Nat) (a0 : Nat) (a1 : Nat) (a2 : Nat) (a3 : Nat) (a4 : Nat) (a5 : Nat) (a6 : Nat) (d : Int32)  : CT l D y ⟨"NineBoards$Days", "pass", "(LNineBoards$Lake;LNineBoards$State;I)V"⟩ prog_3_method_5_code 8 none ({ frames := 4, cells := 0, slots := 0, locals := 90 } : Room) [.ref k, .ref h, .int 0] [(k, .inr (2, [.int 0, .int 1, .int 1, .int 0, .ref g, .int 0, .ref vn, .ref vg, .ref t, .ref r, .int 0, .int 0, .int 9999, .int 0])), (g, .inr (1, [.int 0, .ref g0, .ref g1, .ref g2, .ref g3, .ref g4, .ref g5, .ref g6])), (t, .inr (8, [.int 0, .ref t0, .ref t1, .ref t2, .ref t3, .ref t4, .ref t5, .ref t6])), (r, .inr (6, [.int 0, .int 0, .ref r0, .ref r1, .ref r2, .ref r3, .ref r4, .ref r5])), (h, .inr (7, [.int d, .int 0, .int 0, .ref a0, .ref a1, .ref a2, .ref a3, .ref a4, .ref a5, .ref a6])), (a6, .inl (y 1, 5, .inr (.inl (fun _ => 0))))] (QV D [(k, .inr (2, [.int 0, .int 1, .int 1, .int 0, .ref g, .int 0, .ref vn, .ref vg, .ref t, .ref r, .int 0, .int 0, .int 9999, .int 0])), (g, .inr (1, [.int 0, .ref g0, .ref g1, .ref g2, .ref g3, .ref g4, .ref g5, .ref g6])), (t, .inr (8, [.int 0, .ref t0, .ref t1, .ref t2, .ref t3, .ref t4, .ref t5, .ref t6])), (r, .inr (6, [.int 0, .int 0, .ref r0, .ref r1, .ref r2, .ref r3, .ref r4, .ref r5])), (h, .inr (7, [.int d, .int 0, .int 0, .ref a0, .ref a1, .ref a2, .ref a3, .ref a4, .ref a5, .ref a6])), (a6, .inl (y 1, 5, .inr (.inl (fun _ => 0))))] (fun (_ : Unit) => True) (fun _ => [(k, .inr (2, [.int 0, .int 1, .int 1, .int 0, .ref g, .int 0, .ref vn, .ref vg, .ref t, .ref r, .int 0, .int 0, .int 9999, .int 0])), (g, .inr (1, [.int 0, .ref g0, .ref g1, .ref g2, .ref g3, .ref g4, .ref g5, .ref g6])), (t, .inr (8, [.int 0, .ref t0, .ref t1, .ref t2, .ref t3, .ref t4, .ref t5, .ref t6])), (r, .inr (6, [.int 0, .int 0, .ref r0, .ref r1, .ref r2, .ref r3, .ref r4, .ref r5])), (h, .inr (7, [.int (d + 1), .int 0, .int 0, .ref a0, .ref a1, .ref a2, .ref a3, .ref a4, .ref a5, .ref a6])), (a6, .inl (y 1, 5, .inr (.inl (fun _ => 0))))])) := by
  refine CT.of (by decide) (nb rfl) ?_
  intro p e s m args below meth c C hr
  refine j_lv (lv' := [(0, .ref k), (1, .ref h), (2, .int 0)]) rfl ?_
  refine j_aload_n (pc := 0) C d_Days_pass_0 rfl 0 rfl ?_
  refine j_aload_n (pc := 1) C d_Days_pass_1 rfl 1 rfl ?_
  refine j_iload_n (pc := 2) C d_Days_pass_2 rfl 2 rfl ?_
  refine j_callSv (pc := 3) C (c_doAct l D y k h) kw_Days_47 ks_Days_doAct ⟨by decide, by decide⟩ ⟨by decide, by decide⟩ (wr := [(k, .inr (2, [.int 0, .int 1, .int 1, .int 0, .ref g, .int 0, .ref vn, .ref vg, .ref t, .ref r, .int 0, .int 0, .int 9999, .int 0])), (g, .inr (1, [.int 0, .ref g0, .ref g1, .ref g2, .ref g3, .ref g4, .ref g5, .ref g6])), (t, .inr (8, [.int 0, .ref t0, .ref t1, .ref t2, .ref t3, .ref t4, .ref t5, .ref t6])), (r, .inr (6, [.int 0, .int 0, .ref r0, .ref r1, .ref r2, .ref r3, .ref r4, .ref r5])), (h, .inr (7, [.int d, .int 0, .int 0, .ref a0, .ref a1, .ref a2, .ref a3, .ref a4, .ref a5, .ref a6])), (a6, .inl (y 1, 5, .inr (.inl (fun _ => 0))))]) [] [0, 1, 2, 3, 4, 5] rfl rfl (by decide) (by decide) (by decide) (As := [.ref k, .ref h, .int 0]) (rest := []) rfl (nb rfl) rfl d_Days_pass_3 (fun _ _ => ?_)
  refine j_ws (ws' := [(k, .inr (2, [.int 0, .int 1, .int 1, .int 0, .ref g, .int 0, .ref vn, .ref vg, .ref t, .ref r, .int 0, .int 0, .int 9999, .int 0])), (g, .inr (1, [.int 0, .ref g0, .ref g1, .ref g2, .ref g3, .ref g4, .ref g5, .ref g6])), (t, .inr (8, [.int 0, .ref t0, .ref t1, .ref t2, .ref t3, .ref t4, .ref t5, .ref t6])), (r, .inr (6, [.int 0, .int 0, .ref r0, .ref r1, .ref r2, .ref r3, .ref r4, .ref r5])), (h, .inr (7, [.int d, .int 0, .int 0, .ref a0, .ref a1, .ref a2, .ref a3, .ref a4, .ref a5, .ref a6])), (a6, .inl (y 1, 5, .inr (.inl (fun _ => 0))))]) rfl ?_
  refine j_aload_n (pc := 6) C d_Days_pass_6 rfl 0 rfl ?_
  refine j_aload_n (pc := 7) C d_Days_pass_7 rfl 1 rfl ?_
  refine j_callSv (pc := 8) C (c_letFlow l D y k g vn vg t r g0 g1 g2 g3 g4 g5 g6 h a0 a1 a2 a3 a4 a5 a6 d) kw_Days_51 ks_Days_letFlow ⟨by decide, by decide⟩ ⟨by decide, by decide⟩ (wr := [(t, .inr (8, [.int 0, .ref t0, .ref t1, .ref t2, .ref t3, .ref t4, .ref t5, .ref t6])), (r, .inr (6, [.int 0, .int 0, .ref r0, .ref r1, .ref r2, .ref r3, .ref r4, .ref r5]))]) [0, 1, 4, 5] [2, 3] rfl rfl (by decide) (by decide) (by decide) (As := [.ref k, .ref h]) (rest := []) rfl (nb rfl) rfl d_Days_pass_8 (fun _ _ => ?_)
  refine j_ws (ws' := [(t, .inr (8, [.int 0, .ref t0, .ref t1, .ref t2, .ref t3, .ref t4, .ref t5, .ref t6])), (r, .inr (6, [.int 0, .int 0, .ref r0, .ref r1, .ref r2, .ref r3, .ref r4, .ref r5])), (k, .inr (2, [.int 0, .int 1, .int 1, .int 0, .ref g, .int 0, .ref vn, .ref vg, .ref t, .ref r, .int 0, .int 0, .int 9999, .int 0])), (g, .inr (1, [.int 0, .ref g0, .ref g1, .ref g2, .ref g3, .ref g4, .ref g5, .ref g6])), (h, .inr (7, [.int d, .int 0, .int 0, .ref a0, .ref a1, .ref a2, .ref a3, .ref a4, .ref a5, .ref a6])), (a6, .inl (y 1, 5, .inr (.inl (fun _ => 0))))]) rfl ?_
  refine j_aload_n (pc := 11) C d_Days_pass_11 rfl 0 rfl ?_
  refine j_get (pc := 12) C gf_Days_55 2 rfl rfl d_Days_pass_12 ?_
  refine j_iconst (pc := 15) C (v := 0) d_Days_pass_15 (by decide) ?_
  refine j_aload_n (pc := 16) C d_Days_pass_16 rfl 1 rfl ?_
  refine j_get (pc := 17) C gf_Days_59 4 rfl rfl d_Days_pass_17 ?_
  refine j_aload_n (pc := 20) C d_Days_pass_20 rfl 0 rfl ?_
  refine j_aload_n (pc := 21) C d_Days_pass_21 rfl 1 rfl ?_
  refine j_get (pc := 22) C gf_Days_62 4 rfl rfl d_Days_pass_22 ?_
  refine j_callVi (pc := 25) C (c_levelAt_0 l D y k g vn vg t r) kw_Days_65 kv_Lake_levelAt 0 2 rfl rfl ⟨by decide, by decide⟩ ⟨by decide, by decide⟩ (wr := [(t, .inr (8, [.int 0, .ref t0, .ref t1, .ref t2, .ref t3, .ref t4, .ref t5, .ref t6])), (r, .inr (6, [.int 0, .int 0, .ref r0, .ref r1, .ref r2, .ref r3, .ref r4, .ref r5])), (g, .inr (1, [.int 0, .ref g0, .ref g1, .ref g2, .ref g3, .ref g4, .ref g5, .ref g6])), (h, .inr (7, [.int d, .int 0, .int 0, .ref a0, .ref a1, .ref a2, .ref a3, .ref a4, .ref a5, .ref a6])), (a6, .inl (y 1, 5, .inr (.inl (fun _ => 0))))]) [2] [0, 1, 3, 4, 5] rfl rfl (by decide) (by decide) (by decide) (As := [.int 0]) (rest := [.int d, .int 0, .ref r]) rfl (nb rfl) rfl d_Days_pass_25 (fun r6 _ hr6 => ?_)
  subst hr6
  refine j_ws (ws' := [(t, .inr (8, [.int 0, .ref t0, .ref t1, .ref t2, .ref t3, .ref t4, .ref t5, .ref t6])), (r, .inr (6, [.int 0, .int 0, .ref r0, .ref r1, .ref r2, .ref r3, .ref r4, .ref r5])), (g, .inr (1, [.int 0, .ref g0, .ref g1, .ref g2, .ref g3, .ref g4, .ref g5, .ref g6])), (h, .inr (7, [.int d, .int 0, .int 0, .ref a0, .ref a1, .ref a2, .ref a3, .ref a4, .ref a5, .ref a6])), (a6, .inl (y 1, 5, .inr (.inl (fun _ => 0)))), (k, .inr (2, [.int 0, .int 1, .int 1, .int 0, .ref g, .int 0, .ref vn, .ref vg, .ref t, .ref r, .int 0, .int 0, .int 9999, .int 0]))]) rfl ?_
  refine j_st (st' := [.int 0, .int d, .int 0, .ref r]) rfl ?_
  refine j_aload_n (pc := 28) C d_Days_pass_28 rfl 1 rfl ?_
  refine j_get (pc := 29) C gf_Days_62 3 rfl rfl d_Days_pass_29 ?_
  refine j_callVi (pc := 32) C (c_amount l D y r r0 r1 r2 r3 r4 r5 0 d 0 0) kw_Days_69 kv_Rules_amount 0 6 rfl rfl ⟨by decide, by decide⟩ ⟨by decide, by decide⟩ (wr := [(t, .inr (8, [.int 0, .ref t0, .ref t1, .ref t2, .ref t3, .ref t4, .ref t5, .ref t6])), (g, .inr (1, [.int 0, .ref g0, .ref g1, .ref g2, .ref g3, .ref g4, .ref g5, .ref g6])), (h, .inr (7, [.int d, .int 0, .int 0, .ref a0, .ref a1, .ref a2, .ref a3, .ref a4, .ref a5, .ref a6])), (a6, .inl (y 1, 5, .inr (.inl (fun _ => 0)))), (k, .inr (2, [.int 0, .int 1, .int 1, .int 0, .ref g, .int 0, .ref vn, .ref vg, .ref t, .ref r, .int 0, .int 0, .int 9999, .int 0]))]) [1] [0, 2, 3, 4, 5] rfl rfl (by decide) (by decide) (by decide) (As := [.int 0, .int d, .int 0, .int 0]) (rest := []) rfl (nb rfl) rfl d_Days_pass_32 (fun r7 _ hr7 => ?_)
  subst hr7
  refine j_ws (ws' := [(t, .inr (8, [.int 0, .ref t0, .ref t1, .ref t2, .ref t3, .ref t4, .ref t5, .ref t6])), (g, .inr (1, [.int 0, .ref g0, .ref g1, .ref g2, .ref g3, .ref g4, .ref g5, .ref g6])), (h, .inr (7, [.int d, .int 0, .int 0, .ref a0, .ref a1, .ref a2, .ref a3, .ref a4, .ref a5, .ref a6])), (a6, .inl (y 1, 5, .inr (.inl (fun _ => 0)))), (k, .inr (2, [.int 0, .int 1, .int 1, .int 0, .ref g, .int 0, .ref vn, .ref vg, .ref t, .ref r, .int 0, .int 0, .int 9999, .int 0])), (r, .inr (6, [.int 0, .int 0, .ref r0, .ref r1, .ref r2, .ref r3, .ref r4, .ref r5]))]) rfl ?_
  refine j_st (st' := [.int 0]) rfl ?_
  refine j_istore_n (pc := 35) C (lv' := [(3, .int 0), (0, .ref k), (1, .ref h), (2, .int 0)]) d_Days_pass_35 rfl (by decide) rfl ?_
  refine j_aload_n (pc := 36) C d_Days_pass_36 rfl 2 rfl ?_
  refine j_get (pc := 37) C gf_Days_62 2 rfl rfl d_Days_pass_37 ?_
  refine j_iload_n (pc := 40) C d_Days_pass_40 rfl 0 rfl ?_
  refine j_iadd (pc := 41) C (v := 0) d_Days_pass_41 (by decide) ?_
  refine j_istore (pc := 42) C (lv' := [(4, .int 0), (3, .int 0), (0, .ref k), (1, .ref h), (2, .int 0)]) d_Days_pass_42 (by decide) rfl ?_
  refine j_iconst (pc := 44) C (v := 0) d_Days_pass_44 (by decide) ?_
  refine j_iload (pc := 45) C d_Days_pass_45 0 rfl ?_
  refine j_aload_n (pc := 47) C d_Days_pass_47 rfl 2 rfl ?_
  refine j_get (pc := 48) C gf_Days_75 4 rfl rfl d_Days_pass_48 ?_
  refine j_isub (pc := 51) C (v := (-1)) d_Days_pass_51 (by decide) ?_
  refine j_mmax (pc := 52) C (mt_4 (List.mem_of_getElem? (i := 102) rfl) rfl) (mt_1 (List.mem_of_getElem? (i := 34) rfl) rfl) (mt_1 (List.mem_of_getElem? (i := 3) rfl) rfl) (mt_1 (List.mem_of_getElem? (i := 35) rfl) rfl) (v := 0) (by decide) (by decide) (nb rfl) (by decide) (by decide) d_Days_pass_52 ?_
  refine j_istore (pc := 55) C (lv' := [(5, .int 0), (4, .int 0), (3, .int 0), (0, .ref k), (1, .ref h), (2, .int 0)]) d_Days_pass_55 (by decide) rfl ?_
  refine j_aload_n (pc := 57) C d_Days_pass_57 rfl 4 rfl ?_
  refine j_iload (pc := 58) C d_Days_pass_58 1 rfl ?_
  refine j_iload (pc := 60) C d_Days_pass_60 0 rfl ?_
  refine j_isub (pc := 62) C (v := 0) d_Days_pass_62 (by decide) ?_
  refine j_put (pc := 63) C pf_Days_62 2 (ws' := [(t, .inr (8, [.int 0, .ref t0, .ref t1, .ref t2, .ref t3, .ref t4, .ref t5, .ref t6])), (g, .inr (1, [.int 0, .ref g0, .ref g1, .ref g2, .ref g3, .ref g4, .ref g5, .ref g6])), (h, .inr (7, [.int d, .int 0, .int 0, .ref a0, .ref a1, .ref a2, .ref a3, .ref a4, .ref a5, .ref a6])), (a6, .inl (y 1, 5, .inr (.inl (fun _ => 0)))), (k, .inr (2, [.int 0, .int 1, .int 1, .int 0, .ref g, .int 0, .ref vn, .ref vg, .ref t, .ref r, .int 0, .int 0, .int 9999, .int 0])), (r, .inr (6, [.int 0, .int 0, .ref r0, .ref r1, .ref r2, .ref r3, .ref r4, .ref r5]))]) rfl rfl rfl (nl rfl) rfl d_Days_pass_63 ?_
  refine j_aload_n (pc := 66) C d_Days_pass_66 rfl 4 rfl ?_
  refine j_get (pc := 67) C gf_Days_62 2 rfl rfl d_Days_pass_67 ?_
  refine j_aload_n (pc := 70) C d_Days_pass_70 rfl 3 rfl ?_
  refine j_get (pc := 71) C gf_Days_55 4 rfl rfl d_Days_pass_71 ?_
  refine j_iconst (pc := 74) C (v := 1) d_Days_pass_74 (by decide) ?_
  refine j_aload_n (pc := 75) C d_Days_pass_75 rfl 4 rfl ?_
  refine j_get (pc := 76) C gf_Days_59 2 rfl rfl d_Days_pass_76 ?_
  refine j_aload_n (pc := 79) C d_Days_pass_79 rfl 3 rfl ?_
  refine j_aload_n (pc := 80) C d_Days_pass_80 rfl 4 rfl ?_
  refine j_get (pc := 81) C gf_Days_62 2 rfl rfl d_Days_pass_81 ?_
  refine j_callVi (pc := 84) C (c_levelAt_0 l D y k g vn vg t r) kw_Days_65 kv_Lake_levelAt 0 2 rfl rfl ⟨by decide, by decide⟩ ⟨by decide, by decide⟩ (wr := [(t, .inr (8, [.int 0, .ref t0, .ref t1, .ref t2, .ref t3, .ref t4, .ref t5, .ref t6])), (g, .inr (1, [.int 0, .ref g0, .ref g1, .ref g2, .ref g3, .ref g4, .ref g5, .ref g6])), (h, .inr (7, [.int d, .int 0, .int 0, .ref a0, .ref a1, .ref a2, .ref a3, .ref a4, .ref a5, .ref a6])), (a6, .inl (y 1, 5, .inr (.inl (fun _ => 0)))), (r, .inr (6, [.int 0, .int 0, .ref r0, .ref r1, .ref r2, .ref r3, .ref r4, .ref r5]))]) [4] [0, 1, 2, 3, 5] rfl rfl (by decide) (by decide) (by decide) (As := [.int 0]) (rest := [.int d, .int 1, .ref r, .int 0]) rfl (nb rfl) rfl d_Days_pass_84 (fun r8 _ hr8 => ?_)
  subst hr8
  refine j_ws (ws' := [(t, .inr (8, [.int 0, .ref t0, .ref t1, .ref t2, .ref t3, .ref t4, .ref t5, .ref t6])), (g, .inr (1, [.int 0, .ref g0, .ref g1, .ref g2, .ref g3, .ref g4, .ref g5, .ref g6])), (h, .inr (7, [.int d, .int 0, .int 0, .ref a0, .ref a1, .ref a2, .ref a3, .ref a4, .ref a5, .ref a6])), (a6, .inl (y 1, 5, .inr (.inl (fun _ => 0)))), (r, .inr (6, [.int 0, .int 0, .ref r0, .ref r1, .ref r2, .ref r3, .ref r4, .ref r5])), (k, .inr (2, [.int 0, .int 1, .int 1, .int 0, .ref g, .int 0, .ref vn, .ref vg, .ref t, .ref r, .int 0, .int 0, .int 9999, .int 0]))]) rfl ?_
  refine j_st (st' := [.int 0, .int d, .int 1, .ref r, .int 0]) rfl ?_
  refine j_aload_n (pc := 87) C d_Days_pass_87 rfl 4 rfl ?_
  refine j_get (pc := 88) C gf_Days_62 2 rfl rfl d_Days_pass_88 ?_
  refine j_callVi (pc := 91) C (c_amount l D y r r0 r1 r2 r3 r4 r5 1 d 0 0) kw_Days_69 kv_Rules_amount 0 6 rfl rfl ⟨by decide, by decide⟩ ⟨by decide, by decide⟩ (wr := [(t, .inr (8, [.int 0, .ref t0, .ref t1, .ref t2, .ref t3, .ref t4, .ref t5, .ref t6])), (g, .inr (1, [.int 0, .ref g0, .ref g1, .ref g2, .ref g3, .ref g4, .ref g5, .ref g6])), (h, .inr (7, [.int d, .int 0, .int 0, .ref a0, .ref a1, .ref a2, .ref a3, .ref a4, .ref a5, .ref a6])), (a6, .inl (y 1, 5, .inr (.inl (fun _ => 0)))), (k, .inr (2, [.int 0, .int 1, .int 1, .int 0, .ref g, .int 0, .ref vn, .ref vg, .ref t, .ref r, .int 0, .int 0, .int 9999, .int 0]))]) [4] [0, 1, 2, 3, 5] rfl rfl (by decide) (by decide) (by decide) (As := [.int 1, .int d, .int 0, .int 0]) (rest := [.int 0]) rfl (nb rfl) rfl d_Days_pass_91 (fun r9 _ hr9 => ?_)
  subst hr9
  refine j_ws (ws' := [(t, .inr (8, [.int 0, .ref t0, .ref t1, .ref t2, .ref t3, .ref t4, .ref t5, .ref t6])), (g, .inr (1, [.int 0, .ref g0, .ref g1, .ref g2, .ref g3, .ref g4, .ref g5, .ref g6])), (h, .inr (7, [.int d, .int 0, .int 0, .ref a0, .ref a1, .ref a2, .ref a3, .ref a4, .ref a5, .ref a6])), (a6, .inl (y 1, 5, .inr (.inl (fun _ => 0)))), (k, .inr (2, [.int 0, .int 1, .int 1, .int 0, .ref g, .int 0, .ref vn, .ref vg, .ref t, .ref r, .int 0, .int 0, .int 9999, .int 0])), (r, .inr (6, [.int 0, .int 0, .ref r0, .ref r1, .ref r2, .ref r3, .ref r4, .ref r5]))]) rfl ?_
  refine j_st (st' := [.int 0, .int 0]) rfl ?_
  refine j_mmin (pc := 94) C (mt_4 (List.mem_of_getElem? (i := 12) rfl) rfl) (mt_3 (List.mem_of_getElem? (i := 56) rfl) rfl) (mt_1 (List.mem_of_getElem? (i := 3) rfl) rfl) (mt_3 (List.mem_of_getElem? (i := 57) rfl) rfl) (v := 0) (by decide) (by decide) (nb rfl) (by decide) (by decide) d_Days_pass_94 ?_
  refine j_istore (pc := 97) C (lv' := [(6, .int 0), (5, .int 0), (4, .int 0), (3, .int 0), (0, .ref k), (1, .ref h), (2, .int 0)]) d_Days_pass_97 (by decide) rfl ?_
  refine j_aload_n (pc := 99) C d_Days_pass_99 rfl 5 rfl ?_
  refine j_dup (pc := 100) C d_Days_pass_100 rfl ?_
  refine j_get (pc := 101) C gf_Days_62 2 rfl rfl d_Days_pass_101 ?_
  refine j_iload (pc := 104) C d_Days_pass_104 0 rfl ?_
  refine j_isub (pc := 106) C (v := 0) d_Days_pass_106 (by decide) ?_
  refine j_put (pc := 107) C pf_Days_62 2 (ws' := [(t, .inr (8, [.int 0, .ref t0, .ref t1, .ref t2, .ref t3, .ref t4, .ref t5, .ref t6])), (g, .inr (1, [.int 0, .ref g0, .ref g1, .ref g2, .ref g3, .ref g4, .ref g5, .ref g6])), (h, .inr (7, [.int d, .int 0, .int 0, .ref a0, .ref a1, .ref a2, .ref a3, .ref a4, .ref a5, .ref a6])), (a6, .inl (y 1, 5, .inr (.inl (fun _ => 0)))), (k, .inr (2, [.int 0, .int 1, .int 1, .int 0, .ref g, .int 0, .ref vn, .ref vg, .ref t, .ref r, .int 0, .int 0, .int 9999, .int 0])), (r, .inr (6, [.int 0, .int 0, .ref r0, .ref r1, .ref r2, .ref r3, .ref r4, .ref r5]))]) rfl rfl rfl (nl rfl) rfl d_Days_pass_107 ?_
  refine j_aload_n (pc := 110) C d_Days_pass_110 rfl 5 rfl ?_
  refine j_get (pc := 111) C gf_Days_87 2 rfl rfl d_Days_pass_111 ?_
  refine j_iconst (pc := 114) C (v := 1) d_Days_pass_114 (by decide) ?_
  refine j_dup2 (pc := 115) C d_Days_pass_115 rfl rfl ?_
  refine j_lald (pc := 116) C 3 rfl (v := 0) (vin (by decide)) rfl d_Days_pass_116 ?_
  refine j_iload_n (pc := 117) C d_Days_pass_117 rfl 3 rfl ?_
  refine j_i2l (pc := 118) C (v := 0) d_Days_pass_118 (by decide) ?_
  refine j_ladd (pc := 119) C (v := 0) d_Days_pass_119 (by decide) ?_
  refine j_last (pc := 120) C 3 rfl (ws' := [(t, .inr (8, [.int 0, .ref t0, .ref t1, .ref t2, .ref t3, .ref t4, .ref t5, .ref t6])), (g, .inr (1, [.int 0, .ref g0, .ref g1, .ref g2, .ref g3, .ref g4, .ref g5, .ref g6])), (h, .inr (7, [.int d, .int 0, .int 0, .ref a0, .ref a1, .ref a2, .ref a3, .ref a4, .ref a5, .ref a6])), (a6, .inl (y 1, 5, .inr (.inl (fun _ => 0)))), (k, .inr (2, [.int 0, .int 1, .int 1, .int 0, .ref g, .int 0, .ref vn, .ref vg, .ref t, .ref r, .int 0, .int 0, .int 9999, .int 0])), (r, .inr (6, [.int 0, .int 0, .ref r0, .ref r1, .ref r2, .ref r3, .ref r4, .ref r5]))]) (vin (by decide)) (by rw [up_z1]; rfl) d_Days_pass_120 ?_
  refine j_aload_n (pc := 121) C d_Days_pass_121 rfl 5 rfl ?_
  refine j_get (pc := 122) C gf_Days_87 2 rfl rfl d_Days_pass_122 ?_
  refine j_iconst (pc := 125) C (v := 2) d_Days_pass_125 (by decide) ?_
  refine j_dup2 (pc := 126) C d_Days_pass_126 rfl rfl ?_
  refine j_lald (pc := 127) C 3 rfl (v := 0) (vin (by decide)) rfl d_Days_pass_127 ?_
  refine j_iload (pc := 128) C d_Days_pass_128 1 rfl ?_
  refine j_i2l (pc := 130) C (v := 0) d_Days_pass_130 (by decide) ?_
  refine j_ladd (pc := 131) C (v := 0) d_Days_pass_131 (by decide) ?_
  refine j_last (pc := 132) C 3 rfl (ws' := [(t, .inr (8, [.int 0, .ref t0, .ref t1, .ref t2, .ref t3, .ref t4, .ref t5, .ref t6])), (g, .inr (1, [.int 0, .ref g0, .ref g1, .ref g2, .ref g3, .ref g4, .ref g5, .ref g6])), (h, .inr (7, [.int d, .int 0, .int 0, .ref a0, .ref a1, .ref a2, .ref a3, .ref a4, .ref a5, .ref a6])), (a6, .inl (y 1, 5, .inr (.inl (fun _ => 0)))), (k, .inr (2, [.int 0, .int 1, .int 1, .int 0, .ref g, .int 0, .ref vn, .ref vg, .ref t, .ref r, .int 0, .int 0, .int 9999, .int 0])), (r, .inr (6, [.int 0, .int 0, .ref r0, .ref r1, .ref r2, .ref r3, .ref r4, .ref r5]))]) (vin (by decide)) (by rw [up_z1]; rfl) d_Days_pass_132 ?_
  refine j_aload_n (pc := 133) C d_Days_pass_133 rfl 5 rfl ?_
  refine j_get (pc := 134) C gf_Days_87 2 rfl rfl d_Days_pass_134 ?_
  refine j_iconst (pc := 137) C (v := 4) d_Days_pass_137 (by decide) ?_
  refine j_dup2 (pc := 138) C d_Days_pass_138 rfl rfl ?_
  refine j_lald (pc := 139) C 3 rfl (v := 0) (vin (by decide)) rfl d_Days_pass_139 ?_
  refine j_iload (pc := 140) C d_Days_pass_140 0 rfl ?_
  refine j_i2l (pc := 142) C (v := 0) d_Days_pass_142 (by decide) ?_
  refine j_ladd (pc := 143) C (v := 0) d_Days_pass_143 (by decide) ?_
  refine j_last (pc := 144) C 3 rfl (ws' := [(t, .inr (8, [.int 0, .ref t0, .ref t1, .ref t2, .ref t3, .ref t4, .ref t5, .ref t6])), (g, .inr (1, [.int 0, .ref g0, .ref g1, .ref g2, .ref g3, .ref g4, .ref g5, .ref g6])), (h, .inr (7, [.int d, .int 0, .int 0, .ref a0, .ref a1, .ref a2, .ref a3, .ref a4, .ref a5, .ref a6])), (a6, .inl (y 1, 5, .inr (.inl (fun _ => 0)))), (k, .inr (2, [.int 0, .int 1, .int 1, .int 0, .ref g, .int 0, .ref vn, .ref vg, .ref t, .ref r, .int 0, .int 0, .int 9999, .int 0])), (r, .inr (6, [.int 0, .int 0, .ref r0, .ref r1, .ref r2, .ref r3, .ref r4, .ref r5]))]) (vin (by decide)) (by rw [up_z1]; rfl) d_Days_pass_144 ?_
  refine j_aload_n (pc := 145) C d_Days_pass_145 rfl 4 rfl ?_
  refine j_aload_n (pc := 146) C d_Days_pass_146 rfl 5 rfl ?_
  refine j_get (pc := 147) C gf_Days_62 2 rfl rfl d_Days_pass_147 ?_
  refine j_callVi (pc := 150) C (c_levelAt_0 l D y k g vn vg t r) kw_Days_65 kv_Lake_levelAt 0 2 rfl rfl ⟨by decide, by decide⟩ ⟨by decide, by decide⟩ (wr := [(t, .inr (8, [.int 0, .ref t0, .ref t1, .ref t2, .ref t3, .ref t4, .ref t5, .ref t6])), (g, .inr (1, [.int 0, .ref g0, .ref g1, .ref g2, .ref g3, .ref g4, .ref g5, .ref g6])), (h, .inr (7, [.int d, .int 0, .int 0, .ref a0, .ref a1, .ref a2, .ref a3, .ref a4, .ref a5, .ref a6])), (a6, .inl (y 1, 5, .inr (.inl (fun _ => 0)))), (r, .inr (6, [.int 0, .int 0, .ref r0, .ref r1, .ref r2, .ref r3, .ref r4, .ref r5]))]) [4] [0, 1, 2, 3, 5] rfl rfl (by decide) (by decide) (by decide) (As := [.int 0]) (rest := []) rfl (nb rfl) rfl d_Days_pass_150 (fun r10 _ hr10 => ?_)
  subst hr10
  refine j_ws (ws' := [(t, .inr (8, [.int 0, .ref t0, .ref t1, .ref t2, .ref t3, .ref t4, .ref t5, .ref t6])), (g, .inr (1, [.int 0, .ref g0, .ref g1, .ref g2, .ref g3, .ref g4, .ref g5, .ref g6])), (h, .inr (7, [.int d, .int 0, .int 0, .ref a0, .ref a1, .ref a2, .ref a3, .ref a4, .ref a5, .ref a6])), (a6, .inl (y 1, 5, .inr (.inl (fun _ => 0)))), (r, .inr (6, [.int 0, .int 0, .ref r0, .ref r1, .ref r2, .ref r3, .ref r4, .ref r5])), (k, .inr (2, [.int 0, .int 1, .int 1, .int 0, .ref g, .int 0, .ref vn, .ref vg, .ref t, .ref r, .int 0, .int 0, .int 9999, .int 0]))]) rfl ?_
  refine j_st (st' := [.int 0]) rfl ?_
  refine j_aload_n (pc := 153) C d_Days_pass_153 rfl 4 rfl ?_
  refine j_get (pc := 154) C gf_Days_91 5 rfl rfl d_Days_pass_154 ?_
  refine j_icmp_geT (pc := 157) C (tgt := 167) d_Days_pass_157 (by decide) (by decide) ?_
  refine j_iconst (pc := 167) C (v := 0) d_Days_pass_167 (by decide) ?_
  refine j_istore (pc := 168) C (lv' := [(7, .int 0), (6, .int 0), (5, .int 0), (4, .int 0), (3, .int 0), (0, .ref k), (1, .ref h), (2, .int 0)]) d_Days_pass_168 (by decide) rfl ?_
  refine j_iload (pc := 170) C d_Days_pass_170 0 rfl ?_
  refine j_aload_n (pc := 172) C d_Days_pass_172 rfl 5 rfl ?_
  refine j_iload (pc := 173) C d_Days_pass_173 3 rfl ?_
  refine j_callVi (pc := 175) C (c_levelAt_0 l D y k g vn vg t r) kw_Days_65 kv_Lake_levelAt 0 2 rfl rfl ⟨by decide, by decide⟩ ⟨by decide, by decide⟩ (wr := [(t, .inr (8, [.int 0, .ref t0, .ref t1, .ref t2, .ref t3, .ref t4, .ref t5, .ref t6])), (g, .inr (1, [.int 0, .ref g0, .ref g1, .ref g2, .ref g3, .ref g4, .ref g5, .ref g6])), (h, .inr (7, [.int d, .int 0, .int 0, .ref a0, .ref a1, .ref a2, .ref a3, .ref a4, .ref a5, .ref a6])), (a6, .inl (y 1, 5, .inr (.inl (fun _ => 0)))), (r, .inr (6, [.int 0, .int 0, .ref r0, .ref r1, .ref r2, .ref r3, .ref r4, .ref r5]))]) [5] [0, 1, 2, 3, 4] rfl rfl (by decide) (by decide) (by decide) (As := [.int 0]) (rest := [.int 0]) rfl (nb rfl) rfl d_Days_pass_175 (fun r11 _ hr11 => ?_)
  subst hr11
  refine j_ws (ws' := [(t, .inr (8, [.int 0, .ref t0, .ref t1, .ref t2, .ref t3, .ref t4, .ref t5, .ref t6])), (g, .inr (1, [.int 0, .ref g0, .ref g1, .ref g2, .ref g3, .ref g4, .ref g5, .ref g6])), (h, .inr (7, [.int d, .int 0, .int 0, .ref a0, .ref a1, .ref a2, .ref a3, .ref a4, .ref a5, .ref a6])), (a6, .inl (y 1, 5, .inr (.inl (fun _ => 0)))), (r, .inr (6, [.int 0, .int 0, .ref r0, .ref r1, .ref r2, .ref r3, .ref r4, .ref r5])), (k, .inr (2, [.int 0, .int 1, .int 1, .int 0, .ref g, .int 0, .ref vn, .ref vg, .ref t, .ref r, .int 0, .int 0, .int 9999, .int 0]))]) rfl ?_
  refine j_st (st' := [.int 0, .int 0]) rfl ?_
  refine j_aload_n (pc := 178) C d_Days_pass_178 rfl 5 rfl ?_
  refine j_get (pc := 179) C gf_Days_97 5 rfl rfl d_Days_pass_179 ?_
  refine j_icmp_leT (pc := 182) C (tgt := 192) d_Days_pass_182 (by decide) (by decide) ?_
  refine j_iconst (pc := 192) C (v := 0) d_Days_pass_192 (by decide) ?_
  refine j_iadd (pc := 193) C (v := 0) d_Days_pass_193 (by decide) ?_
  refine j_istore (pc := 194) C (lv' := [(7, .int 0), (6, .int 0), (5, .int 0), (4, .int 0), (3, .int 0), (0, .ref k), (1, .ref h), (2, .int 0)]) d_Days_pass_194 (by decide) rfl ?_
  refine j_aload_n (pc := 196) C d_Days_pass_196 rfl 5 rfl ?_
  refine j_aload_n (pc := 197) C d_Days_pass_197 rfl 6 rfl ?_
  refine j_iload (pc := 198) C d_Days_pass_198 0 rfl ?_
  refine j_callSv (pc := 200) C (c_giveWorth l D y k g vn vg t r t0 t1 t2 t3 t4 t5 t6 h a0 a1 a2 a3 a4 a5 a6 d) kw_Days_103 ks_Days_giveWorth ⟨by decide, by decide⟩ ⟨by decide, by decide⟩ (wr := [(g, .inr (1, [.int 0, .ref g0, .ref g1, .ref g2, .ref g3, .ref g4, .ref g5, .ref g6])), (a6, .inl (y 1, 5, .inr (.inl (fun _ => 0)))), (r, .inr (6, [.int 0, .int 0, .ref r0, .ref r1, .ref r2, .ref r3, .ref r4, .ref r5]))]) [5, 0, 2] [1, 3, 4] rfl rfl (by decide) (by decide) (by decide) (As := [.ref k, .ref h, .int 0]) (rest := []) rfl (nb rfl) rfl d_Days_pass_200 (fun _ _ => ?_)
  refine j_ws (ws' := [(g, .inr (1, [.int 0, .ref g0, .ref g1, .ref g2, .ref g3, .ref g4, .ref g5, .ref g6])), (a6, .inl (y 1, 5, .inr (.inl (fun _ => 0)))), (r, .inr (6, [.int 0, .int 0, .ref r0, .ref r1, .ref r2, .ref r3, .ref r4, .ref r5])), (k, .inr (2, [.int 0, .int 1, .int 1, .int 0, .ref g, .int 0, .ref vn, .ref vg, .ref t, .ref r, .int 0, .int 0, .int 9999, .int 0])), (t, .inr (8, [.int 0, .ref t0, .ref t1, .ref t2, .ref t3, .ref t4, .ref t5, .ref t6])), (h, .inr (7, [.int d, .int 0, .int 0, .ref a0, .ref a1, .ref a2, .ref a3, .ref a4, .ref a5, .ref a6]))]) rfl ?_
  refine j_aload_n (pc := 203) C d_Days_pass_203 rfl 6 rfl ?_
  refine j_dup (pc := 204) C d_Days_pass_204 rfl ?_
  refine j_get (pc := 205) C gf_Days_59 5 rfl rfl d_Days_pass_205 ?_
  refine j_iconst (pc := 208) C (v := 1) d_Days_pass_208 (by decide) ?_
  refine j_iadd (pc := 209) C (v := d + 1) d_Days_pass_209 rfl ?_
  refine j_put (pc := 210) C pf_Days_59 5 (ws' := [(g, .inr (1, [.int 0, .ref g0, .ref g1, .ref g2, .ref g3, .ref g4, .ref g5, .ref g6])), (a6, .inl (y 1, 5, .inr (.inl (fun _ => 0)))), (r, .inr (6, [.int 0, .int 0, .ref r0, .ref r1, .ref r2, .ref r3, .ref r4, .ref r5])), (k, .inr (2, [.int 0, .int 1, .int 1, .int 0, .ref g, .int 0, .ref vn, .ref vg, .ref t, .ref r, .int 0, .int 0, .int 9999, .int 0])), (t, .inr (8, [.int 0, .ref t0, .ref t1, .ref t2, .ref t3, .ref t4, .ref t5, .ref t6])), (h, .inr (7, [.int (d + 1), .int 0, .int 0, .ref a0, .ref a1, .ref a2, .ref a3, .ref a4, .ref a5, .ref a6]))]) rfl rfl rfl (nl rfl) rfl d_Days_pass_210 ?_
  exact j_vret (pc := 213) C hr () trivial [3, 0, 4, 2, 5, 1] rfl (by decide) (by decide) (by decide) d_Days_pass_213
theorem d_State_take_0 : decode prog_10_method_3_code 0 = .ok (.aload_n 0, 1) := by decide +kernel
theorem d_State_take_1 : decode prog_10_method_3_code 1 = .ok (.aload_n 1, 1) := by decide +kernel
theorem d_State_take_2 : decode prog_10_method_3_code 2 = .ok (.getfield 34, 3) := by decide +kernel
theorem gf_State_34 : GF "NineBoards$State" 34 7 0 := ⟨_, _, _, rfl, ci_State, by decide, (mt_1 (List.mem_of_getElem? (i := 53) rfl) rfl)⟩
theorem d_State_take_5 : decode prog_10_method_3_code 5 = .ok (.putfield 34, 3) := by decide +kernel
theorem pf_State_34 : PF "NineBoards$State" 34 7 0 (.int) false := ⟨_, _, _, ct_State, rfl, ci_State, by decide, (mt_1 (List.mem_of_getElem? (i := 53) rfl) rfl), cp_State, cn_State, rfl, by decide +kernel, (fun h => by cases h)⟩
theorem d_State_take_8 : decode prog_10_method_3_code 8 = .ok (.aload_n 0, 1) := by decide +kernel
theorem d_State_take_9 : decode prog_10_method_3_code 9 = .ok (.aload_n 1, 1) := by decide +kernel
theorem d_State_take_10 : decode prog_10_method_3_code 10 = .ok (.getfield 38, 3) := by decide +kernel
theorem gf_State_38 : GF "NineBoards$State" 38 7 1 := ⟨_, _, _, rfl, ci_State, by decide, (mt_1 (List.mem_of_getElem? (i := 57) rfl) rfl)⟩
theorem d_State_take_13 : decode prog_10_method_3_code 13 = .ok (.putfield 38, 3) := by decide +kernel
theorem pf_State_38 : PF "NineBoards$State" 38 7 1 (.int) false := ⟨_, _, _, ct_State, rfl, ci_State, by decide, (mt_1 (List.mem_of_getElem? (i := 57) rfl) rfl), cp_State, cn_State, rfl, by decide +kernel, (fun h => by cases h)⟩
theorem d_State_take_16 : decode prog_10_method_3_code 16 = .ok (.aload_n 0, 1) := by decide +kernel
theorem d_State_take_17 : decode prog_10_method_3_code 17 = .ok (.aload_n 1, 1) := by decide +kernel
theorem d_State_take_18 : decode prog_10_method_3_code 18 = .ok (.getfield 41, 3) := by decide +kernel
theorem gf_State_41 : GF "NineBoards$State" 41 7 2 := ⟨_, _, _, rfl, ci_State, by decide, (mt_1 (List.mem_of_getElem? (i := 60) rfl) rfl)⟩
theorem d_State_take_21 : decode prog_10_method_3_code 21 = .ok (.putfield 41, 3) := by decide +kernel
theorem pf_State_41 : PF "NineBoards$State" 41 7 2 (.int) false := ⟨_, _, _, ct_State, rfl, ci_State, by decide, (mt_1 (List.mem_of_getElem? (i := 60) rfl) rfl), cp_State, cn_State, rfl, by decide +kernel, (fun h => by cases h)⟩
theorem d_State_take_24 : decode prog_10_method_3_code 24 = .ok (.aload_n 1, 1) := by decide +kernel
theorem d_State_take_25 : decode prog_10_method_3_code 25 = .ok (.getfield 9, 3) := by decide +kernel
theorem gf_State_9 : GF "NineBoards$State" 9 7 3 := ⟨_, _, _, rfl, ci_State, by decide, (mt_1 (List.mem_of_getElem? (i := 63) rfl) rfl)⟩
theorem d_State_take_28 : decode prog_10_method_3_code 28 = .ok (.iconst 0, 1) := by decide +kernel
theorem d_State_take_29 : decode prog_10_method_3_code 29 = .ok (.aload_n 0, 1) := by decide +kernel
theorem d_State_take_30 : decode prog_10_method_3_code 30 = .ok (.getfield 9, 3) := by decide +kernel
theorem d_State_take_33 : decode prog_10_method_3_code 33 = .ok (.iconst 0, 1) := by decide +kernel
theorem d_State_take_34 : decode prog_10_method_3_code 34 = .ok (.bipush 9, 2) := by decide +kernel
theorem d_State_take_36 : decode prog_10_method_3_code 36 = .ok (.invokestatic 44, 3) := by decide +kernel
theorem d_State_take_39 : decode prog_10_method_3_code 39 = .ok (.aload_n 1, 1) := by decide +kernel
theorem d_State_take_40 : decode prog_10_method_3_code 40 = .ok (.getfield 15, 3) := by decide +kernel
theorem gf_State_15 : GF "NineBoards$State" 15 7 4 := ⟨_, _, _, rfl, ci_State, by decide, (mt_1 (List.mem_of_getElem? (i := 66) rfl) rfl)⟩
theorem d_State_take_43 : decode prog_10_method_3_code 43 = .ok (.iconst 0, 1) := by decide +kernel
theorem d_State_take_44 : decode prog_10_method_3_code 44 = .ok (.aload_n 0, 1) := by decide +kernel
theorem d_State_take_45 : decode prog_10_method_3_code 45 = .ok (.getfield 15, 3) := by decide +kernel
theorem d_State_take_48 : decode prog_10_method_3_code 48 = .ok (.iconst 0, 1) := by decide +kernel
theorem d_State_take_49 : decode prog_10_method_3_code 49 = .ok (.bipush 9, 2) := by decide +kernel
theorem d_State_take_51 : decode prog_10_method_3_code 51 = .ok (.invokestatic 44, 3) := by decide +kernel
theorem d_State_take_54 : decode prog_10_method_3_code 54 = .ok (.aload_n 1, 1) := by decide +kernel
theorem d_State_take_55 : decode prog_10_method_3_code 55 = .ok (.getfield 18, 3) := by decide +kernel
theorem gf_State_18 : GF "NineBoards$State" 18 7 5 := ⟨_, _, _, rfl, ci_State, by decide, (mt_1 (List.mem_of_getElem? (i := 69) rfl) rfl)⟩
theorem d_State_take_58 : decode prog_10_method_3_code 58 = .ok (.iconst 0, 1) := by decide +kernel
theorem d_State_take_59 : decode prog_10_method_3_code 59 = .ok (.aload_n 0, 1) := by decide +kernel
theorem d_State_take_60 : decode prog_10_method_3_code 60 = .ok (.getfield 18, 3) := by decide +kernel
theorem d_State_take_63 : decode prog_10_method_3_code 63 = .ok (.iconst 0, 1) := by decide +kernel
theorem d_State_take_64 : decode prog_10_method_3_code 64 = .ok (.bipush 9, 2) := by decide +kernel
theorem d_State_take_66 : decode prog_10_method_3_code 66 = .ok (.invokestatic 44, 3) := by decide +kernel
theorem d_State_take_69 : decode prog_10_method_3_code 69 = .ok (.aload_n 1, 1) := by decide +kernel
theorem d_State_take_70 : decode prog_10_method_3_code 70 = .ok (.getfield 22, 3) := by decide +kernel
theorem gf_State_22 : GF "NineBoards$State" 22 7 6 := ⟨_, _, _, rfl, ci_State, by decide, (mt_1 (List.mem_of_getElem? (i := 72) rfl) rfl)⟩
theorem d_State_take_73 : decode prog_10_method_3_code 73 = .ok (.iconst 0, 1) := by decide +kernel
theorem d_State_take_74 : decode prog_10_method_3_code 74 = .ok (.aload_n 0, 1) := by decide +kernel
theorem d_State_take_75 : decode prog_10_method_3_code 75 = .ok (.getfield 22, 3) := by decide +kernel
theorem d_State_take_78 : decode prog_10_method_3_code 78 = .ok (.iconst 0, 1) := by decide +kernel
theorem d_State_take_79 : decode prog_10_method_3_code 79 = .ok (.bipush 6, 2) := by decide +kernel
theorem d_State_take_81 : decode prog_10_method_3_code 81 = .ok (.invokestatic 44, 3) := by decide +kernel
theorem d_State_take_84 : decode prog_10_method_3_code 84 = .ok (.aload_n 1, 1) := by decide +kernel
theorem d_State_take_85 : decode prog_10_method_3_code 85 = .ok (.getfield 25, 3) := by decide +kernel
theorem gf_State_25 : GF "NineBoards$State" 25 7 7 := ⟨_, _, _, rfl, ci_State, by decide, (mt_1 (List.mem_of_getElem? (i := 75) rfl) rfl)⟩
theorem d_State_take_88 : decode prog_10_method_3_code 88 = .ok (.iconst 0, 1) := by decide +kernel
theorem d_State_take_89 : decode prog_10_method_3_code 89 = .ok (.aload_n 0, 1) := by decide +kernel
theorem d_State_take_90 : decode prog_10_method_3_code 90 = .ok (.getfield 25, 3) := by decide +kernel
theorem d_State_take_93 : decode prog_10_method_3_code 93 = .ok (.iconst 0, 1) := by decide +kernel
theorem d_State_take_94 : decode prog_10_method_3_code 94 = .ok (.bipush 6, 2) := by decide +kernel
theorem d_State_take_96 : decode prog_10_method_3_code 96 = .ok (.invokestatic 44, 3) := by decide +kernel
theorem d_State_take_99 : decode prog_10_method_3_code 99 = .ok (.aload_n 1, 1) := by decide +kernel
theorem d_State_take_100 : decode prog_10_method_3_code 100 = .ok (.getfield 28, 3) := by decide +kernel
theorem gf_State_28 : GF "NineBoards$State" 28 7 8 := ⟨_, _, _, rfl, ci_State, by decide, (mt_1 (List.mem_of_getElem? (i := 79) rfl) rfl)⟩
theorem d_State_take_103 : decode prog_10_method_3_code 103 = .ok (.iconst 0, 1) := by decide +kernel
theorem d_State_take_104 : decode prog_10_method_3_code 104 = .ok (.aload_n 0, 1) := by decide +kernel
theorem d_State_take_105 : decode prog_10_method_3_code 105 = .ok (.getfield 28, 3) := by decide +kernel
theorem d_State_take_108 : decode prog_10_method_3_code 108 = .ok (.iconst 0, 1) := by decide +kernel
theorem d_State_take_109 : decode prog_10_method_3_code 109 = .ok (.bipush 16, 2) := by decide +kernel
theorem d_State_take_111 : decode prog_10_method_3_code 111 = .ok (.invokestatic 44, 3) := by decide +kernel
theorem d_State_take_114 : decode prog_10_method_3_code 114 = .ok (.aload_n 1, 1) := by decide +kernel
theorem d_State_take_115 : decode prog_10_method_3_code 115 = .ok (.getfield 31, 3) := by decide +kernel
theorem gf_State_31 : GF "NineBoards$State" 31 7 9 := ⟨_, _, _, rfl, ci_State, by decide, (mt_1 (List.mem_of_getElem? (i := 82) rfl) rfl)⟩
theorem d_State_take_118 : decode prog_10_method_3_code 118 = .ok (.iconst 0, 1) := by decide +kernel
theorem d_State_take_119 : decode prog_10_method_3_code 119 = .ok (.aload_n 0, 1) := by decide +kernel
theorem d_State_take_120 : decode prog_10_method_3_code 120 = .ok (.getfield 31, 3) := by decide +kernel
theorem d_State_take_123 : decode prog_10_method_3_code 123 = .ok (.iconst 0, 1) := by decide +kernel
theorem d_State_take_124 : decode prog_10_method_3_code 124 = .ok (.iconst 5, 1) := by decide +kernel
theorem d_State_take_125 : decode prog_10_method_3_code 125 = .ok (.invokestatic 44, 3) := by decide +kernel
theorem d_State_take_128 : decode prog_10_method_3_code 128 = .ok (.return_, 1) := by decide +kernel
set_option maxHeartbeats 4000000 in
set_option maxRecDepth 100000 in
theorem c_take (l : Launch) (D : va_G) (y : Nat → ClassId) (i : Nat) (b0 : Nat) (b1 : Nat) (b2 : Nat) (b3 : Nat) (b4 : Nat) (b5 : Nat) (b6 : Nat) (b : Int32) (h : Nat) (a0 : Nat) (a1 : Nat) (a2 : Nat) (a3 : Nat) (a4 : Nat) (a5 : Nat) (a6 : Nat) (d : Int32)  : CT l D y ⟨"NineBoards$State", "take", "(LNineBoards$State;)V"⟩ prog_10_method_3_code 2 none ({ frames := 1, cells := 0, slots := 0, locals := 64 } : Room) [.ref i, .ref h] [(i, .inr (7, [.int b, .int 0, .int 0, .ref b0, .ref b1, .ref b2, .ref b3, .ref b4, .ref b5, .ref b6])), (b0, .inl (y 0, 9, .inl (fun _ => 0))), (b1, .inl (y 0, 9, .inl (fun _ => 0))), (b2, .inl (y 1, 9, .inr (.inl (fun _ => 0)))), (b3, .inl (y 0, 6, .inl (fun _ => 0))), (b4, .inl (y 0, 6, .inl (fun _ => 0))), (b5, .inl (y 0, 16, .inl (fun _ => 0))), (b6, .inl (y 1, 5, .inr (.inl (fun _ => 0)))), (h, .inr (7, [.int d, .int 0, .int 0, .ref a0, .ref a1, .ref a2, .ref a3, .ref a4, .ref a5, .ref a6])), (a0, .inl (y 0, 9, .inl (fun _ => 0))), (a1, .inl (y 0, 9, .inl (fun _ => 0))), (a2, .inl (y 1, 9, .inr (.inl (fun _ => 0)))), (a3, .inl (y 0, 6, .inl (fun _ => 0))), (a4, .inl (y 0, 6, .inl (fun _ => 0))), (a5, .inl (y 0, 16, .inl (fun _ => 0))), (a6, .inl (y 1, 5, .inr (.inl (fun _ => 0))))] (QV D [(i, .inr (7, [.int b, .int 0, .int 0, .ref b0, .ref b1, .ref b2, .ref b3, .ref b4, .ref b5, .ref b6])), (b0, .inl (y 0, 9, .inl (fun _ => 0))), (b1, .inl (y 0, 9, .inl (fun _ => 0))), (b2, .inl (y 1, 9, .inr (.inl (fun _ => 0)))), (b3, .inl (y 0, 6, .inl (fun _ => 0))), (b4, .inl (y 0, 6, .inl (fun _ => 0))), (b5, .inl (y 0, 16, .inl (fun _ => 0))), (b6, .inl (y 1, 5, .inr (.inl (fun _ => 0)))), (h, .inr (7, [.int d, .int 0, .int 0, .ref a0, .ref a1, .ref a2, .ref a3, .ref a4, .ref a5, .ref a6])), (a0, .inl (y 0, 9, .inl (fun _ => 0))), (a1, .inl (y 0, 9, .inl (fun _ => 0))), (a2, .inl (y 1, 9, .inr (.inl (fun _ => 0)))), (a3, .inl (y 0, 6, .inl (fun _ => 0))), (a4, .inl (y 0, 6, .inl (fun _ => 0))), (a5, .inl (y 0, 16, .inl (fun _ => 0))), (a6, .inl (y 1, 5, .inr (.inl (fun _ => 0))))] (fun (_ : Unit) => True) (fun _ => [(i, .inr (7, [.int d, .int 0, .int 0, .ref b0, .ref b1, .ref b2, .ref b3, .ref b4, .ref b5, .ref b6])), (b0, .inl (y 0, 9, .inl (fun _ => 0))), (b1, .inl (y 0, 9, .inl (fun _ => 0))), (b2, .inl (y 1, 9, .inr (.inl (fun _ => 0)))), (b3, .inl (y 0, 6, .inl (fun _ => 0))), (b4, .inl (y 0, 6, .inl (fun _ => 0))), (b5, .inl (y 0, 16, .inl (fun _ => 0))), (b6, .inl (y 1, 5, .inr (.inl (fun _ => 0)))), (h, .inr (7, [.int d, .int 0, .int 0, .ref a0, .ref a1, .ref a2, .ref a3, .ref a4, .ref a5, .ref a6])), (a0, .inl (y 0, 9, .inl (fun _ => 0))), (a1, .inl (y 0, 9, .inl (fun _ => 0))), (a2, .inl (y 1, 9, .inr (.inl (fun _ => 0)))), (a3, .inl (y 0, 6, .inl (fun _ => 0))), (a4, .inl (y 0, 6, .inl (fun _ => 0))), (a5, .inl (y 0, 16, .inl (fun _ => 0))), (a6, .inl (y 1, 5, .inr (.inl (fun _ => 0))))])) := by
  refine CT.of (by decide) (nb rfl) ?_
  intro p e s m args below meth c C hr
  refine j_lv (lv' := [(0, .ref i), (1, .ref h)]) rfl ?_
  refine j_aload_n (pc := 0) C d_State_take_0 rfl 0 rfl ?_
  refine j_aload_n (pc := 1) C d_State_take_1 rfl 1 rfl ?_
  refine j_get (pc := 2) C gf_State_34 8 rfl rfl d_State_take_2 ?_
  refine j_put (pc := 5) C pf_State_34 0 (ws' := [(i, .inr (7, [.int d, .int 0, .int 0, .ref b0, .ref b1, .ref b2, .ref b3, .ref b4, .ref b5, .ref b6])), (b0, .inl (y 0, 9, .inl (fun _ => 0))), (b1, .inl (y 0, 9, .inl (fun _ => 0))), (b2, .inl (y 1, 9, .inr (.inl (fun _ => 0)))), (b3, .inl (y 0, 6, .inl (fun _ => 0))), (b4, .inl (y 0, 6, .inl (fun _ => 0))), (b5, .inl (y 0, 16, .inl (fun _ => 0))), (b6, .inl (y 1, 5, .inr (.inl (fun _ => 0)))), (h, .inr (7, [.int d, .int 0, .int 0, .ref a0, .ref a1, .ref a2, .ref a3, .ref a4, .ref a5, .ref a6])), (a0, .inl (y 0, 9, .inl (fun _ => 0))), (a1, .inl (y 0, 9, .inl (fun _ => 0))), (a2, .inl (y 1, 9, .inr (.inl (fun _ => 0)))), (a3, .inl (y 0, 6, .inl (fun _ => 0))), (a4, .inl (y 0, 6, .inl (fun _ => 0))), (a5, .inl (y 0, 16, .inl (fun _ => 0))), (a6, .inl (y 1, 5, .inr (.inl (fun _ => 0))))]) rfl rfl rfl (nl rfl) rfl d_State_take_5 ?_
  refine j_aload_n (pc := 8) C d_State_take_8 rfl 0 rfl ?_
  refine j_aload_n (pc := 9) C d_State_take_9 rfl 1 rfl ?_
  refine j_get (pc := 10) C gf_State_38 8 rfl rfl d_State_take_10 ?_
  refine j_put (pc := 13) C pf_State_38 0 (ws' := [(i, .inr (7, [.int d, .int 0, .int 0, .ref b0, .ref b1, .ref b2, .ref b3, .ref b4, .ref b5, .ref b6])), (b0, .inl (y 0, 9, .inl (fun _ => 0))), (b1, .inl (y 0, 9, .inl (fun _ => 0))), (b2, .inl (y 1, 9, .inr (.inl (fun _ => 0)))), (b3, .inl (y 0, 6, .inl (fun _ => 0))), (b4, .inl (y 0, 6, .inl (fun _ => 0))), (b5, .inl (y 0, 16, .inl (fun _ => 0))), (b6, .inl (y 1, 5, .inr (.inl (fun _ => 0)))), (h, .inr (7, [.int d, .int 0, .int 0, .ref a0, .ref a1, .ref a2, .ref a3, .ref a4, .ref a5, .ref a6])), (a0, .inl (y 0, 9, .inl (fun _ => 0))), (a1, .inl (y 0, 9, .inl (fun _ => 0))), (a2, .inl (y 1, 9, .inr (.inl (fun _ => 0)))), (a3, .inl (y 0, 6, .inl (fun _ => 0))), (a4, .inl (y 0, 6, .inl (fun _ => 0))), (a5, .inl (y 0, 16, .inl (fun _ => 0))), (a6, .inl (y 1, 5, .inr (.inl (fun _ => 0))))]) rfl rfl rfl (nl rfl) rfl d_State_take_13 ?_
  refine j_aload_n (pc := 16) C d_State_take_16 rfl 0 rfl ?_
  refine j_aload_n (pc := 17) C d_State_take_17 rfl 1 rfl ?_
  refine j_get (pc := 18) C gf_State_41 8 rfl rfl d_State_take_18 ?_
  refine j_put (pc := 21) C pf_State_41 0 (ws' := [(i, .inr (7, [.int d, .int 0, .int 0, .ref b0, .ref b1, .ref b2, .ref b3, .ref b4, .ref b5, .ref b6])), (b0, .inl (y 0, 9, .inl (fun _ => 0))), (b1, .inl (y 0, 9, .inl (fun _ => 0))), (b2, .inl (y 1, 9, .inr (.inl (fun _ => 0)))), (b3, .inl (y 0, 6, .inl (fun _ => 0))), (b4, .inl (y 0, 6, .inl (fun _ => 0))), (b5, .inl (y 0, 16, .inl (fun _ => 0))), (b6, .inl (y 1, 5, .inr (.inl (fun _ => 0)))), (h, .inr (7, [.int d, .int 0, .int 0, .ref a0, .ref a1, .ref a2, .ref a3, .ref a4, .ref a5, .ref a6])), (a0, .inl (y 0, 9, .inl (fun _ => 0))), (a1, .inl (y 0, 9, .inl (fun _ => 0))), (a2, .inl (y 1, 9, .inr (.inl (fun _ => 0)))), (a3, .inl (y 0, 6, .inl (fun _ => 0))), (a4, .inl (y 0, 6, .inl (fun _ => 0))), (a5, .inl (y 0, 16, .inl (fun _ => 0))), (a6, .inl (y 1, 5, .inr (.inl (fun _ => 0))))]) rfl rfl rfl (nl rfl) rfl d_State_take_21 ?_
  refine j_aload_n (pc := 24) C d_State_take_24 rfl 1 rfl ?_
  refine j_get (pc := 25) C gf_State_9 8 rfl rfl d_State_take_25 ?_
  refine j_iconst (pc := 28) C (v := 0) d_State_take_28 (by decide) ?_
  refine j_aload_n (pc := 29) C d_State_take_29 rfl 0 rfl ?_
  refine j_get (pc := 30) C gf_State_9 0 rfl rfl d_State_take_30 ?_
  refine j_iconst (pc := 33) C (v := 0) d_State_take_33 (by decide) ?_
  refine j_bipush (pc := 34) C (v := 9) d_State_take_34 (by decide) ?_
  refine j_copyi (pc := 36) C (mt_4 (List.mem_of_getElem? (i := 0) rfl) rfl) (mt_4 (List.mem_of_getElem? (i := 2) rfl) rfl) (mt_4 (List.mem_of_getElem? (i := 1) rfl) rfl) (mt_1 (List.mem_of_getElem? (i := 17) rfl) rfl) 9 1 rfl rfl (ws' := [(i, .inr (7, [.int d, .int 0, .int 0, .ref b0, .ref b1, .ref b2, .ref b3, .ref b4, .ref b5, .ref b6])), (b0, .inl (y 0, 9, .inl (fun _ => 0))), (b1, .inl (y 0, 9, .inl (fun _ => 0))), (b2, .inl (y 1, 9, .inr (.inl (fun _ => 0)))), (b3, .inl (y 0, 6, .inl (fun _ => 0))), (b4, .inl (y 0, 6, .inl (fun _ => 0))), (b5, .inl (y 0, 16, .inl (fun _ => 0))), (b6, .inl (y 1, 5, .inr (.inl (fun _ => 0)))), (h, .inr (7, [.int d, .int 0, .int 0, .ref a0, .ref a1, .ref a2, .ref a3, .ref a4, .ref a5, .ref a6])), (a0, .inl (y 0, 9, .inl (fun _ => 0))), (a1, .inl (y 0, 9, .inl (fun _ => 0))), (a2, .inl (y 1, 9, .inr (.inl (fun _ => 0)))), (a3, .inl (y 0, 6, .inl (fun _ => 0))), (a4, .inl (y 0, 6, .inl (fun _ => 0))), (a5, .inl (y 0, 16, .inl (fun _ => 0))), (a6, .inl (y 1, 5, .inr (.inl (fun _ => 0))))]) (by decide) (by decide) (by decide) (by decide) (by decide) (by decide) (nb rfl) (by rw [cpy_z0]; rfl) d_State_take_36 ?_
  refine j_aload_n (pc := 39) C d_State_take_39 rfl 1 rfl ?_
  refine j_get (pc := 40) C gf_State_15 8 rfl rfl d_State_take_40 ?_
  refine j_iconst (pc := 43) C (v := 0) d_State_take_43 (by decide) ?_
  refine j_aload_n (pc := 44) C d_State_take_44 rfl 0 rfl ?_
  refine j_get (pc := 45) C gf_State_15 0 rfl rfl d_State_take_45 ?_
  refine j_iconst (pc := 48) C (v := 0) d_State_take_48 (by decide) ?_
  refine j_bipush (pc := 49) C (v := 9) d_State_take_49 (by decide) ?_
  refine j_copyi (pc := 51) C (mt_4 (List.mem_of_getElem? (i := 0) rfl) rfl) (mt_4 (List.mem_of_getElem? (i := 2) rfl) rfl) (mt_4 (List.mem_of_getElem? (i := 1) rfl) rfl) (mt_1 (List.mem_of_getElem? (i := 17) rfl) rfl) 10 2 rfl rfl (ws' := [(i, .inr (7, [.int d, .int 0, .int 0, .ref b0, .ref b1, .ref b2, .ref b3, .ref b4, .ref b5, .ref b6])), (b0, .inl (y 0, 9, .inl (fun _ => 0))), (b1, .inl (y 0, 9, .inl (fun _ => 0))), (b2, .inl (y 1, 9, .inr (.inl (fun _ => 0)))), (b3, .inl (y 0, 6, .inl (fun _ => 0))), (b4, .inl (y 0, 6, .inl (fun _ => 0))), (b5, .inl (y 0, 16, .inl (fun _ => 0))), (b6, .inl (y 1, 5, .inr (.inl (fun _ => 0)))), (h, .inr (7, [.int d, .int 0, .int 0, .ref a0, .ref a1, .ref a2, .ref a3, .ref a4, .ref a5, .ref a6])), (a0, .inl (y 0, 9, .inl (fun _ => 0))), (a1, .inl (y 0, 9, .inl (fun _ => 0))), (a2, .inl (y 1, 9, .inr (.inl (fun _ => 0)))), (a3, .inl (y 0, 6, .inl (fun _ => 0))), (a4, .inl (y 0, 6, .inl (fun _ => 0))), (a5, .inl (y 0, 16, .inl (fun _ => 0))), (a6, .inl (y 1, 5, .inr (.inl (fun _ => 0))))]) (by decide) (by decide) (by decide) (by decide) (by decide) (by decide) (nb rfl) (by rw [cpy_z0]; rfl) d_State_take_51 ?_
  refine j_aload_n (pc := 54) C d_State_take_54 rfl 1 rfl ?_
  refine j_get (pc := 55) C gf_State_18 8 rfl rfl d_State_take_55 ?_
  refine j_iconst (pc := 58) C (v := 0) d_State_take_58 (by decide) ?_
  refine j_aload_n (pc := 59) C d_State_take_59 rfl 0 rfl ?_
  refine j_get (pc := 60) C gf_State_18 0 rfl rfl d_State_take_60 ?_
  refine j_iconst (pc := 63) C (v := 0) d_State_take_63 (by decide) ?_
  refine j_bipush (pc := 64) C (v := 9) d_State_take_64 (by decide) ?_
  refine j_copyl (pc := 66) C (mt_4 (List.mem_of_getElem? (i := 0) rfl) rfl) (mt_4 (List.mem_of_getElem? (i := 2) rfl) rfl) (mt_4 (List.mem_of_getElem? (i := 1) rfl) rfl) (mt_1 (List.mem_of_getElem? (i := 17) rfl) rfl) 11 3 rfl rfl (ws' := [(i, .inr (7, [.int d, .int 0, .int 0, .ref b0, .ref b1, .ref b2, .ref b3, .ref b4, .ref b5, .ref b6])), (b0, .inl (y 0, 9, .inl (fun _ => 0))), (b1, .inl (y 0, 9, .inl (fun _ => 0))), (b2, .inl (y 1, 9, .inr (.inl (fun _ => 0)))), (b3, .inl (y 0, 6, .inl (fun _ => 0))), (b4, .inl (y 0, 6, .inl (fun _ => 0))), (b5, .inl (y 0, 16, .inl (fun _ => 0))), (b6, .inl (y 1, 5, .inr (.inl (fun _ => 0)))), (h, .inr (7, [.int d, .int 0, .int 0, .ref a0, .ref a1, .ref a2, .ref a3, .ref a4, .ref a5, .ref a6])), (a0, .inl (y 0, 9, .inl (fun _ => 0))), (a1, .inl (y 0, 9, .inl (fun _ => 0))), (a2, .inl (y 1, 9, .inr (.inl (fun _ => 0)))), (a3, .inl (y 0, 6, .inl (fun _ => 0))), (a4, .inl (y 0, 6, .inl (fun _ => 0))), (a5, .inl (y 0, 16, .inl (fun _ => 0))), (a6, .inl (y 1, 5, .inr (.inl (fun _ => 0))))]) (by decide) (by decide) (by decide) (by decide) (by decide) (by decide) (nb rfl) (by rw [cpy_z1]; rfl) d_State_take_66 ?_
  refine j_aload_n (pc := 69) C d_State_take_69 rfl 1 rfl ?_
  refine j_get (pc := 70) C gf_State_22 8 rfl rfl d_State_take_70 ?_
  refine j_iconst (pc := 73) C (v := 0) d_State_take_73 (by decide) ?_
  refine j_aload_n (pc := 74) C d_State_take_74 rfl 0 rfl ?_
  refine j_get (pc := 75) C gf_State_22 0 rfl rfl d_State_take_75 ?_
  refine j_iconst (pc := 78) C (v := 0) d_State_take_78 (by decide) ?_
  refine j_bipush (pc := 79) C (v := 6) d_State_take_79 (by decide) ?_
  refine j_copyi (pc := 81) C (mt_4 (List.mem_of_getElem? (i := 0) rfl) rfl) (mt_4 (List.mem_of_getElem? (i := 2) rfl) rfl) (mt_4 (List.mem_of_getElem? (i := 1) rfl) rfl) (mt_1 (List.mem_of_getElem? (i := 17) rfl) rfl) 12 4 rfl rfl (ws' := [(i, .inr (7, [.int d, .int 0, .int 0, .ref b0, .ref b1, .ref b2, .ref b3, .ref b4, .ref b5, .ref b6])), (b0, .inl (y 0, 9, .inl (fun _ => 0))), (b1, .inl (y 0, 9, .inl (fun _ => 0))), (b2, .inl (y 1, 9, .inr (.inl (fun _ => 0)))), (b3, .inl (y 0, 6, .inl (fun _ => 0))), (b4, .inl (y 0, 6, .inl (fun _ => 0))), (b5, .inl (y 0, 16, .inl (fun _ => 0))), (b6, .inl (y 1, 5, .inr (.inl (fun _ => 0)))), (h, .inr (7, [.int d, .int 0, .int 0, .ref a0, .ref a1, .ref a2, .ref a3, .ref a4, .ref a5, .ref a6])), (a0, .inl (y 0, 9, .inl (fun _ => 0))), (a1, .inl (y 0, 9, .inl (fun _ => 0))), (a2, .inl (y 1, 9, .inr (.inl (fun _ => 0)))), (a3, .inl (y 0, 6, .inl (fun _ => 0))), (a4, .inl (y 0, 6, .inl (fun _ => 0))), (a5, .inl (y 0, 16, .inl (fun _ => 0))), (a6, .inl (y 1, 5, .inr (.inl (fun _ => 0))))]) (by decide) (by decide) (by decide) (by decide) (by decide) (by decide) (nb rfl) (by rw [cpy_z0]; rfl) d_State_take_81 ?_
  refine j_aload_n (pc := 84) C d_State_take_84 rfl 1 rfl ?_
  refine j_get (pc := 85) C gf_State_25 8 rfl rfl d_State_take_85 ?_
  refine j_iconst (pc := 88) C (v := 0) d_State_take_88 (by decide) ?_
  refine j_aload_n (pc := 89) C d_State_take_89 rfl 0 rfl ?_
  refine j_get (pc := 90) C gf_State_25 0 rfl rfl d_State_take_90 ?_
  refine j_iconst (pc := 93) C (v := 0) d_State_take_93 (by decide) ?_
  refine j_bipush (pc := 94) C (v := 6) d_State_take_94 (by decide) ?_
  refine j_copyi (pc := 96) C (mt_4 (List.mem_of_getElem? (i := 0) rfl) rfl) (mt_4 (List.mem_of_getElem? (i := 2) rfl) rfl) (mt_4 (List.mem_of_getElem? (i := 1) rfl) rfl) (mt_1 (List.mem_of_getElem? (i := 17) rfl) rfl) 13 5 rfl rfl (ws' := [(i, .inr (7, [.int d, .int 0, .int 0, .ref b0, .ref b1, .ref b2, .ref b3, .ref b4, .ref b5, .ref b6])), (b0, .inl (y 0, 9, .inl (fun _ => 0))), (b1, .inl (y 0, 9, .inl (fun _ => 0))), (b2, .inl (y 1, 9, .inr (.inl (fun _ => 0)))), (b3, .inl (y 0, 6, .inl (fun _ => 0))), (b4, .inl (y 0, 6, .inl (fun _ => 0))), (b5, .inl (y 0, 16, .inl (fun _ => 0))), (b6, .inl (y 1, 5, .inr (.inl (fun _ => 0)))), (h, .inr (7, [.int d, .int 0, .int 0, .ref a0, .ref a1, .ref a2, .ref a3, .ref a4, .ref a5, .ref a6])), (a0, .inl (y 0, 9, .inl (fun _ => 0))), (a1, .inl (y 0, 9, .inl (fun _ => 0))), (a2, .inl (y 1, 9, .inr (.inl (fun _ => 0)))), (a3, .inl (y 0, 6, .inl (fun _ => 0))), (a4, .inl (y 0, 6, .inl (fun _ => 0))), (a5, .inl (y 0, 16, .inl (fun _ => 0))), (a6, .inl (y 1, 5, .inr (.inl (fun _ => 0))))]) (by decide) (by decide) (by decide) (by decide) (by decide) (by decide) (nb rfl) (by rw [cpy_z0]; rfl) d_State_take_96 ?_
  refine j_aload_n (pc := 99) C d_State_take_99 rfl 1 rfl ?_
  refine j_get (pc := 100) C gf_State_28 8 rfl rfl d_State_take_100 ?_
  refine j_iconst (pc := 103) C (v := 0) d_State_take_103 (by decide) ?_
  refine j_aload_n (pc := 104) C d_State_take_104 rfl 0 rfl ?_
  refine j_get (pc := 105) C gf_State_28 0 rfl rfl d_State_take_105 ?_
  refine j_iconst (pc := 108) C (v := 0) d_State_take_108 (by decide) ?_
  refine j_bipush (pc := 109) C (v := 16) d_State_take_109 (by decide) ?_
  refine j_copyi (pc := 111) C (mt_4 (List.mem_of_getElem? (i := 0) rfl) rfl) (mt_4 (List.mem_of_getElem? (i := 2) rfl) rfl) (mt_4 (List.mem_of_getElem? (i := 1) rfl) rfl) (mt_1 (List.mem_of_getElem? (i := 17) rfl) rfl) 14 6 rfl rfl (ws' := [(i, .inr (7, [.int d, .int 0, .int 0, .ref b0, .ref b1, .ref b2, .ref b3, .ref b4, .ref b5, .ref b6])), (b0, .inl (y 0, 9, .inl (fun _ => 0))), (b1, .inl (y 0, 9, .inl (fun _ => 0))), (b2, .inl (y 1, 9, .inr (.inl (fun _ => 0)))), (b3, .inl (y 0, 6, .inl (fun _ => 0))), (b4, .inl (y 0, 6, .inl (fun _ => 0))), (b5, .inl (y 0, 16, .inl (fun _ => 0))), (b6, .inl (y 1, 5, .inr (.inl (fun _ => 0)))), (h, .inr (7, [.int d, .int 0, .int 0, .ref a0, .ref a1, .ref a2, .ref a3, .ref a4, .ref a5, .ref a6])), (a0, .inl (y 0, 9, .inl (fun _ => 0))), (a1, .inl (y 0, 9, .inl (fun _ => 0))), (a2, .inl (y 1, 9, .inr (.inl (fun _ => 0)))), (a3, .inl (y 0, 6, .inl (fun _ => 0))), (a4, .inl (y 0, 6, .inl (fun _ => 0))), (a5, .inl (y 0, 16, .inl (fun _ => 0))), (a6, .inl (y 1, 5, .inr (.inl (fun _ => 0))))]) (by decide) (by decide) (by decide) (by decide) (by decide) (by decide) (nb rfl) (by rw [cpy_z0]; rfl) d_State_take_111 ?_
  refine j_aload_n (pc := 114) C d_State_take_114 rfl 1 rfl ?_
  refine j_get (pc := 115) C gf_State_31 8 rfl rfl d_State_take_115 ?_
  refine j_iconst (pc := 118) C (v := 0) d_State_take_118 (by decide) ?_
  refine j_aload_n (pc := 119) C d_State_take_119 rfl 0 rfl ?_
  refine j_get (pc := 120) C gf_State_31 0 rfl rfl d_State_take_120 ?_
  refine j_iconst (pc := 123) C (v := 0) d_State_take_123 (by decide) ?_
  refine j_iconst (pc := 124) C (v := 5) d_State_take_124 (by decide) ?_
  refine j_copyl (pc := 125) C (mt_4 (List.mem_of_getElem? (i := 0) rfl) rfl) (mt_4 (List.mem_of_getElem? (i := 2) rfl) rfl) (mt_4 (List.mem_of_getElem? (i := 1) rfl) rfl) (mt_1 (List.mem_of_getElem? (i := 17) rfl) rfl) 15 7 rfl rfl (ws' := [(i, .inr (7, [.int d, .int 0, .int 0, .ref b0, .ref b1, .ref b2, .ref b3, .ref b4, .ref b5, .ref b6])), (b0, .inl (y 0, 9, .inl (fun _ => 0))), (b1, .inl (y 0, 9, .inl (fun _ => 0))), (b2, .inl (y 1, 9, .inr (.inl (fun _ => 0)))), (b3, .inl (y 0, 6, .inl (fun _ => 0))), (b4, .inl (y 0, 6, .inl (fun _ => 0))), (b5, .inl (y 0, 16, .inl (fun _ => 0))), (b6, .inl (y 1, 5, .inr (.inl (fun _ => 0)))), (h, .inr (7, [.int d, .int 0, .int 0, .ref a0, .ref a1, .ref a2, .ref a3, .ref a4, .ref a5, .ref a6])), (a0, .inl (y 0, 9, .inl (fun _ => 0))), (a1, .inl (y 0, 9, .inl (fun _ => 0))), (a2, .inl (y 1, 9, .inr (.inl (fun _ => 0)))), (a3, .inl (y 0, 6, .inl (fun _ => 0))), (a4, .inl (y 0, 6, .inl (fun _ => 0))), (a5, .inl (y 0, 16, .inl (fun _ => 0))), (a6, .inl (y 1, 5, .inr (.inl (fun _ => 0))))]) (by decide) (by decide) (by decide) (by decide) (by decide) (by decide) (nb rfl) (by rw [cpy_z1]; rfl) d_State_take_125 ?_
  exact j_vret (pc := 128) C hr () trivial [0, 1, 2, 3, 4, 5, 6, 7, 8, 9, 10, 11, 12, 13, 14, 15] rfl (by decide) (by decide) (by decide) d_State_take_128
