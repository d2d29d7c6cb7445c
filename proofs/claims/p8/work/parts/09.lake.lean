theorem Met_ofWF {l : Launch} {y : MethodName} {ws ws' : List Cond} {rm : Room} {Pc : Array Value → State → Prop} {Qc : Array Value → State → Outcome → State → Prop} {mc ms : Nat} {free : Addr → Prop} {cc : ByteArray} {maxL : Nat} {ret : Option FieldType}
    (hy : plainFor y = true) (hw : ws = Cond.code y cc maxL ret :: ws')
    (body : ∀ p e s m args below meth c s₁, BodyLoose p l y (headSpec ws rm) cc maxL ret e s m args below meth c s₁ → c.maxLocals = maxL → Pc args s →
      W p l e (headSpec ws rm).room s m args below meth c s.heap [] 0 0 (MQ below Qc args s mc ms free) (entryFrame m args maxL)) : Met l y ws rm Pc Qc mc ms free := by
  refine MetFree.of_bodySF (code := cc) (maxLocals := maxL) (ret := ret) hy ?_ ?_
  · intro args s m h hn
    obtain ⟨meth, c, h1, h2, h3, h4, h5, h6, -, -⟩ := Cond.code_spec hn (atoms_spec (ws := ws) h _ (by rw [hw]; exact List.mem_cons_self))
    exact ⟨meth, c, h1, h2, h3, h4, h5, h6⟩
  · intro p e s m args below meth c s₁ B hml hP _
    have hh0 : s₁.heap = s.heap := by rw [B.state]; rfl
    obtain ⟨t, a1, o, b1, b2, b3⟩ := body p e s m args below meth c s₁ B hml hP s₁ hh0 (Stand.of_body B)
    exact ⟨t, o, a1, b1, b2, ⟨b3.1, b3.2⟩⟩
theorem CT_ofF {l : Launch} {D : va_G} {y : Nat → ClassId} {nm : MethodName} {b : ByteArray} {mL : Nat} {ret : Option FieldType} {rm : Room} {av : List Value} {ws : va_W} {Qf : Nat → Array Value → State → Outcome → State → Prop} (hy : plainFor nm = true) (hav : (lg_sl av).length ≤ mL)
    (body : ∀ (p : Program) (e : Env) (s : State) (m : MethodId) (args : Array Value) (below : List Frame) (meth : Method) (c : Code), Cx p s m args meth c D y (va_A ws s.heap.size) b mL nm.cls nm.name → meth.sig.returnType = ret → J p l e rm s m args below meth c (MQ below (Qf s.heap.size) args s rm.cells rm.slots (va_A ws s.heap.size)) D (va_A ws s.heap.size) mL ws (lv_args 0 av) 0 0 0 []) : CT l D y nm b mL ret rm av ws Qf := by
  intro sz
  refine Met_ofWF (cc := b) (maxL := mL) (ret := ret) hy rfl ?_
  intro p e s m args below meth c s₁ B hml hv
  obtain ⟨rfl, hsz, hP, hK, hD0, hN⟩ := hv
  subst hsz
  have hts := atoms_spec (ws := Cond.code nm b mL ret :: TB) B.pre
  have hC : Cx p s m av.toArray meth c D y (va_A ws s.heap.size) b mL nm.cls nm.name := ⟨B.exec, B.bytes, hml, findClass_of_methodNamed B.named, fun w h => hts w (List.mem_cons_of_mem _ h), hK, fun q h => Or.inr h, B.notSynchronized, (name_of_methodNamed B.named B.method).1, hN⟩
  have hl := lv_entry av (n := mL) hav
  rw [lg_entry_eq]
  exact body p e s m av.toArray below meth c hC B.returns s.heap [] _ hP hD0.self va_S.rf hl
theorem d_Math_floorDiv_0 : decode prog_14_method_47_code 0 = .ok (.iload_n 0, 1) := by decide +kernel
theorem d_Math_floorDiv_1 : decode prog_14_method_47_code 1 = .ok (.iload_n 1, 1) := by decide +kernel
theorem d_Math_floorDiv_2 : decode prog_14_method_47_code 2 = .ok (.idiv, 1) := by decide +kernel
theorem d_Math_floorDiv_3 : decode prog_14_method_47_code 3 = .ok (.istore_n 2, 1) := by decide +kernel
theorem d_Math_floorDiv_4 : decode prog_14_method_47_code 4 = .ok (.iload_n 0, 1) := by decide +kernel
theorem d_Math_floorDiv_5 : decode prog_14_method_47_code 5 = .ok (.iload_n 1, 1) := by decide +kernel
theorem d_Math_floorDiv_6 : decode prog_14_method_47_code 6 = .ok (.ixor, 1) := by decide +kernel
theorem d_Math_floorDiv_7 : decode prog_14_method_47_code 7 = .ok (.ifCond .ge 14, 3) := by decide +kernel
theorem d_Math_floorDiv_21 : decode prog_14_method_47_code 21 = .ok (.iload_n 2, 1) := by decide +kernel
theorem d_Math_floorDiv_22 : decode prog_14_method_47_code 22 = .ok (.ireturn, 1) := by decide +kernel
theorem d_Math_floorDiv_10 : decode prog_14_method_47_code 10 = .ok (.iload_n 2, 1) := by decide +kernel
theorem d_Math_floorDiv_11 : decode prog_14_method_47_code 11 = .ok (.iload_n 1, 1) := by decide +kernel
theorem d_Math_floorDiv_12 : decode prog_14_method_47_code 12 = .ok (.imul, 1) := by decide +kernel
theorem d_Math_floorDiv_13 : decode prog_14_method_47_code 13 = .ok (.iload_n 0, 1) := by decide +kernel
theorem d_Math_floorDiv_14 : decode prog_14_method_47_code 14 = .ok (.if_icmp .eq 7, 3) := by decide +kernel
theorem d_Math_floorDiv_17 : decode prog_14_method_47_code 17 = .ok (.iload_n 2, 1) := by decide +kernel
theorem d_Math_floorDiv_18 : decode prog_14_method_47_code 18 = .ok (.iconst 1, 1) := by decide +kernel
theorem d_Math_floorDiv_19 : decode prog_14_method_47_code 19 = .ok (.isub, 1) := by decide +kernel
theorem d_Math_floorDiv_20 : decode prog_14_method_47_code 20 = .ok (.ireturn, 1) := by decide +kernel
set_option maxHeartbeats 4000000 in
set_option maxRecDepth 100000 in
theorem c_floorDiv (l : Launch) (D : va_G) (y : Nat → ClassId) (x : Int32) (z : Int32) (hz : ¬ z = 0) : CT l D y ⟨"java/lang/Math", "floorDiv", "(II)I"⟩ prog_14_method_47_code 3 (some .int) ({ frames := 0, cells := 0, slots := 0, locals := 0 } : Room) [.int x, .int z] [] (QI D [] (fun (r : Int32) (u : Unit) => True) (fun _ => [])) := by
  refine CT_ofF (by decide +kernel) (nb rfl) ?_
  intro p e s m args below meth c C hr
  refine j_lv (lv' := [(0, .int x), (1, .int z)]) rfl ?_
  refine j_iload_n (pc := 0) C d_Math_floorDiv_0 rfl 0 rfl ?_
  refine j_iload_n (pc := 1) C d_Math_floorDiv_1 rfl 1 rfl ?_
  refine j_idiv (pc := 2) C (v := x / z) d_Math_floorDiv_2 hz rfl ?_
  refine j_istore_n (pc := 3) C (lv' := [(2, .int (x / z)), (0, .int x), (1, .int z)]) d_Math_floorDiv_3 rfl (by decide) rfl ?_
  refine j_iload_n (pc := 4) C d_Math_floorDiv_4 rfl 1 rfl ?_
  refine j_iload_n (pc := 5) C d_Math_floorDiv_5 rfl 2 rfl ?_
  refine j_ixor (pc := 6) C (v := x ^^^ z) d_Math_floorDiv_6 rfl ?_
  refine j_if_ge (pc := 7) C (tgt := 21) d_Math_floorDiv_7 (by decide) (fun c1 => ?_) (fun c1 => ?_)
  · refine j_iload_n (pc := 21) C d_Math_floorDiv_21 rfl 0 rfl ?_
    exact j_iret (pc := 22) C hr rfl () trivial [] rfl (by decide) (by decide) (by decide) d_Math_floorDiv_22
  · refine j_iload_n (pc := 10) C d_Math_floorDiv_10 rfl 0 rfl ?_
    refine j_iload_n (pc := 11) C d_Math_floorDiv_11 rfl 2 rfl ?_
    refine j_imul (pc := 12) C (v := (x / z) * z) d_Math_floorDiv_12 rfl ?_
    refine j_iload_n (pc := 13) C d_Math_floorDiv_13 rfl 1 rfl ?_
    refine j_icmp_eq (pc := 14) C (tgt := 21) d_Math_floorDiv_14 (by decide) (fun c2 => ?_) (fun c2 => ?_)
    · refine j_iload_n (pc := 21) C d_Math_floorDiv_21 rfl 0 rfl ?_
      exact j_iret (pc := 22) C hr rfl () trivial [] rfl (by decide) (by decide) (by decide) d_Math_floorDiv_22
    · refine j_iload_n (pc := 17) C d_Math_floorDiv_17 rfl 0 rfl ?_
      refine j_iconst (pc := 18) C (v := 1) d_Math_floorDiv_18 (by decide) ?_
      refine j_isub (pc := 19) C (v := (x / z) - 1) d_Math_floorDiv_19 rfl ?_
      exact j_iret (pc := 20) C hr rfl () trivial [] rfl (by decide) (by decide) (by decide) d_Math_floorDiv_20
theorem d_Math_floorMod_0 : decode prog_14_method_50_code 0 = .ok (.iload_n 0, 1) := by decide +kernel
theorem d_Math_floorMod_1 : decode prog_14_method_50_code 1 = .ok (.iload_n 1, 1) := by decide +kernel
theorem d_Math_floorMod_2 : decode prog_14_method_50_code 2 = .ok (.irem, 1) := by decide +kernel
theorem d_Math_floorMod_3 : decode prog_14_method_50_code 3 = .ok (.istore_n 2, 1) := by decide +kernel
theorem d_Math_floorMod_4 : decode prog_14_method_50_code 4 = .ok (.iload_n 0, 1) := by decide +kernel
theorem d_Math_floorMod_5 : decode prog_14_method_50_code 5 = .ok (.iload_n 1, 1) := by decide +kernel
theorem d_Math_floorMod_6 : decode prog_14_method_50_code 6 = .ok (.ixor, 1) := by decide +kernel
theorem d_Math_floorMod_7 : decode prog_14_method_50_code 7 = .ok (.ifCond .ge 11, 3) := by decide +kernel
theorem d_Math_floorMod_18 : decode prog_14_method_50_code 18 = .ok (.iload_n 2, 1) := by decide +kernel
theorem d_Math_floorMod_19 : decode prog_14_method_50_code 19 = .ok (.ireturn, 1) := by decide +kernel
theorem d_Math_floorMod_10 : decode prog_14_method_50_code 10 = .ok (.iload_n 2, 1) := by decide +kernel
theorem d_Math_floorMod_11 : decode prog_14_method_50_code 11 = .ok (.ifCond .eq 7, 3) := by decide +kernel
theorem d_Math_floorMod_14 : decode prog_14_method_50_code 14 = .ok (.iload_n 2, 1) := by decide +kernel
theorem d_Math_floorMod_15 : decode prog_14_method_50_code 15 = .ok (.iload_n 1, 1) := by decide +kernel
theorem d_Math_floorMod_16 : decode prog_14_method_50_code 16 = .ok (.iadd, 1) := by decide +kernel
theorem d_Math_floorMod_17 : decode prog_14_method_50_code 17 = .ok (.ireturn, 1) := by decide +kernel
set_option maxHeartbeats 4000000 in
set_option maxRecDepth 100000 in
theorem c_floorMod (l : Launch) (D : va_G) (y : Nat → ClassId) (x : Int32) (z : Int32) (hz : ¬ z = 0) (hp : ¬ z ≤ 0) : CT l D y ⟨"java/lang/Math", "floorMod", "(II)I"⟩ prog_14_method_50_code 3 (some .int) ({ frames := 0, cells := 0, slots := 0, locals := 0 } : Room) [.int x, .int z] [] (QI D [] (fun (r : Int32) (u : Unit) => 0 ≤ r.toInt ∧ r.toInt < z.toInt) (fun _ => [])) := by
  refine CT_ofF (by decide +kernel) (nb rfl) ?_
  intro p e s m args below meth c C hr
  refine j_lv (lv' := [(0, .int x), (1, .int z)]) rfl ?_
  refine j_iload_n (pc := 0) C d_Math_floorMod_0 rfl 0 rfl ?_
  refine j_iload_n (pc := 1) C d_Math_floorMod_1 rfl 1 rfl ?_
  refine j_irem (pc := 2) C (v := x - x / z * z) d_Math_floorMod_2 hz rfl ?_
  refine j_istore_n (pc := 3) C (lv' := [(2, .int (x - x / z * z)), (0, .int x), (1, .int z)]) d_Math_floorMod_3 rfl (by decide) rfl ?_
  refine j_iload_n (pc := 4) C d_Math_floorMod_4 rfl 1 rfl ?_
  refine j_iload_n (pc := 5) C d_Math_floorMod_5 rfl 2 rfl ?_
  refine j_ixor (pc := 6) C (v := x ^^^ z) d_Math_floorMod_6 rfl ?_
  refine j_if_ge (pc := 7) C (tgt := 18) d_Math_floorMod_7 (by decide) (fun c1 => ?_) (fun c1 => ?_)
  · refine j_iload_n (pc := 18) C d_Math_floorMod_18 rfl 0 rfl ?_
    exact j_iret (pc := 19) C hr rfl () (by exact fm_T hp c1) [] rfl (by decide) (by decide) (by decide) d_Math_floorMod_19
  · refine j_iload_n (pc := 10) C d_Math_floorMod_10 rfl 0 rfl ?_
    refine j_if_eq (pc := 11) C (tgt := 18) d_Math_floorMod_11 (by decide) (fun c2 => ?_) (fun c2 => ?_)
    · refine j_iload_n (pc := 18) C d_Math_floorMod_18 rfl 0 rfl ?_
      exact j_iret (pc := 19) C hr rfl () (by exact fm_0 hp c2) [] rfl (by decide) (by decide) (by decide) d_Math_floorMod_19
    · refine j_iload_n (pc := 14) C d_Math_floorMod_14 rfl 0 rfl ?_
      refine j_iload_n (pc := 15) C d_Math_floorMod_15 rfl 2 rfl ?_
      refine j_iadd (pc := 16) C (v := (x - x / z * z) + z) d_Math_floorMod_16 rfl ?_
      exact j_iret (pc := 17) C hr rfl () (by exact fm_F hp c1 c2) [] rfl (by decide) (by decide) (by decide) d_Math_floorMod_17
theorem d_Lake_levelAt_0 : decode prog_5_method_7_code 0 = .ok (.aload_n 0, 1) := by decide +kernel
theorem d_Lake_levelAt_1 : decode prog_5_method_7_code 1 = .ok (.getfield 46, 3) := by decide +kernel
theorem gf_Lake_46 : GF "NineBoards$Lake" 46 2 1 := ⟨_, _, _, rfl, ci_Lake, by decide, (mt_2 (List.mem_of_getElem? (i := 33) rfl) rfl)⟩
theorem d_Lake_levelAt_4 : decode prog_5_method_7_code 4 = .ok (.ifCond .le 14, 3) := by decide +kernel
theorem d_Lake_levelAt_18 : decode prog_5_method_7_code 18 = .ok (.iconst 0, 1) := by decide +kernel
theorem d_Lake_levelAt_19 : decode prog_5_method_7_code 19 = .ok (.ireturn, 1) := by decide +kernel
theorem d_Lake_levelAt_7 : decode prog_5_method_7_code 7 = .ok (.iload_n 1, 1) := by decide +kernel
theorem d_Lake_levelAt_8 : decode prog_5_method_7_code 8 = .ok (.aload_n 0, 1) := by decide +kernel
theorem d_Lake_levelAt_9 : decode prog_5_method_7_code 9 = .ok (.getfield 46, 3) := by decide +kernel
theorem d_Lake_levelAt_12 : decode prog_5_method_7_code 12 = .ok (.invokestatic 78, 3) := by decide +kernel
theorem kw_Lake_78 : KW "NineBoards$Lake" 78 ⟨"java/lang/Math", "floorDiv", "(II)I"⟩ prog_14_method_47_code 3 (some .int) 2 := ⟨(mt_3 (List.mem_of_getElem? (i := 217) rfl) rfl), (mt_1 (List.mem_of_getElem? (i := 3) rfl) rfl), (mt_3 (List.mem_of_getElem? (i := 219) rfl) rfl), by decide +kernel⟩
theorem ks_Math_floorDiv : Cond.static ⟨"java/lang/Math", "floorDiv", "(II)I"⟩ ∈ TB := (mt_3 (List.mem_of_getElem? (i := 218) rfl) rfl)
theorem d_Lake_levelAt_15 : decode prog_5_method_7_code 15 = .ok (.goto 4, 3) := by decide +kernel
set_option maxHeartbeats 4000000 in
set_option maxRecDepth 100000 in
theorem c_levelAt (l : Launch) (D : va_G) (y : Nat → ClassId) (ad : Nat → Nat) (d : LD) (v : Int32)  : CT l D y ⟨"NineBoards$Lake", "levelAt", "(I)I"⟩ prog_5_method_7_code 2 (some .int) ({ frames := 1, cells := 0, slots := 0, locals := 22 } : Room) [.ref (ad 0), .int v] [(ad 0, .inr (2, [.int (d.1 0), .int (d.1 1), .int (d.1 2), .int (d.1 3), .ref (ad 1), .int (d.1 4), .ref (ad 11), .ref (ad 12), .ref (ad 2), .ref (ad 3), .int (d.1 5), .int (d.1 6), .int (d.1 7), .int (d.1 8)]))] (QI D [(ad 0, .inr (2, [.int (d.1 0), .int (d.1 1), .int (d.1 2), .int (d.1 3), .ref (ad 1), .int (d.1 4), .ref (ad 11), .ref (ad 12), .ref (ad 2), .ref (ad 3), .int (d.1 5), .int (d.1 6), .int (d.1 7), .int (d.1 8)]))] (fun (r : Int32) (u : Unit) => True) (fun _ => [(ad 0, .inr (2, [.int (d.1 0), .int (d.1 1), .int (d.1 2), .int (d.1 3), .ref (ad 1), .int (d.1 4), .ref (ad 11), .ref (ad 12), .ref (ad 2), .ref (ad 3), .int (d.1 5), .int (d.1 6), .int (d.1 7), .int (d.1 8)]))])) := by
  refine CT.of (by decide) (nb rfl) ?_
  intro p e s m args below meth c C hr
  refine j_lv (lv' := [(0, .ref (ad 0)), (1, .int v)]) rfl ?_
  refine j_aload_n (pc := 0) C d_Lake_levelAt_0 rfl 0 rfl ?_
  refine j_get (pc := 1) C gf_Lake_46 0 rfl rfl d_Lake_levelAt_1 ?_
  refine j_if_le (pc := 4) C (tgt := 18) d_Lake_levelAt_4 (by decide) (fun c1 => ?_) (fun c1 => ?_)
  · refine j_iconst (pc := 18) C (v := 0) d_Lake_levelAt_18 (by decide) ?_
    exact j_iret (pc := 19) C hr rfl () trivial [0] rfl (by decide) (by decide) (by decide) d_Lake_levelAt_19
  · refine j_iload_n (pc := 7) C d_Lake_levelAt_7 rfl 1 rfl ?_
    refine j_aload_n (pc := 8) C d_Lake_levelAt_8 rfl 0 rfl ?_
    refine j_get (pc := 9) C gf_Lake_46 0 rfl rfl d_Lake_levelAt_9 ?_
    refine j_callSi (pc := 12) C (c_floorDiv l D y v (d.1 1) (fun e => c1 (by rw [e]; decide))) kw_Lake_78 ks_Math_floorDiv ⟨by decide, by decide⟩ ⟨by decide, by decide⟩ (wr := [(ad 0, .inr (2, [.int (d.1 0), .int (d.1 1), .int (d.1 2), .int (d.1 3), .ref (ad 1), .int (d.1 4), .ref (ad 11), .ref (ad 12), .ref (ad 2), .ref (ad 3), .int (d.1 5), .int (d.1 6), .int (d.1 7), .int (d.1 8)]))]) [] [0] rfl rfl (by decide) (by decide) (by decide) (As := [.int v, .int (d.1 1)]) (rest := []) rfl (nb rfl) rfl d_Lake_levelAt_12 (fun r2 _ hr2 => ?_)
    refine j_ws (ws' := [(ad 0, .inr (2, [.int (d.1 0), .int (d.1 1), .int (d.1 2), .int (d.1 3), .ref (ad 1), .int (d.1 4), .ref (ad 11), .ref (ad 12), .ref (ad 2), .ref (ad 3), .int (d.1 5), .int (d.1 6), .int (d.1 7), .int (d.1 8)]))]) rfl ?_
    refine j_goto (pc := 15) C (tgt := 19) d_Lake_levelAt_15 (by decide) ?_
    exact j_iret (pc := 19) C hr rfl () trivial [0] rfl (by decide) (by decide) (by decide) d_Lake_levelAt_19
theorem d_Lake_villageOn_0 : decode prog_5_method_8_code 0 = .ok (.aload_n 0, 1) := by decide +kernel
theorem d_Lake_villageOn_1 : decode prog_5_method_8_code 1 = .ok (.getfield 58, 3) := by decide +kernel
theorem gf_Lake_58 : GF "NineBoards$Lake" 58 2 5 := ⟨_, _, _, rfl, ci_Lake, by decide, (mt_2 (List.mem_of_getElem? (i := 46) rfl) rfl)⟩
theorem d_Lake_villageOn_4 : decode prog_5_method_8_code 4 = .ok (.ifCond .le 14, 3) := by decide +kernel
theorem d_Lake_villageOn_18 : decode prog_5_method_8_code 18 = .ok (.iconst (-1), 1) := by decide +kernel
theorem d_Lake_villageOn_19 : decode prog_5_method_8_code 19 = .ok (.ireturn, 1) := by decide +kernel
theorem d_Lake_villageOn_7 : decode prog_5_method_8_code 7 = .ok (.iload_n 1, 1) := by decide +kernel
theorem d_Lake_villageOn_8 : decode prog_5_method_8_code 8 = .ok (.aload_n 0, 1) := by decide +kernel
theorem d_Lake_villageOn_9 : decode prog_5_method_8_code 9 = .ok (.getfield 58, 3) := by decide +kernel
theorem d_Lake_villageOn_12 : decode prog_5_method_8_code 12 = .ok (.invokestatic 84, 3) := by decide +kernel
theorem kw_Lake_84 : KW "NineBoards$Lake" 84 ⟨"java/lang/Math", "floorMod", "(II)I"⟩ prog_14_method_50_code 3 (some .int) 2 := ⟨(mt_4 (List.mem_of_getElem? (i := 31) rfl) rfl), (mt_1 (List.mem_of_getElem? (i := 3) rfl) rfl), (mt_4 (List.mem_of_getElem? (i := 33) rfl) rfl), by decide +kernel⟩
theorem ks_Math_floorMod : Cond.static ⟨"java/lang/Math", "floorMod", "(II)I"⟩ ∈ TB := (mt_4 (List.mem_of_getElem? (i := 32) rfl) rfl)
theorem d_Lake_villageOn_15 : decode prog_5_method_8_code 15 = .ok (.goto 4, 3) := by decide +kernel
set_option maxHeartbeats 4000000 in
set_option maxRecDepth 100000 in
theorem c_villageOn (l : Launch) (D : va_G) (y : Nat → ClassId) (ad : Nat → Nat) (d : LD) (n4 : Nat) (v : Int32) (h4 : d.1 4 = nI n4) (b4 : n4 ≤ 6) : CT l D y ⟨"NineBoards$Lake", "villageOn", "(I)I"⟩ prog_5_method_8_code 2 (some .int) ({ frames := 1, cells := 0, slots := 0, locals := 22 } : Room) [.ref (ad 0), .int v] [(ad 0, .inr (2, [.int (d.1 0), .int (d.1 1), .int (d.1 2), .int (d.1 3), .ref (ad 1), .int (d.1 4), .ref (ad 11), .ref (ad 12), .ref (ad 2), .ref (ad 3), .int (d.1 5), .int (d.1 6), .int (d.1 7), .int (d.1 8)]))] (QI D [(ad 0, .inr (2, [.int (d.1 0), .int (d.1 1), .int (d.1 2), .int (d.1 3), .ref (ad 1), .int (d.1 4), .ref (ad 11), .ref (ad 12), .ref (ad 2), .ref (ad 3), .int (d.1 5), .int (d.1 6), .int (d.1 7), .int (d.1 8)]))] (fun (r : Int32) (u : Unit) => r = -1 ∨ ∃ j : Nat, j < n4 ∧ r = nI j) (fun _ => [(ad 0, .inr (2, [.int (d.1 0), .int (d.1 1), .int (d.1 2), .int (d.1 3), .ref (ad 1), .int (d.1 4), .ref (ad 11), .ref (ad 12), .ref (ad 2), .ref (ad 3), .int (d.1 5), .int (d.1 6), .int (d.1 7), .int (d.1 8)]))])) := by
  refine CT.of (by decide) (nb rfl) ?_
  intro p e s m args below meth c C hr
  refine j_lv (lv' := [(0, .ref (ad 0)), (1, .int v)]) rfl ?_
  refine j_aload_n (pc := 0) C d_Lake_villageOn_0 rfl 0 rfl ?_
  refine j_get (pc := 1) C gf_Lake_58 0 rfl rfl d_Lake_villageOn_1 ?_
  refine j_if_le (pc := 4) C (tgt := 18) d_Lake_villageOn_4 (by decide) (fun c1 => ?_) (fun c1 => ?_)
  · refine j_iconst (pc := 18) C (v := (-1)) d_Lake_villageOn_18 (by decide) ?_
    exact j_iret (pc := 19) C hr rfl () (by exact Or.inl rfl) [0] rfl (by decide) (by decide) (by decide) d_Lake_villageOn_19
  · refine j_iload_n (pc := 7) C d_Lake_villageOn_7 rfl 1 rfl ?_
    refine j_aload_n (pc := 8) C d_Lake_villageOn_8 rfl 0 rfl ?_
    refine j_get (pc := 9) C gf_Lake_58 0 rfl rfl d_Lake_villageOn_9 ?_
    refine j_callSi (pc := 12) C (c_floorMod l D y v (d.1 4) (fun e => c1 (by rw [e]; decide)) c1) kw_Lake_84 ks_Math_floorMod ⟨by decide, by decide⟩ ⟨by decide, by decide⟩ (wr := [(ad 0, .inr (2, [.int (d.1 0), .int (d.1 1), .int (d.1 2), .int (d.1 3), .ref (ad 1), .int (d.1 4), .ref (ad 11), .ref (ad 12), .ref (ad 2), .ref (ad 3), .int (d.1 5), .int (d.1 6), .int (d.1 7), .int (d.1 8)]))]) [] [0] rfl rfl (by decide) (by decide) (by decide) (As := [.int v, .int (d.1 4)]) (rest := []) rfl (nb rfl) rfl d_Lake_villageOn_12 (fun r2 _ hr2 => ?_)
    refine j_ws (ws' := [(ad 0, .inr (2, [.int (d.1 0), .int (d.1 1), .int (d.1 2), .int (d.1 3), .ref (ad 1), .int (d.1 4), .ref (ad 11), .ref (ad 12), .ref (ad 2), .ref (ad 3), .int (d.1 5), .int (d.1 6), .int (d.1 7), .int (d.1 8)]))]) rfl ?_
    refine j_goto (pc := 15) C (tgt := 19) d_Lake_villageOn_15 (by decide) ?_
    exact j_iret (pc := 19) C hr rfl () (by exact Or.inr (vo_of hr2 h4 (by omega))) [0] rfl (by decide) (by decide) (by decide) d_Lake_villageOn_19
theorem d_Lake_daysUntil_0 : decode prog_5_method_9_code 0 = .ok (.aload_n 0, 1) := by decide +kernel
theorem d_Lake_daysUntil_1 : decode prog_5_method_9_code 1 = .ok (.getfield 58, 3) := by decide +kernel
theorem d_Lake_daysUntil_4 : decode prog_5_method_9_code 4 = .ok (.ifCond .le 16, 3) := by decide +kernel
theorem d_Lake_daysUntil_20 : decode prog_5_method_9_code 20 = .ok (.iconst (-1), 1) := by decide +kernel
theorem d_Lake_daysUntil_21 : decode prog_5_method_9_code 21 = .ok (.ireturn, 1) := by decide +kernel
theorem d_Lake_daysUntil_7 : decode prog_5_method_9_code 7 = .ok (.iload_n 1, 1) := by decide +kernel
theorem d_Lake_daysUntil_8 : decode prog_5_method_9_code 8 = .ok (.iload_n 2, 1) := by decide +kernel
theorem d_Lake_daysUntil_9 : decode prog_5_method_9_code 9 = .ok (.isub, 1) := by decide +kernel
theorem d_Lake_daysUntil_10 : decode prog_5_method_9_code 10 = .ok (.aload_n 0, 1) := by decide +kernel
theorem d_Lake_daysUntil_11 : decode prog_5_method_9_code 11 = .ok (.getfield 58, 3) := by decide +kernel
theorem d_Lake_daysUntil_14 : decode prog_5_method_9_code 14 = .ok (.invokestatic 84, 3) := by decide +kernel
theorem d_Lake_daysUntil_17 : decode prog_5_method_9_code 17 = .ok (.goto 4, 3) := by decide +kernel
set_option maxHeartbeats 4000000 in
set_option maxRecDepth 100000 in
theorem c_daysUntil (l : Launch) (D : va_G) (y : Nat → ClassId) (ad : Nat → Nat) (d : LD) (v : Int32) (w : Int32)  : CT l D y ⟨"NineBoards$Lake", "daysUntil", "(II)I"⟩ prog_5_method_9_code 3 (some .int) ({ frames := 1, cells := 0, slots := 0, locals := 22 } : Room) [.ref (ad 0), .int v, .int w] [(ad 0, .inr (2, [.int (d.1 0), .int (d.1 1), .int (d.1 2), .int (d.1 3), .ref (ad 1), .int (d.1 4), .ref (ad 11), .ref (ad 12), .ref (ad 2), .ref (ad 3), .int (d.1 5), .int (d.1 6), .int (d.1 7), .int (d.1 8)]))] (QI D [(ad 0, .inr (2, [.int (d.1 0), .int (d.1 1), .int (d.1 2), .int (d.1 3), .ref (ad 1), .int (d.1 4), .ref (ad 11), .ref (ad 12), .ref (ad 2), .ref (ad 3), .int (d.1 5), .int (d.1 6), .int (d.1 7), .int (d.1 8)]))] (fun (r : Int32) (u : Unit) => True) (fun _ => [(ad 0, .inr (2, [.int (d.1 0), .int (d.1 1), .int (d.1 2), .int (d.1 3), .ref (ad 1), .int (d.1 4), .ref (ad 11), .ref (ad 12), .ref (ad 2), .ref (ad 3), .int (d.1 5), .int (d.1 6), .int (d.1 7), .int (d.1 8)]))])) := by
  refine CT.of (by decide) (nb rfl) ?_
  intro p e s m args below meth c C hr
  refine j_lv (lv' := [(0, .ref (ad 0)), (1, .int v), (2, .int w)]) rfl ?_
  refine j_aload_n (pc := 0) C d_Lake_daysUntil_0 rfl 0 rfl ?_
  refine j_get (pc := 1) C gf_Lake_58 0 rfl rfl d_Lake_daysUntil_1 ?_
  refine j_if_le (pc := 4) C (tgt := 20) d_Lake_daysUntil_4 (by decide) (fun c1 => ?_) (fun c1 => ?_)
  · refine j_iconst (pc := 20) C (v := (-1)) d_Lake_daysUntil_20 (by decide) ?_
    exact j_iret (pc := 21) C hr rfl () trivial [0] rfl (by decide) (by decide) (by decide) d_Lake_daysUntil_21
  · refine j_iload_n (pc := 7) C d_Lake_daysUntil_7 rfl 1 rfl ?_
    refine j_iload_n (pc := 8) C d_Lake_daysUntil_8 rfl 2 rfl ?_
    refine j_isub (pc := 9) C (v := v - w) d_Lake_daysUntil_9 rfl ?_
    refine j_aload_n (pc := 10) C d_Lake_daysUntil_10 rfl 0 rfl ?_
    refine j_get (pc := 11) C gf_Lake_58 0 rfl rfl d_Lake_daysUntil_11 ?_
    refine j_callSi (pc := 14) C (c_floorMod l D y (v - w) (d.1 4) (fun e => c1 (by rw [e]; decide)) c1) kw_Lake_84 ks_Math_floorMod ⟨by decide, by decide⟩ ⟨by decide, by decide⟩ (wr := [(ad 0, .inr (2, [.int (d.1 0), .int (d.1 1), .int (d.1 2), .int (d.1 3), .ref (ad 1), .int (d.1 4), .ref (ad 11), .ref (ad 12), .ref (ad 2), .ref (ad 3), .int (d.1 5), .int (d.1 6), .int (d.1 7), .int (d.1 8)]))]) [] [0] rfl rfl (by decide) (by decide) (by decide) (As := [.int (v - w), .int (d.1 4)]) (rest := []) rfl (nb rfl) rfl d_Lake_daysUntil_14 (fun r2 _ hr2 => ?_)
    refine j_ws (ws' := [(ad 0, .inr (2, [.int (d.1 0), .int (d.1 1), .int (d.1 2), .int (d.1 3), .ref (ad 1), .int (d.1 4), .ref (ad 11), .ref (ad 12), .ref (ad 2), .ref (ad 3), .int (d.1 5), .int (d.1 6), .int (d.1 7), .int (d.1 8)]))]) rfl ?_
    refine j_goto (pc := 17) C (tgt := 21) d_Lake_daysUntil_17 (by decide) ?_
    exact j_iret (pc := 21) C hr rfl () trivial [0] rfl (by decide) (by decide) (by decide) d_Lake_daysUntil_21
theorem d_Lake_hasVillage_0 : decode prog_5_method_4_code 0 = .ok (.iload_n 1, 1) := by decide +kernel
theorem d_Lake_hasVillage_1 : decode prog_5_method_4_code 1 = .ok (.ifCond .lt 15, 3) := by decide +kernel
theorem d_Lake_hasVillage_16 : decode prog_5_method_4_code 16 = .ok (.iconst 0, 1) := by decide +kernel
theorem d_Lake_hasVillage_17 : decode prog_5_method_4_code 17 = .ok (.ireturn, 1) := by decide +kernel
theorem d_Lake_hasVillage_4 : decode prog_5_method_4_code 4 = .ok (.iload_n 1, 1) := by decide +kernel
theorem d_Lake_hasVillage_5 : decode prog_5_method_4_code 5 = .ok (.aload_n 0, 1) := by decide +kernel
theorem d_Lake_hasVillage_6 : decode prog_5_method_4_code 6 = .ok (.getfield 58, 3) := by decide +kernel
theorem d_Lake_hasVillage_9 : decode prog_5_method_4_code 9 = .ok (.if_icmp .ge 7, 3) := by decide +kernel
theorem d_Lake_hasVillage_12 : decode prog_5_method_4_code 12 = .ok (.iconst 1, 1) := by decide +kernel
theorem d_Lake_hasVillage_13 : decode prog_5_method_4_code 13 = .ok (.goto 4, 3) := by decide +kernel
set_option maxHeartbeats 4000000 in
set_option maxRecDepth 100000 in
theorem c_hasVillage (l : Launch) (D : va_G) (y : Nat → ClassId) (ad : Nat → Nat) (d : LD) (n4 : Nat) (v : Int32) (h4 : d.1 4 = nI n4) (b4 : n4 ≤ 6) : CT l D y ⟨"NineBoards$Lake", "hasVillage", "(I)Z"⟩ prog_5_method_4_code 2 (some .boolean) ({ frames := 0, cells := 0, slots := 0, locals := 0 } : Room) [.ref (ad 0), .int v] [(ad 0, .inr (2, [.int (d.1 0), .int (d.1 1), .int (d.1 2), .int (d.1 3), .ref (ad 1), .int (d.1 4), .ref (ad 11), .ref (ad 12), .ref (ad 2), .ref (ad 3), .int (d.1 5), .int (d.1 6), .int (d.1 7), .int (d.1 8)]))] (QI D [(ad 0, .inr (2, [.int (d.1 0), .int (d.1 1), .int (d.1 2), .int (d.1 3), .ref (ad 1), .int (d.1 4), .ref (ad 11), .ref (ad 12), .ref (ad 2), .ref (ad 3), .int (d.1 5), .int (d.1 6), .int (d.1 7), .int (d.1 8)]))] (fun (r : Int32) (u : Unit) => r = 0 ∨ (r = 1 ∧ ∃ j : Nat, j < n4 ∧ v = nI j)) (fun _ => [(ad 0, .inr (2, [.int (d.1 0), .int (d.1 1), .int (d.1 2), .int (d.1 3), .ref (ad 1), .int (d.1 4), .ref (ad 11), .ref (ad 12), .ref (ad 2), .ref (ad 3), .int (d.1 5), .int (d.1 6), .int (d.1 7), .int (d.1 8)]))])) := by
  refine CT.of (by decide) (nb rfl) ?_
  intro p e s m args below meth c C hr
  refine j_lv (lv' := [(0, .ref (ad 0)), (1, .int v)]) rfl ?_
  refine j_iload_n (pc := 0) C d_Lake_hasVillage_0 rfl 1 rfl ?_
  refine j_if_lt (pc := 1) C (tgt := 16) d_Lake_hasVillage_1 (by decide) (fun c1 => ?_) (fun c1 => ?_)
  · refine j_iconst (pc := 16) C (v := 0) d_Lake_hasVillage_16 (by decide) ?_
    exact j_iret (pc := 17) C hr (by decide) () (by exact Or.inl rfl) [0] rfl (by decide) (by decide) (by decide) d_Lake_hasVillage_17
  · refine j_iload_n (pc := 4) C d_Lake_hasVillage_4 rfl 1 rfl ?_
    refine j_aload_n (pc := 5) C d_Lake_hasVillage_5 rfl 0 rfl ?_
    refine j_get (pc := 6) C gf_Lake_58 0 rfl rfl d_Lake_hasVillage_6 ?_
    refine j_icmp_ge (pc := 9) C (tgt := 16) d_Lake_hasVillage_9 (by decide) (fun c2 => ?_) (fun c2 => ?_)
    · refine j_iconst (pc := 16) C (v := 0) d_Lake_hasVillage_16 (by decide) ?_
      exact j_iret (pc := 17) C hr (by decide) () (by exact Or.inl rfl) [0] rfl (by decide) (by decide) (by decide) d_Lake_hasVillage_17
    · refine j_iconst (pc := 12) C (v := 1) d_Lake_hasVillage_12 (by decide) ?_
      refine j_goto (pc := 13) C (tgt := 17) d_Lake_hasVillage_13 (by decide) ?_
      exact j_iret (pc := 17) C hr (by decide) () (by exact Or.inr ⟨rfl, nI_lt2 c1 (h4 ▸ c2) (by omega)⟩) [0] rfl (by decide) (by decide) (by decide) d_Lake_hasVillage_17
theorem d_Lake_hasGate_0 : decode prog_5_method_3_code 0 = .ok (.iload_n 1, 1) := by decide +kernel
theorem d_Lake_hasGate_1 : decode prog_5_method_3_code 1 = .ok (.ifCond .lt 18, 3) := by decide +kernel
theorem d_Lake_hasGate_19 : decode prog_5_method_3_code 19 = .ok (.iconst 0, 1) := by decide +kernel
theorem d_Lake_hasGate_20 : decode prog_5_method_3_code 20 = .ok (.ireturn, 1) := by decide +kernel
theorem d_Lake_hasGate_4 : decode prog_5_method_3_code 4 = .ok (.iload_n 1, 1) := by decide +kernel
theorem d_Lake_hasGate_5 : decode prog_5_method_3_code 5 = .ok (.aload_n 0, 1) := by decide +kernel
theorem d_Lake_hasGate_6 : decode prog_5_method_3_code 6 = .ok (.getfield 12, 3) := by decide +kernel
theorem gf_Lake_12 : GF "NineBoards$Lake" 12 2 4 := ⟨_, _, _, rfl, ci_Lake, by decide, (mt_2 (List.mem_of_getElem? (i := 42) rfl) rfl)⟩
theorem d_Lake_hasGate_9 : decode prog_5_method_3_code 9 = .ok (.getfield 55, 3) := by decide +kernel
theorem gf_Lake_55 : GF "NineBoards$Lake" 55 1 0 := ⟨_, _, _, rfl, ci_Gates, by decide, (mt_1 (List.mem_of_getElem? (i := 140) rfl) rfl)⟩
theorem d_Lake_hasGate_12 : decode prog_5_method_3_code 12 = .ok (.if_icmp .ge 7, 3) := by decide +kernel
theorem d_Lake_hasGate_15 : decode prog_5_method_3_code 15 = .ok (.iconst 1, 1) := by decide +kernel
theorem d_Lake_hasGate_16 : decode prog_5_method_3_code 16 = .ok (.goto 4, 3) := by decide +kernel
set_option maxHeartbeats 4000000 in
set_option maxRecDepth 100000 in
theorem c_hasGate (l : Launch) (D : va_G) (y : Nat → ClassId) (ad : Nat → Nat) (d : LD) (n9 : Nat) (v : Int32) (h9 : d.1 9 = nI n9) (b9 : n9 ≤ 9) : CT l D y ⟨"NineBoards$Lake", "hasGate", "(I)Z"⟩ prog_5_method_3_code 2 (some .boolean) ({ frames := 0, cells := 0, slots := 0, locals := 0 } : Room) [.ref (ad 0), .int v] [(ad 0, .inr (2, [.int (d.1 0), .int (d.1 1), .int (d.1 2), .int (d.1 3), .ref (ad 1), .int (d.1 4), .ref (ad 11), .ref (ad 12), .ref (ad 2), .ref (ad 3), .int (d.1 5), .int (d.1 6), .int (d.1 7), .int (d.1 8)])), (ad 1, .inr (1, [.int (d.1 9), .ref (ad 4), .ref (ad 5), .ref (ad 6), .ref (ad 7), .ref (ad 8), .ref (ad 9), .ref (ad 10)]))] (QI D [(ad 0, .inr (2, [.int (d.1 0), .int (d.1 1), .int (d.1 2), .int (d.1 3), .ref (ad 1), .int (d.1 4), .ref (ad 11), .ref (ad 12), .ref (ad 2), .ref (ad 3), .int (d.1 5), .int (d.1 6), .int (d.1 7), .int (d.1 8)])), (ad 1, .inr (1, [.int (d.1 9), .ref (ad 4), .ref (ad 5), .ref (ad 6), .ref (ad 7), .ref (ad 8), .ref (ad 9), .ref (ad 10)]))] (fun (r : Int32) (u : Unit) => r = 0 ∨ (r = 1 ∧ ∃ j : Nat, j < n9 ∧ v = nI j)) (fun _ => [(ad 0, .inr (2, [.int (d.1 0), .int (d.1 1), .int (d.1 2), .int (d.1 3), .ref (ad 1), .int (d.1 4), .ref (ad 11), .ref (ad 12), .ref (ad 2), .ref (ad 3), .int (d.1 5), .int (d.1 6), .int (d.1 7), .int (d.1 8)])), (ad 1, .inr (1, [.int (d.1 9), .ref (ad 4), .ref (ad 5), .ref (ad 6), .ref (ad 7), .ref (ad 8), .ref (ad 9), .ref (ad 10)]))])) := by
  refine CT.of (by decide) (nb rfl) ?_
  intro p e s m args below meth c C hr
  refine j_lv (lv' := [(0, .ref (ad 0)), (1, .int v)]) rfl ?_
  refine j_iload_n (pc := 0) C d_Lake_hasGate_0 rfl 1 rfl ?_
  refine j_if_lt (pc := 1) C (tgt := 19) d_Lake_hasGate_1 (by decide) (fun c1 => ?_) (fun c1 => ?_)
  · refine j_iconst (pc := 19) C (v := 0) d_Lake_hasGate_19 (by decide) ?_
    exact j_iret (pc := 20) C hr (by decide) () (by exact Or.inl rfl) [0, 1] rfl (by decide) (by decide) (by decide) d_Lake_hasGate_20
  · refine j_iload_n (pc := 4) C d_Lake_hasGate_4 rfl 1 rfl ?_
    refine j_aload_n (pc := 5) C d_Lake_hasGate_5 rfl 0 rfl ?_
    refine j_get (pc := 6) C gf_Lake_12 0 rfl rfl d_Lake_hasGate_6 ?_
    refine j_get (pc := 9) C gf_Lake_55 1 rfl rfl d_Lake_hasGate_9 ?_
    refine j_icmp_ge (pc := 12) C (tgt := 19) d_Lake_hasGate_12 (by decide) (fun c2 => ?_) (fun c2 => ?_)
    · refine j_iconst (pc := 19) C (v := 0) d_Lake_hasGate_19 (by decide) ?_
      exact j_iret (pc := 20) C hr (by decide) () (by exact Or.inl rfl) [0, 1] rfl (by decide) (by decide) (by decide) d_Lake_hasGate_20
    · refine j_iconst (pc := 15) C (v := 1) d_Lake_hasGate_15 (by decide) ?_
      refine j_goto (pc := 16) C (tgt := 20) d_Lake_hasGate_16 (by decide) ?_
      exact j_iret (pc := 20) C hr (by decide) () (by exact Or.inr ⟨rfl, nI_lt2 c1 (h9 ▸ c2) (by omega)⟩) [0, 1] rfl (by decide) (by decide) (by decide) d_Lake_hasGate_20
theorem d_Lake_hasThing_0 : decode prog_5_method_5_code 0 = .ok (.iload_n 1, 1) := by decide +kernel
theorem d_Lake_hasThing_1 : decode prog_5_method_5_code 1 = .ok (.ifCond .lt 18, 3) := by decide +kernel
theorem d_Lake_hasThing_19 : decode prog_5_method_5_code 19 = .ok (.iconst 0, 1) := by decide +kernel
theorem d_Lake_hasThing_20 : decode prog_5_method_5_code 20 = .ok (.ireturn, 1) := by decide +kernel
theorem d_Lake_hasThing_4 : decode prog_5_method_5_code 4 = .ok (.iload_n 1, 1) := by decide +kernel
theorem d_Lake_hasThing_5 : decode prog_5_method_5_code 5 = .ok (.aload_n 0, 1) := by decide +kernel
theorem d_Lake_hasThing_6 : decode prog_5_method_5_code 6 = .ok (.getfield 28, 3) := by decide +kernel
theorem gf_Lake_28 : GF "NineBoards$Lake" 28 2 8 := ⟨_, _, _, rfl, ci_Lake, by decide, (mt_2 (List.mem_of_getElem? (i := 58) rfl) rfl)⟩
theorem d_Lake_hasThing_9 : decode prog_5_method_5_code 9 = .ok (.getfield 61, 3) := by decide +kernel
theorem gf_Lake_61 : GF "NineBoards$Lake" 61 8 0 := ⟨_, _, _, rfl, ci_Things, by decide, (mt_1 (List.mem_of_getElem? (i := 187) rfl) rfl)⟩
theorem d_Lake_hasThing_12 : decode prog_5_method_5_code 12 = .ok (.if_icmp .ge 7, 3) := by decide +kernel
theorem d_Lake_hasThing_15 : decode prog_5_method_5_code 15 = .ok (.iconst 1, 1) := by decide +kernel
theorem d_Lake_hasThing_16 : decode prog_5_method_5_code 16 = .ok (.goto 4, 3) := by decide +kernel
set_option maxHeartbeats 4000000 in
set_option maxRecDepth 100000 in
theorem c_hasThing (l : Launch) (D : va_G) (y : Nat → ClassId) (ad : Nat → Nat) (d : LD) (n10 : Nat) (v : Int32) (h10 : d.1 10 = nI n10) (b10 : n10 ≤ 16) : CT l D y ⟨"NineBoards$Lake", "hasThing", "(I)Z"⟩ prog_5_method_5_code 2 (some .boolean) ({ frames := 0, cells := 0, slots := 0, locals := 0 } : Room) [.ref (ad 0), .int v] [(ad 0, .inr (2, [.int (d.1 0), .int (d.1 1), .int (d.1 2), .int (d.1 3), .ref (ad 1), .int (d.1 4), .ref (ad 11), .ref (ad 12), .ref (ad 2), .ref (ad 3), .int (d.1 5), .int (d.1 6), .int (d.1 7), .int (d.1 8)])), (ad 2, .inr (8, [.int (d.1 10), .ref (ad 13), .ref (ad 14), .ref (ad 15), .ref (ad 16), .ref (ad 17), .ref (ad 18), .ref (ad 19)]))] (QI D [(ad 0, .inr (2, [.int (d.1 0), .int (d.1 1), .int (d.1 2), .int (d.1 3), .ref (ad 1), .int (d.1 4), .ref (ad 11), .ref (ad 12), .ref (ad 2), .ref (ad 3), .int (d.1 5), .int (d.1 6), .int (d.1 7), .int (d.1 8)])), (ad 2, .inr (8, [.int (d.1 10), .ref (ad 13), .ref (ad 14), .ref (ad 15), .ref (ad 16), .ref (ad 17), .ref (ad 18), .ref (ad 19)]))] (fun (r : Int32) (u : Unit) => r = 0 ∨ (r = 1 ∧ ∃ j : Nat, j < n10 ∧ v = nI j)) (fun _ => [(ad 0, .inr (2, [.int (d.1 0), .int (d.1 1), .int (d.1 2), .int (d.1 3), .ref (ad 1), .int (d.1 4), .ref (ad 11), .ref (ad 12), .ref (ad 2), .ref (ad 3), .int (d.1 5), .int (d.1 6), .int (d.1 7), .int (d.1 8)])), (ad 2, .inr (8, [.int (d.1 10), .ref (ad 13), .ref (ad 14), .ref (ad 15), .ref (ad 16), .ref (ad 17), .ref (ad 18), .ref (ad 19)]))])) := by
  refine CT.of (by decide) (nb rfl) ?_
  intro p e s m args below meth c C hr
  refine j_lv (lv' := [(0, .ref (ad 0)), (1, .int v)]) rfl ?_
  refine j_iload_n (pc := 0) C d_Lake_hasThing_0 rfl 1 rfl ?_
  refine j_if_lt (pc := 1) C (tgt := 19) d_Lake_hasThing_1 (by decide) (fun c1 => ?_) (fun c1 => ?_)
  · refine j_iconst (pc := 19) C (v := 0) d_Lake_hasThing_19 (by decide) ?_
    exact j_iret (pc := 20) C hr (by decide) () (by exact Or.inl rfl) [0, 1] rfl (by decide) (by decide) (by decide) d_Lake_hasThing_20
  · refine j_iload_n (pc := 4) C d_Lake_hasThing_4 rfl 1 rfl ?_
    refine j_aload_n (pc := 5) C d_Lake_hasThing_5 rfl 0 rfl ?_
    refine j_get (pc := 6) C gf_Lake_28 0 rfl rfl d_Lake_hasThing_6 ?_
    refine j_get (pc := 9) C gf_Lake_61 1 rfl rfl d_Lake_hasThing_9 ?_
    refine j_icmp_ge (pc := 12) C (tgt := 19) d_Lake_hasThing_12 (by decide) (fun c2 => ?_) (fun c2 => ?_)
    · refine j_iconst (pc := 19) C (v := 0) d_Lake_hasThing_19 (by decide) ?_
      exact j_iret (pc := 20) C hr (by decide) () (by exact Or.inl rfl) [0, 1] rfl (by decide) (by decide) (by decide) d_Lake_hasThing_20
    · refine j_iconst (pc := 15) C (v := 1) d_Lake_hasThing_15 (by decide) ?_
      refine j_goto (pc := 16) C (tgt := 20) d_Lake_hasThing_16 (by decide) ?_
      exact j_iret (pc := 20) C hr (by decide) () (by exact Or.inr ⟨rfl, nI_lt2 c1 (h10 ▸ c2) (by omega)⟩) [0, 1] rfl (by decide) (by decide) (by decide) d_Lake_hasThing_20
theorem d_Gates_named_2 : decode prog_4_method_2_code 2 = .ok (.iload_n 2, 1) := by decide +kernel
theorem d_Gates_named_3 : decode prog_4_method_2_code 3 = .ok (.aload_n 0, 1) := by decide +kernel
theorem d_Gates_named_4 : decode prog_4_method_2_code 4 = .ok (.getfield 33, 3) := by decide +kernel
theorem gf_Gates_33 : GF "NineBoards$Gates" 33 1 0 := ⟨_, _, _, rfl, ci_Gates, by decide, (mt_1 (List.mem_of_getElem? (i := 139) rfl) rfl)⟩
theorem d_Gates_named_7 : decode prog_4_method_2_code 7 = .ok (.if_icmp .ge 21, 3) := by decide +kernel
theorem d_Gates_named_10 : decode prog_4_method_2_code 10 = .ok (.aload_n 0, 1) := by decide +kernel
theorem d_Gates_named_11 : decode prog_4_method_2_code 11 = .ok (.getfield 9, 3) := by decide +kernel
theorem gf_Gates_9 : GF "NineBoards$Gates" 9 1 1 := ⟨_, _, _, rfl, ci_Gates, by decide, (mt_1 (List.mem_of_getElem? (i := 144) rfl) rfl)⟩
theorem d_Gates_named_14 : decode prog_4_method_2_code 14 = .ok (.iload_n 2, 1) := by decide +kernel
theorem d_Gates_named_15 : decode prog_4_method_2_code 15 = .ok (.iaload, 1) := by decide +kernel
theorem d_Gates_named_16 : decode prog_4_method_2_code 16 = .ok (.iload_n 1, 1) := by decide +kernel
theorem d_Gates_named_17 : decode prog_4_method_2_code 17 = .ok (.if_icmp .ne 5, 3) := by decide +kernel
theorem d_Gates_named_22 : decode prog_4_method_2_code 22 = .ok (.iinc 2 1, 3) := by decide +kernel
theorem d_Gates_named_25 : decode prog_4_method_2_code 25 = .ok (.goto (-23), 3) := by decide +kernel
theorem d_Gates_named_0 : decode prog_4_method_2_code 0 = .ok (.iconst 0, 1) := by decide +kernel
theorem d_Gates_named_1 : decode prog_4_method_2_code 1 = .ok (.istore_n 2, 1) := by decide +kernel
theorem d_Gates_named_28 : decode prog_4_method_2_code 28 = .ok (.iconst (-1), 1) := by decide +kernel
theorem d_Gates_named_29 : decode prog_4_method_2_code 29 = .ok (.ireturn, 1) := by decide +kernel
theorem d_Gates_named_20 : decode prog_4_method_2_code 20 = .ok (.iload_n 2, 1) := by decide +kernel
theorem d_Gates_named_21 : decode prog_4_method_2_code 21 = .ok (.ireturn, 1) := by decide +kernel
theorem d_Lake_villageNamed_2 : decode prog_5_method_6_code 2 = .ok (.iload_n 2, 1) := by decide +kernel
theorem d_Lake_villageNamed_3 : decode prog_5_method_6_code 3 = .ok (.aload_n 0, 1) := by decide +kernel
theorem d_Lake_villageNamed_4 : decode prog_5_method_6_code 4 = .ok (.getfield 58, 3) := by decide +kernel
theorem d_Lake_villageNamed_7 : decode prog_5_method_6_code 7 = .ok (.if_icmp .ge 21, 3) := by decide +kernel
theorem d_Lake_villageNamed_10 : decode prog_5_method_6_code 10 = .ok (.aload_n 0, 1) := by decide +kernel
theorem d_Lake_villageNamed_11 : decode prog_5_method_6_code 11 = .ok (.getfield 18, 3) := by decide +kernel
theorem gf_Lake_18 : GF "NineBoards$Lake" 18 2 6 := ⟨_, _, _, rfl, ci_Lake, by decide, (mt_2 (List.mem_of_getElem? (i := 51) rfl) rfl)⟩
theorem d_Lake_villageNamed_14 : decode prog_5_method_6_code 14 = .ok (.iload_n 2, 1) := by decide +kernel
theorem d_Lake_villageNamed_15 : decode prog_5_method_6_code 15 = .ok (.iaload, 1) := by decide +kernel
theorem d_Lake_villageNamed_16 : decode prog_5_method_6_code 16 = .ok (.iload_n 1, 1) := by decide +kernel
theorem d_Lake_villageNamed_17 : decode prog_5_method_6_code 17 = .ok (.if_icmp .ne 5, 3) := by decide +kernel
theorem d_Lake_villageNamed_22 : decode prog_5_method_6_code 22 = .ok (.iinc 2 1, 3) := by decide +kernel
theorem d_Lake_villageNamed_25 : decode prog_5_method_6_code 25 = .ok (.goto (-23), 3) := by decide +kernel
theorem d_Lake_villageNamed_0 : decode prog_5_method_6_code 0 = .ok (.iconst 0, 1) := by decide +kernel
theorem d_Lake_villageNamed_1 : decode prog_5_method_6_code 1 = .ok (.istore_n 2, 1) := by decide +kernel
theorem d_Lake_villageNamed_28 : decode prog_5_method_6_code 28 = .ok (.iconst (-1), 1) := by decide +kernel
theorem d_Lake_villageNamed_29 : decode prog_5_method_6_code 29 = .ok (.ireturn, 1) := by decide +kernel
theorem d_Lake_villageNamed_20 : decode prog_5_method_6_code 20 = .ok (.iload_n 2, 1) := by decide +kernel
theorem d_Lake_villageNamed_21 : decode prog_5_method_6_code 21 = .ok (.ireturn, 1) := by decide +kernel
theorem d_Gates_fullFlow_0 : decode prog_4_method_3_code 0 = .ok (.iconst 0, 1) := by decide +kernel
theorem d_Gates_fullFlow_1 : decode prog_4_method_3_code 1 = .ok (.iload_n 3, 1) := by decide +kernel
theorem d_Gates_fullFlow_2 : decode prog_4_method_3_code 2 = .ok (.iload_n 2, 1) := by decide +kernel
theorem d_Gates_fullFlow_3 : decode prog_4_method_3_code 3 = .ok (.isub, 1) := by decide +kernel
theorem d_Gates_fullFlow_4 : decode prog_4_method_3_code 4 = .ok (.invokestatic 37, 3) := by decide +kernel
theorem d_Gates_fullFlow_7 : decode prog_4_method_3_code 7 = .ok (.istore 5, 2) := by decide +kernel
theorem d_Gates_fullFlow_9 : decode prog_4_method_3_code 9 = .ok (.iload 5, 2) := by decide +kernel
theorem d_Gates_fullFlow_11 : decode prog_4_method_3_code 11 = .ok (.aload_n 0, 1) := by decide +kernel
theorem d_Gates_fullFlow_12 : decode prog_4_method_3_code 12 = .ok (.getfield 27, 3) := by decide +kernel
theorem gf_Gates_27 : GF "NineBoards$Gates" 27 1 6 := ⟨_, _, _, rfl, ci_Gates, by decide, (mt_1 (List.mem_of_getElem? (i := 157) rfl) rfl)⟩
theorem d_Gates_fullFlow_15 : decode prog_4_method_3_code 15 = .ok (.iload_n 1, 1) := by decide +kernel
theorem d_Gates_fullFlow_16 : decode prog_4_method_3_code 16 = .ok (.iaload, 1) := by decide +kernel
theorem d_Gates_fullFlow_17 : decode prog_4_method_3_code 17 = .ok (.imul, 1) := by decide +kernel
theorem d_Gates_fullFlow_18 : decode prog_4_method_3_code 18 = .ok (.istore 6, 2) := by decide +kernel
theorem d_Gates_fullFlow_20 : decode prog_4_method_3_code 20 = .ok (.aload_n 0, 1) := by decide +kernel
theorem d_Gates_fullFlow_21 : decode prog_4_method_3_code 21 = .ok (.getfield 15, 3) := by decide +kernel
theorem gf_Gates_15 : GF "NineBoards$Gates" 15 1 2 := ⟨_, _, _, rfl, ci_Gates, by decide, (mt_1 (List.mem_of_getElem? (i := 147) rfl) rfl)⟩
theorem d_Gates_fullFlow_24 : decode prog_4_method_3_code 24 = .ok (.iload_n 1, 1) := by decide +kernel
theorem d_Gates_fullFlow_25 : decode prog_4_method_3_code 25 = .ok (.iaload, 1) := by decide +kernel
theorem d_Gates_fullFlow_26 : decode prog_4_method_3_code 26 = .ok (.tableswitch 115 1 3 #[26, 49, 86], 26) := by decide +kernel
theorem d_Gates_fullFlow_52 : decode prog_4_method_3_code 52 = .ok (.iload_n 2, 1) := by decide +kernel
theorem d_Gates_fullFlow_53 : decode prog_4_method_3_code 53 = .ok (.ifCond .le 19, 3) := by decide +kernel
theorem d_Gates_fullFlow_72 : decode prog_4_method_3_code 72 = .ok (.iload 6, 2) := by decide +kernel
theorem d_Gates_fullFlow_74 : decode prog_4_method_3_code 74 = .ok (.ireturn, 1) := by decide +kernel
theorem d_Gates_fullFlow_56 : decode prog_4_method_3_code 56 = .ok (.iload_n 3, 1) := by decide +kernel
theorem d_Gates_fullFlow_57 : decode prog_4_method_3_code 57 = .ok (.ifCond .le 15, 3) := by decide +kernel
theorem d_Gates_fullFlow_60 : decode prog_4_method_3_code 60 = .ok (.iload 6, 2) := by decide +kernel
theorem d_Gates_fullFlow_62 : decode prog_4_method_3_code 62 = .ok (.aload_n 0, 1) := by decide +kernel
theorem d_Gates_fullFlow_63 : decode prog_4_method_3_code 63 = .ok (.getfield 18, 3) := by decide +kernel
theorem gf_Gates_18 : GF "NineBoards$Gates" 18 1 3 := ⟨_, _, _, rfl, ci_Gates, by decide, (mt_1 (List.mem_of_getElem? (i := 150) rfl) rfl)⟩
theorem d_Gates_fullFlow_66 : decode prog_4_method_3_code 66 = .ok (.iload_n 1, 1) := by decide +kernel
theorem d_Gates_fullFlow_67 : decode prog_4_method_3_code 67 = .ok (.iaload, 1) := by decide +kernel
theorem d_Gates_fullFlow_68 : decode prog_4_method_3_code 68 = .ok (.iadd, 1) := by decide +kernel
theorem d_Gates_fullFlow_69 : decode prog_4_method_3_code 69 = .ok (.goto 5, 3) := by decide +kernel
theorem d_Gates_fullFlow_75 : decode prog_4_method_3_code 75 = .ok (.aload_n 0, 1) := by decide +kernel
theorem d_Gates_fullFlow_76 : decode prog_4_method_3_code 76 = .ok (.getfield 18, 3) := by decide +kernel
theorem d_Gates_fullFlow_79 : decode prog_4_method_3_code 79 = .ok (.iload_n 1, 1) := by decide +kernel
theorem d_Gates_fullFlow_80 : decode prog_4_method_3_code 80 = .ok (.iaload, 1) := by decide +kernel
theorem d_Gates_fullFlow_81 : decode prog_4_method_3_code 81 = .ok (.ifCond .le 29, 3) := by decide +kernel
theorem d_Gates_fullFlow_110 : decode prog_4_method_3_code 110 = .ok (.iconst 0, 1) := by decide +kernel
theorem d_Gates_fullFlow_111 : decode prog_4_method_3_code 111 = .ok (.ireturn, 1) := by decide +kernel
theorem d_Gates_fullFlow_84 : decode prog_4_method_3_code 84 = .ok (.iload 5, 2) := by decide +kernel
theorem d_Gates_fullFlow_86 : decode prog_4_method_3_code 86 = .ok (.aload_n 0, 1) := by decide +kernel
theorem d_Gates_fullFlow_87 : decode prog_4_method_3_code 87 = .ok (.getfield 18, 3) := by decide +kernel
theorem d_Gates_fullFlow_90 : decode prog_4_method_3_code 90 = .ok (.iload_n 1, 1) := by decide +kernel
theorem d_Gates_fullFlow_91 : decode prog_4_method_3_code 91 = .ok (.iaload, 1) := by decide +kernel
theorem d_Gates_fullFlow_92 : decode prog_4_method_3_code 92 = .ok (.idiv, 1) := by decide +kernel
theorem d_Gates_fullFlow_93 : decode prog_4_method_3_code 93 = .ok (.aload_n 0, 1) := by decide +kernel
theorem d_Gates_fullFlow_94 : decode prog_4_method_3_code 94 = .ok (.getfield 18, 3) := by decide +kernel
theorem d_Gates_fullFlow_97 : decode prog_4_method_3_code 97 = .ok (.iload_n 1, 1) := by decide +kernel
theorem d_Gates_fullFlow_98 : decode prog_4_method_3_code 98 = .ok (.iaload, 1) := by decide +kernel
theorem d_Gates_fullFlow_99 : decode prog_4_method_3_code 99 = .ok (.imul, 1) := by decide +kernel
theorem d_Gates_fullFlow_100 : decode prog_4_method_3_code 100 = .ok (.aload_n 0, 1) := by decide +kernel
theorem d_Gates_fullFlow_101 : decode prog_4_method_3_code 101 = .ok (.getfield 27, 3) := by decide +kernel
theorem d_Gates_fullFlow_104 : decode prog_4_method_3_code 104 = .ok (.iload_n 1, 1) := by decide +kernel
theorem d_Gates_fullFlow_105 : decode prog_4_method_3_code 105 = .ok (.iaload, 1) := by decide +kernel
theorem d_Gates_fullFlow_106 : decode prog_4_method_3_code 106 = .ok (.imul, 1) := by decide +kernel
theorem d_Gates_fullFlow_107 : decode prog_4_method_3_code 107 = .ok (.goto 4, 3) := by decide +kernel
theorem d_Gates_fullFlow_112 : decode prog_4_method_3_code 112 = .ok (.iload 4, 2) := by decide +kernel
theorem d_Gates_fullFlow_114 : decode prog_4_method_3_code 114 = .ok (.aload_n 0, 1) := by decide +kernel
theorem d_Gates_fullFlow_115 : decode prog_4_method_3_code 115 = .ok (.getfield 18, 3) := by decide +kernel
theorem d_Gates_fullFlow_118 : decode prog_4_method_3_code 118 = .ok (.iload_n 1, 1) := by decide +kernel
theorem d_Gates_fullFlow_119 : decode prog_4_method_3_code 119 = .ok (.iaload, 1) := by decide +kernel
theorem d_Gates_fullFlow_120 : decode prog_4_method_3_code 120 = .ok (.if_icmp .lt 18, 3) := by decide +kernel
theorem d_Gates_fullFlow_138 : decode prog_4_method_3_code 138 = .ok (.iload 6, 2) := by decide +kernel
theorem d_Gates_fullFlow_140 : decode prog_4_method_3_code 140 = .ok (.ireturn, 1) := by decide +kernel
theorem d_Gates_fullFlow_123 : decode prog_4_method_3_code 123 = .ok (.iload 4, 2) := by decide +kernel
theorem d_Gates_fullFlow_125 : decode prog_4_method_3_code 125 = .ok (.aload_n 0, 1) := by decide +kernel
theorem d_Gates_fullFlow_126 : decode prog_4_method_3_code 126 = .ok (.getfield 21, 3) := by decide +kernel
theorem gf_Gates_21 : GF "NineBoards$Gates" 21 1 4 := ⟨_, _, _, rfl, ci_Gates, by decide, (mt_1 (List.mem_of_getElem? (i := 152) rfl) rfl)⟩
theorem d_Gates_fullFlow_129 : decode prog_4_method_3_code 129 = .ok (.iload_n 1, 1) := by decide +kernel
theorem d_Gates_fullFlow_130 : decode prog_4_method_3_code 130 = .ok (.iaload, 1) := by decide +kernel
theorem d_Gates_fullFlow_131 : decode prog_4_method_3_code 131 = .ok (.if_icmp .gt 7, 3) := by decide +kernel
theorem d_Gates_fullFlow_134 : decode prog_4_method_3_code 134 = .ok (.iconst 0, 1) := by decide +kernel
theorem d_Gates_fullFlow_135 : decode prog_4_method_3_code 135 = .ok (.goto 5, 3) := by decide +kernel
theorem to_1_3 {x : Int32} (h0 : ¬ x = 1) (h1 : ¬ x = 2) (h2 : ¬ x = 3) : x.toInt < 1 ∨ 3 < x.toInt := by
  have g0 : x.toInt ≠ 1 := fun e => h0 (Int32.toInt_inj.mp (e.trans (by decide)))
  have g1 : x.toInt ≠ 2 := fun e => h1 (Int32.toInt_inj.mp (e.trans (by decide)))
  have g2 : x.toInt ≠ 3 := fun e => h2 (Int32.toInt_inj.mp (e.trans (by decide)))
  omega
theorem d_Gates_fullFlow_141 : decode prog_4_method_3_code 141 = .ok (.iload 6, 2) := by decide +kernel
theorem d_Gates_fullFlow_143 : decode prog_4_method_3_code 143 = .ok (.ireturn, 1) := by decide +kernel
set_option maxHeartbeats 4000000 in
set_option maxRecDepth 100000 in
theorem c_fullFlow (l : Launch) (D : va_G) (y : Nat → ClassId) (ad : Nat → Nat) (d : LD) (j : Nat) (va : Int32) (vb : Int32) (vc : Int32) (hj : j < 9) : CT l D y ⟨"NineBoards$Gates", "fullFlow", "(IIII)I"⟩ prog_4_method_3_code 7 (some .int) ({ frames := 1, cells := 0, slots := 0, locals := 13 } : Room) [.ref (ad 1), .int (nI j), .int va, .int vb, .int vc] [(ad 1, .inr (1, [.int (d.1 9), .ref (ad 4), .ref (ad 5), .ref (ad 6), .ref (ad 7), .ref (ad 8), .ref (ad 9), .ref (ad 10)])), (ad 5, .inl (y 0, 9, .inl (d.2 1))), (ad 6, .inl (y 0, 9, .inl (d.2 2))), (ad 7, .inl (y 0, 9, .inl (d.2 3))), (ad 9, .inl (y 0, 9, .inl (d.2 5)))] (QI D [(ad 1, .inr (1, [.int (d.1 9), .ref (ad 4), .ref (ad 5), .ref (ad 6), .ref (ad 7), .ref (ad 8), .ref (ad 9), .ref (ad 10)])), (ad 5, .inl (y 0, 9, .inl (d.2 1))), (ad 6, .inl (y 0, 9, .inl (d.2 2))), (ad 7, .inl (y 0, 9, .inl (d.2 3))), (ad 9, .inl (y 0, 9, .inl (d.2 5)))] (fun (r : Int32) (u : Unit) => True) (fun _ => [(ad 1, .inr (1, [.int (d.1 9), .ref (ad 4), .ref (ad 5), .ref (ad 6), .ref (ad 7), .ref (ad 8), .ref (ad 9), .ref (ad 10)])), (ad 5, .inl (y 0, 9, .inl (d.2 1))), (ad 6, .inl (y 0, 9, .inl (d.2 2))), (ad 7, .inl (y 0, 9, .inl (d.2 3))), (ad 9, .inl (y 0, 9, .inl (d.2 5)))])) := by
  refine CT.of (by decide) (nb rfl) ?_
  intro p e s m args below meth c C hr
  refine j_lv (lv' := [(0, .ref (ad 1)), (1, .int (nI j)), (2, .int va), (3, .int vb), (4, .int vc)]) rfl ?_
  refine j_iconst (pc := 0) C (v := 0) d_Gates_fullFlow_0 (by decide) ?_
  refine j_iload_n (pc := 1) C d_Gates_fullFlow_1 rfl 3 rfl ?_
  refine j_iload_n (pc := 2) C d_Gates_fullFlow_2 rfl 2 rfl ?_
  refine j_isub (pc := 3) C (v := vb - va) d_Gates_fullFlow_3 rfl ?_
  refine j_mmax (pc := 4) C (mt_4 (List.mem_of_getElem? (i := 11) rfl) rfl) (mt_1 (List.mem_of_getElem? (i := 34) rfl) rfl) (mt_1 (List.mem_of_getElem? (i := 3) rfl) rfl) (mt_1 (List.mem_of_getElem? (i := 35) rfl) rfl) (v := if 0 < vb - va then vb - va else 0) rfl (by decide) (nb rfl) (by decide) (by decide) d_Gates_fullFlow_4 ?_
  refine j_istore (pc := 7) C (lv' := [(5, .int (if 0 < vb - va then vb - va else 0)), (0, .ref (ad 1)), (1, .int (nI j)), (2, .int va), (3, .int vb), (4, .int vc)]) d_Gates_fullFlow_7 (by decide) rfl ?_
  refine j_iload (pc := 9) C d_Gates_fullFlow_9 0 rfl ?_
  refine j_aload_n (pc := 11) C d_Gates_fullFlow_11 rfl 1 rfl ?_
  refine j_get (pc := 12) C gf_Gates_27 0 rfl rfl d_Gates_fullFlow_12 ?_
  refine j_iload_n (pc := 15) C d_Gates_fullFlow_15 rfl 2 rfl ?_
  refine j_iald (pc := 16) C 4 rfl (v := (d.2 5) (nI j).toNatClampNeg) (vp_in_nI hj (by decide)) rfl d_Gates_fullFlow_16 ?_
  refine j_imul (pc := 17) C (v := (if 0 < vb - va then vb - va else 0) * ((d.2 5) (nI j).toNatClampNeg)) d_Gates_fullFlow_17 rfl ?_
  refine j_istore (pc := 18) C (lv' := [(6, .int ((if 0 < vb - va then vb - va else 0) * ((d.2 5) (nI j).toNatClampNeg))), (5, .int (if 0 < vb - va then vb - va else 0)), (0, .ref (ad 1)), (1, .int (nI j)), (2, .int va), (3, .int vb), (4, .int vc)]) d_Gates_fullFlow_18 (by decide) rfl ?_
  refine j_aload_n (pc := 20) C d_Gates_fullFlow_20 rfl 2 rfl ?_
  refine j_get (pc := 21) C gf_Gates_15 0 rfl rfl d_Gates_fullFlow_21 ?_
  refine j_iload_n (pc := 24) C d_Gates_fullFlow_24 rfl 3 rfl ?_
  refine j_iald (pc := 25) C 1 rfl (v := (d.2 1) (nI j).toNatClampNeg) (vp_in_nI hj (by decide)) rfl d_Gates_fullFlow_25 ?_
  by_cases c1_0 : (d.2 1) (nI j).toNatClampNeg = 1
  · refine j_tabIn (pc := 26) C (off := 26) (tgt := 52) d_Gates_fullFlow_26 (by rw [c1_0]; decide) (by rw [c1_0]; decide) (by rw [c1_0]; decide) (by decide) ?_
    refine j_iload_n (pc := 52) C d_Gates_fullFlow_52 rfl 4 rfl ?_
    refine j_if_le (pc := 53) C (tgt := 72) d_Gates_fullFlow_53 (by decide) (fun c2 => ?_) (fun c2 => ?_)
    · refine j_iload (pc := 72) C d_Gates_fullFlow_72 0 rfl ?_
      exact j_iret (pc := 74) C hr rfl () trivial [0, 1, 2, 3, 4] rfl (by decide) (by decide) (by decide) d_Gates_fullFlow_74
    · refine j_iload_n (pc := 56) C d_Gates_fullFlow_56 rfl 5 rfl ?_
      refine j_if_le (pc := 57) C (tgt := 72) d_Gates_fullFlow_57 (by decide) (fun c3 => ?_) (fun c3 => ?_)
      · refine j_iload (pc := 72) C d_Gates_fullFlow_72 0 rfl ?_
        exact j_iret (pc := 74) C hr rfl () trivial [0, 1, 2, 3, 4] rfl (by decide) (by decide) (by decide) d_Gates_fullFlow_74
      · refine j_iload (pc := 60) C d_Gates_fullFlow_60 0 rfl ?_
        refine j_aload_n (pc := 62) C d_Gates_fullFlow_62 rfl 2 rfl ?_
        refine j_get (pc := 63) C gf_Gates_18 0 rfl rfl d_Gates_fullFlow_63 ?_
        refine j_iload_n (pc := 66) C d_Gates_fullFlow_66 rfl 3 rfl ?_
        refine j_iald (pc := 67) C 2 rfl (v := (d.2 2) (nI j).toNatClampNeg) (vp_in_nI hj (by decide)) rfl d_Gates_fullFlow_67 ?_
        refine j_iadd (pc := 68) C (v := ((if 0 < vb - va then vb - va else 0) * ((d.2 5) (nI j).toNatClampNeg)) + ((d.2 2) (nI j).toNatClampNeg)) d_Gates_fullFlow_68 rfl ?_
        refine j_goto (pc := 69) C (tgt := 74) d_Gates_fullFlow_69 (by decide) ?_
        exact j_iret (pc := 74) C hr rfl () trivial [0, 1, 2, 3, 4] rfl (by decide) (by decide) (by decide) d_Gates_fullFlow_74
  · by_cases c1_1 : (d.2 1) (nI j).toNatClampNeg = 2
    · refine j_tabIn (pc := 26) C (off := 49) (tgt := 75) d_Gates_fullFlow_26 (by rw [c1_1]; decide) (by rw [c1_1]; decide) (by rw [c1_1]; decide) (by decide) ?_
      refine j_aload_n (pc := 75) C d_Gates_fullFlow_75 rfl 2 rfl ?_
      refine j_get (pc := 76) C gf_Gates_18 0 rfl rfl d_Gates_fullFlow_76 ?_
      refine j_iload_n (pc := 79) C d_Gates_fullFlow_79 rfl 3 rfl ?_
      refine j_iald (pc := 80) C 2 rfl (v := (d.2 2) (nI j).toNatClampNeg) (vp_in_nI hj (by decide)) rfl d_Gates_fullFlow_80 ?_
      refine j_if_le (pc := 81) C (tgt := 110) d_Gates_fullFlow_81 (by decide) (fun c4 => ?_) (fun c4 => ?_)
      · refine j_iconst (pc := 110) C (v := 0) d_Gates_fullFlow_110 (by decide) ?_
        exact j_iret (pc := 111) C hr rfl () trivial [0, 1, 2, 3, 4] rfl (by decide) (by decide) (by decide) d_Gates_fullFlow_111
      · refine j_iload (pc := 84) C d_Gates_fullFlow_84 1 rfl ?_
        refine j_aload_n (pc := 86) C d_Gates_fullFlow_86 rfl 2 rfl ?_
        refine j_get (pc := 87) C gf_Gates_18 0 rfl rfl d_Gates_fullFlow_87 ?_
        refine j_iload_n (pc := 90) C d_Gates_fullFlow_90 rfl 3 rfl ?_
        refine j_iald (pc := 91) C 2 rfl (v := (d.2 2) (nI j).toNatClampNeg) (vp_in_nI hj (by decide)) rfl d_Gates_fullFlow_91 ?_
        refine j_idiv (pc := 92) C (v := (if 0 < vb - va then vb - va else 0) / ((d.2 2) (nI j).toNatClampNeg)) d_Gates_fullFlow_92 (fun e => c4 (by rw [e]; decide)) rfl ?_
        refine j_aload_n (pc := 93) C d_Gates_fullFlow_93 rfl 2 rfl ?_
        refine j_get (pc := 94) C gf_Gates_18 0 rfl rfl d_Gates_fullFlow_94 ?_
        refine j_iload_n (pc := 97) C d_Gates_fullFlow_97 rfl 3 rfl ?_
        refine j_iald (pc := 98) C 2 rfl (v := (d.2 2) (nI j).toNatClampNeg) (vp_in_nI hj (by decide)) rfl d_Gates_fullFlow_98 ?_
        refine j_imul (pc := 99) C (v := ((if 0 < vb - va then vb - va else 0) / ((d.2 2) (nI j).toNatClampNeg)) * ((d.2 2) (nI j).toNatClampNeg)) d_Gates_fullFlow_99 rfl ?_
        refine j_aload_n (pc := 100) C d_Gates_fullFlow_100 rfl 2 rfl ?_
        refine j_get (pc := 101) C gf_Gates_27 0 rfl rfl d_Gates_fullFlow_101 ?_
        refine j_iload_n (pc := 104) C d_Gates_fullFlow_104 rfl 3 rfl ?_
        refine j_iald (pc := 105) C 4 rfl (v := (d.2 5) (nI j).toNatClampNeg) (vp_in_nI hj (by decide)) rfl d_Gates_fullFlow_105 ?_
        refine j_imul (pc := 106) C (v := (((if 0 < vb - va then vb - va else 0) / ((d.2 2) (nI j).toNatClampNeg)) * ((d.2 2) (nI j).toNatClampNeg)) * ((d.2 5) (nI j).toNatClampNeg)) d_Gates_fullFlow_106 rfl ?_
        refine j_goto (pc := 107) C (tgt := 111) d_Gates_fullFlow_107 (by decide) ?_
        exact j_iret (pc := 111) C hr rfl () trivial [0, 1, 2, 3, 4] rfl (by decide) (by decide) (by decide) d_Gates_fullFlow_111
    · by_cases c1_2 : (d.2 1) (nI j).toNatClampNeg = 3
      · refine j_tabIn (pc := 26) C (off := 86) (tgt := 112) d_Gates_fullFlow_26 (by rw [c1_2]; decide) (by rw [c1_2]; decide) (by rw [c1_2]; decide) (by decide) ?_
        refine j_iload (pc := 112) C d_Gates_fullFlow_112 6 rfl ?_
        refine j_aload_n (pc := 114) C d_Gates_fullFlow_114 rfl 2 rfl ?_
        refine j_get (pc := 115) C gf_Gates_18 0 rfl rfl d_Gates_fullFlow_115 ?_
        refine j_iload_n (pc := 118) C d_Gates_fullFlow_118 rfl 3 rfl ?_
        refine j_iald (pc := 119) C 2 rfl (v := (d.2 2) (nI j).toNatClampNeg) (vp_in_nI hj (by decide)) rfl d_Gates_fullFlow_119 ?_
        refine j_icmp_lt (pc := 120) C (tgt := 138) d_Gates_fullFlow_120 (by decide) (fun c5 => ?_) (fun c5 => ?_)
        · refine j_iload (pc := 138) C d_Gates_fullFlow_138 0 rfl ?_
          exact j_iret (pc := 140) C hr rfl () trivial [0, 1, 2, 3, 4] rfl (by decide) (by decide) (by decide) d_Gates_fullFlow_140
        · refine j_iload (pc := 123) C d_Gates_fullFlow_123 6 rfl ?_
          refine j_aload_n (pc := 125) C d_Gates_fullFlow_125 rfl 2 rfl ?_
          refine j_get (pc := 126) C gf_Gates_21 0 rfl rfl d_Gates_fullFlow_126 ?_
          refine j_iload_n (pc := 129) C d_Gates_fullFlow_129 rfl 3 rfl ?_
          refine j_iald (pc := 130) C 3 rfl (v := (d.2 3) (nI j).toNatClampNeg) (vp_in_nI hj (by decide)) rfl d_Gates_fullFlow_130 ?_
          refine j_icmp_gt (pc := 131) C (tgt := 138) d_Gates_fullFlow_131 (by decide) (fun c6 => ?_) (fun c6 => ?_)
          · refine j_iload (pc := 138) C d_Gates_fullFlow_138 0 rfl ?_
            exact j_iret (pc := 140) C hr rfl () trivial [0, 1, 2, 3, 4] rfl (by decide) (by decide) (by decide) d_Gates_fullFlow_140
          · refine j_iconst (pc := 134) C (v := 0) d_Gates_fullFlow_134 (by decide) ?_
            refine j_goto (pc := 135) C (tgt := 140) d_Gates_fullFlow_135 (by decide) ?_
            exact j_iret (pc := 140) C hr rfl () trivial [0, 1, 2, 3, 4] rfl (by decide) (by decide) (by decide) d_Gates_fullFlow_140
      · refine j_tabOut (pc := 26) C (tgt := 141) d_Gates_fullFlow_26 (by exact to_1_3 c1_0 c1_1 c1_2) (by decide) ?_
        refine j_iload (pc := 141) C d_Gates_fullFlow_141 0 rfl ?_
        exact j_iret (pc := 143) C hr rfl () trivial [0, 1, 2, 3, 4] rfl (by decide) (by decide) (by decide) d_Gates_fullFlow_143
theorem d_Things_isServed_0 : decode prog_11_method_2_code 0 = .ok (.iload_n 2, 1) := by decide +kernel
theorem d_Things_isServed_1 : decode prog_11_method_2_code 1 = .ok (.aload_n 0, 1) := by decide +kernel
theorem d_Things_isServed_2 : decode prog_11_method_2_code 2 = .ok (.getfield 24, 3) := by decide +kernel
theorem gf_Things_24 : GF "NineBoards$Things" 24 8 5 := ⟨_, _, _, rfl, ci_Things, by decide, (mt_1 (List.mem_of_getElem? (i := 202) rfl) rfl)⟩
theorem d_Things_isServed_5 : decode prog_11_method_2_code 5 = .ok (.iload_n 1, 1) := by decide +kernel
theorem d_Things_isServed_6 : decode prog_11_method_2_code 6 = .ok (.iaload, 1) := by decide +kernel
theorem d_Things_isServed_7 : decode prog_11_method_2_code 7 = .ok (.if_icmp .lt 17, 3) := by decide +kernel
theorem d_Things_isServed_24 : decode prog_11_method_2_code 24 = .ok (.iconst 0, 1) := by decide +kernel
theorem d_Things_isServed_25 : decode prog_11_method_2_code 25 = .ok (.istore 4, 2) := by decide +kernel
theorem d_Things_isServed_27 : decode prog_11_method_2_code 27 = .ok (.iload 4, 2) := by decide +kernel
theorem d_Things_isServed_29 : decode prog_11_method_2_code 29 = .ok (.ifCond .eq 27, 3) := by decide +kernel
theorem d_Things_isServed_56 : decode prog_11_method_2_code 56 = .ok (.iconst 0, 1) := by decide +kernel
theorem d_Things_isServed_57 : decode prog_11_method_2_code 57 = .ok (.ireturn, 1) := by decide +kernel
theorem d_Things_isServed_10 : decode prog_11_method_2_code 10 = .ok (.iload_n 2, 1) := by decide +kernel
theorem d_Things_isServed_11 : decode prog_11_method_2_code 11 = .ok (.aload_n 0, 1) := by decide +kernel
theorem d_Things_isServed_12 : decode prog_11_method_2_code 12 = .ok (.getfield 27, 3) := by decide +kernel
theorem gf_Things_27 : GF "NineBoards$Things" 27 8 6 := ⟨_, _, _, rfl, ci_Things, by decide, (mt_1 (List.mem_of_getElem? (i := 204) rfl) rfl)⟩
theorem d_Things_isServed_15 : decode prog_11_method_2_code 15 = .ok (.iload_n 1, 1) := by decide +kernel
theorem d_Things_isServed_16 : decode prog_11_method_2_code 16 = .ok (.iaload, 1) := by decide +kernel
theorem d_Things_isServed_17 : decode prog_11_method_2_code 17 = .ok (.if_icmp .gt 7, 3) := by decide +kernel
theorem d_Things_isServed_20 : decode prog_11_method_2_code 20 = .ok (.iconst 1, 1) := by decide +kernel
theorem d_Things_isServed_21 : decode prog_11_method_2_code 21 = .ok (.goto 4, 3) := by decide +kernel
theorem d_Things_isServed_32 : decode prog_11_method_2_code 32 = .ok (.iload_n 3, 1) := by decide +kernel
theorem d_Things_isServed_33 : decode prog_11_method_2_code 33 = .ok (.aload_n 0, 1) := by decide +kernel
theorem d_Things_isServed_34 : decode prog_11_method_2_code 34 = .ok (.getfield 18, 3) := by decide +kernel
theorem gf_Things_18 : GF "NineBoards$Things" 18 8 3 := ⟨_, _, _, rfl, ci_Things, by decide, (mt_1 (List.mem_of_getElem? (i := 198) rfl) rfl)⟩
theorem d_Things_isServed_37 : decode prog_11_method_2_code 37 = .ok (.iload_n 1, 1) := by decide +kernel
theorem d_Things_isServed_38 : decode prog_11_method_2_code 38 = .ok (.iaload, 1) := by decide +kernel
theorem d_Things_isServed_39 : decode prog_11_method_2_code 39 = .ok (.if_icmp .lt 17, 3) := by decide +kernel
theorem d_Things_isServed_42 : decode prog_11_method_2_code 42 = .ok (.iload_n 3, 1) := by decide +kernel
theorem d_Things_isServed_43 : decode prog_11_method_2_code 43 = .ok (.aload_n 0, 1) := by decide +kernel
theorem d_Things_isServed_44 : decode prog_11_method_2_code 44 = .ok (.getfield 21, 3) := by decide +kernel
theorem gf_Things_21 : GF "NineBoards$Things" 21 8 4 := ⟨_, _, _, rfl, ci_Things, by decide, (mt_1 (List.mem_of_getElem? (i := 200) rfl) rfl)⟩
theorem d_Things_isServed_47 : decode prog_11_method_2_code 47 = .ok (.iload_n 1, 1) := by decide +kernel
theorem d_Things_isServed_48 : decode prog_11_method_2_code 48 = .ok (.iaload, 1) := by decide +kernel
theorem d_Things_isServed_49 : decode prog_11_method_2_code 49 = .ok (.if_icmp .gt 7, 3) := by decide +kernel
theorem d_Things_isServed_52 : decode prog_11_method_2_code 52 = .ok (.iconst 1, 1) := by decide +kernel
theorem d_Things_isServed_53 : decode prog_11_method_2_code 53 = .ok (.goto 4, 3) := by decide +kernel
set_option maxHeartbeats 4000000 in
set_option maxRecDepth 100000 in
theorem c_isServed (l : Launch) (D : va_G) (y : Nat → ClassId) (ad : Nat → Nat) (d : LD) (j : Nat) (va : Int32) (vb : Int32) (hj : j < 16) : CT l D y ⟨"NineBoards$Things", "isServed", "(III)Z"⟩ prog_11_method_2_code 5 (some .boolean) ({ frames := 0, cells := 0, slots := 0, locals := 0 } : Room) [.ref (ad 2), .int (nI j), .int va, .int vb] [(ad 2, .inr (8, [.int (d.1 10), .ref (ad 13), .ref (ad 14), .ref (ad 15), .ref (ad 16), .ref (ad 17), .ref (ad 18), .ref (ad 19)])), (ad 15, .inl (y 0, 16, .inl (d.2 11))), (ad 16, .inl (y 0, 16, .inl (d.2 12))), (ad 17, .inl (y 0, 16, .inl (d.2 13))), (ad 18, .inl (y 0, 16, .inl (d.2 14)))] (QI D [(ad 2, .inr (8, [.int (d.1 10), .ref (ad 13), .ref (ad 14), .ref (ad 15), .ref (ad 16), .ref (ad 17), .ref (ad 18), .ref (ad 19)])), (ad 15, .inl (y 0, 16, .inl (d.2 11))), (ad 16, .inl (y 0, 16, .inl (d.2 12))), (ad 17, .inl (y 0, 16, .inl (d.2 13))), (ad 18, .inl (y 0, 16, .inl (d.2 14)))] (fun (r : Int32) (u : Unit) => r = 0 ∨ r = 1) (fun _ => [(ad 2, .inr (8, [.int (d.1 10), .ref (ad 13), .ref (ad 14), .ref (ad 15), .ref (ad 16), .ref (ad 17), .ref (ad 18), .ref (ad 19)])), (ad 15, .inl (y 0, 16, .inl (d.2 11))), (ad 16, .inl (y 0, 16, .inl (d.2 12))), (ad 17, .inl (y 0, 16, .inl (d.2 13))), (ad 18, .inl (y 0, 16, .inl (d.2 14)))])) := by
  refine CT.of (by decide) (nb rfl) ?_
  intro p e s m args below meth c C hr
  refine j_lv (lv' := [(0, .ref (ad 2)), (1, .int (nI j)), (2, .int va), (3, .int vb)]) rfl ?_
  refine j_iload_n (pc := 0) C d_Things_isServed_0 rfl 2 rfl ?_
  refine j_aload_n (pc := 1) C d_Things_isServed_1 rfl 0 rfl ?_
  refine j_get (pc := 2) C gf_Things_24 0 rfl rfl d_Things_isServed_2 ?_
  refine j_iload_n (pc := 5) C d_Things_isServed_5 rfl 1 rfl ?_
  refine j_iald (pc := 6) C 3 rfl (v := (d.2 13) (nI j).toNatClampNeg) (vp_in_nI hj (by decide)) rfl d_Things_isServed_6 ?_
  refine j_icmp_lt (pc := 7) C (tgt := 24) d_Things_isServed_7 (by decide) (fun c1 => ?_) (fun c1 => ?_)
  · refine j_iconst (pc := 24) C (v := 0) d_Things_isServed_24 (by decide) ?_
    refine j_istore (pc := 25) C (lv' := [(4, .int 0), (0, .ref (ad 2)), (1, .int (nI j)), (2, .int va), (3, .int vb)]) d_Things_isServed_25 (by decide) rfl ?_
    refine j_iload (pc := 27) C d_Things_isServed_27 0 rfl ?_
    refine j_if_eqT (pc := 29) C (tgt := 56) d_Things_isServed_29 (by decide) (by decide) ?_
    refine j_iconst (pc := 56) C (v := 0) d_Things_isServed_56 (by decide) ?_
    exact j_iret (pc := 57) C hr (by decide) () (by decide) [0, 1, 2, 3, 4] rfl (by decide) (by decide) (by decide) d_Things_isServed_57
  · refine j_iload_n (pc := 10) C d_Things_isServed_10 rfl 2 rfl ?_
    refine j_aload_n (pc := 11) C d_Things_isServed_11 rfl 0 rfl ?_
    refine j_get (pc := 12) C gf_Things_27 0 rfl rfl d_Things_isServed_12 ?_
    refine j_iload_n (pc := 15) C d_Things_isServed_15 rfl 1 rfl ?_
    refine j_iald (pc := 16) C 4 rfl (v := (d.2 14) (nI j).toNatClampNeg) (vp_in_nI hj (by decide)) rfl d_Things_isServed_16 ?_
    refine j_icmp_gt (pc := 17) C (tgt := 24) d_Things_isServed_17 (by decide) (fun c2 => ?_) (fun c2 => ?_)
    · refine j_iconst (pc := 24) C (v := 0) d_Things_isServed_24 (by decide) ?_
      refine j_istore (pc := 25) C (lv' := [(4, .int 0), (0, .ref (ad 2)), (1, .int (nI j)), (2, .int va), (3, .int vb)]) d_Things_isServed_25 (by decide) rfl ?_
      refine j_iload (pc := 27) C d_Things_isServed_27 0 rfl ?_
      refine j_if_eqT (pc := 29) C (tgt := 56) d_Things_isServed_29 (by decide) (by decide) ?_
      refine j_iconst (pc := 56) C (v := 0) d_Things_isServed_56 (by decide) ?_
      exact j_iret (pc := 57) C hr (by decide) () (by decide) [0, 1, 2, 3, 4] rfl (by decide) (by decide) (by decide) d_Things_isServed_57
    · refine j_iconst (pc := 20) C (v := 1) d_Things_isServed_20 (by decide) ?_
      refine j_goto (pc := 21) C (tgt := 25) d_Things_isServed_21 (by decide) ?_
      refine j_istore (pc := 25) C (lv' := [(4, .int 1), (0, .ref (ad 2)), (1, .int (nI j)), (2, .int va), (3, .int vb)]) d_Things_isServed_25 (by decide) rfl ?_
      refine j_iload (pc := 27) C d_Things_isServed_27 0 rfl ?_
      refine j_if_eqF (pc := 29) C (tgt := 56) d_Things_isServed_29 (by decide) (by decide) ?_
      refine j_iload_n (pc := 32) C d_Things_isServed_32 rfl 4 rfl ?_
      refine j_aload_n (pc := 33) C d_Things_isServed_33 rfl 1 rfl ?_
      refine j_get (pc := 34) C gf_Things_18 0 rfl rfl d_Things_isServed_34 ?_
      refine j_iload_n (pc := 37) C d_Things_isServed_37 rfl 2 rfl ?_
      refine j_iald (pc := 38) C 1 rfl (v := (d.2 11) (nI j).toNatClampNeg) (vp_in_nI hj (by decide)) rfl d_Things_isServed_38 ?_
      refine j_icmp_lt (pc := 39) C (tgt := 56) d_Things_isServed_39 (by decide) (fun c3 => ?_) (fun c3 => ?_)
      · refine j_iconst (pc := 56) C (v := 0) d_Things_isServed_56 (by decide) ?_
        exact j_iret (pc := 57) C hr (by decide) () (by decide) [0, 1, 2, 3, 4] rfl (by decide) (by decide) (by decide) d_Things_isServed_57
      · refine j_iload_n (pc := 42) C d_Things_isServed_42 rfl 4 rfl ?_
        refine j_aload_n (pc := 43) C d_Things_isServed_43 rfl 1 rfl ?_
        refine j_get (pc := 44) C gf_Things_21 0 rfl rfl d_Things_isServed_44 ?_
        refine j_iload_n (pc := 47) C d_Things_isServed_47 rfl 2 rfl ?_
        refine j_iald (pc := 48) C 2 rfl (v := (d.2 12) (nI j).toNatClampNeg) (vp_in_nI hj (by decide)) rfl d_Things_isServed_48 ?_
        refine j_icmp_gt (pc := 49) C (tgt := 56) d_Things_isServed_49 (by decide) (fun c4 => ?_) (fun c4 => ?_)
        · refine j_iconst (pc := 56) C (v := 0) d_Things_isServed_56 (by decide) ?_
          exact j_iret (pc := 57) C hr (by decide) () (by decide) [0, 1, 2, 3, 4] rfl (by decide) (by decide) (by decide) d_Things_isServed_57
        · refine j_iconst (pc := 52) C (v := 1) d_Things_isServed_52 (by decide) ?_
          refine j_goto (pc := 53) C (tgt := 57) d_Things_isServed_53 (by decide) ?_
          exact j_iret (pc := 57) C hr (by decide) () (by decide) [0, 1, 2, 3, 4] rfl (by decide) (by decide) (by decide) d_Things_isServed_57
