theorem Met_ofWF {l : Launch} {y : MethodName} {ws ws' : List Cond} {rm : Room} {Pc : Array Value → State → Prop} {Qc : Array Value → State → Outcome → State → Prop} {mc ms : Nat} {free : Addr → Prop} {cc : ByteArray} {maxL : Nat} {ret : Option FieldType}
    (hy : plainFor y = true) (hw : ws = Cond.code y cc maxL ret :: ws')
    (body : ∀ p e s m args below meth c s₁, BodyLoose p l y (headSpec ws rm) cc maxL ret e s m args below meth c s₁ → c.maxLocals = maxL → Pc args s →
      W p l e (headSpec ws rm).room s m args below meth c s.heap [] 0 0 (MQ below Qc args s mc ms free) (entryFrame m args maxL)) : Met l y ws rm Pc Qc mc ms free := by
  refine MetFree.of_bodySF (code := cc) (maxLocals := maxL) (ret := ret) hy ?_ ?_
  · intro args s m h hn
    obtain ⟨meth, c, h1, h2, h3, h4, h5, h6, -, -⟩ := Cond.code_spec hn (atoms_spec (ws := ws) h _ (by rw [hw]; exact List.mem_cons_self))
    exact ⟨meth, c, h1, h2, h3, h4, h5, h6⟩
  · intro p e s m args below meth c s₁ B hml hP _
    have hh0 : s₁.heap = s.heap := by rw [B.state]; rfl
    obtain ⟨t, a1, o, b1, b2, b3⟩ := body p e s m args below meth c s₁ B hml hP s₁ hh0 (Stand.of_body B)
    exact ⟨t, o, a1, b1, b2, ⟨b3.1, b3.2⟩⟩
theorem CT_ofF {l : Launch} {D : va_G} {y : Nat → ClassId} {nm : MethodName} {b : ByteArray} {mL : Nat} {ret : Option FieldType} {rm : Room} {av : List Value} {ws : va_W} {Qf : Nat → Array Value → State → Outcome → State → Prop} (hy : plainFor nm = true) (hav : (lg_sl av).length ≤ mL)
    (body : ∀ (p : Program) (e : Env) (s : State) (m : MethodId) (args : Array Value) (below : List Frame) (meth : Method) (c : Code), Cx p s m args meth c D y (va_A ws s.heap.size) b mL nm.cls nm.name → meth.sig.returnType = ret → J p l e rm s m args below meth c (MQ below (Qf s.heap.size) args s rm.cells rm.slots (va_A ws s.heap.size)) D (va_A ws s.heap.size) mL ws (lv_args 0 av) 0 0 0 []) : CT l D y nm b mL ret rm av ws Qf := by
  intro sz
  refine Met_ofWF (cc := b) (maxL := mL) (ret := ret) hy rfl ?_
  intro p e s m args below meth c s₁ B hml hv
  obtain ⟨rfl, hsz, hP, hK, hD0, hN⟩ := hv
  subst hsz
  have hts := atoms_spec (ws := Cond.code nm b mL ret :: TB) B.pre
  have hC : Cx p s m av.toArray meth c D y (va_A ws s.heap.size) b mL nm.cls nm.name := ⟨B.exec, B.bytes, hml, findClass_of_methodNamed B.named, fun w h => hts w (List.mem_cons_of_mem _ h), hK, fun q h => Or.inr h, B.notSynchronized, (name_of_methodNamed B.named B.method).1, hN⟩
  have hl := lv_entry av (n := mL) hav
  rw [lg_entry_eq]
  exact body p e s m av.toArray below meth c hC B.returns s.heap [] _ hP hD0.self va_S.rf hl
theorem d_Math_floorDiv_0 : decode prog_14_method_47_code 0 = .ok (.iload_n 0, 1) := by decide +kernel
theorem d_Math_floorDiv_1 : decode prog_14_method_47_code 1 = .ok (.iload_n 1, 1) := by decide +kernel
theorem d_Math_floorDiv_2 : decode prog_14_method_47_code 2 = .ok (.idiv, 1) := by decide +kernel
theorem d_Math_floorDiv_3 : decode prog_14_method_47_code 3 = .ok (.istore_n 2, 1) := by decide +kernel
theorem d_Math_floorDiv_4 : decode prog_14_method_47_code 4 = .ok (.iload_n 0, 1) := by decide +kernel
theorem d_Math_floorDiv_5 : decode prog_14_method_47_code 5 = .ok (.iload_n 1, 1) := by decide +kernel
theorem d_Math_floorDiv_6 : decode prog_14_method_47_code 6 = .ok (.ixor, 1) := by decide +kernel
theorem d_Math_floorDiv_7 : decode prog_14_method_47_code 7 = .ok (.ifCond .ge 14, 3) := by decide +kernel
theorem d_Math_floorDiv_21 : decode prog_14_method_47_code 21 = .ok (.iload_n 2, 1) := by decide +kernel
theorem d_Math_floorDiv_22 : decode prog_14_method_47_code 22 = .ok (.ireturn, 1) := by decide +kernel
theorem d_Math_floorDiv_10 : decode prog_14_method_47_code 10 = .ok (.iload_n 2, 1) := by decide +kernel
theorem d_Math_floorDiv_11 : decode prog_14_method_47_code 11 = .ok (.iload_n 1, 1) := by decide +kernel
theorem d_Math_floorDiv_12 : decode prog_14_method_47_code 12 = .ok (.imul, 1) := by decide +kernel
theorem d_Math_floorDiv_13 : decode prog_14_method_47_code 13 = .ok (.iload_n 0, 1) := by decide +kernel
theorem d_Math_floorDiv_14 : decode prog_14_method_47_code 14 = .ok (.if_icmp .eq 7, 3) := by decide +kernel
theorem d_Math_floorDiv_17 : decode prog_14_method_47_code 17 = .ok (.iload_n 2, 1) := by decide +kernel
theorem d_Math_floorDiv_18 : decode prog_14_method_47_code 18 = .ok (.iconst 1, 1) := by decide +kernel
theorem d_Math_floorDiv_19 : decode prog_14_method_47_code 19 = .ok (.isub, 1) := by decide +kernel
theorem d_Math_floorDiv_20 : decode prog_14_method_47_code 20 = .ok (.ireturn, 1) := by decide +kernel
theorem d_Math_floorMod_0 : decode prog_14_method_50_code 0 = .ok (.iload_n 0, 1) := by decide +kernel
theorem d_Math_floorMod_1 : decode prog_14_method_50_code 1 = .ok (.iload_n 1, 1) := by decide +kernel
theorem d_Math_floorMod_2 : decode prog_14_method_50_code 2 = .ok (.irem, 1) := by decide +kernel
theorem d_Math_floorMod_3 : decode prog_14_method_50_code 3 = .ok (.istore_n 2, 1) := by decide +kernel
theorem d_Math_floorMod_4 : decode prog_14_method_50_code 4 = .ok (.iload_n 0, 1) := by decide +kernel
theorem d_Math_floorMod_5 : decode prog_14_method_50_code 5 = .ok (.iload_n 1, 1) := by decide +kernel
theorem d_Math_floorMod_6 : decode prog_14_method_50_code 6 = .ok (.ixor, 1) := by decide +kernel
theorem d_Math_floorMod_7 : decode prog_14_method_50_code 7 = .ok (.ifCond .ge 11, 3) := by decide +kernel
theorem d_Math_floorMod_18 : decode prog_14_method_50_code 18 = .ok (.iload_n 2, 1) := by decide +kernel
theorem d_Math_floorMod_19 : decode prog_14_method_50_code 19 = .ok (.ireturn, 1) := by decide +kernel
theorem d_Math_floorMod_10 : decode prog_14_method_50_code 10 = .ok (.iload_n 2, 1) := by decide +kernel
theorem d_Math_floorMod_11 : decode prog_14_method_50_code 11 = .ok (.ifCond .eq 7, 3) := by decide +kernel
theorem d_Math_floorMod_14 : decode prog_14_method_50_code 14 = .ok (.iload_n 2, 1) := by decide +kernel
theorem d_Math_floorMod_15 : decode prog_14_method_50_code 15 = .ok (.iload_n 1, 1) := by decide +kernel
theorem d_Math_floorMod_16 : decode prog_14_method_50_code 16 = .ok (.iadd, 1) := by decide +kernel
theorem d_Math_floorMod_17 : decode prog_14_method_50_code 17 = .ok (.ireturn, 1) := by decide +kernel
theorem d_Lake_levelAt_0 : decode prog_5_method_7_code 0 = .ok (.aload_n 0, 1) := by decide +kernel
theorem d_Lake_levelAt_1 : decode prog_5_method_7_code 1 = .ok (.getfield 46, 3) := by decide +kernel
theorem gf_Lake_46 : GF "NineBoards$Lake" 46 2 1 := ⟨_, _, _, rfl, ci_Lake, by decide, (mt_2 (List.mem_of_getElem? (i := 33) rfl) rfl)⟩
theorem d_Lake_levelAt_4 : decode prog_5_method_7_code 4 = .ok (.ifCond .le 14, 3) := by decide +kernel
theorem d_Lake_levelAt_18 : decode prog_5_method_7_code 18 = .ok (.iconst 0, 1) := by decide +kernel
theorem d_Lake_levelAt_19 : decode prog_5_method_7_code 19 = .ok (.ireturn, 1) := by decide +kernel
theorem d_Lake_levelAt_7 : decode prog_5_method_7_code 7 = .ok (.iload_n 1, 1) := by decide +kernel
theorem d_Lake_levelAt_8 : decode prog_5_method_7_code 8 = .ok (.aload_n 0, 1) := by decide +kernel
theorem d_Lake_levelAt_9 : decode prog_5_method_7_code 9 = .ok (.getfield 46, 3) := by decide +kernel
theorem d_Lake_levelAt_12 : decode prog_5_method_7_code 12 = .ok (.invokestatic 78, 3) := by decide +kernel
theorem kw_Lake_78 : KW "NineBoards$Lake" 78 ⟨"java/lang/Math", "floorDiv", "(II)I"⟩ prog_14_method_47_code 3 (some .int) 2 := ⟨(mt_3 (List.mem_of_getElem? (i := 217) rfl) rfl), (mt_1 (List.mem_of_getElem? (i := 3) rfl) rfl), (mt_3 (List.mem_of_getElem? (i := 219) rfl) rfl), by decide +kernel⟩
theorem ks_Math_floorDiv : Cond.static ⟨"java/lang/Math", "floorDiv", "(II)I"⟩ ∈ TB := (mt_3 (List.mem_of_getElem? (i := 218) rfl) rfl)
theorem d_Lake_levelAt_15 : decode prog_5_method_7_code 15 = .ok (.goto 4, 3) := by decide +kernel
theorem d_Lake_villageOn_0 : decode prog_5_method_8_code 0 = .ok (.aload_n 0, 1) := by decide +kernel
theorem d_Lake_villageOn_1 : decode prog_5_method_8_code 1 = .ok (.getfield 58, 3) := by decide +kernel
theorem gf_Lake_58 : GF "NineBoards$Lake" 58 2 5 := ⟨_, _, _, rfl, ci_Lake, by decide, (mt_2 (List.mem_of_getElem? (i := 46) rfl) rfl)⟩
theorem d_Lake_villageOn_4 : decode prog_5_method_8_code 4 = .ok (.ifCond .le 14, 3) := by decide +kernel
theorem d_Lake_villageOn_18 : decode prog_5_method_8_code 18 = .ok (.iconst (-1), 1) := by decide +kernel
theorem d_Lake_villageOn_19 : decode prog_5_method_8_code 19 = .ok (.ireturn, 1) := by decide +kernel
theorem d_Lake_villageOn_7 : decode prog_5_method_8_code 7 = .ok (.iload_n 1, 1) := by decide +kernel
theorem d_Lake_villageOn_8 : decode prog_5_method_8_code 8 = .ok (.aload_n 0, 1) := by decide +kernel
theorem d_Lake_villageOn_9 : decode prog_5_method_8_code 9 = .ok (.getfield 58, 3) := by decide +kernel
theorem d_Lake_villageOn_12 : decode prog_5_method_8_code 12 = .ok (.invokestatic 84, 3) := by decide +kernel
theorem kw_Lake_84 : KW "NineBoards$Lake" 84 ⟨"java/lang/Math", "floorMod", "(II)I"⟩ prog_14_method_50_code 3 (some .int) 2 := ⟨(mt_4 (List.mem_of_getElem? (i := 31) rfl) rfl), (mt_1 (List.mem_of_getElem? (i := 3) rfl) rfl), (mt_4 (List.mem_of_getElem? (i := 33) rfl) rfl), by decide +kernel⟩
theorem ks_Math_floorMod : Cond.static ⟨"java/lang/Math", "floorMod", "(II)I"⟩ ∈ TB := (mt_4 (List.mem_of_getElem? (i := 32) rfl) rfl)
theorem d_Lake_villageOn_15 : decode prog_5_method_8_code 15 = .ok (.goto 4, 3) := by decide +kernel
theorem d_Lake_daysUntil_0 : decode prog_5_method_9_code 0 = .ok (.aload_n 0, 1) := by decide +kernel
theorem d_Lake_daysUntil_1 : decode prog_5_method_9_code 1 = .ok (.getfield 58, 3) := by decide +kernel
theorem d_Lake_daysUntil_4 : decode prog_5_method_9_code 4 = .ok (.ifCond .le 16, 3) := by decide +kernel
theorem d_Lake_daysUntil_20 : decode prog_5_method_9_code 20 = .ok (.iconst (-1), 1) := by decide +kernel
theorem d_Lake_daysUntil_21 : decode prog_5_method_9_code 21 = .ok (.ireturn, 1) := by decide +kernel
theorem d_Lake_daysUntil_7 : decode prog_5_method_9_code 7 = .ok (.iload_n 1, 1) := by decide +kernel
theorem d_Lake_daysUntil_8 : decode prog_5_method_9_code 8 = .ok (.iload_n 2, 1) := by decide +kernel
theorem d_Lake_daysUntil_9 : decode prog_5_method_9_code 9 = .ok (.isub, 1) := by decide +kernel
theorem d_Lake_daysUntil_10 : decode prog_5_method_9_code 10 = .ok (.aload_n 0, 1) := by decide +kernel
theorem d_Lake_daysUntil_11 : decode prog_5_method_9_code 11 = .ok (.getfield 58, 3) := by decide +kernel
theorem d_Lake_daysUntil_14 : decode prog_5_method_9_code 14 = .ok (.invokestatic 84, 3) := by decide +kernel
theorem d_Lake_daysUntil_17 : decode prog_5_method_9_code 17 = .ok (.goto 4, 3) := by decide +kernel
theorem d_Lake_hasVillage_0 : decode prog_5_method_4_code 0 = .ok (.iload_n 1, 1) := by decide +kernel
theorem d_Lake_hasVillage_1 : decode prog_5_method_4_code 1 = .ok (.ifCond .lt 15, 3) := by decide +kernel
theorem d_Lake_hasVillage_16 : decode prog_5_method_4_code 16 = .ok (.iconst 0, 1) := by decide +kernel
theorem d_Lake_hasVillage_17 : decode prog_5_method_4_code 17 = .ok (.ireturn, 1) := by decide +kernel
theorem d_Lake_hasVillage_4 : decode prog_5_method_4_code 4 = .ok (.iload_n 1, 1) := by decide +kernel
theorem d_Lake_hasVillage_5 : decode prog_5_method_4_code 5 = .ok (.aload_n 0, 1) := by decide +kernel
theorem d_Lake_hasVillage_6 : decode prog_5_method_4_code 6 = .ok (.getfield 58, 3) := by decide +kernel
theorem d_Lake_hasVillage_9 : decode prog_5_method_4_code 9 = .ok (.if_icmp .ge 7, 3) := by decide +kernel
theorem d_Lake_hasVillage_12 : decode prog_5_method_4_code 12 = .ok (.iconst 1, 1) := by decide +kernel
theorem d_Lake_hasVillage_13 : decode prog_5_method_4_code 13 = .ok (.goto 4, 3) := by decide +kernel
theorem d_Lake_hasGate_0 : decode prog_5_method_3_code 0 = .ok (.iload_n 1, 1) := by decide +kernel
theorem d_Lake_hasGate_1 : decode prog_5_method_3_code 1 = .ok (.ifCond .lt 18, 3) := by decide +kernel
theorem d_Lake_hasGate_19 : decode prog_5_method_3_code 19 = .ok (.iconst 0, 1) := by decide +kernel
theorem d_Lake_hasGate_20 : decode prog_5_method_3_code 20 = .ok (.ireturn, 1) := by decide +kernel
theorem d_Lake_hasGate_4 : decode prog_5_method_3_code 4 = .ok (.iload_n 1, 1) := by decide +kernel
theorem d_Lake_hasGate_5 : decode prog_5_method_3_code 5 = .ok (.aload_n 0, 1) := by decide +kernel
theorem d_Lake_hasGate_6 : decode prog_5_method_3_code 6 = .ok (.getfield 12, 3) := by decide +kernel
theorem gf_Lake_12 : GF "NineBoards$Lake" 12 2 4 := ⟨_, _, _, rfl, ci_Lake, by decide, (mt_2 (List.mem_of_getElem? (i := 42) rfl) rfl)⟩
theorem d_Lake_hasGate_9 : decode prog_5_method_3_code 9 = .ok (.getfield 55, 3) := by decide +kernel
theorem gf_Lake_55 : GF "NineBoards$Lake" 55 1 0 := ⟨_, _, _, rfl, ci_Gates, by decide, (mt_1 (List.mem_of_getElem? (i := 140) rfl) rfl)⟩
theorem d_Lake_hasGate_12 : decode prog_5_method_3_code 12 = .ok (.if_icmp .ge 7, 3) := by decide +kernel
theorem d_Lake_hasGate_15 : decode prog_5_method_3_code 15 = .ok (.iconst 1, 1) := by decide +kernel
theorem d_Lake_hasGate_16 : decode prog_5_method_3_code 16 = .ok (.goto 4, 3) := by decide +kernel
theorem d_Lake_hasThing_0 : decode prog_5_method_5_code 0 = .ok (.iload_n 1, 1) := by decide +kernel
theorem d_Lake_hasThing_1 : decode prog_5_method_5_code 1 = .ok (.ifCond .lt 18, 3) := by decide +kernel
theorem d_Lake_hasThing_19 : decode prog_5_method_5_code 19 = .ok (.iconst 0, 1) := by decide +kernel
theorem d_Lake_hasThing_20 : decode prog_5_method_5_code 20 = .ok (.ireturn, 1) := by decide +kernel
theorem d_Lake_hasThing_4 : decode prog_5_method_5_code 4 = .ok (.iload_n 1, 1) := by decide +kernel
theorem d_Lake_hasThing_5 : decode prog_5_method_5_code 5 = .ok (.aload_n 0, 1) := by decide +kernel
theorem d_Lake_hasThing_6 : decode prog_5_method_5_code 6 = .ok (.getfield 28, 3) := by decide +kernel
theorem gf_Lake_28 : GF "NineBoards$Lake" 28 2 8 := ⟨_, _, _, rfl, ci_Lake, by decide, (mt_2 (List.mem_of_getElem? (i := 58) rfl) rfl)⟩
theorem d_Lake_hasThing_9 : decode prog_5_method_5_code 9 = .ok (.getfield 61, 3) := by decide +kernel
theorem gf_Lake_61 : GF "NineBoards$Lake" 61 8 0 := ⟨_, _, _, rfl, ci_Things, by decide, (mt_1 (List.mem_of_getElem? (i := 187) rfl) rfl)⟩
theorem d_Lake_hasThing_12 : decode prog_5_method_5_code 12 = .ok (.if_icmp .ge 7, 3) := by decide +kernel
theorem d_Lake_hasThing_15 : decode prog_5_method_5_code 15 = .ok (.iconst 1, 1) := by decide +kernel
theorem d_Lake_hasThing_16 : decode prog_5_method_5_code 16 = .ok (.goto 4, 3) := by decide +kernel
theorem d_Gates_named_2 : decode prog_4_method_2_code 2 = .ok (.iload_n 2, 1) := by decide +kernel
theorem d_Gates_named_3 : decode prog_4_method_2_code 3 = .ok (.aload_n 0, 1) := by decide +kernel
theorem d_Gates_named_4 : decode prog_4_method_2_code 4 = .ok (.getfield 33, 3) := by decide +kernel
theorem gf_Gates_33 : GF "NineBoards$Gates" 33 1 0 := ⟨_, _, _, rfl, ci_Gates, by decide, (mt_1 (List.mem_of_getElem? (i := 139) rfl) rfl)⟩
theorem d_Gates_named_7 : decode prog_4_method_2_code 7 = .ok (.if_icmp .ge 21, 3) := by decide +kernel
theorem d_Gates_named_10 : decode prog_4_method_2_code 10 = .ok (.aload_n 0, 1) := by decide +kernel
theorem d_Gates_named_11 : decode prog_4_method_2_code 11 = .ok (.getfield 9, 3) := by decide +kernel
theorem gf_Gates_9 : GF "NineBoards$Gates" 9 1 1 := ⟨_, _, _, rfl, ci_Gates, by decide, (mt_1 (List.mem_of_getElem? (i := 144) rfl) rfl)⟩
theorem d_Gates_named_14 : decode prog_4_method_2_code 14 = .ok (.iload_n 2, 1) := by decide +kernel
theorem d_Gates_named_15 : decode prog_4_method_2_code 15 = .ok (.iaload, 1) := by decide +kernel
theorem d_Gates_named_16 : decode prog_4_method_2_code 16 = .ok (.iload_n 1, 1) := by decide +kernel
theorem d_Gates_named_17 : decode prog_4_method_2_code 17 = .ok (.if_icmp .ne 5, 3) := by decide +kernel
theorem d_Gates_named_22 : decode prog_4_method_2_code 22 = .ok (.iinc 2 1, 3) := by decide +kernel
theorem d_Gates_named_25 : decode prog_4_method_2_code 25 = .ok (.goto (-23), 3) := by decide +kernel
theorem d_Gates_named_0 : decode prog_4_method_2_code 0 = .ok (.iconst 0, 1) := by decide +kernel
theorem d_Gates_named_1 : decode prog_4_method_2_code 1 = .ok (.istore_n 2, 1) := by decide +kernel
theorem d_Gates_named_28 : decode prog_4_method_2_code 28 = .ok (.iconst (-1), 1) := by decide +kernel
theorem d_Gates_named_29 : decode prog_4_method_2_code 29 = .ok (.ireturn, 1) := by decide +kernel
theorem d_Gates_named_20 : decode prog_4_method_2_code 20 = .ok (.iload_n 2, 1) := by decide +kernel
theorem d_Gates_named_21 : decode prog_4_method_2_code 21 = .ok (.ireturn, 1) := by decide +kernel
theorem d_Lake_villageNamed_2 : decode prog_5_method_6_code 2 = .ok (.iload_n 2, 1) := by decide +kernel
theorem d_Lake_villageNamed_3 : decode prog_5_method_6_code 3 = .ok (.aload_n 0, 1) := by decide +kernel
theorem d_Lake_villageNamed_4 : decode prog_5_method_6_code 4 = .ok (.getfield 58, 3) := by decide +kernel
theorem d_Lake_villageNamed_7 : decode prog_5_method_6_code 7 = .ok (.if_icmp .ge 21, 3) := by decide +kernel
theorem d_Lake_villageNamed_10 : decode prog_5_method_6_code 10 = .ok (.aload_n 0, 1) := by decide +kernel
theorem d_Lake_villageNamed_11 : decode prog_5_method_6_code 11 = .ok (.getfield 18, 3) := by decide +kernel
theorem gf_Lake_18 : GF "NineBoards$Lake" 18 2 6 := ⟨_, _, _, rfl, ci_Lake, by decide, (mt_2 (List.mem_of_getElem? (i := 51) rfl) rfl)⟩
theorem d_Lake_villageNamed_14 : decode prog_5_method_6_code 14 = .ok (.iload_n 2, 1) := by decide +kernel
theorem d_Lake_villageNamed_15 : decode prog_5_method_6_code 15 = .ok (.iaload, 1) := by decide +kernel
theorem d_Lake_villageNamed_16 : decode prog_5_method_6_code 16 = .ok (.iload_n 1, 1) := by decide +kernel
theorem d_Lake_villageNamed_17 : decode prog_5_method_6_code 17 = .ok (.if_icmp .ne 5, 3) := by decide +kernel
theorem d_Lake_villageNamed_22 : decode prog_5_method_6_code 22 = .ok (.iinc 2 1, 3) := by decide +kernel
theorem d_Lake_villageNamed_25 : decode prog_5_method_6_code 25 = .ok (.goto (-23), 3) := by decide +kernel
theorem d_Lake_villageNamed_0 : decode prog_5_method_6_code 0 = .ok (.iconst 0, 1) := by decide +kernel
theorem d_Lake_villageNamed_1 : decode prog_5_method_6_code 1 = .ok (.istore_n 2, 1) := by decide +kernel
theorem d_Lake_villageNamed_28 : decode prog_5_method_6_code 28 = .ok (.iconst (-1), 1) := by decide +kernel
theorem d_Lake_villageNamed_29 : decode prog_5_method_6_code 29 = .ok (.ireturn, 1) := by decide +kernel
theorem d_Lake_villageNamed_20 : decode prog_5_method_6_code 20 = .ok (.iload_n 2, 1) := by decide +kernel
theorem d_Lake_villageNamed_21 : decode prog_5_method_6_code 21 = .ok (.ireturn, 1) := by decide +kernel
theorem d_Gates_fullFlow_0 : decode prog_4_method_3_code 0 = .ok (.iconst 0, 1) := by decide +kernel
theorem d_Gates_fullFlow_1 : decode prog_4_method_3_code 1 = .ok (.iload_n 3, 1) := by decide +kernel
theorem d_Gates_fullFlow_2 : decode prog_4_method_3_code 2 = .ok (.iload_n 2, 1) := by decide +kernel
theorem d_Gates_fullFlow_3 : decode prog_4_method_3_code 3 = .ok (.isub, 1) := by decide +kernel
theorem d_Gates_fullFlow_4 : decode prog_4_method_3_code 4 = .ok (.invokestatic 37, 3) := by decide +kernel
theorem d_Gates_fullFlow_7 : decode prog_4_method_3_code 7 = .ok (.istore 5, 2) := by decide +kernel
theorem d_Gates_fullFlow_9 : decode prog_4_method_3_code 9 = .ok (.iload 5, 2) := by decide +kernel
theorem d_Gates_fullFlow_11 : decode prog_4_method_3_code 11 = .ok (.aload_n 0, 1) := by decide +kernel
theorem d_Gates_fullFlow_12 : decode prog_4_method_3_code 12 = .ok (.getfield 27, 3) := by decide +kernel
theorem gf_Gates_27 : GF "NineBoards$Gates" 27 1 6 := ⟨_, _, _, rfl, ci_Gates, by decide, (mt_1 (List.mem_of_getElem? (i := 157) rfl) rfl)⟩
theorem d_Gates_fullFlow_15 : decode prog_4_method_3_code 15 = .ok (.iload_n 1, 1) := by decide +kernel
theorem d_Gates_fullFlow_16 : decode prog_4_method_3_code 16 = .ok (.iaload, 1) := by decide +kernel
theorem d_Gates_fullFlow_17 : decode prog_4_method_3_code 17 = .ok (.imul, 1) := by decide +kernel
theorem d_Gates_fullFlow_18 : decode prog_4_method_3_code 18 = .ok (.istore 6, 2) := by decide +kernel
theorem d_Gates_fullFlow_20 : decode prog_4_method_3_code 20 = .ok (.aload_n 0, 1) := by decide +kernel
theorem d_Gates_fullFlow_21 : decode prog_4_method_3_code 21 = .ok (.getfield 15, 3) := by decide +kernel
theorem gf_Gates_15 : GF "NineBoards$Gates" 15 1 2 := ⟨_, _, _, rfl, ci_Gates, by decide, (mt_1 (List.mem_of_getElem? (i := 147) rfl) rfl)⟩
theorem d_Gates_fullFlow_24 : decode prog_4_method_3_code 24 = .ok (.iload_n 1, 1) := by decide +kernel
theorem d_Gates_fullFlow_25 : decode prog_4_method_3_code 25 = .ok (.iaload, 1) := by decide +kernel
theorem d_Gates_fullFlow_26 : decode prog_4_method_3_code 26 = .ok (.tableswitch 115 1 3 #[26, 49, 86], 26) := by decide +kernel
theorem d_Gates_fullFlow_52 : decode prog_4_method_3_code 52 = .ok (.iload_n 2, 1) := by decide +kernel
theorem d_Gates_fullFlow_53 : decode prog_4_method_3_code 53 = .ok (.ifCond .le 19, 3) := by decide +kernel
theorem d_Gates_fullFlow_72 : decode prog_4_method_3_code 72 = .ok (.iload 6, 2) := by decide +kernel
theorem d_Gates_fullFlow_74 : decode prog_4_method_3_code 74 = .ok (.ireturn, 1) := by decide +kernel
theorem d_Gates_fullFlow_56 : decode prog_4_method_3_code 56 = .ok (.iload_n 3, 1) := by decide +kernel
theorem d_Gates_fullFlow_57 : decode prog_4_method_3_code 57 = .ok (.ifCond .le 15, 3) := by decide +kernel
theorem d_Gates_fullFlow_60 : decode prog_4_method_3_code 60 = .ok (.iload 6, 2) := by decide +kernel
theorem d_Gates_fullFlow_62 : decode prog_4_method_3_code 62 = .ok (.aload_n 0, 1) := by decide +kernel
theorem d_Gates_fullFlow_63 : decode prog_4_method_3_code 63 = .ok (.getfield 18, 3) := by decide +kernel
theorem gf_Gates_18 : GF "NineBoards$Gates" 18 1 3 := ⟨_, _, _, rfl, ci_Gates, by decide, (mt_1 (List.mem_of_getElem? (i := 150) rfl) rfl)⟩
theorem d_Gates_fullFlow_66 : decode prog_4_method_3_code 66 = .ok (.iload_n 1, 1) := by decide +kernel
theorem d_Gates_fullFlow_67 : decode prog_4_method_3_code 67 = .ok (.iaload, 1) := by decide +kernel
theorem d_Gates_fullFlow_68 : decode prog_4_method_3_code 68 = .ok (.iadd, 1) := by decide +kernel
theorem d_Gates_fullFlow_69 : decode prog_4_method_3_code 69 = .ok (.goto 5, 3) := by decide +kernel
theorem d_Gates_fullFlow_75 : decode prog_4_method_3_code 75 = .ok (.aload_n 0, 1) := by decide +kernel
theorem d_Gates_fullFlow_76 : decode prog_4_method_3_code 76 = .ok (.getfield 18, 3) := by decide +kernel
theorem d_Gates_fullFlow_79 : decode prog_4_method_3_code 79 = .ok (.iload_n 1, 1) := by decide +kernel
theorem d_Gates_fullFlow_80 : decode prog_4_method_3_code 80 = .ok (.iaload, 1) := by decide +kernel
theorem d_Gates_fullFlow_81 : decode prog_4_method_3_code 81 = .ok (.ifCond .le 29, 3) := by decide +kernel
theorem d_Gates_fullFlow_110 : decode prog_4_method_3_code 110 = .ok (.iconst 0, 1) := by decide +kernel
theorem d_Gates_fullFlow_111 : decode prog_4_method_3_code 111 = .ok (.ireturn, 1) := by decide +kernel
theorem d_Gates_fullFlow_84 : decode prog_4_method_3_code 84 = .ok (.iload 5, 2) := by decide +kernel
theorem d_Gates_fullFlow_86 : decode prog_4_method_3_code 86 = .ok (.aload_n 0, 1) := by decide +kernel
theorem d_Gates_fullFlow_87 : decode prog_4_method_3_code 87 = .ok (.getfield 18, 3) := by decide +kernel
theorem d_Gates_fullFlow_90 : decode prog_4_method_3_code 90 = .ok (.iload_n 1, 1) := by decide +kernel
theorem d_Gates_fullFlow_91 : decode prog_4_method_3_code 91 = .ok (.iaload, 1) := by decide +kernel
theorem d_Gates_fullFlow_92 : decode prog_4_method_3_code 92 = .ok (.idiv, 1) := by decide +kernel
theorem d_Gates_fullFlow_93 : decode prog_4_method_3_code 93 = .ok (.aload_n 0, 1) := by decide +kernel
theorem d_Gates_fullFlow_94 : decode prog_4_method_3_code 94 = .ok (.getfield 18, 3) := by decide +kernel
theorem d_Gates_fullFlow_97 : decode prog_4_method_3_code 97 = .ok (.iload_n 1, 1) := by decide +kernel
theorem d_Gates_fullFlow_98 : decode prog_4_method_3_code 98 = .ok (.iaload, 1) := by decide +kernel
theorem d_Gates_fullFlow_99 : decode prog_4_method_3_code 99 = .ok (.imul, 1) := by decide +kernel
theorem d_Gates_fullFlow_100 : decode prog_4_method_3_code 100 = .ok (.aload_n 0, 1) := by decide +kernel
theorem d_Gates_fullFlow_101 : decode prog_4_method_3_code 101 = .ok (.getfield 27, 3) := by decide +kernel
theorem d_Gates_fullFlow_104 : decode prog_4_method_3_code 104 = .ok (.iload_n 1, 1) := by decide +kernel
theorem d_Gates_fullFlow_105 : decode prog_4_method_3_code 105 = .ok (.iaload, 1) := by decide +kernel
theorem d_Gates_fullFlow_106 : decode prog_4_method_3_code 106 = .ok (.imul, 1) := by decide +kernel
theorem d_Gates_fullFlow_107 : decode prog_4_method_3_code 107 = .ok (.goto 4, 3) := by decide +kernel
theorem d_Gates_fullFlow_112 : decode prog_4_method_3_code 112 = .ok (.iload 4, 2) := by decide +kernel
theorem d_Gates_fullFlow_114 : decode prog_4_method_3_code 114 = .ok (.aload_n 0, 1) := by decide +kernel
theorem d_Gates_fullFlow_115 : decode prog_4_method_3_code 115 = .ok (.getfield 18, 3) := by decide +kernel
theorem d_Gates_fullFlow_118 : decode prog_4_method_3_code 118 = .ok (.iload_n 1, 1) := by decide +kernel
theorem d_Gates_fullFlow_119 : decode prog_4_method_3_code 119 = .ok (.iaload, 1) := by decide +kernel
theorem d_Gates_fullFlow_120 : decode prog_4_method_3_code 120 = .ok (.if_icmp .lt 18, 3) := by decide +kernel
theorem d_Gates_fullFlow_138 : decode prog_4_method_3_code 138 = .ok (.iload 6, 2) := by decide +kernel
theorem d_Gates_fullFlow_140 : decode prog_4_method_3_code 140 = .ok (.ireturn, 1) := by decide +kernel
theorem d_Gates_fullFlow_123 : decode prog_4_method_3_code 123 = .ok (.iload 4, 2) := by decide +kernel
theorem d_Gates_fullFlow_125 : decode prog_4_method_3_code 125 = .ok (.aload_n 0, 1) := by decide +kernel
theorem d_Gates_fullFlow_126 : decode prog_4_method_3_code 126 = .ok (.getfield 21, 3) := by decide +kernel
theorem gf_Gates_21 : GF "NineBoards$Gates" 21 1 4 := ⟨_, _, _, rfl, ci_Gates, by decide, (mt_1 (List.mem_of_getElem? (i := 152) rfl) rfl)⟩
theorem d_Gates_fullFlow_129 : decode prog_4_method_3_code 129 = .ok (.iload_n 1, 1) := by decide +kernel
theorem d_Gates_fullFlow_130 : decode prog_4_method_3_code 130 = .ok (.iaload, 1) := by decide +kernel
theorem d_Gates_fullFlow_131 : decode prog_4_method_3_code 131 = .ok (.if_icmp .gt 7, 3) := by decide +kernel
theorem d_Gates_fullFlow_134 : decode prog_4_method_3_code 134 = .ok (.iconst 0, 1) := by decide +kernel
theorem d_Gates_fullFlow_135 : decode prog_4_method_3_code 135 = .ok (.goto 5, 3) := by decide +kernel
theorem to_1_3 {x : Int32} (h0 : ¬ x = 1) (h1 : ¬ x = 2) (h2 : ¬ x = 3) : x.toInt < 1 ∨ 3 < x.toInt := by
  have g0 : x.toInt ≠ 1 := fun e => h0 (Int32.toInt_inj.mp (e.trans (by decide)))
  have g1 : x.toInt ≠ 2 := fun e => h1 (Int32.toInt_inj.mp (e.trans (by decide)))
  have g2 : x.toInt ≠ 3 := fun e => h2 (Int32.toInt_inj.mp (e.trans (by decide)))
  omega
theorem d_Gates_fullFlow_141 : decode prog_4_method_3_code 141 = .ok (.iload 6, 2) := by decide +kernel
theorem d_Gates_fullFlow_143 : decode prog_4_method_3_code 143 = .ok (.ireturn, 1) := by decide +kernel
theorem d_Things_isServed_0 : decode prog_11_method_2_code 0 = .ok (.iload_n 2, 1) := by decide +kernel
theorem d_Things_isServed_1 : decode prog_11_method_2_code 1 = .ok (.aload_n 0, 1) := by decide +kernel
theorem d_Things_isServed_2 : decode prog_11_method_2_code 2 = .ok (.getfield 24, 3) := by decide +kernel
theorem gf_Things_24 : GF "NineBoards$Things" 24 8 5 := ⟨_, _, _, rfl, ci_Things, by decide, (mt_1 (List.mem_of_getElem? (i := 202) rfl) rfl)⟩
theorem d_Things_isServed_5 : decode prog_11_method_2_code 5 = .ok (.iload_n 1, 1) := by decide +kernel
theorem d_Things_isServed_6 : decode prog_11_method_2_code 6 = .ok (.iaload, 1) := by decide +kernel
theorem d_Things_isServed_7 : decode prog_11_method_2_code 7 = .ok (.if_icmp .lt 17, 3) := by decide +kernel
theorem d_Things_isServed_24 : decode prog_11_method_2_code 24 = .ok (.iconst 0, 1) := by decide +kernel
theorem d_Things_isServed_25 : decode prog_11_method_2_code 25 = .ok (.istore 4, 2) := by decide +kernel
theorem d_Things_isServed_27 : decode prog_11_method_2_code 27 = .ok (.iload 4, 2) := by decide +kernel
theorem d_Things_isServed_29 : decode prog_11_method_2_code 29 = .ok (.ifCond .eq 27, 3) := by decide +kernel
theorem d_Things_isServed_56 : decode prog_11_method_2_code 56 = .ok (.iconst 0, 1) := by decide +kernel
theorem d_Things_isServed_57 : decode prog_11_method_2_code 57 = .ok (.ireturn, 1) := by decide +kernel
theorem d_Things_isServed_10 : decode prog_11_method_2_code 10 = .ok (.iload_n 2, 1) := by decide +kernel
theorem d_Things_isServed_11 : decode prog_11_method_2_code 11 = .ok (.aload_n 0, 1) := by decide +kernel
theorem d_Things_isServed_12 : decode prog_11_method_2_code 12 = .ok (.getfield 27, 3) := by decide +kernel
theorem gf_Things_27 : GF "NineBoards$Things" 27 8 6 := ⟨_, _, _, rfl, ci_Things, by decide, (mt_1 (List.mem_of_getElem? (i := 204) rfl) rfl)⟩
theorem d_Things_isServed_15 : decode prog_11_method_2_code 15 = .ok (.iload_n 1, 1) := by decide +kernel
theorem d_Things_isServed_16 : decode prog_11_method_2_code 16 = .ok (.iaload, 1) := by decide +kernel
theorem d_Things_isServed_17 : decode prog_11_method_2_code 17 = .ok (.if_icmp .gt 7, 3) := by decide +kernel
theorem d_Things_isServed_20 : decode prog_11_method_2_code 20 = .ok (.iconst 1, 1) := by decide +kernel
theorem d_Things_isServed_21 : decode prog_11_method_2_code 21 = .ok (.goto 4, 3) := by decide +kernel
theorem d_Things_isServed_32 : decode prog_11_method_2_code 32 = .ok (.iload_n 3, 1) := by decide +kernel
theorem d_Things_isServed_33 : decode prog_11_method_2_code 33 = .ok (.aload_n 0, 1) := by decide +kernel
theorem d_Things_isServed_34 : decode prog_11_method_2_code 34 = .ok (.getfield 18, 3) := by decide +kernel
theorem gf_Things_18 : GF "NineBoards$Things" 18 8 3 := ⟨_, _, _, rfl, ci_Things, by decide, (mt_1 (List.mem_of_getElem? (i := 198) rfl) rfl)⟩
theorem d_Things_isServed_37 : decode prog_11_method_2_code 37 = .ok (.iload_n 1, 1) := by decide +kernel
theorem d_Things_isServed_38 : decode prog_11_method_2_code 38 = .ok (.iaload, 1) := by decide +kernel
theorem d_Things_isServed_39 : decode prog_11_method_2_code 39 = .ok (.if_icmp .lt 17, 3) := by decide +kernel
theorem d_Things_isServed_42 : decode prog_11_method_2_code 42 = .ok (.iload_n 3, 1) := by decide +kernel
theorem d_Things_isServed_43 : decode prog_11_method_2_code 43 = .ok (.aload_n 0, 1) := by decide +kernel
theorem d_Things_isServed_44 : decode prog_11_method_2_code 44 = .ok (.getfield 21, 3) := by decide +kernel
theorem gf_Things_21 : GF "NineBoards$Things" 21 8 4 := ⟨_, _, _, rfl, ci_Things, by decide, (mt_1 (List.mem_of_getElem? (i := 200) rfl) rfl)⟩
theorem d_Things_isServed_47 : decode prog_11_method_2_code 47 = .ok (.iload_n 1, 1) := by decide +kernel
theorem d_Things_isServed_48 : decode prog_11_method_2_code 48 = .ok (.iaload, 1) := by decide +kernel
theorem d_Things_isServed_49 : decode prog_11_method_2_code 49 = .ok (.if_icmp .gt 7, 3) := by decide +kernel
theorem d_Things_isServed_52 : decode prog_11_method_2_code 52 = .ok (.iconst 1, 1) := by decide +kernel
theorem d_Things_isServed_53 : decode prog_11_method_2_code 53 = .ok (.goto 4, 3) := by decide +kernel
