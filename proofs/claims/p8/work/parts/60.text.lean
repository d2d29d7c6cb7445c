/-! the one String that the program names: where it lies, and what is in it -/
def wb : List Int32 := [108, 97, 107, 101, 32, 115, 112, 114, 101, 97, 100, 32, 104, 111, 108, 100, 115, 32, 104, 97, 115, 32, 103, 97, 116, 101, 32, 112, 108, 97, 105, 110, 32, 108, 101, 97, 107, 115, 32, 115, 116, 101, 112, 115, 32, 102, 114, 111, 122, 101, 110, 32, 116, 111, 32, 98, 111, 97, 114, 100, 115, 32, 119, 105, 100, 116, 104, 32, 106, 111, 105, 110, 32, 118, 105, 108, 108, 97, 103, 101, 32, 116, 104, 105, 110, 103, 32, 102, 114, 111, 109, 32, 100, 97, 121, 115, 32, 119, 111, 114, 116, 104, 32, 99, 104, 97, 112, 101, 108, 32, 108, 111, 115, 115, 32, 98, 97, 110, 107, 32, 114, 97, 105, 110, 32, 97, 105, 114, 32, 119, 104, 101, 110, 32, 111, 114, 32, 97, 110, 100, 32, 110, 111, 116, 32, 97, 108, 108, 32, 100, 97, 121, 32, 108, 101, 118, 101, 108, 32, 119, 97, 116, 101, 114, 32, 109, 105, 110, 32, 109, 97, 120, 32]
def ZS (ak vv : Nat) (A : Nat → Prop) (U : State) : Prop := vk_R "NineBoards$Reader" 27 "lake spread holds has gate plain leaks steps frozen to boards width join village thing from days worth chapel loss bank rain air when or and not all day level water min max " ak U ∧ (va_O "java/lang/String" ak A U U.heap ∧ va_OF "java/lang/String" "coder" "B" (.int 0) ak A U U.heap ∧ va_OF "java/lang/String" "value" "[B" (.ref vv) ak A U U.heap ∧ va_T .byte vv 173 (fun j => .int (wb.getD j 0)) A U U.heap) ∧ va_Z "java/lang/String" "COMPACT_STRINGS" "Z" (.int 1) A U U.heap ∧ va_Zq "jdk/internal/util/Preconditions" "SIOOBE_FORMATTER" "Ljava/util/function/BiFunction;" A U U.heap
theorem ZS.go {ak vv : Nat} {A B : Nat → Prop} {s U : State} {H : Heap} (h : ZS ak vv A s) (hW : s.WarmedH U.vm) (hU : U.heap = H) (hq : ∀ a : Nat, a < s.heap.size → ¬ A a → H[a]? = s.heap[a]?) (hAB : ∀ q, B q → A q) : ZS ak vv B U := by
  subst hU
  exact ⟨vk_R.warm hW h.1, ⟨((h.2.1.1.moved hW.alike).kept hq).narrow hAB, ((h.2.1.2.1.moved hW.alike).kept hq).narrow hAB, ((h.2.1.2.2.1.moved hW.alike).kept hq).narrow hAB, ((h.2.1.2.2.2.moved hW.alike).kept hq).narrow hAB⟩, ((h.2.2.1.moved hW.alike).kept hq).narrow hAB, ((h.2.2.2.moved hW.alike).kept hq).narrow hAB⟩
theorem ZS.same {ak vv : Nat} {A : Nat → Prop} {s U : State} (h : ZS ak vv A s) (e : U.vm = s.vm) (eh : U.heap = s.heap) : ZS ak vv A U := by
  have al : s.vm.Alike U.vm := by rw [e]; exact Vm.Alike.refl s.vm
  unfold ZS
  rw [eh]
  exact ⟨vk_R.same e h.1, ⟨h.2.1.1.moved al, h.2.1.2.1.moved al, h.2.1.2.2.1.moved al, h.2.1.2.2.2.moved al⟩, h.2.2.1.moved al, h.2.2.2.moved al⟩
def CZ (l : Launch) (D : va_G) (y : Nat → ClassId) (nm : MethodName) (b : ByteArray) (mL : Nat) (ret : Option FieldType) (rm : Room) (av : List Value) (ws : va_W) (ak vv : Nat) (Qf : Nat → Array Value → State → Outcome → State → Prop) : Prop :=
  ∀ sz : Nat, Met l nm (Cond.code nm b mL ret :: TB) rm (va_Pc av (fun U => WP D y sz ws U ∧ ZS ak vv (va_A ws sz) U)) (Qf sz) rm.cells rm.slots (va_A ws sz)
theorem ZP.blind {D : va_G} {y : Nat → ClassId} {sz ak vv : Nat} {ws : va_W} {av : List Value} {A : Nat → Prop} : FrameBlind (va_Pc av (fun U => WP D y sz ws U ∧ ZS ak vv A U)) := fun a U g mk q => by
  obtain ⟨q0, ⟨q1, qP, qK, qD, qN⟩, qZ⟩ := q
  exact ⟨q0, ⟨q1, qP, va_K.moved (u := U) (U := U.calling g mk a) (Vm.Alike.refl U.vm) qK, qD, qN.same rfl⟩, qZ.same rfl rfl⟩
theorem CZ.of {l : Launch} {D : va_G} {y : Nat → ClassId} {nm : MethodName} {b : ByteArray} {mL : Nat} {ret : Option FieldType} {rm : Room} {av : List Value} {ws : va_W} {ak vv : Nat} {Qf : Nat → Array Value → State → Outcome → State → Prop} (hy : plainName nm.cls = true) (hav : (lg_sl av).length ≤ mL)
    (body : ∀ (p : Program) (e : Env) (s : State) (m : MethodId) (args : Array Value) (below : List Frame) (meth : Method) (c : Code), Cx p s m args meth c D y (va_A ws s.heap.size) b mL nm.cls nm.name → ZS ak vv (va_A ws s.heap.size) s → meth.sig.returnType = ret → J p l e rm s m args below meth c (MQ below (Qf s.heap.size) args s rm.cells rm.slots (va_A ws s.heap.size)) D (va_A ws s.heap.size) mL ws (lv_args 0 av) 0 0 0 []) : CZ l D y nm b mL ret rm av ws ak vv Qf := by
  intro sz
  refine Met.ofW (cc := b) (maxL := mL) (ret := ret) hy rfl ?_
  intro p e s m args below meth c s₁ B hml hv
  obtain ⟨rfl, ⟨hsz, hP, hK, hD0, hN⟩, hZ⟩ := hv
  subst hsz
  have hts := atoms_spec (ws := Cond.code nm b mL ret :: TB) B.pre
  have hC : Cx p s m av.toArray meth c D y (va_A ws s.heap.size) b mL nm.cls nm.name := ⟨B.exec, B.bytes, hml, findClass_of_methodNamed B.named, fun w h => hts w (List.mem_cons_of_mem _ h), hK, fun q h => Or.inr h, B.notSynchronized, (name_of_methodNamed B.named B.method).1, hN⟩
  have hl := lv_entry av (n := mL) hav
  rw [lg_entry_eq]
  exact body p e s m av.toArray below meth c hC hZ B.returns s.heap [] _ hP hD0.self va_S.rf hl
theorem CZ_ofF {l : Launch} {D : va_G} {y : Nat → ClassId} {nm : MethodName} {b : ByteArray} {mL : Nat} {ret : Option FieldType} {rm : Room} {av : List Value} {ws : va_W} {ak vv : Nat} {Qf : Nat → Array Value → State → Outcome → State → Prop} (hy : plainFor nm = true) (hav : (lg_sl av).length ≤ mL)
    (body : ∀ (p : Program) (e : Env) (s : State) (m : MethodId) (args : Array Value) (below : List Frame) (meth : Method) (c : Code), Cx p s m args meth c D y (va_A ws s.heap.size) b mL nm.cls nm.name → ZS ak vv (va_A ws s.heap.size) s → meth.sig.returnType = ret → J p l e rm s m args below meth c (MQ below (Qf s.heap.size) args s rm.cells rm.slots (va_A ws s.heap.size)) D (va_A ws s.heap.size) mL ws (lv_args 0 av) 0 0 0 []) : CZ l D y nm b mL ret rm av ws ak vv Qf := by
  intro sz
  refine Met_ofWF (cc := b) (maxL := mL) (ret := ret) hy rfl ?_
  intro p e s m args below meth c s₁ B hml hv
  obtain ⟨rfl, ⟨hsz, hP, hK, hD0, hN⟩, hZ⟩ := hv
  subst hsz
  have hts := atoms_spec (ws := Cond.code nm b mL ret :: TB) B.pre
  have hC : Cx p s m av.toArray meth c D y (va_A ws s.heap.size) b mL nm.cls nm.name := ⟨B.exec, B.bytes, hml, findClass_of_methodNamed B.named, fun w h => hts w (List.mem_cons_of_mem _ h), hK, fun q h => Or.inr h, B.notSynchronized, (name_of_methodNamed B.named B.method).1, hN⟩
  have hl := lv_entry av (n := mL) hav
  rw [lg_entry_eq]
  exact body p e s m av.toArray below meth c hC hZ B.returns s.heap [] _ hP hD0.self va_S.rf hl
section JZ
variable {p : Program} {l : Launch} {e : Env} {R : Room} {s : State} {m : MethodId} {args : Array Value} {below : List Frame} {meth : Method} {c : Code} {Q : State → Prop} {D : va_G} {y : Nat → ClassId} {A : Nat → Prop} {cc : ByteArray} {nL : Nat} {own nm : String} {ws : va_W} {lv : List (Nat × Value)} {kc ks pc : Nat} {st : List Value}
variable {f : MethodName} {b : ByteArray} {mL n idx : Nat} {ret : Option FieldType} {rm : Room} {As rest : List Value} {wc wr X T : va_W} {ak vv : Nat} {Qf : Nat → Array Value → State → Outcome → State → Prop}
theorem j_ldcS (C : Cx p s m args meth c D y A cc nL "NineBoards$Reader" nm) (hZ : ZS ak vv A s) (d : decode cc pc = .ok (.ldc 27, 2)) (kk : J p l e R s m args below meth c Q D A nL ws lv kc ks (pc + 2) (.ref ak :: st)) : J p l e R s m args below meth c Q D A nL ws lv kc ks pc st := fun H L ls a b f g => va_ldcS C.x C.b C.ow hZ.1 d (kk H L ls a b f g)
theorem j_getSv (C : Cx p s m args meth c D y A cc nL "java/lang/String" nm) (hZ : ZS ak vv A s) (hw : Cond.fieldLink "java/lang/String" idx "java/lang/String" "value" "[B" ∈ TB) (d : decode cc pc = .ok (.getfield idx, 3)) (kk : J p l e R s m args below meth c Q D A nL ws lv kc ks (pc + 3) (.ref vv :: st)) : J p l e R s m args below meth c Q D A nL ws lv kc ks pc (.ref ak :: st) := fun H L ls a b f g => vk_getf C.x C.b hZ.2.1.2.2.1 f C.ow (C.t _ hw) (fun _ h => h) d (kk H L ls a b f g)
theorem j_getSc (C : Cx p s m args meth c D y A cc nL "java/lang/String" nm) (hZ : ZS ak vv A s) (hw : Cond.fieldLink "java/lang/String" idx "java/lang/String" "coder" "B" ∈ TB) (d : decode cc pc = .ok (.getfield idx, 3)) (kk : J p l e R s m args below meth c Q D A nL ws lv kc ks (pc + 3) (.int 0 :: st)) : J p l e R s m args below meth c Q D A nL ws lv kc ks pc (.ref ak :: st) := fun H L ls a b f g => vk_getf C.x C.b hZ.2.1.2.1 f C.ow (C.t _ hw) (fun _ h => h) d (kk H L ls a b f g)
theorem j_getsC (C : Cx p s m args meth c D y A cc nL own nm) (hZ : ZS ak vv A s) (hw : Cond.fieldLink own idx "java/lang/String" "COMPACT_STRINGS" "Z" ∈ TB) (d : decode cc pc = .ok (.getstatic idx, 3)) (kk : J p l e R s m args below meth c Q D A nL ws lv kc ks (pc + 3) (.int 1 :: st)) : J p l e R s m args below meth c Q D A nL ws lv kc ks pc st := fun H L ls a b f g => va_gets C.x C.b hZ.2.2.1 f C.ow (C.t _ hw) (fun _ h => h) d (kk H L ls a b f g)
theorem j_getsF (C : Cx p s m args meth c D y A cc nL own nm) (hZ : ZS ak vv A s) (hw : Cond.fieldLink own idx "jdk/internal/util/Preconditions" "SIOOBE_FORMATTER" "Ljava/util/function/BiFunction;" ∈ TB) (d : decode cc pc = .ok (.getstatic idx, 3)) (k0 : J p l e R s m args below meth c Q D A nL ws lv kc ks (pc + 3) (.null :: st)) (k1 : ∀ g : Nat, J p l e R s m args below meth c Q D A nL ws lv kc ks (pc + 3) (.ref g :: st)) : J p l e R s m args below meth c Q D A nL ws lv kc ks pc st := fun H L ls a b f g => by
  rcases hZ.2.2.2 with h | ⟨t, h⟩
  · exact va_gets C.x C.b h f C.ow (C.t _ hw) (fun _ h => h) d (k0 H L ls a b f g)
  · exact va_gets C.x C.b h f C.ow (C.t _ hw) (fun _ h => h) d (k1 t H L ls a b f g)
theorem j_lenS (C : Cx p s m args meth c D y A cc nL own nm) (hZ : ZS ak vv A s) (d : decode cc pc = .ok (.arraylength, 1)) (kk : J p l e R s m args below meth c Q D A nL ws lv kc ks (pc + 1) (.int 173 :: st)) : J p l e R s m args below meth c Q D A nL ws lv kc ks pc (.ref vv :: st) := fun H L ls a b f g => va_tlen C.x C.b hZ.2.1.2.2.2 f (v := 173) rfl d (kk H L ls a b f g)
theorem j_baldS (C : Cx p s m args meth c D y A cc nL own nm) (hZ : ZS ak vv A s) {i : Int32} (hi : vp_in i 173) (d : decode cc pc = .ok (.baload, 1)) (kk : J p l e R s m args below meth c Q D A nL ws lv kc ks (pc + 1) (.int (wb.getD i.toNatClampNeg 0) :: st)) : J p l e R s m args below meth c Q D A nL ws lv kc ks pc (.int i :: .ref vv :: st) := fun H L ls a b f g => va_tb C.x C.b hZ.2.1.2.2.2 f hi rfl d (kk H L ls a b f g)
theorem r_VZ (C : Cx p s m args meth c D y A cc nL own nm) (hZ : ZS ak vv A s) (K : KW own idx f b mL ret n) (K2 : Cond.instanceMethod f ∈ TB ∧ Cond.selects f.cls f f ∈ TB) (hcl : f.cls = "java/lang/String") (hM : CZ l D y f b mL ret rm (.ref ak :: As) wc ak vv Qf) (hR : rm.frames + 1 ≤ R.frames ∧ 8 + (mL + 11) + rm.locals ≤ R.locals) (hf : kc + rm.cells ≤ R.cells ∧ ks + rm.slots ≤ R.slots) {H : Heap} {L : List Loc} {ls : Array Slot} (hS : va_S A s.heap H L) (hFc : ∀ q, va_A wc H.size q → A q) (hPc : va_P D classes wc H) (hDc : va_D A wc) (hl : lv_has ls nL lv) (hn : As.length = n) (hs : (rest.map fun v => v.category).sum ≤ 8) (hst : st = As.reverse ++ .ref ak :: rest) (d : decode cc pc = .ok (.invokevirtual idx, 3)) : va_Run p l e R s m args below meth c H L kc ks rm.cells rm.slots (F0 m pc ls st) rest (Qf H.size (Value.ref ak :: As).toArray) (va_A wc H.size) := va_runV ⟨C.x, C.b, C.ml, C.ow, C.t⟩ (hM H.size) ⟨(callB_of n C.t (gi_tb K.2.2.1) rfl rfl rfl (C.t _ K.2.1) (C.t _ K.1) K.2.2.2 hR), C.t _ K2.1, C.t _ K2.2⟩ ⟨ZP.blind, (by
    obtain ⟨cell, h1, h2, h3, -⟩ := hZ.2.1.1.kept hS.2.1
    exact ⟨cell, h1, h2, by rw [hcl]; exact h3⟩), fun U hU hW => ⟨rfl, ⟨by rw [hU], by rw [hU]; exact hPc, C.K.moved hW.alike, hDc.weaken (fun _ _ _ _ => trivial), C.N.warm hW⟩, hZ.go hW hU hS.2.1 hFc⟩⟩ rfl hn hl.1 hst (lv_room hs) d hf
theorem r_SZ (C : Cx p s m args meth c D y A cc nL own nm) (hZ : ZS ak vv A s) (K : KW own idx f b mL ret n) (K2 : Cond.static f ∈ TB) (hM : CZ l D y f b mL ret rm As wc ak vv Qf) (hR : rm.frames + 1 ≤ R.frames ∧ 8 + (mL + 11) + rm.locals ≤ R.locals) (hf : kc + rm.cells ≤ R.cells ∧ ks + rm.slots ≤ R.slots) {H : Heap} {L : List Loc} {ls : Array Slot} (hS : va_S A s.heap H L) (hFc : ∀ q, va_A wc H.size q → A q) (hPc : va_P D classes wc H) (hDc : va_D A wc) (hl : lv_has ls nL lv) (hn : As.length = n) (hs : (rest.map fun v => v.category).sum ≤ 8) (hst : st = As.reverse ++ rest) (d : decode cc pc = .ok (.invokestatic idx, 3)) : va_Run p l e R s m args below meth c H L kc ks rm.cells rm.slots (F0 m pc ls st) rest (Qf H.size As.toArray) (va_A wc H.size) := va_runS ⟨C.x, C.b, C.ml, C.ow, C.t⟩ (hM H.size) ⟨(callB_of n C.t (gi_tb K.2.2.1) rfl rfl rfl (C.t _ K.2.1) (C.t _ K.1) K.2.2.2 hR), C.t _ K2⟩ ⟨ZP.blind, fun U hU hW => ⟨rfl, ⟨by rw [hU], by rw [hU]; exact hPc, C.K.moved hW.alike, hDc.weaken (fun _ _ _ _ => trivial), C.N.warm hW⟩, hZ.go hW hU hS.2.1 hFc⟩⟩ rfl hn hl.1 hst (lv_room hs) d hf
theorem r_IZ (C : Cx p s m args meth c D y A cc nL own nm) (hZ : ZS ak vv A s) {a : Nat} (K : KW own idx f b mL none n) (K2 : f.name = "<init>" ∧ Cond.instanceMethod f ∈ TB) (hM : CZ l D y f b mL none rm (.ref a :: As) wc ak vv Qf) (hR : rm.frames + 1 ≤ R.frames ∧ 8 + (mL + 11) + rm.locals ≤ R.locals) (hf : kc + rm.cells ≤ R.cells ∧ ks + rm.slots ≤ R.slots) {H : Heap} {L : List Loc} {ls : Array Slot} (hS : va_S A s.heap H L) (hFc : ∀ q, va_A wc H.size q → A q) (hPc : va_P D classes wc H) (hDc : va_D A wc) (hl : lv_has ls nL lv) (hn : As.length = n) (hs : (rest.map fun v => v.category).sum ≤ 8) (hst : st = As.reverse ++ .ref a :: rest) (d : decode cc pc = .ok (.invokespecial idx, 3)) : va_Run p l e R s m args below meth c H L kc ks rm.cells rm.slots (F0 m pc ls st) rest (Qf H.size (Value.ref a :: As).toArray) (va_A wc H.size) := va_runI ⟨C.x, C.b, C.ml, C.ow, C.t⟩ (hM H.size) ⟨(callB_of n C.t (gi_tb K.2.2.1) rfl rfl rfl (C.t _ K.2.1) (C.t _ K.1) K.2.2.2 hR), K2.1, C.t _ K2.2⟩ ⟨ZP.blind, fun U hU hW => ⟨rfl, ⟨by rw [hU], by rw [hU]; exact hPc, C.K.moved hW.alike, hDc.weaken (fun _ _ _ _ => trivial), C.N.warm hW⟩, hZ.go hW hU hS.2.1 hFc⟩⟩ rfl hn hl.1 hst (lv_room hs) d hf
theorem j_callVZi (C : Cx p s m args meth c D y A cc nL own nm) (hZ : ZS ak vv A s) {S : Type} {post : Int32 → S → Prop} {ws' : S → va_W} {rt : FieldType} (hM : CZ l D y f b mL (some rt) rm (.ref ak :: As) wc ak vv (QI D wc post ws')) (K : KW own idx f b mL (some rt) n) (K2 : Cond.instanceMethod f ∈ TB ∧ Cond.selects f.cls f f ∈ TB) (hcl : f.cls = "java/lang/String") (hR : rm.frames + 1 ≤ R.frames ∧ 8 + (mL + 11) + rm.locals ≤ R.locals) (hf : kc + rm.cells ≤ R.cells ∧ ks + rm.slots ≤ R.slots) (isC isR : List Nat) (hC : isC.map (fun i => ws[i]?) = wc.map some) (hW : isR.map (fun i => ws[i]?) = wr.map some) (hnC : va_nd isC = true) (hnR : va_nd isR = true) (hdis : ∀ i ∈ isR, i ∉ isC) (hn : As.length = n) (hs : (rest.map fun v => v.category).sum ≤ 8) (hst : st = As.reverse ++ .ref ak :: rest) (d : decode cc pc = .ok (.invokevirtual idx, 3)) (kk : ∀ (r : Int32) (u : S), post r u → J p l e R s m args below meth c Q D A nL (wr ++ ws' u) lv (kc + rm.cells) (ks + rm.slots) (pc + 3) (.int r :: rest)) : J p l e R s m args below meth c Q D A nL ws lv kc ks pc st := fun H L ls hP hD hS hl => w_i C isC isR hC hW hnC hnR hdis hP hD hS hl (r_VZ C hZ K K2 hcl hM hR hf hS (va_free (wc := wc) hD hS C.ha isC hC) (hP.sub isC (fm_of hC)) (hD.sub isC hnC hC) hl hn hs hst d) kk
theorem j_callSZi (C : Cx p s m args meth c D y A cc nL own nm) (hZ : ZS ak vv A s) {S : Type} {post : Int32 → S → Prop} {ws' : S → va_W} {rt : FieldType} (hM : CZ l D y f b mL (some rt) rm As wc ak vv (QI D wc post ws')) (K : KW own idx f b mL (some rt) n) (K2 : Cond.static f ∈ TB) (hR : rm.frames + 1 ≤ R.frames ∧ 8 + (mL + 11) + rm.locals ≤ R.locals) (hf : kc + rm.cells ≤ R.cells ∧ ks + rm.slots ≤ R.slots) (isC isR : List Nat) (hC : isC.map (fun i => ws[i]?) = wc.map some) (hW : isR.map (fun i => ws[i]?) = wr.map some) (hnC : va_nd isC = true) (hnR : va_nd isR = true) (hdis : ∀ i ∈ isR, i ∉ isC) (hn : As.length = n) (hs : (rest.map fun v => v.category).sum ≤ 8) (hst : st = As.reverse ++ rest) (d : decode cc pc = .ok (.invokestatic idx, 3)) (kk : ∀ (r : Int32) (u : S), post r u → J p l e R s m args below meth c Q D A nL (wr ++ ws' u) lv (kc + rm.cells) (ks + rm.slots) (pc + 3) (.int r :: rest)) : J p l e R s m args below meth c Q D A nL ws lv kc ks pc st := fun H L ls hP hD hS hl => w_i C isC isR hC hW hnC hnR hdis hP hD hS hl (r_SZ C hZ K K2 hM hR hf hS (va_free (wc := wc) hD hS C.ha isC hC) (hP.sub isC (fm_of hC)) (hD.sub isC hnC hC) hl hn hs hst d) kk
theorem j_callSZv (C : Cx p s m args meth c D y A cc nL own nm) (hZ : ZS ak vv A s) {S : Type} {post : S → Prop} {ws' : S → va_W} (hM : CZ l D y f b mL none rm As wc ak vv (QV D wc post ws')) (K : KW own idx f b mL none n) (K2 : Cond.static f ∈ TB) (hR : rm.frames + 1 ≤ R.frames ∧ 8 + (mL + 11) + rm.locals ≤ R.locals) (hf : kc + rm.cells ≤ R.cells ∧ ks + rm.slots ≤ R.slots) (isC isR : List Nat) (hC : isC.map (fun i => ws[i]?) = wc.map some) (hW : isR.map (fun i => ws[i]?) = wr.map some) (hnC : va_nd isC = true) (hnR : va_nd isR = true) (hdis : ∀ i ∈ isR, i ∉ isC) (hn : As.length = n) (hs : (rest.map fun v => v.category).sum ≤ 8) (hst : st = As.reverse ++ rest) (d : decode cc pc = .ok (.invokestatic idx, 3)) (kk : ∀ (u : S), post u → J p l e R s m args below meth c Q D A nL (wr ++ ws' u) lv (kc + rm.cells) (ks + rm.slots) (pc + 3) rest) : J p l e R s m args below meth c Q D A nL ws lv kc ks pc st := fun H L ls hP hD hS hl => w_v C isC isR hC hW hnC hnR hdis hP hD hS hl (r_SZ C hZ K K2 hM hR hf hS (va_free (wc := wc) hD hS C.ha isC hC) (hP.sub isC (fm_of hC)) (hD.sub isC hnC hC) hl hn hs hst d) kk
theorem j_callIZv (C : Cx p s m args meth c D y A cc nL own nm) (hZ : ZS ak vv A s) {S : Type} {post : S → Prop} {ws' : S → va_W} {a : Nat} (hM : CZ l D y f b mL none rm (.ref a :: As) wc ak vv (QV D wc post ws')) (K : KW own idx f b mL none n) (K2 : f.name = "<init>" ∧ Cond.instanceMethod f ∈ TB) (hR : rm.frames + 1 ≤ R.frames ∧ 8 + (mL + 11) + rm.locals ≤ R.locals) (hf : kc + rm.cells ≤ R.cells ∧ ks + rm.slots ≤ R.slots) (isC isR : List Nat) (hC : isC.map (fun i => ws[i]?) = wc.map some) (hW : isR.map (fun i => ws[i]?) = wr.map some) (hnC : va_nd isC = true) (hnR : va_nd isR = true) (hdis : ∀ i ∈ isR, i ∉ isC) (hn : As.length = n) (hs : (rest.map fun v => v.category).sum ≤ 8) (hst : st = As.reverse ++ .ref a :: rest) (d : decode cc pc = .ok (.invokespecial idx, 3)) (kk : ∀ (u : S), post u → J p l e R s m args below meth c Q D A nL (wr ++ ws' u) lv (kc + rm.cells) (ks + rm.slots) (pc + 3) rest) : J p l e R s m args below meth c Q D A nL ws lv kc ks pc st := fun H L ls hP hD hS hl => w_v C isC isR hC hW hnC hnR hdis hP hD hS hl (r_IZ C hZ K K2 hM hR hf hS (va_free (wc := wc) hD hS C.ha isC hC) (hP.sub isC (fm_of hC)) (hD.sub isC hnC hC) hl hn hs hst d) kk
theorem j_callIZvT (C : Cx p s m args meth c D y A cc nL own nm) (hZ : ZS ak vv A s) {S : Type} {post : S → Prop} {ws' : S → va_W} {a : Nat} (hM : CZ l D y f b mL none rm (.ref a :: As) wc ak vv (QV D wc post ws')) (K : KW own idx f b mL none n) (K2 : f.name = "<init>" ∧ Cond.instanceMethod f ∈ TB) (hR : rm.frames + 1 ≤ R.frames ∧ 8 + (mL + 11) + rm.locals ≤ R.locals) (hf : kc + rm.cells ≤ R.cells ∧ ks + rm.slots ≤ R.slots) (isC isR : List Nat) (hC : isC.map (fun i => X[i]?) = wc.map some) (hW : isR.map (fun i => X[i]?) = wr.map some) (hnC : va_nd isC = true) (hnR : va_nd isR = true) (hdis : ∀ i ∈ isR, i ∉ isC) (hn : As.length = n) (hs : (rest.map fun v => v.category).sum ≤ 8) (hst : st = As.reverse ++ .ref a :: rest) (d : decode cc pc = .ok (.invokespecial idx, 3)) (kk : ∀ (u : S), post u → J p l e R s m args below meth c Q D A nL ((wr ++ ws' u) ++ T) lv (kc + rm.cells) (ks + rm.slots) (pc + 3) rest) : J p l e R s m args below meth c Q D A nL (X ++ T) lv kc ks pc st := fun H L ls hP hD hS hl => w_vT C isC isR hC hW hnC hnR hdis hP hD hS hl (r_IZ C hZ K K2 hM hR hf hS (va_free (wc := wc) (pf_D hD) hS C.ha isC hC) ((pf_P hP).sub isC (fm_of hC)) ((pf_D hD).sub isC hnC hC) hl hn hs hst d) kk
end JZ
def chW (i : Int32) : Int32 := (((wb.getD i.toNatClampNeg 0) &&& 255).toUInt32 % 65536).toInt32
theorem d_String_coder_0 : decode prog_15_method_152_code 0 = .ok (.getstatic 38, 3) := by decide +kernel
theorem d_String_coder_3 : decode prog_15_method_152_code 3 = .ok (.ifCond .eq 10, 3) := by decide +kernel
theorem d_String_coder_6 : decode prog_15_method_152_code 6 = .ok (.aload_n 0, 1) := by decide +kernel
theorem d_String_coder_7 : decode prog_15_method_152_code 7 = .ok (.getfield 15, 3) := by decide +kernel
theorem d_String_coder_10 : decode prog_15_method_152_code 10 = .ok (.goto 4, 3) := by decide +kernel
theorem d_String_coder_14 : decode prog_15_method_152_code 14 = .ok (.ireturn, 1) := by decide +kernel
set_option maxHeartbeats 4000000 in
set_option maxRecDepth 100000 in
theorem c_S_coder (l : Launch) (D : va_G) (y : Nat → ClassId) (ak : Nat) (vv : Nat)  : CZ l D y ⟨"java/lang/String", "coder", "()B"⟩ prog_15_method_152_code 1 (some .byte) ({ frames := 0, cells := 0, slots := 0, locals := 0 } : Room) [.ref ak] [] ak vv (QI D [] (fun (r : Int32) (_ : Unit) => r = 0) (fun _ => [])) := by
  refine CZ_ofF (by decide +kernel) (nb rfl) ?_
  intro p e s m args below meth c C hZ hr
  refine j_lv (lv' := [(0, .ref ak)]) rfl ?_
  refine j_getsC (pc := 0) C hZ (mt_2 (List.mem_of_getElem? (i := 122) rfl) rfl) d_String_coder_0 ?_
  refine j_if_eqF (pc := 3) C (tgt := 13) d_String_coder_3 (by decide) (by decide) ?_
  refine j_aload_n (pc := 6) C d_String_coder_6 rfl 0 rfl ?_
  refine j_getSc (pc := 7) C hZ (mt_8 (List.mem_of_getElem? (i := 123) rfl) rfl) d_String_coder_7 ?_
  refine j_goto (pc := 10) C (tgt := 14) d_String_coder_10 (by decide) ?_
  exact j_iret (pc := 14) C hr (by decide) () rfl [] rfl (by decide) (by decide) (by decide) d_String_coder_14
theorem d_String_length_0 : decode prog_15_method_54_code 0 = .ok (.aload_n 0, 1) := by decide +kernel
theorem d_String_length_1 : decode prog_15_method_54_code 1 = .ok (.getfield 9, 3) := by decide +kernel
theorem d_String_length_4 : decode prog_15_method_54_code 4 = .ok (.arraylength, 1) := by decide +kernel
theorem d_String_length_5 : decode prog_15_method_54_code 5 = .ok (.aload_n 0, 1) := by decide +kernel
theorem d_String_length_6 : decode prog_15_method_54_code 6 = .ok (.invokevirtual 335, 3) := by decide +kernel
theorem kw_String_335 : KW "java/lang/String" 335 ⟨"java/lang/String", "coder", "()B"⟩ prog_15_method_152_code 1 (some .byte) 0 := ⟨(mt_2 (List.mem_of_getElem? (i := 118) rfl) rfl), (mt_1 (List.mem_of_getElem? (i := 11) rfl) rfl), (mt_2 (List.mem_of_getElem? (i := 121) rfl) rfl), by decide +kernel⟩
theorem kv_String_coder : Cond.instanceMethod ⟨"java/lang/String", "coder", "()B"⟩ ∈ TB ∧ Cond.selects "java/lang/String" ⟨"java/lang/String", "coder", "()B"⟩ ⟨"java/lang/String", "coder", "()B"⟩ ∈ TB := ⟨(mt_2 (List.mem_of_getElem? (i := 119) rfl) rfl), (mt_2 (List.mem_of_getElem? (i := 120) rfl) rfl)⟩
theorem d_String_length_9 : decode prog_15_method_54_code 9 = .ok (.ishr, 1) := by decide +kernel
theorem d_String_length_10 : decode prog_15_method_54_code 10 = .ok (.ireturn, 1) := by decide +kernel
set_option maxHeartbeats 4000000 in
set_option maxRecDepth 100000 in
theorem c_S_length (l : Launch) (D : va_G) (y : Nat → ClassId) (ak : Nat) (vv : Nat)  : CZ l D y ⟨"java/lang/String", "length", "()I"⟩ prog_15_method_54_code 1 (some .int) ({ frames := 1, cells := 0, slots := 0, locals := 20 } : Room) [.ref ak] [] ak vv (QI D [] (fun (r : Int32) (_ : Unit) => r = 173) (fun _ => [])) := by
  refine CZ_ofF (by decide +kernel) (nb rfl) ?_
  intro p e s m args below meth c C hZ hr
  refine j_lv (lv' := [(0, .ref ak)]) rfl ?_
  refine j_aload_n (pc := 0) C d_String_length_0 rfl 0 rfl ?_
  refine j_getSv (pc := 1) C hZ (mt_8 (List.mem_of_getElem? (i := 122) rfl) rfl) d_String_length_1 ?_
  refine j_lenS (pc := 4) C hZ d_String_length_4 ?_
  refine j_aload_n (pc := 5) C d_String_length_5 rfl 0 rfl ?_
  refine j_callVZi (pc := 6) C hZ (c_S_coder l D y ak vv) kw_String_335 kv_String_coder rfl ⟨by decide, by decide⟩ ⟨by decide, by decide⟩ (wr := []) [] [] rfl rfl (by decide) (by decide) (by decide) (As := []) (rest := [.int 173]) rfl (nb rfl) rfl d_String_length_6 (fun r1 _ hr1 => ?_)
  subst hr1
  refine j_ws (ws' := []) rfl ?_
  refine j_st (st' := [.int 0, .int 173]) rfl ?_
  refine j_ishr (pc := 9) C (v := 173) d_String_length_9 (by decide) ?_
  exact j_iret (pc := 10) C hr rfl () rfl [] rfl (by decide) (by decide) (by decide) d_String_length_10
theorem d_String_isLatin1_0 : decode prog_15_method_154_code 0 = .ok (.getstatic 38, 3) := by decide +kernel
theorem d_String_isLatin1_3 : decode prog_15_method_154_code 3 = .ok (.ifCond .eq 14, 3) := by decide +kernel
theorem d_String_isLatin1_6 : decode prog_15_method_154_code 6 = .ok (.aload_n 0, 1) := by decide +kernel
theorem d_String_isLatin1_7 : decode prog_15_method_154_code 7 = .ok (.getfield 15, 3) := by decide +kernel
theorem d_String_isLatin1_10 : decode prog_15_method_154_code 10 = .ok (.ifCond .ne 7, 3) := by decide +kernel
theorem d_String_isLatin1_13 : decode prog_15_method_154_code 13 = .ok (.iconst 1, 1) := by decide +kernel
theorem d_String_isLatin1_14 : decode prog_15_method_154_code 14 = .ok (.goto 4, 3) := by decide +kernel
theorem d_String_isLatin1_18 : decode prog_15_method_154_code 18 = .ok (.ireturn, 1) := by decide +kernel
set_option maxHeartbeats 4000000 in
set_option maxRecDepth 100000 in
theorem c_S_latin (l : Launch) (D : va_G) (y : Nat → ClassId) (ak : Nat) (vv : Nat)  : CZ l D y ⟨"java/lang/String", "isLatin1", "()Z"⟩ prog_15_method_154_code 1 (some .boolean) ({ frames := 0, cells := 0, slots := 0, locals := 0 } : Room) [.ref ak] [] ak vv (QI D [] (fun (r : Int32) (_ : Unit) => r = 1) (fun _ => [])) := by
  refine CZ_ofF (by decide +kernel) (nb rfl) ?_
  intro p e s m args below meth c C hZ hr
  refine j_lv (lv' := [(0, .ref ak)]) rfl ?_
  refine j_getsC (pc := 0) C hZ (mt_2 (List.mem_of_getElem? (i := 122) rfl) rfl) d_String_isLatin1_0 ?_
  refine j_if_eqF (pc := 3) C (tgt := 17) d_String_isLatin1_3 (by decide) (by decide) ?_
  refine j_aload_n (pc := 6) C d_String_isLatin1_6 rfl 0 rfl ?_
  refine j_getSc (pc := 7) C hZ (mt_8 (List.mem_of_getElem? (i := 123) rfl) rfl) d_String_isLatin1_7 ?_
  refine j_if_neF (pc := 10) C (tgt := 17) d_String_isLatin1_10 (by decide) (by decide) ?_
  refine j_iconst (pc := 13) C (v := 1) d_String_isLatin1_13 (by decide) ?_
  refine j_goto (pc := 14) C (tgt := 18) d_String_isLatin1_14 (by decide) ?_
  exact j_iret (pc := 18) C hr (by decide) () rfl [] rfl (by decide) (by decide) (by decide) d_String_isLatin1_18
theorem d_Preconditions_checkIndex_0 : decode prog_19_method_11_code 0 = .ok (.iload_n 0, 1) := by decide +kernel
theorem d_Preconditions_checkIndex_1 : decode prog_19_method_11_code 1 = .ok (.ifCond .lt 8, 3) := by decide +kernel
theorem d_Preconditions_checkIndex_4 : decode prog_19_method_11_code 4 = .ok (.iload_n 0, 1) := by decide +kernel
theorem d_Preconditions_checkIndex_5 : decode prog_19_method_11_code 5 = .ok (.iload_n 1, 1) := by decide +kernel
theorem d_Preconditions_checkIndex_6 : decode prog_19_method_11_code 6 = .ok (.if_icmp .lt 10, 3) := by decide +kernel
theorem d_Preconditions_checkIndex_16 : decode prog_19_method_11_code 16 = .ok (.iload_n 0, 1) := by decide +kernel
theorem d_Preconditions_checkIndex_17 : decode prog_19_method_11_code 17 = .ok (.ireturn, 1) := by decide +kernel
set_option maxHeartbeats 4000000 in
set_option maxRecDepth 100000 in
theorem c_check_N (l : Launch) (D : va_G) (y : Nat → ClassId) (i : Int32) (h0 : ¬ i < 0) (h1 : i < 173) : CT l D y ⟨"jdk/internal/util/Preconditions", "checkIndex", "(IILjava/util/function/BiFunction;)I"⟩ prog_19_method_11_code 3 (some .int) ({ frames := 0, cells := 0, slots := 0, locals := 0 } : Room) [.int i, .int 173, .null] [] (QI D [] (fun (r : Int32) (_ : Unit) => r = i) (fun _ => [])) := by
  refine CT_ofF (by decide +kernel) (nb rfl) ?_
  intro p e s m args below meth c C hr
  refine j_lv (lv' := [(0, .int i), (1, .int 173), (2, .null)]) rfl ?_
  refine j_iload_n (pc := 0) C d_Preconditions_checkIndex_0 rfl 0 rfl ?_
  refine j_if_ltF (pc := 1) C (tgt := 9) d_Preconditions_checkIndex_1 (by decide) h0 ?_
  refine j_iload_n (pc := 4) C d_Preconditions_checkIndex_4 rfl 0 rfl ?_
  refine j_iload_n (pc := 5) C d_Preconditions_checkIndex_5 rfl 1 rfl ?_
  refine j_icmp_ltT (pc := 6) C (tgt := 16) d_Preconditions_checkIndex_6 (by decide) h1 ?_
  refine j_iload_n (pc := 16) C d_Preconditions_checkIndex_16 rfl 0 rfl ?_
  exact j_iret (pc := 17) C hr rfl () rfl [] rfl (by decide) (by decide) (by decide) d_Preconditions_checkIndex_17
set_option maxHeartbeats 4000000 in
set_option maxRecDepth 100000 in
theorem c_check_R (l : Launch) (D : va_G) (y : Nat → ClassId) (i : Int32) (g : Nat) (h0 : ¬ i < 0) (h1 : i < 173) : CT l D y ⟨"jdk/internal/util/Preconditions", "checkIndex", "(IILjava/util/function/BiFunction;)I"⟩ prog_19_method_11_code 3 (some .int) ({ frames := 0, cells := 0, slots := 0, locals := 0 } : Room) [.int i, .int 173, .ref g] [] (QI D [] (fun (r : Int32) (_ : Unit) => r = i) (fun _ => [])) := by
  refine CT_ofF (by decide +kernel) (nb rfl) ?_
  intro p e s m args below meth c C hr
  refine j_lv (lv' := [(0, .int i), (1, .int 173), (2, .ref g)]) rfl ?_
  refine j_iload_n (pc := 0) C d_Preconditions_checkIndex_0 rfl 0 rfl ?_
  refine j_if_ltF (pc := 1) C (tgt := 9) d_Preconditions_checkIndex_1 (by decide) h0 ?_
  refine j_iload_n (pc := 4) C d_Preconditions_checkIndex_4 rfl 0 rfl ?_
  refine j_iload_n (pc := 5) C d_Preconditions_checkIndex_5 rfl 1 rfl ?_
  refine j_icmp_ltT (pc := 6) C (tgt := 16) d_Preconditions_checkIndex_6 (by decide) h1 ?_
  refine j_iload_n (pc := 16) C d_Preconditions_checkIndex_16 rfl 0 rfl ?_
  exact j_iret (pc := 17) C hr rfl () rfl [] rfl (by decide) (by decide) (by decide) d_Preconditions_checkIndex_17
theorem d_String_checkIndex_0 : decode prog_15_method_155_code 0 = .ok (.iload_n 0, 1) := by decide +kernel
theorem d_String_checkIndex_1 : decode prog_15_method_155_code 1 = .ok (.iload_n 1, 1) := by decide +kernel
theorem d_String_checkIndex_2 : decode prog_15_method_155_code 2 = .ok (.getstatic 1053, 3) := by decide +kernel
theorem d_String_checkIndex_5 : decode prog_15_method_155_code 5 = .ok (.invokestatic 1059, 3) := by decide +kernel
theorem kw_String_1059 : KW "java/lang/String" 1059 ⟨"jdk/internal/util/Preconditions", "checkIndex", "(IILjava/util/function/BiFunction;)I"⟩ prog_19_method_11_code 3 (some .int) 3 := ⟨(mt_2 (List.mem_of_getElem? (i := 140) rfl) rfl), (mt_1 (List.mem_of_getElem? (i := 13) rfl) rfl), (mt_2 (List.mem_of_getElem? (i := 142) rfl) rfl), by decide +kernel⟩
theorem ks_Preconditions_checkIndex : Cond.static ⟨"jdk/internal/util/Preconditions", "checkIndex", "(IILjava/util/function/BiFunction;)I"⟩ ∈ TB := (mt_2 (List.mem_of_getElem? (i := 141) rfl) rfl)
theorem d_String_checkIndex_8 : decode prog_15_method_155_code 8 = .ok (.pop, 1) := by decide +kernel
theorem d_String_checkIndex_9 : decode prog_15_method_155_code 9 = .ok (.return_, 1) := by decide +kernel
set_option maxHeartbeats 4000000 in
set_option maxRecDepth 100000 in
theorem c_S_check (l : Launch) (D : va_G) (y : Nat → ClassId) (ak : Nat) (vv : Nat) (i : Int32) (h0 : ¬ i < 0) (h1 : i < 173) : CZ l D y ⟨"java/lang/String", "checkIndex", "(II)V"⟩ prog_15_method_155_code 2 none ({ frames := 1, cells := 0, slots := 0, locals := 22 } : Room) [.int i, .int 173] [] ak vv (QV D [] (fun (_ : Unit) => True) (fun _ => [])) := by
  refine CZ_ofF (by decide +kernel) (nb rfl) ?_
  intro p e s m args below meth c C hZ hr
  refine j_lv (lv' := [(0, .int i), (1, .int 173)]) rfl ?_
  refine j_iload_n (pc := 0) C d_String_checkIndex_0 rfl 0 rfl ?_
  refine j_iload_n (pc := 1) C d_String_checkIndex_1 rfl 1 rfl ?_
  refine j_getsF (pc := 2) C hZ (mt_2 (List.mem_of_getElem? (i := 138) rfl) rfl) d_String_checkIndex_2 ?_ (fun g1 => ?_)
  · refine j_callSi (pc := 5) C (c_check_N l D y i h0 h1) kw_String_1059 ks_Preconditions_checkIndex ⟨by decide, by decide⟩ ⟨by decide, by decide⟩ (wr := []) [] [] rfl rfl (by decide) (by decide) (by decide) (As := [.int i, .int 173, .null]) (rest := []) rfl (nb rfl) rfl d_String_checkIndex_5 (fun r2 _ hr2 => ?_)
    rw [hr2]
    refine j_ws (ws' := []) rfl ?_
    refine j_st (st' := [.int i]) rfl ?_
    refine j_pop (pc := 8) C d_String_checkIndex_8 rfl ?_
    exact j_vret (pc := 9) C hr () trivial [] rfl (by decide) (by decide) (by decide) d_String_checkIndex_9
  · refine j_callSi (pc := 5) C (c_check_R l D y i g1 h0 h1) kw_String_1059 ks_Preconditions_checkIndex ⟨by decide, by decide⟩ ⟨by decide, by decide⟩ (wr := []) [] [] rfl rfl (by decide) (by decide) (by decide) (As := [.int i, .int 173, .ref g1]) (rest := []) rfl (nb rfl) rfl d_String_checkIndex_5 (fun r3 _ hr3 => ?_)
    rw [hr3]
    refine j_ws (ws' := []) rfl ?_
    refine j_st (st' := [.int i]) rfl ?_
    refine j_pop (pc := 8) C d_String_checkIndex_8 rfl ?_
    exact j_vret (pc := 9) C hr () trivial [] rfl (by decide) (by decide) (by decide) d_String_checkIndex_9
theorem in173 {i : Int32} (h0 : ¬ i < 0) (h1 : i < 173) : vp_in i 173 := pk_in2 (n := 173) h0 (Int32.not_le.mpr h1)
theorem d_StringLatin1_charAt_0 : decode prog_16_method_2_code 0 = .ok (.iload_n 1, 1) := by decide +kernel
theorem d_StringLatin1_charAt_1 : decode prog_16_method_2_code 1 = .ok (.aload_n 0, 1) := by decide +kernel
theorem d_StringLatin1_charAt_2 : decode prog_16_method_2_code 2 = .ok (.arraylength, 1) := by decide +kernel
theorem d_StringLatin1_charAt_3 : decode prog_16_method_2_code 3 = .ok (.invokestatic 9, 3) := by decide +kernel
theorem kw_StringLatin1_9 : KW "java/lang/StringLatin1" 9 ⟨"java/lang/String", "checkIndex", "(II)V"⟩ prog_15_method_155_code 2 none 2 := ⟨(mt_2 (List.mem_of_getElem? (i := 135) rfl) rfl), (mt_1 (List.mem_of_getElem? (i := 11) rfl) rfl), (mt_2 (List.mem_of_getElem? (i := 137) rfl) rfl), by decide +kernel⟩
theorem ks_String_checkIndex : Cond.static ⟨"java/lang/String", "checkIndex", "(II)V"⟩ ∈ TB := (mt_2 (List.mem_of_getElem? (i := 136) rfl) rfl)
theorem d_StringLatin1_charAt_6 : decode prog_16_method_2_code 6 = .ok (.aload_n 0, 1) := by decide +kernel
theorem d_StringLatin1_charAt_7 : decode prog_16_method_2_code 7 = .ok (.iload_n 1, 1) := by decide +kernel
theorem d_StringLatin1_charAt_8 : decode prog_16_method_2_code 8 = .ok (.baload, 1) := by decide +kernel
theorem d_StringLatin1_charAt_9 : decode prog_16_method_2_code 9 = .ok (.sipush 255, 3) := by decide +kernel
theorem d_StringLatin1_charAt_12 : decode prog_16_method_2_code 12 = .ok (.iand, 1) := by decide +kernel
theorem d_StringLatin1_charAt_13 : decode prog_16_method_2_code 13 = .ok (.i2c, 1) := by decide +kernel
theorem d_StringLatin1_charAt_14 : decode prog_16_method_2_code 14 = .ok (.ireturn, 1) := by decide +kernel
set_option maxHeartbeats 4000000 in
set_option maxRecDepth 100000 in
theorem c_L_charAt (l : Launch) (D : va_G) (y : Nat → ClassId) (ak : Nat) (vv : Nat) (i : Int32) (h0 : ¬ i < 0) (h1 : i < 173) : CZ l D y ⟨"java/lang/StringLatin1", "charAt", "([BI)C"⟩ prog_16_method_2_code 2 (some .char) ({ frames := 2, cells := 0, slots := 0, locals := 43 } : Room) [.ref vv, .int i] [] ak vv (QI D [] (fun (r : Int32) (u : Unit) => (narrow .char (.int r) = .int r ∧ r = chW i)) (fun _ => [])) := by
  refine CZ_ofF (by decide +kernel) (nb rfl) ?_
  intro p e s m args below meth c C hZ hr
  refine j_lv (lv' := [(0, .ref vv), (1, .int i)]) rfl ?_
  refine j_iload_n (pc := 0) C d_StringLatin1_charAt_0 rfl 1 rfl ?_
  refine j_aload_n (pc := 1) C d_StringLatin1_charAt_1 rfl 0 rfl ?_
  refine j_lenS (pc := 2) C hZ d_StringLatin1_charAt_2 ?_
  refine j_callSZv (pc := 3) C hZ (c_S_check l D y ak vv i h0 h1) kw_StringLatin1_9 ks_String_checkIndex ⟨by decide, by decide⟩ ⟨by decide, by decide⟩ (wr := []) [] [] rfl rfl (by decide) (by decide) (by decide) (As := [.int i, .int 173]) (rest := []) rfl (nb rfl) rfl d_StringLatin1_charAt_3 (fun _ _ => ?_)
  refine j_ws (ws' := []) rfl ?_
  refine j_aload_n (pc := 6) C d_StringLatin1_charAt_6 rfl 0 rfl ?_
  refine j_iload_n (pc := 7) C d_StringLatin1_charAt_7 rfl 1 rfl ?_
  refine j_baldS (pc := 8) C hZ (in173 h0 h1) d_StringLatin1_charAt_8 ?_
  refine j_sipush (pc := 9) C (v := 255) d_StringLatin1_charAt_9 (by decide) ?_
  refine j_iand (pc := 12) C (v := (wb.getD i.toNatClampNeg 0) &&& 255) d_StringLatin1_charAt_12 rfl ?_
  refine j_i2c (pc := 13) C (v := (((wb.getD i.toNatClampNeg 0) &&& 255).toUInt32 % 65536).toInt32) d_StringLatin1_charAt_13 rfl ?_
  exact j_iret (pc := 14) C hr (pk_nc _) () ⟨pk_nc _, rfl⟩ [] rfl (by decide) (by decide) (by decide) d_StringLatin1_charAt_14
theorem d_String_charAt_0 : decode prog_15_method_56_code 0 = .ok (.aload_n 0, 1) := by decide +kernel
theorem d_String_charAt_1 : decode prog_15_method_56_code 1 = .ok (.invokevirtual 492, 3) := by decide +kernel
theorem kw_String_492 : KW "java/lang/String" 492 ⟨"java/lang/String", "isLatin1", "()Z"⟩ prog_15_method_154_code 1 (some .boolean) 0 := ⟨(mt_2 (List.mem_of_getElem? (i := 128) rfl) rfl), (mt_1 (List.mem_of_getElem? (i := 11) rfl) rfl), (mt_2 (List.mem_of_getElem? (i := 131) rfl) rfl), by decide +kernel⟩
theorem kv_String_isLatin1 : Cond.instanceMethod ⟨"java/lang/String", "isLatin1", "()Z"⟩ ∈ TB ∧ Cond.selects "java/lang/String" ⟨"java/lang/String", "isLatin1", "()Z"⟩ ⟨"java/lang/String", "isLatin1", "()Z"⟩ ∈ TB := ⟨(mt_2 (List.mem_of_getElem? (i := 129) rfl) rfl), (mt_2 (List.mem_of_getElem? (i := 130) rfl) rfl)⟩
theorem d_String_charAt_4 : decode prog_15_method_56_code 4 = .ok (.ifCond .eq 12, 3) := by decide +kernel
theorem d_String_charAt_7 : decode prog_15_method_56_code 7 = .ok (.aload_n 0, 1) := by decide +kernel
theorem d_String_charAt_8 : decode prog_15_method_56_code 8 = .ok (.getfield 9, 3) := by decide +kernel
theorem d_String_charAt_11 : decode prog_15_method_56_code 11 = .ok (.iload_n 1, 1) := by decide +kernel
theorem d_String_charAt_12 : decode prog_15_method_56_code 12 = .ok (.invokestatic 495, 3) := by decide +kernel
theorem kw_String_495 : KW "java/lang/String" 495 ⟨"java/lang/StringLatin1", "charAt", "([BI)C"⟩ prog_16_method_2_code 2 (some .char) 2 := ⟨(mt_2 (List.mem_of_getElem? (i := 132) rfl) rfl), (mt_1 (List.mem_of_getElem? (i := 12) rfl) rfl), (mt_2 (List.mem_of_getElem? (i := 134) rfl) rfl), by decide +kernel⟩
theorem ks_StringLatin1_charAt : Cond.static ⟨"java/lang/StringLatin1", "charAt", "([BI)C"⟩ ∈ TB := (mt_2 (List.mem_of_getElem? (i := 133) rfl) rfl)
theorem d_String_charAt_15 : decode prog_15_method_56_code 15 = .ok (.ireturn, 1) := by decide +kernel
set_option maxHeartbeats 4000000 in
set_option maxRecDepth 100000 in
theorem c_S_charAt (l : Launch) (D : va_G) (y : Nat → ClassId) (ak : Nat) (vv : Nat) (i : Int32) (h0 : ¬ i < 0) (h1 : i < 173) : CZ l D y ⟨"java/lang/String", "charAt", "(I)C"⟩ prog_15_method_56_code 2 (some .char) ({ frames := 3, cells := 0, slots := 0, locals := 64 } : Room) [.ref ak, .int i] [] ak vv (QI D [] (fun (r : Int32) (u : Unit) => (narrow .char (.int r) = .int r ∧ r = chW i)) (fun _ => [])) := by
  refine CZ_ofF (by decide +kernel) (nb rfl) ?_
  intro p e s m args below meth c C hZ hr
  refine j_lv (lv' := [(0, .ref ak), (1, .int i)]) rfl ?_
  refine j_aload_n (pc := 0) C d_String_charAt_0 rfl 0 rfl ?_
  refine j_callVZi (pc := 1) C hZ (c_S_latin l D y ak vv) kw_String_492 kv_String_isLatin1 rfl ⟨by decide, by decide⟩ ⟨by decide, by decide⟩ (wr := []) [] [] rfl rfl (by decide) (by decide) (by decide) (As := []) (rest := []) rfl (nb rfl) rfl d_String_charAt_1 (fun r1 _ hr1 => ?_)
  subst hr1
  refine j_ws (ws' := []) rfl ?_
  refine j_st (st' := [.int 1]) rfl ?_
  refine j_if_eqF (pc := 4) C (tgt := 16) d_String_charAt_4 (by decide) (by decide) ?_
  refine j_aload_n (pc := 7) C d_String_charAt_7 rfl 0 rfl ?_
  refine j_getSv (pc := 8) C hZ (mt_8 (List.mem_of_getElem? (i := 122) rfl) rfl) d_String_charAt_8 ?_
  refine j_iload_n (pc := 11) C d_String_charAt_11 rfl 1 rfl ?_
  refine j_callSZi (pc := 12) C hZ (c_L_charAt l D y ak vv i h0 h1) kw_String_495 ks_StringLatin1_charAt ⟨by decide, by decide⟩ ⟨by decide, by decide⟩ (wr := []) [] [] rfl rfl (by decide) (by decide) (by decide) (As := [.ref vv, .int i]) (rest := []) rfl (nb rfl) rfl d_String_charAt_12 (fun r2 _ hr2 => ?_)
  refine j_ws (ws' := []) rfl ?_
  exact j_iret (pc := 15) C hr hr2.1 () hr2 [] rfl (by decide) (by decide) (by decide) d_String_charAt_15
