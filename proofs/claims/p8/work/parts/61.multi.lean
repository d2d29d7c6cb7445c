/-! a row of rows of ints is made: the outer row, then each inner one, laid into its place at once -/
section MR
variable {E : CtlPost} {e : Env} {d : Bool} {acts : List Action} {s : State}
def mo_c (cA : ClassId) (N h i : Nat) : Cell := arrV cA N (fun j => va_rf (if j < i then some (h + 1 + j) else none))
def mi_c (c0 : ClassId) (M : Nat) : Cell := arrV c0 M (fun _ => .int 0)
def mk_s (s : State) (cA c0 : ClassId) (N M : Nat) : Nat → State
  | 0 => s.pushCell (mo_c cA N s.heap.size 0)
  | i + 1 => ((mk_s s cA c0 N M i).pushCell (mi_c c0 M)).setCell s.heap.size (mo_c cA N s.heap.size (i + 1))
theorem mo_step (cA : ClassId) (N h i : Nat) : (mo_c cA N h i).setSlot i (.ref (h + 1 + i)) = mo_c cA N h (i + 1) := by
  unfold mo_c
  rw [arrV_store]
  congr 1
  funext j
  by_cases q : j = i
  · subst q
    simp [updV, va_rf]
  · by_cases r : j < i
    · simp [updV, q, r, Nat.lt_succ_of_lt r]
    · have r2 : ¬ j < i + 1 := by omega
      simp [updV, q, r, r2]
theorem mk_size (s : State) (cA c0 : ClassId) (N M : Nat) : ∀ i, (mk_s s cA c0 N M i).heap.size = s.heap.size + 1 + i := by
  intro i
  induction i with
  | zero => simp [mk_s]
  | succ i ih => simp only [mk_s, State.setCell, State.pushCell, Array.size_setIfInBounds, Array.size_push] at *; omega
theorem mk_outer (s : State) (cA c0 : ClassId) (N M : Nat) : ∀ i, (mk_s s cA c0 N M i).heap[s.heap.size]? = some (mo_c cA N s.heap.size i) := by
  intro i
  cases i with
  | zero => simp [mk_s]
  | succ i =>
    have z := mk_size s cA c0 N M i
    show (((mk_s s cA c0 N M i).pushCell (mi_c c0 M)).setCell s.heap.size (mo_c cA N s.heap.size (i + 1))).heap[s.heap.size]? = _
    refine heapAt_setCell_self _ ?_
    show s.heap.size < ((mk_s s cA c0 N M i).heap.push (mi_c c0 M)).size
    rw [Array.size_push]
    omega
theorem mk_vm (s : State) (cA c0 : ClassId) (N M : Nat) : ∀ i, (mk_s s cA c0 N M i).vm = s.vm := by
  intro i
  induction i with
  | zero => rfl
  | succ i ih => exact ih
theorem mk_used (s : State) (cA c0 : ClassId) (N M : Nat) : ∀ i, (mk_s s cA c0 N M i).slotsUsed = s.slotsUsed + N + i * M := by
  intro i
  induction i with
  | zero => simp [mk_s, mo_c, arrV_size]
  | succ i ih => simp [mk_s, ih, mi_c, arrV_size, Nat.succ_mul]; omega
theorem mk_top (s : State) (f : JFrame) (cA c0 : ClassId) (N M : Nat) : ∀ i, mk_s (s.setTop f) cA c0 N M i = (mk_s s cA c0 N M i).setTop f := by
  intro i
  induction i with
  | zero => rfl
  | succ i ih => simp only [mk_s, ih, State.heap_setTop, State.pushCell_setTop, State.setCell_setTop]
theorem mk_old (s : State) (cA c0 : ClassId) (N M : Nat) {a : Nat} (ha : a < s.heap.size) : ∀ i, (mk_s s cA c0 N M i).heap[a]? = s.heap[a]? := by
  intro i
  induction i with
  | zero => exact State.heap_pushCell_of_lt _ _ ha
  | succ i ih =>
    have z := mk_size s cA c0 N M i
    show (((mk_s s cA c0 N M i).pushCell (mi_c c0 M)).setCell s.heap.size _).heap[a]? = _
    have hlt : a < (mk_s s cA c0 N M i).heap.size := by omega
    rw [State.heap_setCell_other (Nat.ne_of_gt ha), State.heap_pushCell_of_lt _ _ hlt]
    exact ih
theorem mk_row (s : State) (cA c0 : ClassId) (N M : Nat) : ∀ i j, j < i → (mk_s s cA c0 N M i).heap[s.heap.size + 1 + j]? = some (mi_c c0 M) := by
  intro i
  induction i with
  | zero => intro j h; exact absurd h (Nat.not_lt_zero _)
  | succ i ih =>
    intro j h
    have z := mk_size s cA c0 N M i
    show (((mk_s s cA c0 N M i).pushCell (mi_c c0 M)).setCell s.heap.size _).heap[s.heap.size + 1 + j]? = _
    have hne : s.heap.size ≠ s.heap.size + 1 + j := by omega
    rw [State.heap_setCell_other hne]
    by_cases q : j < i
    · have hlt : s.heap.size + 1 + j < (mk_s s cA c0 N M i).heap.size := by omega
      rw [State.heap_pushCell_of_lt _ _ hlt]
      exact ih j q
    · obtain rfl : j = i := by omega
      rw [← z]
      exact State.heap_pushCell_size _ _
theorem mw_new {c comp : ClassId} {k : Class} {ty : FieldType} {len : Nat} {v : Value} (hk : s.vm.classes[c]? = some k) (hkind : k.kind = .array comp ty) (hl : ¬ len > e.platform.arrayLengthLimit) (hb : ¬ len * componentBytes ty > e.platform.maxHeapBytes)
    (hfit : fits ty v = true) (hdef : v.isDefault = true) {Q : Addr → Pre} (h1 : s.heap.size < e.platform.maxCells) (h2 : s.slotsUsed + len ≤ e.platform.maxSlots) (hq : Q s.heap.size d acts (s.pushCell (arrV c len (fun _ => v)))) : wp (Jvm.newArray c len v) Q E e d acts s := by
  have hfs : ∀ i w, (Array.replicate len v)[i]? = some w → s.fitsSlot c .none i w = true := by
    intro i w hw
    rw [Array.getElem?_replicate] at hw
    by_cases q : i < len
    · rw [if_pos q] at hw
      cases hw
      simp [State.fitsSlot, State.slotType?, hk, hkind, hfit]
    · rw [if_neg q] at hw
      cases hw
  have hac : allocActs (Array.replicate len v) s.heap.size acts = acts := by
    unfold allocActs
    rw [if_pos]
    rw [Array.all_replicate]
    split
    · rfl
    · exact hdef
  rw [← arrV_new] at hq
  simp only [Jvm.newArray, Jvm.arrayFits, wp_bind', W.ask, W.ite, hl, if_false, wp_pure', W.theClass, hk, hkind, hb, W.alloc, W.stop, Option.some.injEq, exists_eq_left', Array.size_replicate, hac]
  rw [if_neg (by omega)]
  exact ⟨h1, h2, hfs, hq⟩
theorem mw_row {c0 cc : ClassId} {k : Class} {m : Int32} (hk : s.vm.classes[c0]? = some k) (hkind : k.kind = .array cc .int) (hm : ¬ m < 0) (hl : ¬ m.toNatClampNeg > e.platform.arrayLengthLimit) (hb : ¬ m.toNatClampNeg * 4 > e.platform.maxHeapBytes)
    (h1 : s.heap.size < e.platform.maxCells) (h2 : s.slotsUsed + m.toNatClampNeg ≤ e.platform.maxSlots) {Q : Addr → Pre} (hq : Q s.heap.size d acts (s.pushCell (mi_c c0 m.toNatClampNeg))) : wp (multianewarray.make c0 [m]) Q E e d acts s := by
  rw [multianewarray.make]
  simp only [wp_bind', W.ite, hm, if_false, wp_pure', W.theClass, hk, hkind, Option.some.injEq, exists_eq_left']
  exact mw_new hk hkind hl hb rfl rfl h1 h2 hq
theorem mw_rows {cA c0 cc : ClassId} {k k0 : Class} {n m : Int32} (hk : s.vm.classes[cA]? = some k) (hkind : k.kind = .array c0 (.array .int)) (hk0 : s.vm.classes[c0]? = some k0) (hkind0 : k0.kind = .array cc .int) (hn : ¬ n < 0) (hm : ¬ m < 0)
    (hl : ¬ n.toNatClampNeg > e.platform.arrayLengthLimit) (hb : ¬ n.toNatClampNeg * 4 > e.platform.maxHeapBytes) (hl0 : ¬ m.toNatClampNeg > e.platform.arrayLengthLimit) (hb0 : ¬ m.toNatClampNeg * 4 > e.platform.maxHeapBytes)
    (h1 : s.heap.size + 1 + n.toNatClampNeg ≤ e.platform.maxCells) (h2 : s.slotsUsed + n.toNatClampNeg + n.toNatClampNeg * m.toNatClampNeg ≤ e.platform.maxSlots) {Q : Addr → Pre} (hq : ∀ d' acts', Q s.heap.size d' acts' (mk_s s cA c0 n.toNatClampNeg m.toNatClampNeg n.toNatClampNeg)) : wp (multianewarray.make cA [n, m]) Q E e d acts s := by
  generalize hN : n.toNatClampNeg = N at *
  generalize hM : m.toNatClampNeg = M at *
  rw [multianewarray.make]
  simp only [wp_bind', W.ite, hn, if_false, wp_pure', W.theClass, hk, hkind, Option.some.injEq, exists_eq_left', hN]
  refine mw_new hk hkind hl hb rfl rfl (by omega) (by have := Nat.zero_le (N * M); omega) ?_
  have hf : ([m].find? (· < 0)) = none := by simp [hm]
  simp only [hf]
  rw [ite_self, wp_bind', Std.Legacy.Range.forIn_eq_forIn_range']
  have hz : ([:N] : Std.Legacy.Range).size = N := by simp [Std.Legacy.Range.size]
  rw [hz]
  show wp (forIn (List.range' 0 N 1) PUnit.unit _) _ E e d acts (mk_s s cA c0 N M 0)
  refine wp_forIn_inv (fun rest t => ∃ i, i + rest.length = N ∧ rest = List.range' i rest.length ∧ t = mk_s s cA c0 N M i) _ _ ⟨0, by simp, by simp, rfl⟩ ?_ ?_
  · rintro x rest t d' acts' Q' ⟨i, hi, hr, rfl⟩ hnext
    rw [List.length_cons] at hi hr
    rw [List.range'_succ] at hr
    obtain ⟨rfl, hr2⟩ := List.cons.inj hr
    have z := mk_size s cA c0 N M x
    have u := mk_used s cA c0 N M x
    have hmul : x * M + M ≤ N * M := by
      have := Nat.mul_le_mul_right M (show x + 1 ≤ N by omega)
      rw [Nat.succ_mul] at this
      exact this
    simp only [wp_bind']
    refine mw_row (by rw [mk_vm]; exact hk0) hkind0 hm (by rw [hM]; exact hl0) (by rw [hM]; exact hb0) (by rw [z]; omega) (by rw [u, hM]; omega) ?_
    rw [hM]
    have ho : ((mk_s s cA c0 N M x).pushCell (mi_c c0 M)).heap[s.heap.size]? = some (mo_c cA N s.heap.size x) := by
      have hlt : s.heap.size < (mk_s s cA c0 N M x).heap.size := by omega
      rw [State.heap_pushCell_of_lt _ _ hlt]
      exact mk_outer s cA c0 N M x
    simp only [wp_bind', W.writeLoc, wp_pure']
    refine ⟨mo_c cA N s.heap.size x, ho, (fun q => by cases q), by show x < (arrV _ _ _).slots.size; rw [arrV_size]; omega, ?_, hnext _ _ _ ⟨x + 1, by omega, hr2, ?_⟩⟩
    · show State.fitsSlot _ cA .none x _ = true
      simp [State.fitsSlot, State.slotType?, mk_vm, hk, hkind, fits]
    · rw [z, mo_step]
      rfl
  · rintro t d' acts' ⟨i, hi, -, rfl⟩
    obtain rfl : i = N := by simpa using hi
    exact hq d' acts'
end MR
section MS
variable {p : Program} {l : Launch} {e : Env} {R : Room} {s : State} {m : MethodId} {args : Array Value} {below : List Frame} {meth : Method} {c : Code} {T : State} {locs : List Loc} {cells slots : Nat}
theorem ms_fill (X : Stand p l e R s m args below meth c T locs cells slots) (cA c0 : ClassId) (N M : Nat) : ∀ i, Stand p l e R s m args below meth c (mk_s T cA c0 N M i) (locs ++ (List.range i).map fun j => ⟨T.heap.size, j⟩) (cells + (1 + i)) (slots + (N + i * M)) := by
  intro i
  induction i with
  | zero =>
    have h := X.pushed (mo_c cA N T.heap.size 0)
    have e1 : (mo_c cA N T.heap.size 0).slots.size = N := arrV_size _ _ _
    rw [e1] at h
    simpa [mk_s] using h
  | succ i ih =>
    have z := mk_size T cA c0 N M i
    have ho : ((mk_s T cA c0 N M i).pushCell (mi_c c0 M)).heap[T.heap.size]? = some (mo_c cA N T.heap.size i) := by
      have hlt : T.heap.size < (mk_s T cA c0 N M i).heap.size := by omega
      rw [State.heap_pushCell_of_lt _ _ hlt]
      exact mk_outer T cA c0 N M i
    have h := (ih.pushed (mi_c c0 M)).stored ho i (.ref (T.heap.size + 1 + i))
    have e1 : (mi_c c0 M).slots.size = M := arrV_size _ _ _
    rw [e1, mo_step] at h
    have e2 : (locs ++ (List.range (i + 1)).map fun j => (⟨T.heap.size, j⟩ : Loc)) = (locs ++ (List.range i).map fun j => (⟨T.heap.size, j⟩ : Loc)) ++ [⟨T.heap.size, i⟩] := by
      rw [List.range_succ, List.map_append, List.append_assoc]
      rfl
    have e3 : slots + (N + (i + 1) * M) = slots + (N + i * M) + M := by rw [Nat.succ_mul]; omega
    have e4 : cells + (1 + (i + 1)) = cells + (1 + i) + 1 := by omega
    rw [e2, e3, e4]
    exact h
end MS
section MJ
variable {p : Program} {l : Launch} {e : Env} {R : Room} {s : State} {m : MethodId} {args : Array Value} {below : List Frame} {meth : Method} {c : Code} {Q : State → Prop} {D : va_G} {y : Nat → ClassId} {A : Nat → Prop} {cc : ByteArray} {nL : Nat} {own nm : String} {ws : va_W} {lv : List (Nat × Value)} {kc ks pc : Nat} {st : List Value}
/-- rows of M ints, all 0, one for each place -/
abbrev RZ (y : Nat → ClassId) (M : Nat) (g : Nat → Nat) (L : List Nat) : va_W := L.map (fun j => (g j, .inl (y 0, M, .inl (fun _ => 0))))
theorem vaD_app {A : Nat → Prop} {w1 w2 : va_W} (h1 : va_D A w1) (h2 : va_D A w2) (hd : ∀ a ∈ w1, ∀ b ∈ w2, a.1 ≠ b.1) : va_D A (w1 ++ w2) := by
  obtain ⟨a1, b1⟩ := vaD_iff.mp h1
  obtain ⟨a2, b2⟩ := vaD_iff.mp h2
  refine vaD_iff.mpr ⟨?_, fun q hq => (List.mem_append.mp hq).elim (b1 q) (b2 q)⟩
  rw [List.map_append]
  refine List.nodup_append.mpr ⟨a1, a2, fun a ha b hb => ?_⟩
  obtain ⟨x, hx, rfl⟩ := List.mem_map.mp ha
  obtain ⟨z, hz, rfl⟩ := List.mem_map.mp hb
  exact hd x hx z hz
set_option maxHeartbeats 1000000 in
theorem j_multi (C : Cx p s m args meth c D y A cc nL own nm) {idx : Nat} (hw : Cond.classLink own idx "[[I" ∈ TB) {n k : Int32} {N M : Nat} (hn : ¬ n < 0) (hk : ¬ k < 0) (hN : n.toNatClampNeg = N) (hM : k.toNatClampNeg = M) (hb1 : N * 4 ≤ 536870912) (hb2 : M * 4 ≤ 536870912) (h1 : kc + (1 + N) ≤ R.cells) (h2 : ks + (N + N * M) ≤ R.slots) (d : decode cc pc = .ok (.multianewarray idx 2, 4))
    (kk : ∀ q : Nat, J p l e R s m args below meth c Q D A nL (ws ++ ((q, .inl (y 5, N, .inr (.inr (.inr (.inr (fun j => some (q + 1 + j))))))) :: RZ y M (fun j => q + 1 + j) (List.range N))) lv (kc + (1 + N)) (ks + (N + N * M)) (pc + 4) (.ref q :: st)) : J p l e R s m args below meth c Q D A nL ws lv kc ks pc (.int k :: .int n :: st) := by
  subst hN
  subst hM
  intro H L ls hP hD hS hl T hT X
  have hpl : e.platform.magicAccessors = ({} : Platform).magicAccessors := by rw [X.admits.platform]
  obtain ⟨c5, c0, kA, f5, f0, hkA, hkindA⟩ := C.N.1.2
  have q5 : s.vm.findClass "[[I" = some (y 5) := (C.K.2 5 _ rfl).2
  have q0 : s.vm.findClass "[I" = some (y 0) := (C.K.2 0 _ rfl).2
  obtain rfl : c5 = y 5 := Option.some.inj (f5.symm.trans q5)
  obtain rfl : c0 = y 0 := Option.some.inj (f0.symm.trans q0)
  obtain ⟨-, k0, hk0, cm, hkind0⟩ := (C.K.2 0 _ rfl).1 0 (fun _ => .int 0)
  have hk0 : s.vm.classes[y 0]? = some k0 := hk0
  obtain ⟨c9, hfc, hcl⟩ := Cond.classLink_spec C.ow (C.t _ hw) e.platform hpl
  obtain rfl : c9 = y 5 := Option.some.inj (hfc.symm.trans q5)
  obtain ⟨hg1, hwarm, hready⟩ := State.classEntry (e := e) X.warmed hcl
  generalize T.vm.noted m.cls idx (.cls (y 5)) = vm1 at hg1 hwarm hready
  have hal : s.vm.Alike vm1 := hwarm.alike
  obtain ⟨kA1, hkA1, heA⟩ := hal.2.2 _ _ hkA
  obtain ⟨k01, hk01, he0⟩ := hal.2.2 _ _ hk0
  have hkindA1 : kA1.kind = .array (y 0) (.array .int) := by rw [heA]; exact hkindA
  have hkind01 : k01.kind = .array cm .int := by rw [he0]; exact hkind0
  have X1 := X.noted hwarm
  have XF := ms_fill X1 (y 5) (y 0) n.toNatClampNeg k.toNatClampNeg n.toNatClampNeg
  obtain ⟨hr1, hr2⟩ := X.roomAbove h1 h2
  have hTs : (T.setVm vm1).heap.size = H.size := by rw [← hT]; rfl
  have hTh : (T.setVm vm1).heap = H := by rw [← hT]; rfl
  have old : ∀ a : Nat, a < H.size → (mk_s (T.setVm vm1) (y 5) (y 0) n.toNatClampNeg k.toNatClampNeg n.toNatClampNeg).heap[a]? = H[a]? := fun a ha => by
    rw [mk_old _ _ _ _ _ (by rw [hTs]; exact ha), hTh]
  have hout := mk_outer (T.setVm vm1) (y 5) (y 0) n.toNatClampNeg k.toNatClampNeg n.toNatClampNeg
  have hrow := mk_row (T.setVm vm1) (y 5) (y 0) n.toNatClampNeg k.toNatClampNeg n.toNatClampNeg
  have hsz := mk_size (T.setVm vm1) (y 5) (y 0) n.toNatClampNeg k.toNatClampNeg n.toNatClampNeg
  rw [hTs] at hout hrow hsz XF
  generalize hU : mk_s (T.setVm vm1) (y 5) (y 0) n.toNatClampNeg k.toNatClampNeg n.toNatClampNeg = U at *
  have hlow : ∀ x ∈ ws, x.1 < H.size := fun x hx => by
    obtain ⟨i, hi⟩ := List.getElem?_of_mem hx
    exact (hP i x hi).lt
  have hP1 : va_P D classes (ws ++ ((H.size, .inl (y 5, n.toNatClampNeg, .inr (.inr (.inr (.inr (fun j => some (H.size + 1 + j))))))) :: RZ y k.toNatClampNeg (fun j => H.size + 1 + j) (List.range n.toNatClampNeg))) U.heap := by
    refine vaP_iff.mpr fun x hx => ?_
    rcases List.mem_append.mp hx with hx | hx
    · obtain ⟨i, hi⟩ := List.getElem?_of_mem hx
      exact (hP.kept (fun i x hi => old x.1 (hP i x hi).lt)) i x hi
    · rcases List.mem_cons.mp hx with rfl | hx
      · show U.heap[H.size]? = some (vp_cell _ _)
        rw [hout, vp_cell_q]
        exact congrArg some (arrV_cong (fun j hj => by rw [if_pos hj]))
      · obtain ⟨j, hj, rfl⟩ := List.mem_map.mp hx
        show U.heap[H.size + 1 + j]? = some (vp_cell _ _)
        rw [hrow j (List.mem_range.mp hj), vp_cell_i]
        rfl
  have hD1 : va_D A (ws ++ ((H.size, .inl (y 5, n.toNatClampNeg, .inr (.inr (.inr (.inr (fun j => some (H.size + 1 + j))))))) :: RZ y k.toNatClampNeg (fun j => H.size + 1 + j) (List.range n.toNatClampNeg))) := by
    refine vaD_app hD (vaD_iff.mpr ⟨?_, ?_⟩) ?_
    · rw [List.map_cons, List.map_map]
      refine List.nodup_cons.mpr ⟨fun h => ?_, ?_⟩
      · obtain ⟨j, -, hj⟩ := List.mem_map.mp h
        simp only [Function.comp] at hj
        omega
      · exact List.Pairwise.map _ (fun a b (h : a ≠ b) => by simp only [Function.comp]; omega) (List.nodup_range (n := n.toNatClampNeg))
    · intro x hx
      have : H.size ≤ x.1 := by
        rcases List.mem_cons.mp hx with rfl | hx
        · exact Nat.le_refl _
        · obtain ⟨j, -, rfl⟩ := List.mem_map.mp hx
          show H.size ≤ H.size + 1 + j
          omega
      exact C.ha _ (Nat.le_trans hS.1 this)
    · intro a ha b hb
      have h3 := hlow a ha
      have : H.size ≤ b.1 := by
        rcases List.mem_cons.mp hb with rfl | hb
        · exact Nat.le_refl _
        · obtain ⟨j, -, rfl⟩ := List.mem_map.mp hb
          show H.size ≤ H.size + 1 + j
          omega
      omega
  have hS1 : va_S A s.heap U.heap (L ++ (List.range n.toNatClampNeg).map fun j => ⟨H.size, j⟩) := by
    refine ⟨by rw [hsz]; have := hS.1; omega, fun a ha hna => ?_, fun x hx => ?_⟩
    · rw [old a (Nat.lt_of_lt_of_le ha hS.1)]
      exact hS.2.1 a ha hna
    · rcases List.mem_append.mp hx with h | h
      · exact hS.2.2 x h
      · obtain ⟨j, -, rfl⟩ := List.mem_map.mp h
        exact C.ha _ hS.1
  obtain ⟨t, a1, b1⟩ := kk H.size U.heap _ ls hP1 hD1 hS1 hl U rfl XF
  refine ⟨t, ?_, b1⟩
  have hl1 : ¬ n.toNatClampNeg > e.platform.arrayLengthLimit := by rw [Launch.admits_arrayLengthLimit X.admits]; omega
  have hh1 : ¬ n.toNatClampNeg * 4 > e.platform.maxHeapBytes := by rw [Launch.admits_maxHeapBytes X.admits]; omega
  have hl2 : ¬ k.toNatClampNeg > e.platform.arrayLengthLimit := by rw [Launch.admits_arrayLengthLimit X.admits]; omega
  have hh2 : ¬ k.toNatClampNeg * 4 > e.platform.maxHeapBytes := by rw [Launch.admits_maxHeapBytes X.admits]; omega
  have hx := C.x
  have hcb := C.b
  jvm_step X.here [hx, hcb, d]
  simp only [multianewarray.sem, wp_bind', W.resolveClassAt_links (State.method?_setTop (F0 m pc ls (.int k :: .int n :: st)) X.here.top) hg1]
  rw [W.popN, if_neg (by decide)]
  refine ⟨F0 m pc ls (.int k :: .int n :: st), State.topJava?_setTop' (s := T.setVm vm1) (F0 m pc ls (.int k :: .int n :: st)) X.here.top, [.int n, .int k], st, rfl, rfl, ?_⟩
  simp only [List.mapM_cons, List.mapM_nil, wp_bind', wp_pure']
  refine mw_rows (k := kA1) (k0 := k01) (c0 := y 0) (cc := cm) hkA1 hkindA1 hk01 hkind01 hn hk hl1 hh1 hl2 hh2 (by show T.heap.size + 1 + _ ≤ _; omega) (by show T.slotsUsed + _ + _ ≤ _; omega) (fun d' acts' => ?_)
  have eS : ((T.setTop (F0 m pc ls (.int k :: .int n :: st))).setVm vm1).setTop { F0 m pc ls (.int k :: .int n :: st) with stack := st } = (T.setVm vm1).setTop { F0 m pc ls (.int k :: .int n :: st) with stack := st } := by
    show ((T.setVm vm1).setTop _).setTop _ = _
    rw [State.setTop_setTop]
  rw [eS, mk_top, hU]
  simp only [wp_bind', W.mark, W.pushRef, State.topJava?_setTop' _ XF.here.top, Option.some.injEq, exists_eq_left', State.setTop_setTop, State.heap_setTop]
  intro acts
  simp [jvm, XF.here.top]
  rw [hT]
  exact a1
end MJ
