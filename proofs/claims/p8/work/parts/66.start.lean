/-! what stands at the law's entry, in the words of the contracts -/
section LK
variable {s : State} {b : Nat}
theorem lk_arr {ty : FieldType} {c comp : ClassId} {k : Class} (h2 : s.vm.classes[c]? = some k) (h3 : k.kind = .array comp ty) : ArrOfT s c ty := fun N z => ⟨(fun k h => by cases h), k, h2, comp, h3⟩
set_option maxHeartbeats 4000000 in
theorem lk_known (hts : ∀ w ∈ lw_tbl, w.before #[Value.ref b] s = true) : ∃ (D : va_G) (y : Nat → ClassId), va_K D classes (TY y) s ∧ NB s := by
  obtain ⟨y0, k0, m0, a0, b0, d0⟩ := Cond.arrayClass_spec (hts (Cond.arrayClass .int) (List.mem_append_right _ (show _ ∈ tables_1 from List.mem_append_left _ (List.mem_of_getElem? (i := 46) rfl))))
  obtain ⟨y1, k1, m1, a1, b1, d1⟩ := Cond.arrayClass_spec (hts (Cond.arrayClass .long) (List.mem_append_right _ (show _ ∈ tables_1 from List.mem_append_left _ (List.mem_of_getElem? (i := 106) rfl))))
  obtain ⟨y2, k2, m2, a2, b2, d2⟩ := Cond.arrayClass_spec (hts (Cond.arrayClass .boolean) (List.mem_append_right _ (show _ ∈ tables_1 from List.mem_append_right _ (List.mem_append_right _ (List.mem_append_right _ (List.mem_append_right _ (List.mem_append_right _ (List.mem_append_left _ (List.mem_of_getElem? (i := 87) rfl)))))))))
  obtain ⟨y3, k3, m3, a3, b3, d3⟩ := Cond.arrayClass_spec (hts (Cond.arrayClass .char) (List.mem_append_right _ (show _ ∈ tables_1 from List.mem_append_right _ (List.mem_append_right _ (List.mem_append_right _ (List.mem_append_right _ (List.mem_append_right _ (List.mem_append_left _ (List.mem_of_getElem? (i := 86) rfl)))))))))
  have hAO := hts (Cond.arrayOver (.object "NineBoards$State")) (List.mem_append_right _ (show _ ∈ tables_1 from List.mem_append_left _ (List.mem_of_getElem? (i := 114) rfl)))
  obtain ⟨m4, y4, k4, e4, -, b4, d4, a4⟩ := Cond.arrayOver_spec hAO
  obtain ⟨m5, y5, k5, e5, -, b5, d5, a5⟩ := arrayOverA_spec (hts (Cond.arrayOver (.array .int)) (List.mem_append_right _ (show _ ∈ tables_1 from List.mem_append_right _ (List.mem_append_left _ (List.mem_of_getElem? (i := 210) rfl)))))
  obtain ⟨c0, i0, q0⟩ := u_known (C := "NineBoards$Bytes") (T := cf_Bytes) (N := 2) (n := 2) hts (fun w h => tb_tbl w (ci_Bytes w h)) (hts (Cond.instantiable "NineBoards$Bytes" 2) (List.mem_append_right _ (show _ ∈ tables_1 from List.mem_append_left _ (List.mem_of_getElem? (i := 28) rfl))))
  obtain ⟨c1, i1, q1⟩ := u_known (C := "NineBoards$Gates") (T := cf_Gates) (N := 8) (n := 8) hts (fun w h => tb_tbl w (ci_Gates w h)) (hts (Cond.instantiable "NineBoards$Gates" 8) (List.mem_append_right _ (show _ ∈ tables_1 from List.mem_append_left _ (List.mem_of_getElem? (i := 134) rfl))))
  obtain ⟨c2, i2, q2⟩ := u_known (C := "NineBoards$Lake") (T := cf_Lake) (N := 14) (n := 14) hts (fun w h => tb_tbl w (ci_Lake w h)) (hts (Cond.instantiable "NineBoards$Lake" 14) (List.mem_append_right _ (show _ ∈ tables_1 from List.mem_append_left _ (List.mem_of_getElem? (i := 128) rfl))))
  obtain ⟨c3, i3, q3⟩ := u_known (C := "NineBoards$Past") (T := cf_Past) (N := 3) (n := 3) hts (fun w h => tb_tbl w (ci_Past w h)) (hts (Cond.instantiable "NineBoards$Past" 3) (List.mem_append_right _ (show _ ∈ tables_1 from List.mem_append_left _ (List.mem_of_getElem? (i := 108) rfl))))
  obtain ⟨c4, i4, q4⟩ := u_known (C := "NineBoards$Plans") (T := cf_Plans) (N := 6) (n := 6) hts (fun w h => tb_tbl w (ci_Plans w h)) (hts (Cond.instantiable "NineBoards$Plans" 6) (List.mem_append_right _ (show _ ∈ tables_1 from List.mem_append_right _ (List.mem_append_left _ (List.mem_of_getElem? (i := 203) rfl)))))
  obtain ⟨c5, i5, q5⟩ := u_known (C := "NineBoards$Reader") (T := cf_Reader) (N := 12) (n := 12) hts (fun w h => tb_tbl w (ci_Reader w h)) (hts (Cond.instantiable "NineBoards$Reader" 12) (List.mem_append_right _ (show _ ∈ tables_1 from List.mem_append_right _ (List.mem_append_left _ (List.mem_of_getElem? (i := 108) rfl)))))
  obtain ⟨c6, i6, q6⟩ := u_known (C := "NineBoards$Rules") (T := cf_Rules) (N := 8) (n := 8) hts (fun w h => tb_tbl w (ci_Rules w h)) (hts (Cond.instantiable "NineBoards$Rules" 8) (List.mem_append_right _ (show _ ∈ tables_1 from List.mem_append_left _ (List.mem_of_getElem? (i := 227) rfl))))
  obtain ⟨c7, i7, q7⟩ := u_known (C := "NineBoards$State") (T := cf_State) (N := 10) (n := 10) hts (fun w h => tb_tbl w (ci_State w h)) (hts (Cond.instantiable "NineBoards$State" 10) (List.mem_append_right _ (show _ ∈ tables_1 from List.mem_append_left _ (List.mem_of_getElem? (i := 48) rfl))))
  obtain ⟨c8, i8, q8⟩ := u_known (C := "NineBoards$Things") (T := cf_Things) (N := 8) (n := 8) hts (fun w h => tb_tbl w (ci_Things w h)) (hts (Cond.instantiable "NineBoards$Things" 8) (List.mem_append_right _ (show _ ∈ tables_1 from List.mem_append_left _ (List.mem_of_getElem? (i := 182) rfl))))
  obtain ⟨c9, i9, q9⟩ := u_known (C := "NineBoards") (T := cf_Nine) (N := 10) (n := 10) hts (fun w h => tb_tbl w (ci_Nine w h)) (hts (Cond.instantiable "NineBoards" 10) (List.mem_append_right _ (show _ ∈ tables_1 from List.mem_append_left _ (List.mem_of_getElem? (i := 20) rfl))))
  obtain ⟨c10, i10, q10⟩ := u_known (C := "NineBoardsModel") (T := cf_Model) (N := 79) (n := 79) hts (fun w h => tb_tbl w (ci_Model w h)) (hts (Cond.instantiable "NineBoardsModel" 79) (List.mem_append_right _ (show _ ∈ tables_1 from List.mem_append_right _ (List.mem_append_right _ (List.mem_append_right _ (List.mem_append_right _ (List.mem_append_left _ (List.mem_of_getElem? (i := 83) rfl))))))))
  refine ⟨(fun k => [c0, c1, c2, c3, c4, c5, c6, c7, c8, c9, c10].getD k c0, fun k => [i0, i1, i2, i3, i4, i5, i6, i7, i8, i9, i10].getD k i0), fun k => [y0, y1, y2, y3, y4, y5].getD k y0, ⟨?_, ?_⟩, ⟨va_AO.of hAO, y5, m5, k5, a5, e5, b5, d5⟩, va_tabs rfl rfl (hts _ (List.mem_append_right _ (show _ ∈ tables_1 from List.mem_append_left _ (List.mem_of_getElem? (i := 49) rfl)))), va_tabs rfl rfl (hts _ (List.mem_append_right _ (show _ ∈ tables_1 from List.mem_append_left _ (List.mem_of_getElem? (i := 115) rfl)))), va_tabs rfl rfl (hts _ (List.mem_append_right _ (show _ ∈ tables_1 from List.mem_append_left _ (List.mem_of_getElem? (i := 135) rfl)))), va_tabs rfl rfl (hts _ (List.mem_append_right _ (show _ ∈ tables_1 from List.mem_append_left _ (List.mem_of_getElem? (i := 183) rfl)))), va_tabs rfl rfl (hts _ (List.mem_append_right _ (show _ ∈ tables_1 from List.mem_append_left _ (List.mem_of_getElem? (i := 228) rfl)))), va_tabs rfl rfl (hts _ (List.mem_append_right _ (show _ ∈ tables_1 from List.mem_append_right _ (List.mem_append_left _ (List.mem_of_getElem? (i := 211) rfl))))), va_tabs rfl rfl (hts _ (List.mem_append_right _ (show _ ∈ tables_1 from List.mem_append_right _ (List.mem_append_right _ (List.mem_append_right _ (List.mem_append_left _ (List.mem_of_getElem? (i := 157) rfl)))))))⟩
  · intro k q hq
    match k, hq with
    | 0, hq => cases hq; exact q0
    | 1, hq => cases hq; exact q1
    | 2, hq => cases hq; exact q2
    | 3, hq => cases hq; exact q3
    | 4, hq => cases hq; exact q4
    | 5, hq => cases hq; exact q5
    | 6, hq => cases hq; exact q6
    | 7, hq => cases hq; exact q7
    | 8, hq => cases hq; exact q8
    | 9, hq => cases hq; exact q9
    | 10, hq => cases hq; exact q10
    | k + 11, hq => simp [classes] at hq
  · intro k q hq
    match k, hq with
    | 0, hq => cases hq; exact ⟨lk_arr b0 d0, a0⟩
    | 1, hq => cases hq; exact ⟨lk_arr b1 d1, a1⟩
    | 2, hq => cases hq; exact ⟨lk_arr b2 d2, a2⟩
    | 3, hq => cases hq; exact ⟨lk_arr b3 d3, a3⟩
    | 4, hq => cases hq; exact ⟨lk_arr b4 d4, k4, m4, b4, d4, e4, a4⟩
    | 5, hq => cases hq; exact ⟨lk_arr b5 d5, a5⟩
    | k + 6, hq => simp [TY] at hq
set_option maxHeartbeats 4000000 in
theorem lk_drop : (flatC (Jvm.Cond.and given_1 narrow_1)).drop 13 = (List.range 173).map (fun j => Cond.eq (.elem (Term.field (Term.string "NineBoards$Reader" 27) "java/lang/String" "value" "[B") (.int (Int32.ofNat j))) (.int (wb.getD j 0))) := by decide +kernel
theorem lk_elems (j : Nat) (hj : j < 173) : Cond.eq (.elem (Term.field (Term.string "NineBoards$Reader" 27) "java/lang/String" "value" "[B") (.int (Int32.ofNat j))) (.int (wb.getD j 0)) ∈ flatC (Jvm.Cond.and given_1 narrow_1) := List.mem_of_mem_drop (i := 13) (by rw [lk_drop]; exact List.mem_map.mpr ⟨j, List.mem_range.mpr hj, rfl⟩)
set_option maxHeartbeats 4000000 in
theorem lk_text (hts : ∀ w ∈ lw_tbl, w.before #[Value.ref b] s = true) (hgv : (Jvm.Cond.and given_1 narrow_1).before #[Value.ref b] s = true) : ∃ ak vv : Nat, ZS ak vv (fun q => s.heap.size ≤ q) s := by
  have hs := flat_of_before _ hgv
  have hA : ∀ a : Nat, a < s.heap.size → ¬ (fun q => s.heap.size ≤ q) a := fun a h q => absurd h (Nat.not_lt.mpr q)
  obtain ⟨adK, adV, hS, hE⟩ := vk_Sof (args := #[Value.ref b]) (s := s) (N := 1) (tm := fun _ => (Term.string "NineBoards$Reader" 27)) (len := [173]) (byt := [wb]) (A := fun q => s.heap.size ≤ q)
    (fun i hi => by rw [show i = 0 by omega]; decide)
    (fun i hi => hs _ (by decide +kernel)) (fun i hi => hs _ (by decide +kernel)) (fun i hi => hs _ (by decide +kernel))
    (fun i hi => by rw [show i = 0 by omega]; exact hs _ (by decide +kernel))
    (fun i hi => by rw [show i = 0 by omega]; exact fun j hj => hs _ (lk_elems j hj))
    (fun i j hi hj h => absurd (by omega : i = j) h) hA
  have h0 := hS.1 0 (by decide)
  exact ⟨adK 0, adV 0, vk_R.of (hts _ (List.mem_append_right _ (show _ ∈ tables_1 from List.mem_append_right _ (List.mem_append_left _ (List.mem_of_getElem? (i := 113) rfl))))) (hE 0 (by decide)), ⟨h0.1, h0.2.1, h0.2.2.1, h0.2.2.2⟩,
    va_Zof (hts _ (List.mem_append_right _ (show _ ∈ tables_1 from List.mem_append_right _ (List.mem_append_left _ (List.mem_of_getElem? (i := 123) rfl))))) (hts _ (List.mem_append_right _ (show _ ∈ tables_1 from List.mem_append_left _ (List.mem_of_getElem? (i := 11) rfl)))) (va_eqt (hs _ (by decide +kernel))) hA,
    va_Zqof (hts _ (List.mem_append_right _ (show _ ∈ tables_1 from List.mem_append_right _ (List.mem_append_left _ (List.mem_of_getElem? (i := 139) rfl))))) (hts _ (List.mem_append_right _ (show _ ∈ tables_1 from List.mem_append_left _ (List.mem_of_getElem? (i := 13) rfl)))) (hs _ (by decide +kernel)) hA⟩
end LK
def R_law : String := "NineBoardsLaw"
def lw_P (b : Addr) (xs : List Int32) (args : Array Value) (s : State) : Prop := args = #[.ref b] ∧ s.IntsAt b xs ∧ xs.length ≤ 3072 ∧ (Jvm.Cond.and given_1 narrow_1).before args s = true
def lw_Q (_ : Array Value) (s : State) (o : Outcome) (t : State) : Prop := o = .returned (some (.int 1)) ∧ Framed s o t [] 600000 7302249
def lw_Z (below : List Frame) (a : Array Value) (s : State) : State → Prop := fun t => ∃ o, t.status = .running ∧ Ended t below o ∧ lw_Q a s o t
/-- the law's own end, with 1 on the stack, nothing written that was there before, its room as the claim has it -/
theorem lw_ret {p : Program} {l : Launch} {e : Env} {s : State} {m : MethodId} {below : List Frame} {meth : Method} {c : Code} {b : Nat} (hx : p.tables.exec = Jvm.exec) (hb : c.code = code) (hr : meth.sig.returnType = ret) (hlocks : meth.locks = false) {pc : Nat} {H : Heap} {ls : Array Slot} (hdg : decode code pc = .ok (.ireturn, 1)) : W p l e room_1 s m #[Value.ref b] below meth c H [] 600000 7302249 (lw_Z below #[Value.ref b] s) (F0 m pc ls [.int 1]) := by
  intro T hT X
  obtain ⟨fs, hret, hrun, hended, hW, hframe⟩ := X.leave (v := some (.int 1)) (hlocks := hlocks) (fun h => by rw [hr] at h; cases h)
  have hmeth' : T.vm.method? m = some meth := X.method'
  refine ⟨T.setFrames fs, ?_, .returned (some (.int 1)), hrun, hended, rfl, ⟨_, rfl⟩, hW, hframe⟩
  jvm_step X.here [X.here.top, hx, hb, hdg, hmeth', hr, ret, narrow_b1]
  (try refine ⟨rfl, ?_⟩); (try refine ⟨rfl, ?_⟩)
  first | (intro acts; rw [hret _ acts rfl rfl rfl]) | rw [hret _ _ rfl rfl rfl]
  exact Steps.refl _
/-- what holds at the law's entry: the machine, the code, the tables' words (any of lw_tbl by 'hts w (by decide +kernel)'), the script of L ints xs at the cell b, what the Statement gives of the start (any of its parts by flat_of_before) -/
def lw_At (p : Program) (s : State) (m : MethodId) (meth : Method) (c : Code) (b L : Nat) (xs : Nat → Int32) : Prop :=
  p.tables.exec = Jvm.exec ∧ c.code = code ∧ meth.sig.returnType = ret ∧ c.maxLocals = 4 ∧ s.vm.findClass R_law = some m.cls ∧ (∀ w ∈ lw_tbl, w.before #[Value.ref b] s = true) ∧ va_X b L xs s s.heap ∧ b < s.heap.size ∧ meth.locks = false ∧ (Jvm.Cond.and given_1 narrow_1).before #[Value.ref b] s = true
section LJ
variable {p : Program} {l : Launch} {e : Env} {s : State} {m : MethodId} {below : List Frame} {meth : Method} {c : Code} {D : va_G} {y : Nat → ClassId} {nm : String} {ws : va_W} {lv : List (Nat × Value)} {kc ks pc : Nat} {st : List Value} {b L : Nat} {xs : Nat → Int32} {Q : State → Prop}
abbrev LA (s : State) : Nat → Prop := fun q => s.heap.size ≤ q
theorem j_sld (C : Cx p s m #[Value.ref b] meth c D y (LA s) code 4 "NineBoardsLaw" nm) (hX : va_X b L xs s s.heap) (hbl : b < s.heap.size) {i v : Int32} (hi : vp_in i L) (hv : xs i.toNatClampNeg = v) (d : decode code pc = .ok (.iaload, 1)) (kk : J p l e room_1 s m #[Value.ref b] below meth c Q D (LA s) 4 ws lv kc ks (pc + 1) (.int v :: st)) : J p l e room_1 s m #[Value.ref b] below meth c Q D (LA s) 4 ws lv kc ks pc (.int i :: .ref b :: st) := by
  subst hv
  exact fun H L ls a b' f g => va_sld C.x C.b hX hbl (Nat.not_le.mpr hbl) f hi d (kk H L ls a b' f g)
theorem j_slen (C : Cx p s m #[Value.ref b] meth c D y (LA s) code 4 "NineBoardsLaw" nm) (hX : va_X b L xs s s.heap) (hbl : b < s.heap.size) {v : Int32} (hv : Int32.ofNat L = v) (d : decode code pc = .ok (.arraylength, 1)) (kk : J p l e room_1 s m #[Value.ref b] below meth c Q D (LA s) 4 ws lv kc ks (pc + 1) (.int v :: st)) : J p l e room_1 s m #[Value.ref b] below meth c Q D (LA s) 4 ws lv kc ks pc (.ref b :: st) := by
  subst hv
  exact fun H L ls a b' f g => va_slen C.x C.b hX hbl (Nat.not_le.mpr hbl) f d (kk H L ls a b' f g)
theorem j_lret1 (C : Cx p s m #[Value.ref b] meth c D y (LA s) code 4 "NineBoardsLaw" nm) (hr : meth.sig.returnType = ret) (h1 : kc ≤ 600000) (h2 : ks ≤ 7302249) (d : decode code pc = .ok (.ireturn, 1)) : J p l e room_1 s m #[Value.ref b] below meth c (lw_Z below #[Value.ref b] s) D (LA s) 4 ws lv kc ks pc [.int 1] := fun H L ls hP hD hS hl => W.widen h1 h2 (va_forget (fun q hq => hS.2.2 q hq) (lw_ret C.x C.b hr C.lk d))
theorem j_pop2 {R : Room} {args : Array Value} {A : Nat → Prop} {nL : Nat} {cc : ByteArray} {own : String} (C : Cx p s m args meth c D y A cc nL own nm) {v : Value} (d : decode cc pc = .ok (.pop2, 1)) (hv : v.category = 2) (kk : J p l e R s m args below meth c Q D A nL ws lv kc ks (pc + 1) st) : J p l e R s m args below meth c Q D A nL ws lv kc ks pc (v :: st) := fun H L ls a b f g => lv_pop2_2 C.x C.b d hv (kk H L ls a b f g)
end LJ
