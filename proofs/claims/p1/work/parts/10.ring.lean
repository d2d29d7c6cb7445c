section JS
variable {p : Program} {l : Launch} {e : Env} {R : Room} {s : State} {m : MethodId} {args : Array Value} {below : List Frame} {meth : Method} {c : Code} {Q : State → Prop} {D : va_G} {A : Nat → Prop} {nL : Nat} {ws : va_W} {lv : List (Nat × Value)} {kc ks pc : Nat} {st : List Value}
theorem j_subT {X X' T : va_W} (is : List Nat) (hs : is.map (fun i => X[i]?) = X'.map some) (hn : va_nd is = true) (kk : J p l e R s m args below meth c Q D A nL (X' ++ T) lv kc ks pc st) : J p l e R s m args below meth c Q D A nL (X ++ T) lv kc ks pc st := fun H L ls a b d f => kk H L ls (a.part is hs) (b.part is hn hs) d f
theorem j_drop {X T : va_W} (kk : J p l e R s m args below meth c Q D A nL X lv kc ks pc st) : J p l e R s m args below meth c Q D A nL (X ++ T) lv kc ks pc st := fun H L ls a b d f => kk H L ls (pf_P a) (pf_D b) d f
end JS
/-- a State of zeros but for its day -/
abbrev SW (y : Nat → ClassId) (h : Nat) (a : Nat → Nat) (d : Int32) : va_W := [(h, .inr (7, [.int d, .int 0, .int 0, .ref (a 0), .ref (a 1), .ref (a 2), .ref (a 3), .ref (a 4), .ref (a 5), .ref (a 6)])), ((a 0), .inl (y 0, 9, .inl (fun _ => 0))), ((a 1), .inl (y 0, 9, .inl (fun _ => 0))), ((a 2), .inl (y 1, 9, .inr (.inl (fun _ => 0)))), ((a 3), .inl (y 0, 6, .inl (fun _ => 0))), ((a 4), .inl (y 0, 6, .inl (fun _ => 0))), ((a 5), .inl (y 0, 16, .inl (fun _ => 0))), ((a 6), .inl (y 1, 5, .inr (.inl (fun _ => 0))))]
theorem fm_congr {α β : Type} {f g : α → List β} : ∀ {l : List α}, (∀ a ∈ l, f a = g a) → l.flatMap f = l.flatMap g := by
  intro l
  induction l with
  | nil => intro _; rfl
  | cons a l ih =>
    intro h
    rw [List.flatMap_cons, List.flatMap_cons, h a List.mem_cons_self, ih (fun b hb => h b (List.mem_cons_of_mem _ hb))]
/-- such States, by the places in a list -/
def RG (y : Nat → ClassId) (hh : Nat → Nat) (aa : Nat → Nat → Nat) (dd : Nat → Int32) (l : List Nat) : va_W := l.flatMap (fun j => SW y (hh j) (aa j) (dd j))
theorem rg_perm {y : Nat → ClassId} {hh : Nat → Nat} {aa : Nat → Nat → Nat} {dd : Nat → Int32} {l : List Nat} {i : Nat} (h : i ∈ l) : (RG y hh aa dd l).Perm (SW y (hh i) (aa i) (dd i) ++ RG y hh aa dd (l.erase i)) := by
  have e := List.perm_cons_erase h
  have e2 := e.flatMap_right (fun j => SW y (hh j) (aa j) (dd j))
  exact e2
theorem rg_same {y : Nat → ClassId} {hh : Nat → Nat} {aa : Nat → Nat → Nat} {dd : Nat → Int32} {l : List Nat} {i : Nat} {d : Int32} (hn : l.Nodup) : RG y hh aa (va_up dd i d) (l.erase i) = RG y hh aa dd (l.erase i) := by
  unfold RG
  apply fm_congr
  intro j hj
  have : j ≠ i := fun e => absurd (e ▸ hj) (List.Nodup.not_mem_erase hn)
  rw [va_up_ne _ _ this]
theorem rg_out {y : Nat → ClassId} {hh : Nat → Nat} {aa : Nat → Nat → Nat} {dd : Nat → Int32} {l : List Nat} {i : Nat} {X : va_W} (h : i ∈ l) : (X ++ RG y hh aa dd l).Perm ((X ++ SW y (hh i) (aa i) (dd i)) ++ RG y hh aa dd (l.erase i)) := by
  rw [List.append_assoc]
  exact (rg_perm h).append_left X
theorem rg_in {y : Nat → ClassId} {hh : Nat → Nat} {aa : Nat → Nat → Nat} {dd : Nat → Int32} {l : List Nat} {i : Nat} {X : va_W} {d : Int32} (h : i ∈ l) (hn : l.Nodup) : ((X ++ SW y (hh i) (aa i) d) ++ RG y hh aa dd (l.erase i)).Perm (X ++ RG y hh aa (va_up dd i d) l) := by
  have e := rg_perm (y := y) (hh := hh) (aa := aa) (dd := va_up dd i d) h
  rw [va_up_self, rg_same hn] at e
  rw [List.append_assoc]
  exact (e.symm).append_left X
theorem rm30 {i : Nat} (h : i < 30) : i ∈ List.range 30 := List.mem_range.mpr h
theorem rn30 : (List.range 30).Nodup := List.nodup_range
theorem i_30 {i : Nat} (h : i < 30) : nI i + 1 - (nI i + 1) / 30 * 30 = nI ((i + 1) % 30) := by
  rw [nI_1]
  exact pk_rem (a := i + 1) (d := 30) (by omega) (by decide) (by decide)
theorem d_Past_keep_0 : decode prog_6_method_2_code 0 = .ok (.aload_n 0, 1) := by decide +kernel
theorem d_Past_keep_1 : decode prog_6_method_2_code 1 = .ok (.getfield 11, 3) := by decide +kernel
theorem gf_Past_11 : GF "NineBoards$Past" 11 3 2 := ⟨_, _, _, rfl, ci_Past, by decide, (mt_1 (List.mem_of_getElem? (i := 119) rfl) rfl)⟩
theorem d_Past_keep_4 : decode prog_6_method_2_code 4 = .ok (.aload_n 0, 1) := by decide +kernel
theorem d_Past_keep_5 : decode prog_6_method_2_code 5 = .ok (.getfield 18, 3) := by decide +kernel
theorem gf_Past_18 : GF "NineBoards$Past" 18 3 1 := ⟨_, _, _, rfl, ci_Past, by decide, (mt_1 (List.mem_of_getElem? (i := 118) rfl) rfl)⟩
theorem d_Past_keep_8 : decode prog_6_method_2_code 8 = .ok (.aaload, 1) := by decide +kernel
theorem d_Past_keep_9 : decode prog_6_method_2_code 9 = .ok (.aload_n 1, 1) := by decide +kernel
theorem d_Past_keep_10 : decode prog_6_method_2_code 10 = .ok (.invokevirtual 22, 3) := by decide +kernel
theorem kw_Past_22 : KW "NineBoards$Past" 22 ⟨"NineBoards$State", "take", "(LNineBoards$State;)V"⟩ prog_10_method_3_code 2 none 1 := ⟨(mt_4 (List.mem_of_getElem? (i := 65) rfl) rfl), (mt_1 (List.mem_of_getElem? (i := 4) rfl) rfl), (mt_3 (List.mem_of_getElem? (i := 239) rfl) rfl), by decide +kernel⟩
theorem d_Past_keep_13 : decode prog_6_method_2_code 13 = .ok (.aload_n 0, 1) := by decide +kernel
theorem d_Past_keep_14 : decode prog_6_method_2_code 14 = .ok (.aload_n 0, 1) := by decide +kernel
theorem d_Past_keep_15 : decode prog_6_method_2_code 15 = .ok (.getfield 18, 3) := by decide +kernel
theorem d_Past_keep_18 : decode prog_6_method_2_code 18 = .ok (.iconst 1, 1) := by decide +kernel
theorem d_Past_keep_19 : decode prog_6_method_2_code 19 = .ok (.iadd, 1) := by decide +kernel
theorem d_Past_keep_20 : decode prog_6_method_2_code 20 = .ok (.bipush 30, 2) := by decide +kernel
theorem d_Past_keep_22 : decode prog_6_method_2_code 22 = .ok (.irem, 1) := by decide +kernel
theorem d_Past_keep_23 : decode prog_6_method_2_code 23 = .ok (.putfield 18, 3) := by decide +kernel
theorem pf_Past_18 : PF "NineBoards$Past" 18 3 1 (.int) false := ⟨_, _, _, ct_Past, rfl, ci_Past, by decide, (mt_1 (List.mem_of_getElem? (i := 118) rfl) rfl), cp_Past, cn_Past, rfl, by decide +kernel, (fun h => by cases h)⟩
theorem d_Past_keep_26 : decode prog_6_method_2_code 26 = .ok (.aload_n 0, 1) := by decide +kernel
theorem d_Past_keep_27 : decode prog_6_method_2_code 27 = .ok (.bipush 30, 2) := by decide +kernel
theorem d_Past_keep_29 : decode prog_6_method_2_code 29 = .ok (.aload_n 0, 1) := by decide +kernel
theorem d_Past_keep_30 : decode prog_6_method_2_code 30 = .ok (.getfield 26, 3) := by decide +kernel
theorem d_Past_keep_33 : decode prog_6_method_2_code 33 = .ok (.iconst 1, 1) := by decide +kernel
theorem d_Past_keep_34 : decode prog_6_method_2_code 34 = .ok (.iadd, 1) := by decide +kernel
theorem d_Past_keep_35 : decode prog_6_method_2_code 35 = .ok (.invokestatic 29, 3) := by decide +kernel
theorem d_Past_keep_38 : decode prog_6_method_2_code 38 = .ok (.putfield 26, 3) := by decide +kernel
theorem pf_Past_26 : PF "NineBoards$Past" 26 3 0 (.int) false := ⟨_, _, _, ct_Past, rfl, ci_Past, by decide, (mt_1 (List.mem_of_getElem? (i := 116) rfl) rfl), cp_Past, cn_Past, rfl, by decide +kernel, (fun h => by cases h)⟩
theorem d_Past_keep_41 : decode prog_6_method_2_code 41 = .ok (.return_, 1) := by decide +kernel
set_option maxHeartbeats 4000000 in
set_option maxRecDepth 100000 in
theorem c_keep (l : Launch) (D : va_G) (y : Nat → ClassId) (ps : Nat) (kp : Nat) (i : Nat) (cn : Int32) (hh : Nat → Nat) (aa : Nat → Nat → Nat) (dd : Nat → Int32) (h : Nat) (a0 : Nat) (a1 : Nat) (a2 : Nat) (a3 : Nat) (a4 : Nat) (a5 : Nat) (a6 : Nat) (d : Int32) (hi : i < 30) : CT l D y ⟨"NineBoards$Past", "keep", "(LNineBoards$State;)V"⟩ prog_6_method_2_code 2 none ({ frames := 2, cells := 0, slots := 0, locals := 85 } : Room) [.ref ps, .ref h] (([(ps, .inr (3, [.int cn, .int (nI i), .ref kp])), (kp, .inl (y 4, 30, .inr (.inr (.inr (.inr (fun j => some (hh j))))))), (h, .inr (7, [.int d, .int 0, .int 0, .ref a0, .ref a1, .ref a2, .ref a3, .ref a4, .ref a5, .ref a6])), (a0, .inl (y 0, 9, .inl (fun _ => 0))), (a1, .inl (y 0, 9, .inl (fun _ => 0))), (a2, .inl (y 1, 9, .inr (.inl (fun _ => 0)))), (a3, .inl (y 0, 6, .inl (fun _ => 0))), (a4, .inl (y 0, 6, .inl (fun _ => 0))), (a5, .inl (y 0, 16, .inl (fun _ => 0))), (a6, .inl (y 1, 5, .inr (.inl (fun _ => 0))))] : va_W) ++ RG y hh aa dd (List.range 30)) (QV D (([(ps, .inr (3, [.int cn, .int (nI i), .ref kp])), (kp, .inl (y 4, 30, .inr (.inr (.inr (.inr (fun j => some (hh j))))))), (h, .inr (7, [.int d, .int 0, .int 0, .ref a0, .ref a1, .ref a2, .ref a3, .ref a4, .ref a5, .ref a6])), (a0, .inl (y 0, 9, .inl (fun _ => 0))), (a1, .inl (y 0, 9, .inl (fun _ => 0))), (a2, .inl (y 1, 9, .inr (.inl (fun _ => 0)))), (a3, .inl (y 0, 6, .inl (fun _ => 0))), (a4, .inl (y 0, 6, .inl (fun _ => 0))), (a5, .inl (y 0, 16, .inl (fun _ => 0))), (a6, .inl (y 1, 5, .inr (.inl (fun _ => 0))))] : va_W) ++ RG y hh aa dd (List.range 30)) (fun (_ : Int32) => True) (fun u => (([(ps, .inr (3, [.int u, .int (nI ((i + 1) % 30)), .ref kp])), (kp, .inl (y 4, 30, .inr (.inr (.inr (.inr (fun j => some (hh j))))))), (h, .inr (7, [.int d, .int 0, .int 0, .ref a0, .ref a1, .ref a2, .ref a3, .ref a4, .ref a5, .ref a6])), (a0, .inl (y 0, 9, .inl (fun _ => 0))), (a1, .inl (y 0, 9, .inl (fun _ => 0))), (a2, .inl (y 1, 9, .inr (.inl (fun _ => 0)))), (a3, .inl (y 0, 6, .inl (fun _ => 0))), (a4, .inl (y 0, 6, .inl (fun _ => 0))), (a5, .inl (y 0, 16, .inl (fun _ => 0))), (a6, .inl (y 1, 5, .inr (.inl (fun _ => 0))))] : va_W) ++ RG y hh aa (va_up dd i d) (List.range 30)))) := by
  refine CT.of (by decide) (nb rfl) ?_
  intro p e s m args below meth c C hr
  refine j_lv (lv' := [(0, .ref ps), (1, .ref h)]) rfl ?_
  refine j_aload_n (pc := 0) C d_Past_keep_0 rfl 0 rfl ?_
  refine j_get (pc := 1) C gf_Past_11 0 rfl rfl d_Past_keep_1 ?_
  refine j_aload_n (pc := 4) C d_Past_keep_4 rfl 0 rfl ?_
  refine j_get (pc := 5) C gf_Past_18 0 rfl rfl d_Past_keep_5 ?_
  refine j_aald (pc := 8) C 1 rfl (v := hh i) (vp_in_nI hi (by decide)) (by rw [nI_clamp (by omega)]) d_Past_keep_8 ?_
  refine j_aload_n (pc := 9) C d_Past_keep_9 rfl 1 rfl ?_
  refine j_perm (ws' := (([(ps, .inr (3, [.int cn, .int (nI i), .ref kp])), (kp, .inl (y 4, 30, .inr (.inr (.inr (.inr (fun j => some (hh j))))))), (h, .inr (7, [.int d, .int 0, .int 0, .ref a0, .ref a1, .ref a2, .ref a3, .ref a4, .ref a5, .ref a6])), (a0, .inl (y 0, 9, .inl (fun _ => 0))), (a1, .inl (y 0, 9, .inl (fun _ => 0))), (a2, .inl (y 1, 9, .inr (.inl (fun _ => 0)))), (a3, .inl (y 0, 6, .inl (fun _ => 0))), (a4, .inl (y 0, 6, .inl (fun _ => 0))), (a5, .inl (y 0, 16, .inl (fun _ => 0))), (a6, .inl (y 1, 5, .inr (.inl (fun _ => 0)))), (hh i, .inr (7, [.int (dd i), .int 0, .int 0, .ref (aa i 0), .ref (aa i 1), .ref (aa i 2), .ref (aa i 3), .ref (aa i 4), .ref (aa i 5), .ref (aa i 6)])), (aa i 0, .inl (y 0, 9, .inl (fun _ => 0))), (aa i 1, .inl (y 0, 9, .inl (fun _ => 0))), (aa i 2, .inl (y 1, 9, .inr (.inl (fun _ => 0)))), (aa i 3, .inl (y 0, 6, .inl (fun _ => 0))), (aa i 4, .inl (y 0, 6, .inl (fun _ => 0))), (aa i 5, .inl (y 0, 16, .inl (fun _ => 0))), (aa i 6, .inl (y 1, 5, .inr (.inl (fun _ => 0))))] : va_W) ++ RG y hh aa dd ((List.range 30).erase i))) (rg_out (i := i) (rm30 hi)) ?_
  refine j_callVvT (pc := 10) C (c_take l D y (hh i) (aa i 0) (aa i 1) (aa i 2) (aa i 3) (aa i 4) (aa i 5) (aa i 6) (dd i) h a0 a1 a2 a3 a4 a5 a6 d) kw_Past_22 kv_State_take 0 7 rfl rfl ⟨by decide, by decide⟩ ⟨by decide, by decide⟩ (wr := [(ps, .inr (3, [.int cn, .int (nI i), .ref kp])), (kp, .inl (y 4, 30, .inr (.inr (.inr (.inr (fun j => some (hh j)))))))]) [10, 11, 12, 13, 14, 15, 16, 17, 2, 3, 4, 5, 6, 7, 8, 9] [0, 1] rfl rfl (by decide) (by decide) (by decide) (As := [.ref h]) (rest := []) rfl (nb rfl) rfl d_Past_keep_10 (fun _ _ => ?_)
  refine j_ws (ws' := (([(ps, .inr (3, [.int cn, .int (nI i), .ref kp])), (kp, .inl (y 4, 30, .inr (.inr (.inr (.inr (fun j => some (hh j))))))), (hh i, .inr (7, [.int d, .int 0, .int 0, .ref (aa i 0), .ref (aa i 1), .ref (aa i 2), .ref (aa i 3), .ref (aa i 4), .ref (aa i 5), .ref (aa i 6)])), (aa i 0, .inl (y 0, 9, .inl (fun _ => 0))), (aa i 1, .inl (y 0, 9, .inl (fun _ => 0))), (aa i 2, .inl (y 1, 9, .inr (.inl (fun _ => 0)))), (aa i 3, .inl (y 0, 6, .inl (fun _ => 0))), (aa i 4, .inl (y 0, 6, .inl (fun _ => 0))), (aa i 5, .inl (y 0, 16, .inl (fun _ => 0))), (aa i 6, .inl (y 1, 5, .inr (.inl (fun _ => 0)))), (h, .inr (7, [.int d, .int 0, .int 0, .ref a0, .ref a1, .ref a2, .ref a3, .ref a4, .ref a5, .ref a6])), (a0, .inl (y 0, 9, .inl (fun _ => 0))), (a1, .inl (y 0, 9, .inl (fun _ => 0))), (a2, .inl (y 1, 9, .inr (.inl (fun _ => 0)))), (a3, .inl (y 0, 6, .inl (fun _ => 0))), (a4, .inl (y 0, 6, .inl (fun _ => 0))), (a5, .inl (y 0, 16, .inl (fun _ => 0))), (a6, .inl (y 1, 5, .inr (.inl (fun _ => 0))))] : va_W) ++ RG y hh aa dd ((List.range 30).erase i))) rfl ?_
  refine j_subT (X' := [(ps, .inr (3, [.int cn, .int (nI i), .ref kp])), (kp, .inl (y 4, 30, .inr (.inr (.inr (.inr (fun j => some (hh j))))))), (h, .inr (7, [.int d, .int 0, .int 0, .ref a0, .ref a1, .ref a2, .ref a3, .ref a4, .ref a5, .ref a6])), (a0, .inl (y 0, 9, .inl (fun _ => 0))), (a1, .inl (y 0, 9, .inl (fun _ => 0))), (a2, .inl (y 1, 9, .inr (.inl (fun _ => 0)))), (a3, .inl (y 0, 6, .inl (fun _ => 0))), (a4, .inl (y 0, 6, .inl (fun _ => 0))), (a5, .inl (y 0, 16, .inl (fun _ => 0))), (a6, .inl (y 1, 5, .inr (.inl (fun _ => 0)))), (hh i, .inr (7, [.int d, .int 0, .int 0, .ref (aa i 0), .ref (aa i 1), .ref (aa i 2), .ref (aa i 3), .ref (aa i 4), .ref (aa i 5), .ref (aa i 6)])), (aa i 0, .inl (y 0, 9, .inl (fun _ => 0))), (aa i 1, .inl (y 0, 9, .inl (fun _ => 0))), (aa i 2, .inl (y 1, 9, .inr (.inl (fun _ => 0)))), (aa i 3, .inl (y 0, 6, .inl (fun _ => 0))), (aa i 4, .inl (y 0, 6, .inl (fun _ => 0))), (aa i 5, .inl (y 0, 16, .inl (fun _ => 0))), (aa i 6, .inl (y 1, 5, .inr (.inl (fun _ => 0))))]) [0, 1, 10, 11, 12, 13, 14, 15, 16, 17, 2, 3, 4, 5, 6, 7, 8, 9] rfl (by decide) ?_
  refine j_perm (ws' := (([(ps, .inr (3, [.int cn, .int (nI i), .ref kp])), (kp, .inl (y 4, 30, .inr (.inr (.inr (.inr (fun j => some (hh j))))))), (h, .inr (7, [.int d, .int 0, .int 0, .ref a0, .ref a1, .ref a2, .ref a3, .ref a4, .ref a5, .ref a6])), (a0, .inl (y 0, 9, .inl (fun _ => 0))), (a1, .inl (y 0, 9, .inl (fun _ => 0))), (a2, .inl (y 1, 9, .inr (.inl (fun _ => 0)))), (a3, .inl (y 0, 6, .inl (fun _ => 0))), (a4, .inl (y 0, 6, .inl (fun _ => 0))), (a5, .inl (y 0, 16, .inl (fun _ => 0))), (a6, .inl (y 1, 5, .inr (.inl (fun _ => 0))))] : va_W) ++ RG y hh aa (va_up dd i d) (List.range 30))) (rg_in (X := [(ps, .inr (3, [.int cn, .int (nI i), .ref kp])), (kp, .inl (y 4, 30, .inr (.inr (.inr (.inr (fun j => some (hh j))))))), (h, .inr (7, [.int d, .int 0, .int 0, .ref a0, .ref a1, .ref a2, .ref a3, .ref a4, .ref a5, .ref a6])), (a0, .inl (y 0, 9, .inl (fun _ => 0))), (a1, .inl (y 0, 9, .inl (fun _ => 0))), (a2, .inl (y 1, 9, .inr (.inl (fun _ => 0)))), (a3, .inl (y 0, 6, .inl (fun _ => 0))), (a4, .inl (y 0, 6, .inl (fun _ => 0))), (a5, .inl (y 0, 16, .inl (fun _ => 0))), (a6, .inl (y 1, 5, .inr (.inl (fun _ => 0))))]) (i := i) (d := d) (rm30 hi) rn30) ?_
  refine j_aload_n (pc := 13) C d_Past_keep_13 rfl 0 rfl ?_
  refine j_aload_n (pc := 14) C d_Past_keep_14 rfl 0 rfl ?_
  refine j_get (pc := 15) C gf_Past_18 0 rfl rfl d_Past_keep_15 ?_
  refine j_iconst (pc := 18) C (v := 1) d_Past_keep_18 (by decide) ?_
  refine j_iadd (pc := 19) C (v := (nI i) + 1) d_Past_keep_19 rfl ?_
  refine j_bipush (pc := 20) C (v := 30) d_Past_keep_20 (by decide) ?_
  refine j_irem (pc := 22) C (v := nI ((i + 1) % 30)) d_Past_keep_22 (by decide) (i_30 hi) ?_
  refine j_put (pc := 23) C pf_Past_18 0 (ws' := (([(ps, .inr (3, [.int cn, .int (nI ((i + 1) % 30)), .ref kp])), (kp, .inl (y 4, 30, .inr (.inr (.inr (.inr (fun j => some (hh j))))))), (h, .inr (7, [.int d, .int 0, .int 0, .ref a0, .ref a1, .ref a2, .ref a3, .ref a4, .ref a5, .ref a6])), (a0, .inl (y 0, 9, .inl (fun _ => 0))), (a1, .inl (y 0, 9, .inl (fun _ => 0))), (a2, .inl (y 1, 9, .inr (.inl (fun _ => 0)))), (a3, .inl (y 0, 6, .inl (fun _ => 0))), (a4, .inl (y 0, 6, .inl (fun _ => 0))), (a5, .inl (y 0, 16, .inl (fun _ => 0))), (a6, .inl (y 1, 5, .inr (.inl (fun _ => 0))))] : va_W) ++ RG y hh aa (va_up dd i d) (List.range 30))) rfl rfl rfl (nl rfl) rfl d_Past_keep_23 ?_
  refine j_aload_n (pc := 26) C d_Past_keep_26 rfl 0 rfl ?_
  refine j_bipush (pc := 27) C (v := 30) d_Past_keep_27 (by decide) ?_
  refine j_aload_n (pc := 29) C d_Past_keep_29 rfl 0 rfl ?_
  refine j_get (pc := 30) C gf_Past_26 0 rfl rfl d_Past_keep_30 ?_
  refine j_iconst (pc := 33) C (v := 1) d_Past_keep_33 (by decide) ?_
  refine j_iadd (pc := 34) C (v := cn + 1) d_Past_keep_34 rfl ?_
  refine j_mmin (pc := 35) C (mt_4 (List.mem_of_getElem? (i := 66) rfl) rfl) (mt_3 (List.mem_of_getElem? (i := 56) rfl) rfl) (mt_1 (List.mem_of_getElem? (i := 3) rfl) rfl) (mt_3 (List.mem_of_getElem? (i := 57) rfl) rfl) (v := if cn + 1 < 30 then cn + 1 else 30) rfl (by decide) (nb rfl) (by decide) (by decide) d_Past_keep_35 ?_
  refine j_put (pc := 38) C pf_Past_26 0 (ws' := (([(ps, .inr (3, [.int (if cn + 1 < 30 then cn + 1 else 30), .int (nI ((i + 1) % 30)), .ref kp])), (kp, .inl (y 4, 30, .inr (.inr (.inr (.inr (fun j => some (hh j))))))), (h, .inr (7, [.int d, .int 0, .int 0, .ref a0, .ref a1, .ref a2, .ref a3, .ref a4, .ref a5, .ref a6])), (a0, .inl (y 0, 9, .inl (fun _ => 0))), (a1, .inl (y 0, 9, .inl (fun _ => 0))), (a2, .inl (y 1, 9, .inr (.inl (fun _ => 0)))), (a3, .inl (y 0, 6, .inl (fun _ => 0))), (a4, .inl (y 0, 6, .inl (fun _ => 0))), (a5, .inl (y 0, 16, .inl (fun _ => 0))), (a6, .inl (y 1, 5, .inr (.inl (fun _ => 0))))] : va_W) ++ RG y hh aa (va_up dd i d) (List.range 30))) rfl rfl rfl (nl rfl) rfl d_Past_keep_38 ?_
  exact j_vretW (pc := 41) C hr (if cn + 1 < 30 then cn + 1 else 30) trivial rfl (by decide) (by decide) d_Past_keep_41
theorem d_Nine_act_0 : decode prog_1_method_13_code 0 = .ok (.aload_n 0, 1) := by decide +kernel
theorem d_Nine_act_1 : decode prog_1_method_13_code 1 = .ok (.getfield 41, 3) := by decide +kernel
theorem d_Nine_act_4 : decode prog_1_method_13_code 4 = .ok (.aload_n 0, 1) := by decide +kernel
theorem d_Nine_act_5 : decode prog_1_method_13_code 5 = .ok (.getfield 24, 3) := by decide +kernel
theorem d_Nine_act_8 : decode prog_1_method_13_code 8 = .ok (.getfield 124, 3) := by decide +kernel
theorem d_Nine_act_11 : decode prog_1_method_13_code 11 = .ok (.invokevirtual 206, 3) := by decide +kernel
theorem kw_Nine_206 : KW "NineBoards" 206 ⟨"NineBoards$Lake", "villageOn", "(I)I"⟩ prog_5_method_8_code 2 (some .int) 1 := ⟨(mt_4 (List.mem_of_getElem? (i := 56) rfl) rfl), (mt_1 (List.mem_of_getElem? (i := 6) rfl) rfl), (mt_4 (List.mem_of_getElem? (i := 59) rfl) rfl), by decide +kernel⟩
theorem kv_Lake_villageOn : Cond.instanceMethod ⟨"NineBoards$Lake", "villageOn", "(I)I"⟩ ∈ TB ∧ Cond.selects "NineBoards$Lake" ⟨"NineBoards$Lake", "villageOn", "(I)I"⟩ ⟨"NineBoards$Lake", "villageOn", "(I)I"⟩ ∈ TB := ⟨(mt_4 (List.mem_of_getElem? (i := 57) rfl) rfl), (mt_4 (List.mem_of_getElem? (i := 58) rfl) rfl)⟩
theorem d_Nine_act_14 : decode prog_1_method_13_code 14 = .ok (.istore_n 2, 1) := by decide +kernel
theorem d_Nine_act_15 : decode prog_1_method_13_code 15 = .ok (.aload_n 0, 1) := by decide +kernel
theorem d_Nine_act_16 : decode prog_1_method_13_code 16 = .ok (.getfield 24, 3) := by decide +kernel
theorem d_Nine_act_19 : decode prog_1_method_13_code 19 = .ok (.getfield 124, 3) := by decide +kernel
theorem d_Nine_act_22 : decode prog_1_method_13_code 22 = .ok (.sipush 999, 3) := by decide +kernel
theorem d_Nine_act_25 : decode prog_1_method_13_code 25 = .ok (.if_icmp .ge 20, 3) := by decide +kernel
theorem d_Nine_act_28 : decode prog_1_method_13_code 28 = .ok (.aload_n 0, 1) := by decide +kernel
theorem d_Nine_act_29 : decode prog_1_method_13_code 29 = .ok (.getfield 41, 3) := by decide +kernel
theorem d_Nine_act_32 : decode prog_1_method_13_code 32 = .ok (.aload_n 0, 1) := by decide +kernel
theorem d_Nine_act_33 : decode prog_1_method_13_code 33 = .ok (.getfield 24, 3) := by decide +kernel
theorem d_Nine_act_36 : decode prog_1_method_13_code 36 = .ok (.iload_n 2, 1) := by decide +kernel
theorem d_Nine_act_37 : decode prog_1_method_13_code 37 = .ok (.iload_n 1, 1) := by decide +kernel
theorem d_Nine_act_38 : decode prog_1_method_13_code 38 = .ok (.iconst 0, 1) := by decide +kernel
theorem d_Nine_act_39 : decode prog_1_method_13_code 39 = .ok (.invokestatic 209, 3) := by decide +kernel
theorem kw_Nine_209 : KW "NineBoards" 209 ⟨"NineBoards$Days", "allows", "(LNineBoards$Lake;LNineBoards$State;III)Z"⟩ prog_3_method_2_code 7 (some .boolean) 5 := ⟨(mt_4 (List.mem_of_getElem? (i := 60) rfl) rfl), (mt_1 (List.mem_of_getElem? (i := 18) rfl) rfl), (mt_4 (List.mem_of_getElem? (i := 39) rfl) rfl), by decide +kernel⟩
theorem ks_Days_allows : Cond.static ⟨"NineBoards$Days", "allows", "(LNineBoards$Lake;LNineBoards$State;III)Z"⟩ ∈ TB := (mt_4 (List.mem_of_getElem? (i := 38) rfl) rfl)
theorem d_Nine_act_42 : decode prog_1_method_13_code 42 = .ok (.ifCond .ne 5, 3) := by decide +kernel
theorem d_Nine_act_45 : decode prog_1_method_13_code 45 = .ok (.iconst (-1), 1) := by decide +kernel
theorem d_Nine_act_46 : decode prog_1_method_13_code 46 = .ok (.ireturn, 1) := by decide +kernel
set_option maxHeartbeats 4000000 in
set_option maxRecDepth 100000 in
theorem c_N_act_n (l : Launch) (D : va_G) (y : Nat → ClassId) (x : Nat) (tp : Nat) (pi : Nat) (nw : Nat) (tr : Nat) (ps : Nat) (k : Nat) (k2 : Nat) (rd : Nat) (pl : Nat) (g : Nat) (vn : Nat) (vg : Nat) (t : Nat) (r : Nat) (n0 : Nat) (n1 : Nat) (n2 : Nat) (n3 : Nat) (n4 : Nat) (n5 : Nat) (n6 : Nat) (va : Int32) (hx : ¬ va = 0) : CT l D y ⟨"NineBoards", "act", "(I)I"⟩ prog_1_method_13_code 3 (some .int) ({ frames := 2, cells := 0, slots := 0, locals := 47 } : Room) [.ref x, .int va] [(x, .inr (9, [.ref tp, .ref pi, .ref nw, .ref tr, .ref ps, .ref k, .ref k2, .ref rd, .ref pl, .int 1])), (k, .inr (2, [.int 0, .int 1, .int 1, .int 0, .ref g, .int 0, .ref vn, .ref vg, .ref t, .ref r, .int 0, .int 0, .int 9999, .int 0])), (nw, .inr (7, [.int 0, .int 0, .int 0, .ref n0, .ref n1, .ref n2, .ref n3, .ref n4, .ref n5, .ref n6]))] (QI D [(x, .inr (9, [.ref tp, .ref pi, .ref nw, .ref tr, .ref ps, .ref k, .ref k2, .ref rd, .ref pl, .int 1])), (k, .inr (2, [.int 0, .int 1, .int 1, .int 0, .ref g, .int 0, .ref vn, .ref vg, .ref t, .ref r, .int 0, .int 0, .int 9999, .int 0])), (nw, .inr (7, [.int 0, .int 0, .int 0, .ref n0, .ref n1, .ref n2, .ref n3, .ref n4, .ref n5, .ref n6]))] (fun (r : Int32) (_ : Unit) => r = (-1)) (fun _ => [])) := by
  refine CT.of (by decide) (nb rfl) ?_
  intro p e s m args below meth c C hr
  refine j_lv (lv' := [(0, .ref x), (1, .int va)]) rfl ?_
  refine j_aload_n (pc := 0) C d_Nine_act_0 rfl 0 rfl ?_
  refine j_get (pc := 1) C gf_Nine_41 0 rfl rfl d_Nine_act_1 ?_
  refine j_aload_n (pc := 4) C d_Nine_act_4 rfl 0 rfl ?_
  refine j_get (pc := 5) C gf_Nine_24 0 rfl rfl d_Nine_act_5 ?_
  refine j_get (pc := 8) C gf_Nine_124 2 rfl rfl d_Nine_act_8 ?_
  refine j_callVi (pc := 11) C (c_villageOn l D y k g vn vg t r 0) kw_Nine_206 kv_Lake_villageOn 0 2 rfl rfl ⟨by decide, by decide⟩ ⟨by decide, by decide⟩ (wr := [(x, .inr (9, [.ref tp, .ref pi, .ref nw, .ref tr, .ref ps, .ref k, .ref k2, .ref rd, .ref pl, .int 1])), (nw, .inr (7, [.int 0, .int 0, .int 0, .ref n0, .ref n1, .ref n2, .ref n3, .ref n4, .ref n5, .ref n6]))]) [1] [0, 2] rfl rfl (by decide) (by decide) (by decide) (As := [.int 0]) (rest := []) rfl (nb rfl) rfl d_Nine_act_11 (fun r1 _ hr1 => ?_)
  subst hr1
  refine j_ws (ws' := [(x, .inr (9, [.ref tp, .ref pi, .ref nw, .ref tr, .ref ps, .ref k, .ref k2, .ref rd, .ref pl, .int 1])), (nw, .inr (7, [.int 0, .int 0, .int 0, .ref n0, .ref n1, .ref n2, .ref n3, .ref n4, .ref n5, .ref n6])), (k, .inr (2, [.int 0, .int 1, .int 1, .int 0, .ref g, .int 0, .ref vn, .ref vg, .ref t, .ref r, .int 0, .int 0, .int 9999, .int 0]))]) rfl ?_
  refine j_st (st' := [.int (-1)]) rfl ?_
  refine j_istore_n (pc := 14) C (lv' := [(2, .int (-1)), (0, .ref x), (1, .int va)]) d_Nine_act_14 rfl (by decide) rfl ?_
  refine j_aload_n (pc := 15) C d_Nine_act_15 rfl 1 rfl ?_
  refine j_get (pc := 16) C gf_Nine_24 0 rfl rfl d_Nine_act_16 ?_
  refine j_get (pc := 19) C gf_Nine_124 1 rfl rfl d_Nine_act_19 ?_
  refine j_sipush (pc := 22) C (v := 999) d_Nine_act_22 (by decide) ?_
  refine j_icmp_geF (pc := 25) C (tgt := 45) d_Nine_act_25 (by decide) (by decide) ?_
  refine j_aload_n (pc := 28) C d_Nine_act_28 rfl 1 rfl ?_
  refine j_get (pc := 29) C gf_Nine_41 0 rfl rfl d_Nine_act_29 ?_
  refine j_aload_n (pc := 32) C d_Nine_act_32 rfl 1 rfl ?_
  refine j_get (pc := 33) C gf_Nine_24 0 rfl rfl d_Nine_act_33 ?_
  refine j_iload_n (pc := 36) C d_Nine_act_36 rfl 0 rfl ?_
  refine j_iload_n (pc := 37) C d_Nine_act_37 rfl 2 rfl ?_
  refine j_iconst (pc := 38) C (v := 0) d_Nine_act_38 (by decide) ?_
  refine j_callSi (pc := 39) C (c_allows_n l D y k g vn vg t r nw (-1) va 0 hx) kw_Nine_209 ks_Days_allows ⟨by decide, by decide⟩ ⟨by decide, by decide⟩ (wr := [(x, .inr (9, [.ref tp, .ref pi, .ref nw, .ref tr, .ref ps, .ref k, .ref k2, .ref rd, .ref pl, .int 1])), (nw, .inr (7, [.int 0, .int 0, .int 0, .ref n0, .ref n1, .ref n2, .ref n3, .ref n4, .ref n5, .ref n6]))]) [2] [0, 1] rfl rfl (by decide) (by decide) (by decide) (As := [.ref k, .ref nw, .int (-1), .int va, .int 0]) (rest := []) rfl (nb rfl) rfl d_Nine_act_39 (fun r2 _ hr2 => ?_)
  subst hr2
  refine j_ws (ws' := [(x, .inr (9, [.ref tp, .ref pi, .ref nw, .ref tr, .ref ps, .ref k, .ref k2, .ref rd, .ref pl, .int 1])), (nw, .inr (7, [.int 0, .int 0, .int 0, .ref n0, .ref n1, .ref n2, .ref n3, .ref n4, .ref n5, .ref n6])), (k, .inr (2, [.int 0, .int 1, .int 1, .int 0, .ref g, .int 0, .ref vn, .ref vg, .ref t, .ref r, .int 0, .int 0, .int 9999, .int 0]))]) rfl ?_
  refine j_st (st' := [.int 0]) rfl ?_
  refine j_if_neF (pc := 42) C (tgt := 47) d_Nine_act_42 (by decide) (by decide) ?_
  refine j_iconst (pc := 45) C (v := (-1)) d_Nine_act_45 (by decide) ?_
  exact j_iret (pc := 46) C hr rfl () rfl [] rfl (by decide) (by decide) (by decide) d_Nine_act_46
theorem d_Nine_act_47 : decode prog_1_method_13_code 47 = .ok (.aload_n 0, 1) := by decide +kernel
theorem d_Nine_act_48 : decode prog_1_method_13_code 48 = .ok (.getfield 34, 3) := by decide +kernel
theorem d_Nine_act_51 : decode prog_1_method_13_code 51 = .ok (.aload_n 0, 1) := by decide +kernel
theorem d_Nine_act_52 : decode prog_1_method_13_code 52 = .ok (.getfield 24, 3) := by decide +kernel
theorem d_Nine_act_55 : decode prog_1_method_13_code 55 = .ok (.invokevirtual 213, 3) := by decide +kernel
theorem kw_Nine_213 : KW "NineBoards" 213 ⟨"NineBoards$Past", "keep", "(LNineBoards$State;)V"⟩ prog_6_method_2_code 2 none 1 := ⟨(mt_4 (List.mem_of_getElem? (i := 61) rfl) rfl), (mt_1 (List.mem_of_getElem? (i := 5) rfl) rfl), (mt_4 (List.mem_of_getElem? (i := 64) rfl) rfl), by decide +kernel⟩
theorem kv_Past_keep : Cond.instanceMethod ⟨"NineBoards$Past", "keep", "(LNineBoards$State;)V"⟩ ∈ TB ∧ Cond.selects "NineBoards$Past" ⟨"NineBoards$Past", "keep", "(LNineBoards$State;)V"⟩ ⟨"NineBoards$Past", "keep", "(LNineBoards$State;)V"⟩ ∈ TB := ⟨(mt_4 (List.mem_of_getElem? (i := 62) rfl) rfl), (mt_4 (List.mem_of_getElem? (i := 63) rfl) rfl)⟩
theorem d_Nine_act_58 : decode prog_1_method_13_code 58 = .ok (.aload_n 0, 1) := by decide +kernel
theorem d_Nine_act_59 : decode prog_1_method_13_code 59 = .ok (.getfield 41, 3) := by decide +kernel
theorem d_Nine_act_62 : decode prog_1_method_13_code 62 = .ok (.aload_n 0, 1) := by decide +kernel
theorem d_Nine_act_63 : decode prog_1_method_13_code 63 = .ok (.getfield 24, 3) := by decide +kernel
theorem d_Nine_act_66 : decode prog_1_method_13_code 66 = .ok (.iload_n 1, 1) := by decide +kernel
theorem d_Nine_act_67 : decode prog_1_method_13_code 67 = .ok (.invokestatic 216, 3) := by decide +kernel
theorem kw_Nine_216 : KW "NineBoards" 216 ⟨"NineBoards$Days", "pass", "(LNineBoards$Lake;LNineBoards$State;I)V"⟩ prog_3_method_5_code 8 none 3 := ⟨(mt_4 (List.mem_of_getElem? (i := 67) rfl) rfl), (mt_1 (List.mem_of_getElem? (i := 18) rfl) rfl), (mt_4 (List.mem_of_getElem? (i := 69) rfl) rfl), by decide +kernel⟩
theorem ks_Days_pass : Cond.static ⟨"NineBoards$Days", "pass", "(LNineBoards$Lake;LNineBoards$State;I)V"⟩ ∈ TB := (mt_4 (List.mem_of_getElem? (i := 68) rfl) rfl)
theorem d_Nine_act_70 : decode prog_1_method_13_code 70 = .ok (.aload_n 0, 1) := by decide +kernel
theorem d_Nine_act_71 : decode prog_1_method_13_code 71 = .ok (.getfield 41, 3) := by decide +kernel
theorem d_Nine_act_74 : decode prog_1_method_13_code 74 = .ok (.aload_n 0, 1) := by decide +kernel
theorem d_Nine_act_75 : decode prog_1_method_13_code 75 = .ok (.getfield 24, 3) := by decide +kernel
theorem d_Nine_act_78 : decode prog_1_method_13_code 78 = .ok (.getfield 127, 3) := by decide +kernel
theorem d_Nine_act_81 : decode prog_1_method_13_code 81 = .ok (.invokevirtual 130, 3) := by decide +kernel
theorem d_Nine_act_84 : decode prog_1_method_13_code 84 = .ok (.ireturn, 1) := by decide +kernel
set_option maxHeartbeats 4000000 in
set_option maxRecDepth 100000 in
theorem c_N_act_0 (l : Launch) (D : va_G) (y : Nat → ClassId) (x : Nat) (tp : Nat) (pi : Nat) (nw : Nat) (tr : Nat) (ps : Nat) (k : Nat) (k2 : Nat) (rd : Nat) (pl : Nat) (kp : Nat) (j : Nat → Option Nat) (hh : Nat → Nat) (g : Nat) (vn : Nat) (vg : Nat) (t : Nat) (r : Nat) (g0 : Nat) (g1 : Nat) (g2 : Nat) (g3 : Nat) (g4 : Nat) (g5 : Nat) (g6 : Nat) (t0 : Nat) (t1 : Nat) (t2 : Nat) (t3 : Nat) (t4 : Nat) (t5 : Nat) (t6 : Nat) (r0 : Nat) (r1 : Nat) (r2 : Nat) (r3 : Nat) (r4 : Nat) (r5 : Nat) (n0 : Nat) (n1 : Nat) (n2 : Nat) (n3 : Nat) (n4 : Nat) (n5 : Nat) (n6 : Nat) (aa : Nat → Nat → Nat) (dd : Nat → Int32)  : CT l D y ⟨"NineBoards", "act", "(I)I"⟩ prog_1_method_13_code 3 (some .int) ({ frames := 5, cells := 0, slots := 0, locals := 117 } : Room) [.ref x, .int 0] (([(x, .inr (9, [.ref tp, .ref pi, .ref nw, .ref tr, .ref ps, .ref k, .ref k2, .ref rd, .ref pl, .int 1])), (ps, .inr (3, [.int 0, .int (nI 0), .ref kp])), (kp, .inl (y 4, 30, .inr (.inr (.inr (.inr (fun j => some (hh j))))))), (k, .inr (2, [.int 0, .int 1, .int 1, .int 0, .ref g, .int 0, .ref vn, .ref vg, .ref t, .ref r, .int 0, .int 0, .int 9999, .int 0])), (g, .inr (1, [.int 0, .ref g0, .ref g1, .ref g2, .ref g3, .ref g4, .ref g5, .ref g6])), (t, .inr (8, [.int 0, .ref t0, .ref t1, .ref t2, .ref t3, .ref t4, .ref t5, .ref t6])), (r, .inr (6, [.int 0, .int 0, .ref r0, .ref r1, .ref r2, .ref r3, .ref r4, .ref r5])), (nw, .inr (7, [.int 0, .int 0, .int 0, .ref n0, .ref n1, .ref n2, .ref n3, .ref n4, .ref n5, .ref n6])), (n0, .inl (y 0, 9, .inl (fun _ => 0))), (n1, .inl (y 0, 9, .inl (fun _ => 0))), (n2, .inl (y 1, 9, .inr (.inl (fun _ => 0)))), (n3, .inl (y 0, 6, .inl (fun _ => 0))), (n4, .inl (y 0, 6, .inl (fun _ => 0))), (n5, .inl (y 0, 16, .inl (fun _ => 0))), (n6, .inl (y 1, 5, .inr (.inl (fun _ => 0))))] : va_W) ++ RG y hh aa dd (List.range 30)) (QI D (([(x, .inr (9, [.ref tp, .ref pi, .ref nw, .ref tr, .ref ps, .ref k, .ref k2, .ref rd, .ref pl, .int 1])), (ps, .inr (3, [.int 0, .int (nI 0), .ref kp])), (kp, .inl (y 4, 30, .inr (.inr (.inr (.inr (fun j => some (hh j))))))), (k, .inr (2, [.int 0, .int 1, .int 1, .int 0, .ref g, .int 0, .ref vn, .ref vg, .ref t, .ref r, .int 0, .int 0, .int 9999, .int 0])), (g, .inr (1, [.int 0, .ref g0, .ref g1, .ref g2, .ref g3, .ref g4, .ref g5, .ref g6])), (t, .inr (8, [.int 0, .ref t0, .ref t1, .ref t2, .ref t3, .ref t4, .ref t5, .ref t6])), (r, .inr (6, [.int 0, .int 0, .ref r0, .ref r1, .ref r2, .ref r3, .ref r4, .ref r5])), (nw, .inr (7, [.int 0, .int 0, .int 0, .ref n0, .ref n1, .ref n2, .ref n3, .ref n4, .ref n5, .ref n6])), (n0, .inl (y 0, 9, .inl (fun _ => 0))), (n1, .inl (y 0, 9, .inl (fun _ => 0))), (n2, .inl (y 1, 9, .inr (.inl (fun _ => 0)))), (n3, .inl (y 0, 6, .inl (fun _ => 0))), (n4, .inl (y 0, 6, .inl (fun _ => 0))), (n5, .inl (y 0, 16, .inl (fun _ => 0))), (n6, .inl (y 1, 5, .inr (.inl (fun _ => 0))))] : va_W) ++ RG y hh aa dd (List.range 30)) (fun (r : Int32) (_ : Unit) => r = 0) (fun _ => [])) := by
  refine CT.of (by decide) (nb rfl) ?_
  intro p e s m args below meth c C hr
  refine j_lv (lv' := [(0, .ref x), (1, .int 0)]) rfl ?_
  refine j_aload_n (pc := 0) C d_Nine_act_0 rfl 0 rfl ?_
  refine j_get (pc := 1) C gf_Nine_41 0 rfl rfl d_Nine_act_1 ?_
  refine j_aload_n (pc := 4) C d_Nine_act_4 rfl 0 rfl ?_
  refine j_get (pc := 5) C gf_Nine_24 0 rfl rfl d_Nine_act_5 ?_
  refine j_get (pc := 8) C gf_Nine_124 7 rfl rfl d_Nine_act_8 ?_
  refine j_callViT (pc := 11) C (c_villageOn l D y k g vn vg t r 0) kw_Nine_206 kv_Lake_villageOn 0 2 rfl rfl ⟨by decide, by decide⟩ ⟨by decide, by decide⟩ (wr := [(x, .inr (9, [.ref tp, .ref pi, .ref nw, .ref tr, .ref ps, .ref k, .ref k2, .ref rd, .ref pl, .int 1])), (ps, .inr (3, [.int 0, .int (nI 0), .ref kp])), (kp, .inl (y 4, 30, .inr (.inr (.inr (.inr (fun j => some (hh j))))))), (g, .inr (1, [.int 0, .ref g0, .ref g1, .ref g2, .ref g3, .ref g4, .ref g5, .ref g6])), (t, .inr (8, [.int 0, .ref t0, .ref t1, .ref t2, .ref t3, .ref t4, .ref t5, .ref t6])), (r, .inr (6, [.int 0, .int 0, .ref r0, .ref r1, .ref r2, .ref r3, .ref r4, .ref r5])), (nw, .inr (7, [.int 0, .int 0, .int 0, .ref n0, .ref n1, .ref n2, .ref n3, .ref n4, .ref n5, .ref n6])), (n0, .inl (y 0, 9, .inl (fun _ => 0))), (n1, .inl (y 0, 9, .inl (fun _ => 0))), (n2, .inl (y 1, 9, .inr (.inl (fun _ => 0)))), (n3, .inl (y 0, 6, .inl (fun _ => 0))), (n4, .inl (y 0, 6, .inl (fun _ => 0))), (n5, .inl (y 0, 16, .inl (fun _ => 0))), (n6, .inl (y 1, 5, .inr (.inl (fun _ => 0))))]) [3] [0, 1, 2, 4, 5, 6, 7, 8, 9, 10, 11, 12, 13, 14] rfl rfl (by decide) (by decide) (by decide) (As := [.int 0]) (rest := []) rfl (nb rfl) rfl d_Nine_act_11 (fun r6 _ hr6 => ?_)
  subst hr6
  refine j_ws (ws' := (([(x, .inr (9, [.ref tp, .ref pi, .ref nw, .ref tr, .ref ps, .ref k, .ref k2, .ref rd, .ref pl, .int 1])), (ps, .inr (3, [.int 0, .int (nI 0), .ref kp])), (kp, .inl (y 4, 30, .inr (.inr (.inr (.inr (fun j => some (hh j))))))), (g, .inr (1, [.int 0, .ref g0, .ref g1, .ref g2, .ref g3, .ref g4, .ref g5, .ref g6])), (t, .inr (8, [.int 0, .ref t0, .ref t1, .ref t2, .ref t3, .ref t4, .ref t5, .ref t6])), (r, .inr (6, [.int 0, .int 0, .ref r0, .ref r1, .ref r2, .ref r3, .ref r4, .ref r5])), (nw, .inr (7, [.int 0, .int 0, .int 0, .ref n0, .ref n1, .ref n2, .ref n3, .ref n4, .ref n5, .ref n6])), (n0, .inl (y 0, 9, .inl (fun _ => 0))), (n1, .inl (y 0, 9, .inl (fun _ => 0))), (n2, .inl (y 1, 9, .inr (.inl (fun _ => 0)))), (n3, .inl (y 0, 6, .inl (fun _ => 0))), (n4, .inl (y 0, 6, .inl (fun _ => 0))), (n5, .inl (y 0, 16, .inl (fun _ => 0))), (n6, .inl (y 1, 5, .inr (.inl (fun _ => 0)))), (k, .inr (2, [.int 0, .int 1, .int 1, .int 0, .ref g, .int 0, .ref vn, .ref vg, .ref t, .ref r, .int 0, .int 0, .int 9999, .int 0]))] : va_W) ++ RG y hh aa dd (List.range 30))) rfl ?_
  refine j_st (st' := [.int (-1)]) rfl ?_
  refine j_istore_n (pc := 14) C (lv' := [(2, .int (-1)), (0, .ref x), (1, .int 0)]) d_Nine_act_14 rfl (by decide) rfl ?_
  refine j_aload_n (pc := 15) C d_Nine_act_15 rfl 1 rfl ?_
  refine j_get (pc := 16) C gf_Nine_24 0 rfl rfl d_Nine_act_16 ?_
  refine j_get (pc := 19) C gf_Nine_124 6 rfl rfl d_Nine_act_19 ?_
  refine j_sipush (pc := 22) C (v := 999) d_Nine_act_22 (by decide) ?_
  refine j_icmp_geF (pc := 25) C (tgt := 45) d_Nine_act_25 (by decide) (by decide) ?_
  refine j_aload_n (pc := 28) C d_Nine_act_28 rfl 1 rfl ?_
  refine j_get (pc := 29) C gf_Nine_41 0 rfl rfl d_Nine_act_29 ?_
  refine j_aload_n (pc := 32) C d_Nine_act_32 rfl 1 rfl ?_
  refine j_get (pc := 33) C gf_Nine_24 0 rfl rfl d_Nine_act_33 ?_
  refine j_iload_n (pc := 36) C d_Nine_act_36 rfl 0 rfl ?_
  refine j_iload_n (pc := 37) C d_Nine_act_37 rfl 2 rfl ?_
  refine j_iconst (pc := 38) C (v := 0) d_Nine_act_38 (by decide) ?_
  refine j_callSiT (pc := 39) C (c_allows_0 l D y k nw (-1) 0) kw_Nine_209 ks_Days_allows ⟨by decide, by decide⟩ ⟨by decide, by decide⟩ (wr := [(x, .inr (9, [.ref tp, .ref pi, .ref nw, .ref tr, .ref ps, .ref k, .ref k2, .ref rd, .ref pl, .int 1])), (ps, .inr (3, [.int 0, .int (nI 0), .ref kp])), (kp, .inl (y 4, 30, .inr (.inr (.inr (.inr (fun j => some (hh j))))))), (g, .inr (1, [.int 0, .ref g0, .ref g1, .ref g2, .ref g3, .ref g4, .ref g5, .ref g6])), (t, .inr (8, [.int 0, .ref t0, .ref t1, .ref t2, .ref t3, .ref t4, .ref t5, .ref t6])), (r, .inr (6, [.int 0, .int 0, .ref r0, .ref r1, .ref r2, .ref r3, .ref r4, .ref r5])), (nw, .inr (7, [.int 0, .int 0, .int 0, .ref n0, .ref n1, .ref n2, .ref n3, .ref n4, .ref n5, .ref n6])), (n0, .inl (y 0, 9, .inl (fun _ => 0))), (n1, .inl (y 0, 9, .inl (fun _ => 0))), (n2, .inl (y 1, 9, .inr (.inl (fun _ => 0)))), (n3, .inl (y 0, 6, .inl (fun _ => 0))), (n4, .inl (y 0, 6, .inl (fun _ => 0))), (n5, .inl (y 0, 16, .inl (fun _ => 0))), (n6, .inl (y 1, 5, .inr (.inl (fun _ => 0)))), (k, .inr (2, [.int 0, .int 1, .int 1, .int 0, .ref g, .int 0, .ref vn, .ref vg, .ref t, .ref r, .int 0, .int 0, .int 9999, .int 0]))]) [] [0, 1, 2, 3, 4, 5, 6, 7, 8, 9, 10, 11, 12, 13, 14] rfl rfl (by decide) (by decide) (by decide) (As := [.ref k, .ref nw, .int (-1), .int 0, .int 0]) (rest := []) rfl (nb rfl) rfl d_Nine_act_39 (fun r7 _ hr7 => ?_)
  subst hr7
  refine j_ws (ws' := (([(x, .inr (9, [.ref tp, .ref pi, .ref nw, .ref tr, .ref ps, .ref k, .ref k2, .ref rd, .ref pl, .int 1])), (ps, .inr (3, [.int 0, .int (nI 0), .ref kp])), (kp, .inl (y 4, 30, .inr (.inr (.inr (.inr (fun j => some (hh j))))))), (g, .inr (1, [.int 0, .ref g0, .ref g1, .ref g2, .ref g3, .ref g4, .ref g5, .ref g6])), (t, .inr (8, [.int 0, .ref t0, .ref t1, .ref t2, .ref t3, .ref t4, .ref t5, .ref t6])), (r, .inr (6, [.int 0, .int 0, .ref r0, .ref r1, .ref r2, .ref r3, .ref r4, .ref r5])), (nw, .inr (7, [.int 0, .int 0, .int 0, .ref n0, .ref n1, .ref n2, .ref n3, .ref n4, .ref n5, .ref n6])), (n0, .inl (y 0, 9, .inl (fun _ => 0))), (n1, .inl (y 0, 9, .inl (fun _ => 0))), (n2, .inl (y 1, 9, .inr (.inl (fun _ => 0)))), (n3, .inl (y 0, 6, .inl (fun _ => 0))), (n4, .inl (y 0, 6, .inl (fun _ => 0))), (n5, .inl (y 0, 16, .inl (fun _ => 0))), (n6, .inl (y 1, 5, .inr (.inl (fun _ => 0)))), (k, .inr (2, [.int 0, .int 1, .int 1, .int 0, .ref g, .int 0, .ref vn, .ref vg, .ref t, .ref r, .int 0, .int 0, .int 9999, .int 0]))] : va_W) ++ RG y hh aa dd (List.range 30))) rfl ?_
  refine j_st (st' := [.int 1]) rfl ?_
  refine j_if_neT (pc := 42) C (tgt := 47) d_Nine_act_42 (by decide) (by decide) ?_
  refine j_aload_n (pc := 47) C d_Nine_act_47 rfl 1 rfl ?_
  refine j_get (pc := 48) C gf_Nine_34 0 rfl rfl d_Nine_act_48 ?_
  refine j_aload_n (pc := 51) C d_Nine_act_51 rfl 1 rfl ?_
  refine j_get (pc := 52) C gf_Nine_24 0 rfl rfl d_Nine_act_52 ?_
  refine j_callVvP (pc := 55) C (c_keep l D y ps kp 0 0 hh aa dd nw n0 n1 n2 n3 n4 n5 n6 0 (by decide)) kw_Nine_213 kv_Past_keep 0 3 rfl rfl ⟨by decide, by decide⟩ ⟨by decide, by decide⟩ (wr := [(x, .inr (9, [.ref tp, .ref pi, .ref nw, .ref tr, .ref ps, .ref k, .ref k2, .ref rd, .ref pl, .int 1])), (g, .inr (1, [.int 0, .ref g0, .ref g1, .ref g2, .ref g3, .ref g4, .ref g5, .ref g6])), (t, .inr (8, [.int 0, .ref t0, .ref t1, .ref t2, .ref t3, .ref t4, .ref t5, .ref t6])), (r, .inr (6, [.int 0, .int 0, .ref r0, .ref r1, .ref r2, .ref r3, .ref r4, .ref r5])), (k, .inr (2, [.int 0, .int 1, .int 1, .int 0, .ref g, .int 0, .ref vn, .ref vg, .ref t, .ref r, .int 0, .int 0, .int 9999, .int 0]))]) [1, 2, 6, 7, 8, 9, 10, 11, 12, 13] [0, 3, 4, 5, 14] rfl rfl (by decide) (by decide) (by decide) (As := [.ref nw]) (rest := []) rfl (nb rfl) rfl d_Nine_act_55 (fun u8 _ => ?_)
  refine j_ws (ws' := (([(x, .inr (9, [.ref tp, .ref pi, .ref nw, .ref tr, .ref ps, .ref k, .ref k2, .ref rd, .ref pl, .int 1])), (g, .inr (1, [.int 0, .ref g0, .ref g1, .ref g2, .ref g3, .ref g4, .ref g5, .ref g6])), (t, .inr (8, [.int 0, .ref t0, .ref t1, .ref t2, .ref t3, .ref t4, .ref t5, .ref t6])), (r, .inr (6, [.int 0, .int 0, .ref r0, .ref r1, .ref r2, .ref r3, .ref r4, .ref r5])), (k, .inr (2, [.int 0, .int 1, .int 1, .int 0, .ref g, .int 0, .ref vn, .ref vg, .ref t, .ref r, .int 0, .int 0, .int 9999, .int 0])), (ps, .inr (3, [.int u8, .int (nI ((0 + 1) % 30)), .ref kp])), (kp, .inl (y 4, 30, .inr (.inr (.inr (.inr (fun j => some (hh j))))))), (nw, .inr (7, [.int 0, .int 0, .int 0, .ref n0, .ref n1, .ref n2, .ref n3, .ref n4, .ref n5, .ref n6])), (n0, .inl (y 0, 9, .inl (fun _ => 0))), (n1, .inl (y 0, 9, .inl (fun _ => 0))), (n2, .inl (y 1, 9, .inr (.inl (fun _ => 0)))), (n3, .inl (y 0, 6, .inl (fun _ => 0))), (n4, .inl (y 0, 6, .inl (fun _ => 0))), (n5, .inl (y 0, 16, .inl (fun _ => 0))), (n6, .inl (y 1, 5, .inr (.inl (fun _ => 0))))] : va_W) ++ RG y hh aa (va_up dd 0 0) (List.range 30))) rfl ?_
  refine j_aload_n (pc := 58) C d_Nine_act_58 rfl 1 rfl ?_
  refine j_get (pc := 59) C gf_Nine_41 0 rfl rfl d_Nine_act_59 ?_
  refine j_aload_n (pc := 62) C d_Nine_act_62 rfl 1 rfl ?_
  refine j_get (pc := 63) C gf_Nine_24 0 rfl rfl d_Nine_act_63 ?_
  refine j_iload_n (pc := 66) C d_Nine_act_66 rfl 2 rfl ?_
  refine j_callSvT (pc := 67) C (c_pass l D y k g vn vg t r g0 g1 g2 g3 g4 g5 g6 t0 t1 t2 t3 t4 t5 t6 r0 r1 r2 r3 r4 r5 nw n0 n1 n2 n3 n4 n5 n6 0) kw_Nine_216 ks_Days_pass ⟨by decide, by decide⟩ ⟨by decide, by decide⟩ (wr := [(x, .inr (9, [.ref tp, .ref pi, .ref nw, .ref tr, .ref ps, .ref k, .ref k2, .ref rd, .ref pl, .int 1])), (ps, .inr (3, [.int u8, .int (nI ((0 + 1) % 30)), .ref kp])), (kp, .inl (y 4, 30, .inr (.inr (.inr (.inr (fun j => some (hh j))))))), (n0, .inl (y 0, 9, .inl (fun _ => 0))), (n1, .inl (y 0, 9, .inl (fun _ => 0))), (n2, .inl (y 1, 9, .inr (.inl (fun _ => 0)))), (n3, .inl (y 0, 6, .inl (fun _ => 0))), (n4, .inl (y 0, 6, .inl (fun _ => 0))), (n5, .inl (y 0, 16, .inl (fun _ => 0)))]) [4, 1, 2, 3, 7, 14] [0, 5, 6, 8, 9, 10, 11, 12, 13] rfl rfl (by decide) (by decide) (by decide) (As := [.ref k, .ref nw, .int 0]) (rest := []) rfl (nb rfl) rfl d_Nine_act_67 (fun _ _ => ?_)
  refine j_ws (ws' := (([(x, .inr (9, [.ref tp, .ref pi, .ref nw, .ref tr, .ref ps, .ref k, .ref k2, .ref rd, .ref pl, .int 1])), (ps, .inr (3, [.int u8, .int (nI ((0 + 1) % 30)), .ref kp])), (kp, .inl (y 4, 30, .inr (.inr (.inr (.inr (fun j => some (hh j))))))), (n0, .inl (y 0, 9, .inl (fun _ => 0))), (n1, .inl (y 0, 9, .inl (fun _ => 0))), (n2, .inl (y 1, 9, .inr (.inl (fun _ => 0)))), (n3, .inl (y 0, 6, .inl (fun _ => 0))), (n4, .inl (y 0, 6, .inl (fun _ => 0))), (n5, .inl (y 0, 16, .inl (fun _ => 0))), (k, .inr (2, [.int 0, .int 1, .int 1, .int 0, .ref g, .int 0, .ref vn, .ref vg, .ref t, .ref r, .int 0, .int 0, .int 9999, .int 0])), (g, .inr (1, [.int 0, .ref g0, .ref g1, .ref g2, .ref g3, .ref g4, .ref g5, .ref g6])), (t, .inr (8, [.int 0, .ref t0, .ref t1, .ref t2, .ref t3, .ref t4, .ref t5, .ref t6])), (r, .inr (6, [.int 0, .int 0, .ref r0, .ref r1, .ref r2, .ref r3, .ref r4, .ref r5])), (nw, .inr (7, [.int (0 + 1), .int 0, .int 0, .ref n0, .ref n1, .ref n2, .ref n3, .ref n4, .ref n5, .ref n6])), (n6, .inl (y 1, 5, .inr (.inl (fun _ => 0))))] : va_W) ++ RG y hh aa (va_up dd 0 0) (List.range 30))) rfl ?_
  refine j_aload_n (pc := 70) C d_Nine_act_70 rfl 1 rfl ?_
  refine j_get (pc := 71) C gf_Nine_41 0 rfl rfl d_Nine_act_71 ?_
  refine j_aload_n (pc := 74) C d_Nine_act_74 rfl 1 rfl ?_
  refine j_get (pc := 75) C gf_Nine_24 0 rfl rfl d_Nine_act_75 ?_
  refine j_get (pc := 78) C gf_Nine_127 13 rfl rfl d_Nine_act_78 ?_
  refine j_callViT (pc := 81) C (c_levelAt_0 l D y k g vn vg t r) kw_Nine_130 kv_Lake_levelAt 0 2 rfl rfl ⟨by decide, by decide⟩ ⟨by decide, by decide⟩ (wr := [(x, .inr (9, [.ref tp, .ref pi, .ref nw, .ref tr, .ref ps, .ref k, .ref k2, .ref rd, .ref pl, .int 1])), (ps, .inr (3, [.int u8, .int (nI ((0 + 1) % 30)), .ref kp])), (kp, .inl (y 4, 30, .inr (.inr (.inr (.inr (fun j => some (hh j))))))), (n0, .inl (y 0, 9, .inl (fun _ => 0))), (n1, .inl (y 0, 9, .inl (fun _ => 0))), (n2, .inl (y 1, 9, .inr (.inl (fun _ => 0)))), (n3, .inl (y 0, 6, .inl (fun _ => 0))), (n4, .inl (y 0, 6, .inl (fun _ => 0))), (n5, .inl (y 0, 16, .inl (fun _ => 0))), (g, .inr (1, [.int 0, .ref g0, .ref g1, .ref g2, .ref g3, .ref g4, .ref g5, .ref g6])), (t, .inr (8, [.int 0, .ref t0, .ref t1, .ref t2, .ref t3, .ref t4, .ref t5, .ref t6])), (r, .inr (6, [.int 0, .int 0, .ref r0, .ref r1, .ref r2, .ref r3, .ref r4, .ref r5])), (nw, .inr (7, [.int (0 + 1), .int 0, .int 0, .ref n0, .ref n1, .ref n2, .ref n3, .ref n4, .ref n5, .ref n6])), (n6, .inl (y 1, 5, .inr (.inl (fun _ => 0))))]) [9] [0, 1, 2, 3, 4, 5, 6, 7, 8, 10, 11, 12, 13, 14] rfl rfl (by decide) (by decide) (by decide) (As := [.int 0]) (rest := []) rfl (nb rfl) rfl d_Nine_act_81 (fun r9 _ hr9 => ?_)
  subst hr9
  refine j_ws (ws' := (([(x, .inr (9, [.ref tp, .ref pi, .ref nw, .ref tr, .ref ps, .ref k, .ref k2, .ref rd, .ref pl, .int 1])), (ps, .inr (3, [.int u8, .int (nI ((0 + 1) % 30)), .ref kp])), (kp, .inl (y 4, 30, .inr (.inr (.inr (.inr (fun j => some (hh j))))))), (n0, .inl (y 0, 9, .inl (fun _ => 0))), (n1, .inl (y 0, 9, .inl (fun _ => 0))), (n2, .inl (y 1, 9, .inr (.inl (fun _ => 0)))), (n3, .inl (y 0, 6, .inl (fun _ => 0))), (n4, .inl (y 0, 6, .inl (fun _ => 0))), (n5, .inl (y 0, 16, .inl (fun _ => 0))), (g, .inr (1, [.int 0, .ref g0, .ref g1, .ref g2, .ref g3, .ref g4, .ref g5, .ref g6])), (t, .inr (8, [.int 0, .ref t0, .ref t1, .ref t2, .ref t3, .ref t4, .ref t5, .ref t6])), (r, .inr (6, [.int 0, .int 0, .ref r0, .ref r1, .ref r2, .ref r3, .ref r4, .ref r5])), (nw, .inr (7, [.int (0 + 1), .int 0, .int 0, .ref n0, .ref n1, .ref n2, .ref n3, .ref n4, .ref n5, .ref n6])), (n6, .inl (y 1, 5, .inr (.inl (fun _ => 0)))), (k, .inr (2, [.int 0, .int 1, .int 1, .int 0, .ref g, .int 0, .ref vn, .ref vg, .ref t, .ref r, .int 0, .int 0, .int 9999, .int 0]))] : va_W) ++ RG y hh aa (va_up dd 0 0) (List.range 30))) rfl ?_
  refine j_st (st' := [.int 0]) rfl ?_
  exact j_iret (pc := 84) C hr rfl () rfl [] rfl (by decide) (by decide) (by decide) d_Nine_act_84
