section JP
variable {p : Program} {l : Launch} {e : Env} {R : Room} {s : State} {m : MethodId} {args : Array Value} {below : List Frame} {meth : Method} {c : Code} {Q : State → Prop} {D : va_G} {y : Nat → ClassId} {A : Nat → Prop} {cc : ByteArray} {nL : Nat} {own nm : String} {ws : va_W} {lv : List (Nat × Value)} {kc ks pc : Nat} {st : List Value}
theorem j_aaldI (C : Cx p s m args meth c D y A cc nL own nm) (q0 : Nat) {a n : Nat} {f : Nat → Option Nat} (ha : ws[q0]? = some (a, .inl (y 5, n, .inr (.inr (.inr (.inr f)))))) {i : Int32} {v : Nat} (hi : vp_in i n) (hv : f i.toNatClampNeg = some v) (d : decode cc pc = .ok (.aaload, 1)) (kk : J p l e R s m args below meth c Q D A nL ws lv kc ks (pc + 1) (.ref v :: st)) : J p l e R s m args below meth c Q D A nL ws lv kc ks pc (.int i :: .ref a :: st) := fun H L ls hP hD hS hl => by
  have hlt : i.toNatClampNeg < n := Nat.not_le.mp fun q => hi (Or.inr q)
  exact W.aald (v := .ref v) (ty := .array .int) C.x C.b (hP q0 _ ha) ((C.K.2 5 _ rfl).1 n (fun j => va_rf (f j))) rfl (fun q => by cases q) (by show ¬ (i < 0 ∨ (arrV _ _ _).slots.size ≤ _); rw [arrV_size]; exact hi) (by show (arrV _ _ _).slots[_]? = _; rw [arrV_read _ _ hlt, hv]; rfl) rfl rfl d (kk H L ls hP hD hS hl)
theorem j_rowq (q0 : Nat) {a n : Nat} {cA : ClassId} {f g : Nat → Option Nat} {ws' : va_W} (ha : ws[q0]? = some (a, .inl (cA, n, .inr (.inr (.inr (.inr f)))))) (h : ∀ j, j < n → f j = g j) (hw : ws.set q0 (a, .inl (cA, n, .inr (.inr (.inr (.inr g))))) = ws') (kk : J p l e R s m args below meth c Q D A nL ws' lv kc ks pc st) : J p l e R s m args below meth c Q D A nL ws lv kc ks pc st := by
  subst hw
  intro H L ls hP hD hS hl
  refine kk H L ls ?_ (hD.set ha) hS hl
  intro k q hk
  by_cases e : k = q0
  · subst e
    have hlt := (List.getElem?_eq_some_iff.mp ha).1
    rw [List.getElem?_set_self hlt] at hk
    cases hk
    have h0 := hP _ _ ha
    show H[a]? = some (vp_cell cA (n, .inr (.inr (.inr (.inr g)))))
    have e2 : vp_cell cA (n, .inr (.inr (.inr (.inr g)))) = vp_cell cA (n, .inr (.inr (.inr (.inr f)))) := by rw [vp_cell_q, vp_cell_q]; exact arrV_cong (fun j hj => by rw [h j hj])
    rw [e2]
    exact h0
  · rw [List.getElem?_set_ne (Ne.symm e)] at hk
    exact hP k q hk
end JP
theorem fm_congr {α β : Type} {f g : α → List β} : ∀ {l : List α}, (∀ a ∈ l, f a = g a) → l.flatMap f = l.flatMap g := by
  intro l
  induction l with
  | nil => intro _; rfl
  | cons a l ih =>
    intro h
    rw [List.flatMap_cons, List.flatMap_cons, h a List.mem_cons_self, ih (fun b hb => h b (List.mem_cons_of_mem _ hb))]
def FG (F : Nat → va_W) (l : List Nat) : va_W := l.flatMap F
theorem fg_out {F : Nat → va_W} {l : List Nat} {i : Nat} {X : va_W} (h : i ∈ l) : (X ++ FG F l).Perm ((X ++ F i) ++ FG F (l.erase i)) := by
  rw [List.append_assoc]
  refine List.Perm.append_left X ?_
  exact (List.perm_cons_erase h).flatMap_right F
theorem fg_in {F G : Nat → va_W} {l : List Nat} {i : Nat} {X : va_W} (h : i ∈ l) (hn : l.Nodup) (hF : ∀ j, j ≠ i → G j = F j) : ((X ++ G i) ++ FG F (l.erase i)).Perm (X ++ FG G l) := by
  have e : FG F (l.erase i) = FG G (l.erase i) := by
    unfold FG
    apply fm_congr
    intro j hj
    have : j ≠ i := fun e => absurd (e ▸ hj) (List.Nodup.not_mem_erase hn)
    rw [hF j this]
  rw [e]
  exact (fg_out h).symm
/-- a State's cells -/
abbrev SC (y : Nat → ClassId) (hx : Nat) (ax : Nat → Nat) (bx : SD) : va_W := [(hx, .inr (7, [.int (bx.1 0), .int (bx.1 1), .int (bx.1 2), .ref (ax 0), .ref (ax 1), .ref (ax 2), .ref (ax 3), .ref (ax 4), .ref (ax 5), .ref (ax 6)])), (ax 0, .inl (y 0, 9, .inl (bx.2.1 0))), (ax 1, .inl (y 0, 9, .inl (bx.2.1 1))), (ax 2, .inl (y 1, 9, .inr (.inl (bx.2.2 0)))), (ax 3, .inl (y 0, 6, .inl (bx.2.1 2))), (ax 4, .inl (y 0, 6, .inl (bx.2.1 3))), (ax 5, .inl (y 0, 16, .inl (bx.2.1 4))), (ax 6, .inl (y 1, 5, .inr (.inl (bx.2.2 1))))]
theorem fg_up {F : Nat → va_W} {Fu : (Nat → SD) → Nat → va_W} {ds : Nat → SD} {l : List Nat} {i : Nat} {X : va_W} {b : SD} {G : SD → va_W} (hF : F = Fu ds) (hG : ∀ ds, Fu ds i = G (ds i)) (hne : ∀ ds ds' j, ds j = ds' j → Fu ds j = Fu ds' j) (h : i ∈ l) (hn : l.Nodup) : ((X ++ G b) ++ FG F (l.erase i)).Perm (X ++ FG (Fu (va_up ds i b)) l) := by
  have e := fg_in (F := F) (G := Fu (va_up ds i b)) (X := X) h hn (fun j hj => by rw [hF]; exact hne _ _ j (va_up_ne _ _ hj))
  rw [hG, va_up_self] at e
  exact e
/-- the States of a row, each with its own contents -/
abbrev KF (y : Nat → ClassId) (hh : Nat → Nat) (aa : Nat → Nat → Nat) (ds : Nat → SD) (j : Nat) : va_W := SC y (hh j) (aa j) (ds j)
theorem kf_in {y : Nat → ClassId} {hh : Nat → Nat} {aa : Nat → Nat → Nat} {ds : Nat → SD} {l : List Nat} {i : Nat} {X : va_W} {b : SD} (h : i ∈ l) (hn : l.Nodup) : ((X ++ SC y (hh i) (aa i) b) ++ FG (KF y hh aa ds) (l.erase i)).Perm (X ++ FG (KF y hh aa (va_up ds i b)) l) := fg_up (Fu := KF y hh aa) (G := fun b => SC y (hh i) (aa i) b) rfl (fun _ => rfl) (fun ds ds' j e => by simp only [KF, e]) h hn
theorem rm30 {i : Nat} (h : i < 30) : i ∈ List.range 30 := List.mem_range.mpr h
theorem rn30 : (List.range 30).Nodup := List.nodup_range
theorem d_State_take_0 : decode prog_10_method_3_code 0 = .ok (.aload_n 0, 1) := by decide +kernel
theorem d_State_take_1 : decode prog_10_method_3_code 1 = .ok (.aload_n 1, 1) := by decide +kernel
theorem d_State_take_2 : decode prog_10_method_3_code 2 = .ok (.getfield 34, 3) := by decide +kernel
theorem gf_State_34 : GF "NineBoards$State" 34 7 0 := ⟨_, _, _, rfl, ci_State, by decide, (mt_1 (List.mem_of_getElem? (i := 53) rfl) rfl)⟩
theorem d_State_take_5 : decode prog_10_method_3_code 5 = .ok (.putfield 34, 3) := by decide +kernel
theorem pf_State_34 : PF "NineBoards$State" 34 7 0 (.int) false := ⟨_, _, _, ct_State, rfl, ci_State, by decide, (mt_1 (List.mem_of_getElem? (i := 53) rfl) rfl), cp_State, cn_State, rfl, by decide +kernel, (fun h => by cases h)⟩
theorem d_State_take_8 : decode prog_10_method_3_code 8 = .ok (.aload_n 0, 1) := by decide +kernel
theorem d_State_take_9 : decode prog_10_method_3_code 9 = .ok (.aload_n 1, 1) := by decide +kernel
theorem d_State_take_10 : decode prog_10_method_3_code 10 = .ok (.getfield 38, 3) := by decide +kernel
theorem gf_State_38 : GF "NineBoards$State" 38 7 1 := ⟨_, _, _, rfl, ci_State, by decide, (mt_1 (List.mem_of_getElem? (i := 57) rfl) rfl)⟩
theorem d_State_take_13 : decode prog_10_method_3_code 13 = .ok (.putfield 38, 3) := by decide +kernel
theorem pf_State_38 : PF "NineBoards$State" 38 7 1 (.int) false := ⟨_, _, _, ct_State, rfl, ci_State, by decide, (mt_1 (List.mem_of_getElem? (i := 57) rfl) rfl), cp_State, cn_State, rfl, by decide +kernel, (fun h => by cases h)⟩
theorem d_State_take_16 : decode prog_10_method_3_code 16 = .ok (.aload_n 0, 1) := by decide +kernel
theorem d_State_take_17 : decode prog_10_method_3_code 17 = .ok (.aload_n 1, 1) := by decide +kernel
theorem d_State_take_18 : decode prog_10_method_3_code 18 = .ok (.getfield 41, 3) := by decide +kernel
theorem gf_State_41 : GF "NineBoards$State" 41 7 2 := ⟨_, _, _, rfl, ci_State, by decide, (mt_1 (List.mem_of_getElem? (i := 60) rfl) rfl)⟩
theorem d_State_take_21 : decode prog_10_method_3_code 21 = .ok (.putfield 41, 3) := by decide +kernel
theorem pf_State_41 : PF "NineBoards$State" 41 7 2 (.int) false := ⟨_, _, _, ct_State, rfl, ci_State, by decide, (mt_1 (List.mem_of_getElem? (i := 60) rfl) rfl), cp_State, cn_State, rfl, by decide +kernel, (fun h => by cases h)⟩
theorem d_State_take_24 : decode prog_10_method_3_code 24 = .ok (.aload_n 1, 1) := by decide +kernel
theorem d_State_take_25 : decode prog_10_method_3_code 25 = .ok (.getfield 9, 3) := by decide +kernel
theorem gf_State_9 : GF "NineBoards$State" 9 7 3 := ⟨_, _, _, rfl, ci_State, by decide, (mt_1 (List.mem_of_getElem? (i := 63) rfl) rfl)⟩
theorem d_State_take_28 : decode prog_10_method_3_code 28 = .ok (.iconst 0, 1) := by decide +kernel
theorem d_State_take_29 : decode prog_10_method_3_code 29 = .ok (.aload_n 0, 1) := by decide +kernel
theorem d_State_take_30 : decode prog_10_method_3_code 30 = .ok (.getfield 9, 3) := by decide +kernel
theorem d_State_take_33 : decode prog_10_method_3_code 33 = .ok (.iconst 0, 1) := by decide +kernel
theorem d_State_take_34 : decode prog_10_method_3_code 34 = .ok (.bipush 9, 2) := by decide +kernel
theorem d_State_take_36 : decode prog_10_method_3_code 36 = .ok (.invokestatic 44, 3) := by decide +kernel
theorem d_State_take_39 : decode prog_10_method_3_code 39 = .ok (.aload_n 1, 1) := by decide +kernel
theorem d_State_take_40 : decode prog_10_method_3_code 40 = .ok (.getfield 15, 3) := by decide +kernel
theorem gf_State_15 : GF "NineBoards$State" 15 7 4 := ⟨_, _, _, rfl, ci_State, by decide, (mt_1 (List.mem_of_getElem? (i := 66) rfl) rfl)⟩
theorem d_State_take_43 : decode prog_10_method_3_code 43 = .ok (.iconst 0, 1) := by decide +kernel
theorem d_State_take_44 : decode prog_10_method_3_code 44 = .ok (.aload_n 0, 1) := by decide +kernel
theorem d_State_take_45 : decode prog_10_method_3_code 45 = .ok (.getfield 15, 3) := by decide +kernel
theorem d_State_take_48 : decode prog_10_method_3_code 48 = .ok (.iconst 0, 1) := by decide +kernel
theorem d_State_take_49 : decode prog_10_method_3_code 49 = .ok (.bipush 9, 2) := by decide +kernel
theorem d_State_take_51 : decode prog_10_method_3_code 51 = .ok (.invokestatic 44, 3) := by decide +kernel
theorem d_State_take_54 : decode prog_10_method_3_code 54 = .ok (.aload_n 1, 1) := by decide +kernel
theorem d_State_take_55 : decode prog_10_method_3_code 55 = .ok (.getfield 18, 3) := by decide +kernel
theorem gf_State_18 : GF "NineBoards$State" 18 7 5 := ⟨_, _, _, rfl, ci_State, by decide, (mt_1 (List.mem_of_getElem? (i := 69) rfl) rfl)⟩
theorem d_State_take_58 : decode prog_10_method_3_code 58 = .ok (.iconst 0, 1) := by decide +kernel
theorem d_State_take_59 : decode prog_10_method_3_code 59 = .ok (.aload_n 0, 1) := by decide +kernel
theorem d_State_take_60 : decode prog_10_method_3_code 60 = .ok (.getfield 18, 3) := by decide +kernel
theorem d_State_take_63 : decode prog_10_method_3_code 63 = .ok (.iconst 0, 1) := by decide +kernel
theorem d_State_take_64 : decode prog_10_method_3_code 64 = .ok (.bipush 9, 2) := by decide +kernel
theorem d_State_take_66 : decode prog_10_method_3_code 66 = .ok (.invokestatic 44, 3) := by decide +kernel
theorem d_State_take_69 : decode prog_10_method_3_code 69 = .ok (.aload_n 1, 1) := by decide +kernel
theorem d_State_take_70 : decode prog_10_method_3_code 70 = .ok (.getfield 22, 3) := by decide +kernel
theorem gf_State_22 : GF "NineBoards$State" 22 7 6 := ⟨_, _, _, rfl, ci_State, by decide, (mt_1 (List.mem_of_getElem? (i := 72) rfl) rfl)⟩
theorem d_State_take_73 : decode prog_10_method_3_code 73 = .ok (.iconst 0, 1) := by decide +kernel
theorem d_State_take_74 : decode prog_10_method_3_code 74 = .ok (.aload_n 0, 1) := by decide +kernel
theorem d_State_take_75 : decode prog_10_method_3_code 75 = .ok (.getfield 22, 3) := by decide +kernel
theorem d_State_take_78 : decode prog_10_method_3_code 78 = .ok (.iconst 0, 1) := by decide +kernel
theorem d_State_take_79 : decode prog_10_method_3_code 79 = .ok (.bipush 6, 2) := by decide +kernel
theorem d_State_take_81 : decode prog_10_method_3_code 81 = .ok (.invokestatic 44, 3) := by decide +kernel
theorem d_State_take_84 : decode prog_10_method_3_code 84 = .ok (.aload_n 1, 1) := by decide +kernel
theorem d_State_take_85 : decode prog_10_method_3_code 85 = .ok (.getfield 25, 3) := by decide +kernel
theorem gf_State_25 : GF "NineBoards$State" 25 7 7 := ⟨_, _, _, rfl, ci_State, by decide, (mt_1 (List.mem_of_getElem? (i := 75) rfl) rfl)⟩
theorem d_State_take_88 : decode prog_10_method_3_code 88 = .ok (.iconst 0, 1) := by decide +kernel
theorem d_State_take_89 : decode prog_10_method_3_code 89 = .ok (.aload_n 0, 1) := by decide +kernel
theorem d_State_take_90 : decode prog_10_method_3_code 90 = .ok (.getfield 25, 3) := by decide +kernel
theorem d_State_take_93 : decode prog_10_method_3_code 93 = .ok (.iconst 0, 1) := by decide +kernel
theorem d_State_take_94 : decode prog_10_method_3_code 94 = .ok (.bipush 6, 2) := by decide +kernel
theorem d_State_take_96 : decode prog_10_method_3_code 96 = .ok (.invokestatic 44, 3) := by decide +kernel
theorem d_State_take_99 : decode prog_10_method_3_code 99 = .ok (.aload_n 1, 1) := by decide +kernel
theorem d_State_take_100 : decode prog_10_method_3_code 100 = .ok (.getfield 28, 3) := by decide +kernel
theorem gf_State_28 : GF "NineBoards$State" 28 7 8 := ⟨_, _, _, rfl, ci_State, by decide, (mt_1 (List.mem_of_getElem? (i := 79) rfl) rfl)⟩
theorem d_State_take_103 : decode prog_10_method_3_code 103 = .ok (.iconst 0, 1) := by decide +kernel
theorem d_State_take_104 : decode prog_10_method_3_code 104 = .ok (.aload_n 0, 1) := by decide +kernel
theorem d_State_take_105 : decode prog_10_method_3_code 105 = .ok (.getfield 28, 3) := by decide +kernel
theorem d_State_take_108 : decode prog_10_method_3_code 108 = .ok (.iconst 0, 1) := by decide +kernel
theorem d_State_take_109 : decode prog_10_method_3_code 109 = .ok (.bipush 16, 2) := by decide +kernel
theorem d_State_take_111 : decode prog_10_method_3_code 111 = .ok (.invokestatic 44, 3) := by decide +kernel
theorem d_State_take_114 : decode prog_10_method_3_code 114 = .ok (.aload_n 1, 1) := by decide +kernel
theorem d_State_take_115 : decode prog_10_method_3_code 115 = .ok (.getfield 31, 3) := by decide +kernel
theorem gf_State_31 : GF "NineBoards$State" 31 7 9 := ⟨_, _, _, rfl, ci_State, by decide, (mt_1 (List.mem_of_getElem? (i := 82) rfl) rfl)⟩
theorem d_State_take_118 : decode prog_10_method_3_code 118 = .ok (.iconst 0, 1) := by decide +kernel
theorem d_State_take_119 : decode prog_10_method_3_code 119 = .ok (.aload_n 0, 1) := by decide +kernel
theorem d_State_take_120 : decode prog_10_method_3_code 120 = .ok (.getfield 31, 3) := by decide +kernel
theorem d_State_take_123 : decode prog_10_method_3_code 123 = .ok (.iconst 0, 1) := by decide +kernel
theorem d_State_take_124 : decode prog_10_method_3_code 124 = .ok (.iconst 5, 1) := by decide +kernel
theorem d_State_take_125 : decode prog_10_method_3_code 125 = .ok (.invokestatic 44, 3) := by decide +kernel
theorem d_State_take_128 : decode prog_10_method_3_code 128 = .ok (.return_, 1) := by decide +kernel
set_option maxHeartbeats 4000000 in
set_option maxRecDepth 100000 in
theorem c_take (l : Launch) (D : va_G) (y : Nat → ClassId) (i : Nat) (ia : Nat → Nat) (td : Int32) (tw : Int32) (tl : Int32) (e0 : Nat → Int32) (e1 : Nat → Int32) (e2 : Nat → Int64) (e3 : Nat → Int32) (e4 : Nat → Int32) (e5 : Nat → Int32) (e6 : Nat → Int64) (h : Nat) (sa : Nat → Nat) (sd : Int32) (sw : Int32) (sl : Int32) (f0 : Nat → Int32) (f1 : Nat → Int32) (f2 : Nat → Int64) (f3 : Nat → Int32) (f4 : Nat → Int32) (f5 : Nat → Int32) (f6 : Nat → Int64)  : CT l D y ⟨"NineBoards$State", "take", "(LNineBoards$State;)V"⟩ prog_10_method_3_code 2 none ({ frames := 1, cells := 0, slots := 0, locals := 64 } : Room) [.ref i, .ref h] [(i, .inr (7, [.int td, .int tw, .int tl, .ref (ia 0), .ref (ia 1), .ref (ia 2), .ref (ia 3), .ref (ia 4), .ref (ia 5), .ref (ia 6)])), (ia 0, .inl (y 0, 9, .inl e0)), (ia 1, .inl (y 0, 9, .inl e1)), (ia 2, .inl (y 1, 9, .inr (.inl e2))), (ia 3, .inl (y 0, 6, .inl e3)), (ia 4, .inl (y 0, 6, .inl e4)), (ia 5, .inl (y 0, 16, .inl e5)), (ia 6, .inl (y 1, 5, .inr (.inl e6))), (h, .inr (7, [.int sd, .int sw, .int sl, .ref (sa 0), .ref (sa 1), .ref (sa 2), .ref (sa 3), .ref (sa 4), .ref (sa 5), .ref (sa 6)])), (sa 0, .inl (y 0, 9, .inl f0)), (sa 1, .inl (y 0, 9, .inl f1)), (sa 2, .inl (y 1, 9, .inr (.inl f2))), (sa 3, .inl (y 0, 6, .inl f3)), (sa 4, .inl (y 0, 6, .inl f4)), (sa 5, .inl (y 0, 16, .inl f5)), (sa 6, .inl (y 1, 5, .inr (.inl f6)))] (QV D [(i, .inr (7, [.int td, .int tw, .int tl, .ref (ia 0), .ref (ia 1), .ref (ia 2), .ref (ia 3), .ref (ia 4), .ref (ia 5), .ref (ia 6)])), (ia 0, .inl (y 0, 9, .inl e0)), (ia 1, .inl (y 0, 9, .inl e1)), (ia 2, .inl (y 1, 9, .inr (.inl e2))), (ia 3, .inl (y 0, 6, .inl e3)), (ia 4, .inl (y 0, 6, .inl e4)), (ia 5, .inl (y 0, 16, .inl e5)), (ia 6, .inl (y 1, 5, .inr (.inl e6))), (h, .inr (7, [.int sd, .int sw, .int sl, .ref (sa 0), .ref (sa 1), .ref (sa 2), .ref (sa 3), .ref (sa 4), .ref (sa 5), .ref (sa 6)])), (sa 0, .inl (y 0, 9, .inl f0)), (sa 1, .inl (y 0, 9, .inl f1)), (sa 2, .inl (y 1, 9, .inr (.inl f2))), (sa 3, .inl (y 0, 6, .inl f3)), (sa 4, .inl (y 0, 6, .inl f4)), (sa 5, .inl (y 0, 16, .inl f5)), (sa 6, .inl (y 1, 5, .inr (.inl f6)))] (fun (_ : SD) => True) (fun u => [(i, .inr (7, [.int (u.1 0), .int (u.1 1), .int (u.1 2), .ref (ia 0), .ref (ia 1), .ref (ia 2), .ref (ia 3), .ref (ia 4), .ref (ia 5), .ref (ia 6)])), (ia 0, .inl (y 0, 9, .inl (u.2.1 0))), (ia 1, .inl (y 0, 9, .inl (u.2.1 1))), (ia 2, .inl (y 1, 9, .inr (.inl (u.2.2 0)))), (ia 3, .inl (y 0, 6, .inl (u.2.1 2))), (ia 4, .inl (y 0, 6, .inl (u.2.1 3))), (ia 5, .inl (y 0, 16, .inl (u.2.1 4))), (ia 6, .inl (y 1, 5, .inr (.inl (u.2.2 1)))), (h, .inr (7, [.int sd, .int sw, .int sl, .ref (sa 0), .ref (sa 1), .ref (sa 2), .ref (sa 3), .ref (sa 4), .ref (sa 5), .ref (sa 6)])), (sa 0, .inl (y 0, 9, .inl f0)), (sa 1, .inl (y 0, 9, .inl f1)), (sa 2, .inl (y 1, 9, .inr (.inl f2))), (sa 3, .inl (y 0, 6, .inl f3)), (sa 4, .inl (y 0, 6, .inl f4)), (sa 5, .inl (y 0, 16, .inl f5)), (sa 6, .inl (y 1, 5, .inr (.inl f6)))])) := by
  refine CT.of (by decide) (nb rfl) ?_
  intro p e s m args below meth c C hr
  refine j_lv (lv' := [(0, .ref i), (1, .ref h)]) rfl ?_
  refine j_aload_n (pc := 0) C d_State_take_0 rfl 0 rfl ?_
  refine j_aload_n (pc := 1) C d_State_take_1 rfl 1 rfl ?_
  refine j_get (pc := 2) C gf_State_34 8 rfl rfl d_State_take_2 ?_
  refine j_put (pc := 5) C pf_State_34 0 (ws' := [(i, .inr (7, [.int sd, .int tw, .int tl, .ref (ia 0), .ref (ia 1), .ref (ia 2), .ref (ia 3), .ref (ia 4), .ref (ia 5), .ref (ia 6)])), (ia 0, .inl (y 0, 9, .inl e0)), (ia 1, .inl (y 0, 9, .inl e1)), (ia 2, .inl (y 1, 9, .inr (.inl e2))), (ia 3, .inl (y 0, 6, .inl e3)), (ia 4, .inl (y 0, 6, .inl e4)), (ia 5, .inl (y 0, 16, .inl e5)), (ia 6, .inl (y 1, 5, .inr (.inl e6))), (h, .inr (7, [.int sd, .int sw, .int sl, .ref (sa 0), .ref (sa 1), .ref (sa 2), .ref (sa 3), .ref (sa 4), .ref (sa 5), .ref (sa 6)])), (sa 0, .inl (y 0, 9, .inl f0)), (sa 1, .inl (y 0, 9, .inl f1)), (sa 2, .inl (y 1, 9, .inr (.inl f2))), (sa 3, .inl (y 0, 6, .inl f3)), (sa 4, .inl (y 0, 6, .inl f4)), (sa 5, .inl (y 0, 16, .inl f5)), (sa 6, .inl (y 1, 5, .inr (.inl f6)))]) rfl rfl rfl (nl rfl) rfl d_State_take_5 ?_
  refine j_aload_n (pc := 8) C d_State_take_8 rfl 0 rfl ?_
  refine j_aload_n (pc := 9) C d_State_take_9 rfl 1 rfl ?_
  refine j_get (pc := 10) C gf_State_38 8 rfl rfl d_State_take_10 ?_
  refine j_put (pc := 13) C pf_State_38 0 (ws' := [(i, .inr (7, [.int sd, .int sw, .int tl, .ref (ia 0), .ref (ia 1), .ref (ia 2), .ref (ia 3), .ref (ia 4), .ref (ia 5), .ref (ia 6)])), (ia 0, .inl (y 0, 9, .inl e0)), (ia 1, .inl (y 0, 9, .inl e1)), (ia 2, .inl (y 1, 9, .inr (.inl e2))), (ia 3, .inl (y 0, 6, .inl e3)), (ia 4, .inl (y 0, 6, .inl e4)), (ia 5, .inl (y 0, 16, .inl e5)), (ia 6, .inl (y 1, 5, .inr (.inl e6))), (h, .inr (7, [.int sd, .int sw, .int sl, .ref (sa 0), .ref (sa 1), .ref (sa 2), .ref (sa 3), .ref (sa 4), .ref (sa 5), .ref (sa 6)])), (sa 0, .inl (y 0, 9, .inl f0)), (sa 1, .inl (y 0, 9, .inl f1)), (sa 2, .inl (y 1, 9, .inr (.inl f2))), (sa 3, .inl (y 0, 6, .inl f3)), (sa 4, .inl (y 0, 6, .inl f4)), (sa 5, .inl (y 0, 16, .inl f5)), (sa 6, .inl (y 1, 5, .inr (.inl f6)))]) rfl rfl rfl (nl rfl) rfl d_State_take_13 ?_
  refine j_aload_n (pc := 16) C d_State_take_16 rfl 0 rfl ?_
  refine j_aload_n (pc := 17) C d_State_take_17 rfl 1 rfl ?_
  refine j_get (pc := 18) C gf_State_41 8 rfl rfl d_State_take_18 ?_
  refine j_put (pc := 21) C pf_State_41 0 (ws' := [(i, .inr (7, [.int sd, .int sw, .int sl, .ref (ia 0), .ref (ia 1), .ref (ia 2), .ref (ia 3), .ref (ia 4), .ref (ia 5), .ref (ia 6)])), (ia 0, .inl (y 0, 9, .inl e0)), (ia 1, .inl (y 0, 9, .inl e1)), (ia 2, .inl (y 1, 9, .inr (.inl e2))), (ia 3, .inl (y 0, 6, .inl e3)), (ia 4, .inl (y 0, 6, .inl e4)), (ia 5, .inl (y 0, 16, .inl e5)), (ia 6, .inl (y 1, 5, .inr (.inl e6))), (h, .inr (7, [.int sd, .int sw, .int sl, .ref (sa 0), .ref (sa 1), .ref (sa 2), .ref (sa 3), .ref (sa 4), .ref (sa 5), .ref (sa 6)])), (sa 0, .inl (y 0, 9, .inl f0)), (sa 1, .inl (y 0, 9, .inl f1)), (sa 2, .inl (y 1, 9, .inr (.inl f2))), (sa 3, .inl (y 0, 6, .inl f3)), (sa 4, .inl (y 0, 6, .inl f4)), (sa 5, .inl (y 0, 16, .inl f5)), (sa 6, .inl (y 1, 5, .inr (.inl f6)))]) rfl rfl rfl (nl rfl) rfl d_State_take_21 ?_
  refine j_aload_n (pc := 24) C d_State_take_24 rfl 1 rfl ?_
  refine j_get (pc := 25) C gf_State_9 8 rfl rfl d_State_take_25 ?_
  refine j_iconst (pc := 28) C (v := 0) d_State_take_28 (by decide) ?_
  refine j_aload_n (pc := 29) C d_State_take_29 rfl 0 rfl ?_
  refine j_get (pc := 30) C gf_State_9 0 rfl rfl d_State_take_30 ?_
  refine j_iconst (pc := 33) C (v := 0) d_State_take_33 (by decide) ?_
  refine j_bipush (pc := 34) C (v := 9) d_State_take_34 (by decide) ?_
  refine j_copyi (pc := 36) C (mt_4 (List.mem_of_getElem? (i := 0) rfl) rfl) (mt_4 (List.mem_of_getElem? (i := 2) rfl) rfl) (mt_4 (List.mem_of_getElem? (i := 1) rfl) rfl) (mt_1 (List.mem_of_getElem? (i := 17) rfl) rfl) 9 1 rfl rfl (ws' := [(i, .inr (7, [.int sd, .int sw, .int sl, .ref (ia 0), .ref (ia 1), .ref (ia 2), .ref (ia 3), .ref (ia 4), .ref (ia 5), .ref (ia 6)])), (ia 0, .inl (y 0, 9, .inl (va_cpy f0 e0 0 0 9))), (ia 1, .inl (y 0, 9, .inl e1)), (ia 2, .inl (y 1, 9, .inr (.inl e2))), (ia 3, .inl (y 0, 6, .inl e3)), (ia 4, .inl (y 0, 6, .inl e4)), (ia 5, .inl (y 0, 16, .inl e5)), (ia 6, .inl (y 1, 5, .inr (.inl e6))), (h, .inr (7, [.int sd, .int sw, .int sl, .ref (sa 0), .ref (sa 1), .ref (sa 2), .ref (sa 3), .ref (sa 4), .ref (sa 5), .ref (sa 6)])), (sa 0, .inl (y 0, 9, .inl f0)), (sa 1, .inl (y 0, 9, .inl f1)), (sa 2, .inl (y 1, 9, .inr (.inl f2))), (sa 3, .inl (y 0, 6, .inl f3)), (sa 4, .inl (y 0, 6, .inl f4)), (sa 5, .inl (y 0, 16, .inl f5)), (sa 6, .inl (y 1, 5, .inr (.inl f6)))]) (by decide) (by decide) (by decide) (by decide) (by decide) (by decide) (nb rfl) rfl d_State_take_36 ?_
  refine j_aload_n (pc := 39) C d_State_take_39 rfl 1 rfl ?_
  refine j_get (pc := 40) C gf_State_15 8 rfl rfl d_State_take_40 ?_
  refine j_iconst (pc := 43) C (v := 0) d_State_take_43 (by decide) ?_
  refine j_aload_n (pc := 44) C d_State_take_44 rfl 0 rfl ?_
  refine j_get (pc := 45) C gf_State_15 0 rfl rfl d_State_take_45 ?_
  refine j_iconst (pc := 48) C (v := 0) d_State_take_48 (by decide) ?_
  refine j_bipush (pc := 49) C (v := 9) d_State_take_49 (by decide) ?_
  refine j_copyi (pc := 51) C (mt_4 (List.mem_of_getElem? (i := 0) rfl) rfl) (mt_4 (List.mem_of_getElem? (i := 2) rfl) rfl) (mt_4 (List.mem_of_getElem? (i := 1) rfl) rfl) (mt_1 (List.mem_of_getElem? (i := 17) rfl) rfl) 10 2 rfl rfl (ws' := [(i, .inr (7, [.int sd, .int sw, .int sl, .ref (ia 0), .ref (ia 1), .ref (ia 2), .ref (ia 3), .ref (ia 4), .ref (ia 5), .ref (ia 6)])), (ia 0, .inl (y 0, 9, .inl (va_cpy f0 e0 0 0 9))), (ia 1, .inl (y 0, 9, .inl (va_cpy f1 e1 0 0 9))), (ia 2, .inl (y 1, 9, .inr (.inl e2))), (ia 3, .inl (y 0, 6, .inl e3)), (ia 4, .inl (y 0, 6, .inl e4)), (ia 5, .inl (y 0, 16, .inl e5)), (ia 6, .inl (y 1, 5, .inr (.inl e6))), (h, .inr (7, [.int sd, .int sw, .int sl, .ref (sa 0), .ref (sa 1), .ref (sa 2), .ref (sa 3), .ref (sa 4), .ref (sa 5), .ref (sa 6)])), (sa 0, .inl (y 0, 9, .inl f0)), (sa 1, .inl (y 0, 9, .inl f1)), (sa 2, .inl (y 1, 9, .inr (.inl f2))), (sa 3, .inl (y 0, 6, .inl f3)), (sa 4, .inl (y 0, 6, .inl f4)), (sa 5, .inl (y 0, 16, .inl f5)), (sa 6, .inl (y 1, 5, .inr (.inl f6)))]) (by decide) (by decide) (by decide) (by decide) (by decide) (by decide) (nb rfl) rfl d_State_take_51 ?_
  refine j_aload_n (pc := 54) C d_State_take_54 rfl 1 rfl ?_
  refine j_get (pc := 55) C gf_State_18 8 rfl rfl d_State_take_55 ?_
  refine j_iconst (pc := 58) C (v := 0) d_State_take_58 (by decide) ?_
  refine j_aload_n (pc := 59) C d_State_take_59 rfl 0 rfl ?_
  refine j_get (pc := 60) C gf_State_18 0 rfl rfl d_State_take_60 ?_
  refine j_iconst (pc := 63) C (v := 0) d_State_take_63 (by decide) ?_
  refine j_bipush (pc := 64) C (v := 9) d_State_take_64 (by decide) ?_
  refine j_copyl (pc := 66) C (mt_4 (List.mem_of_getElem? (i := 0) rfl) rfl) (mt_4 (List.mem_of_getElem? (i := 2) rfl) rfl) (mt_4 (List.mem_of_getElem? (i := 1) rfl) rfl) (mt_1 (List.mem_of_getElem? (i := 17) rfl) rfl) 11 3 rfl rfl (ws' := [(i, .inr (7, [.int sd, .int sw, .int sl, .ref (ia 0), .ref (ia 1), .ref (ia 2), .ref (ia 3), .ref (ia 4), .ref (ia 5), .ref (ia 6)])), (ia 0, .inl (y 0, 9, .inl (va_cpy f0 e0 0 0 9))), (ia 1, .inl (y 0, 9, .inl (va_cpy f1 e1 0 0 9))), (ia 2, .inl (y 1, 9, .inr (.inl (va_cpy f2 e2 0 0 9)))), (ia 3, .inl (y 0, 6, .inl e3)), (ia 4, .inl (y 0, 6, .inl e4)), (ia 5, .inl (y 0, 16, .inl e5)), (ia 6, .inl (y 1, 5, .inr (.inl e6))), (h, .inr (7, [.int sd, .int sw, .int sl, .ref (sa 0), .ref (sa 1), .ref (sa 2), .ref (sa 3), .ref (sa 4), .ref (sa 5), .ref (sa 6)])), (sa 0, .inl (y 0, 9, .inl f0)), (sa 1, .inl (y 0, 9, .inl f1)), (sa 2, .inl (y 1, 9, .inr (.inl f2))), (sa 3, .inl (y 0, 6, .inl f3)), (sa 4, .inl (y 0, 6, .inl f4)), (sa 5, .inl (y 0, 16, .inl f5)), (sa 6, .inl (y 1, 5, .inr (.inl f6)))]) (by decide) (by decide) (by decide) (by decide) (by decide) (by decide) (nb rfl) rfl d_State_take_66 ?_
  refine j_aload_n (pc := 69) C d_State_take_69 rfl 1 rfl ?_
  refine j_get (pc := 70) C gf_State_22 8 rfl rfl d_State_take_70 ?_
  refine j_iconst (pc := 73) C (v := 0) d_State_take_73 (by decide) ?_
  refine j_aload_n (pc := 74) C d_State_take_74 rfl 0 rfl ?_
  refine j_get (pc := 75) C gf_State_22 0 rfl rfl d_State_take_75 ?_
  refine j_iconst (pc := 78) C (v := 0) d_State_take_78 (by decide) ?_
  refine j_bipush (pc := 79) C (v := 6) d_State_take_79 (by decide) ?_
  refine j_copyi (pc := 81) C (mt_4 (List.mem_of_getElem? (i := 0) rfl) rfl) (mt_4 (List.mem_of_getElem? (i := 2) rfl) rfl) (mt_4 (List.mem_of_getElem? (i := 1) rfl) rfl) (mt_1 (List.mem_of_getElem? (i := 17) rfl) rfl) 12 4 rfl rfl (ws' := [(i, .inr (7, [.int sd, .int sw, .int sl, .ref (ia 0), .ref (ia 1), .ref (ia 2), .ref (ia 3), .ref (ia 4), .ref (ia 5), .ref (ia 6)])), (ia 0, .inl (y 0, 9, .inl (va_cpy f0 e0 0 0 9))), (ia 1, .inl (y 0, 9, .inl (va_cpy f1 e1 0 0 9))), (ia 2, .inl (y 1, 9, .inr (.inl (va_cpy f2 e2 0 0 9)))), (ia 3, .inl (y 0, 6, .inl (va_cpy f3 e3 0 0 6))), (ia 4, .inl (y 0, 6, .inl e4)), (ia 5, .inl (y 0, 16, .inl e5)), (ia 6, .inl (y 1, 5, .inr (.inl e6))), (h, .inr (7, [.int sd, .int sw, .int sl, .ref (sa 0), .ref (sa 1), .ref (sa 2), .ref (sa 3), .ref (sa 4), .ref (sa 5), .ref (sa 6)])), (sa 0, .inl (y 0, 9, .inl f0)), (sa 1, .inl (y 0, 9, .inl f1)), (sa 2, .inl (y 1, 9, .inr (.inl f2))), (sa 3, .inl (y 0, 6, .inl f3)), (sa 4, .inl (y 0, 6, .inl f4)), (sa 5, .inl (y 0, 16, .inl f5)), (sa 6, .inl (y 1, 5, .inr (.inl f6)))]) (by decide) (by decide) (by decide) (by decide) (by decide) (by decide) (nb rfl) rfl d_State_take_81 ?_
  refine j_aload_n (pc := 84) C d_State_take_84 rfl 1 rfl ?_
  refine j_get (pc := 85) C gf_State_25 8 rfl rfl d_State_take_85 ?_
  refine j_iconst (pc := 88) C (v := 0) d_State_take_88 (by decide) ?_
  refine j_aload_n (pc := 89) C d_State_take_89 rfl 0 rfl ?_
  refine j_get (pc := 90) C gf_State_25 0 rfl rfl d_State_take_90 ?_
  refine j_iconst (pc := 93) C (v := 0) d_State_take_93 (by decide) ?_
  refine j_bipush (pc := 94) C (v := 6) d_State_take_94 (by decide) ?_
  refine j_copyi (pc := 96) C (mt_4 (List.mem_of_getElem? (i := 0) rfl) rfl) (mt_4 (List.mem_of_getElem? (i := 2) rfl) rfl) (mt_4 (List.mem_of_getElem? (i := 1) rfl) rfl) (mt_1 (List.mem_of_getElem? (i := 17) rfl) rfl) 13 5 rfl rfl (ws' := [(i, .inr (7, [.int sd, .int sw, .int sl, .ref (ia 0), .ref (ia 1), .ref (ia 2), .ref (ia 3), .ref (ia 4), .ref (ia 5), .ref (ia 6)])), (ia 0, .inl (y 0, 9, .inl (va_cpy f0 e0 0 0 9))), (ia 1, .inl (y 0, 9, .inl (va_cpy f1 e1 0 0 9))), (ia 2, .inl (y 1, 9, .inr (.inl (va_cpy f2 e2 0 0 9)))), (ia 3, .inl (y 0, 6, .inl (va_cpy f3 e3 0 0 6))), (ia 4, .inl (y 0, 6, .inl (va_cpy f4 e4 0 0 6))), (ia 5, .inl (y 0, 16, .inl e5)), (ia 6, .inl (y 1, 5, .inr (.inl e6))), (h, .inr (7, [.int sd, .int sw, .int sl, .ref (sa 0), .ref (sa 1), .ref (sa 2), .ref (sa 3), .ref (sa 4), .ref (sa 5), .ref (sa 6)])), (sa 0, .inl (y 0, 9, .inl f0)), (sa 1, .inl (y 0, 9, .inl f1)), (sa 2, .inl (y 1, 9, .inr (.inl f2))), (sa 3, .inl (y 0, 6, .inl f3)), (sa 4, .inl (y 0, 6, .inl f4)), (sa 5, .inl (y 0, 16, .inl f5)), (sa 6, .inl (y 1, 5, .inr (.inl f6)))]) (by decide) (by decide) (by decide) (by decide) (by decide) (by decide) (nb rfl) rfl d_State_take_96 ?_
  refine j_aload_n (pc := 99) C d_State_take_99 rfl 1 rfl ?_
  refine j_get (pc := 100) C gf_State_28 8 rfl rfl d_State_take_100 ?_
  refine j_iconst (pc := 103) C (v := 0) d_State_take_103 (by decide) ?_
  refine j_aload_n (pc := 104) C d_State_take_104 rfl 0 rfl ?_
  refine j_get (pc := 105) C gf_State_28 0 rfl rfl d_State_take_105 ?_
  refine j_iconst (pc := 108) C (v := 0) d_State_take_108 (by decide) ?_
  refine j_bipush (pc := 109) C (v := 16) d_State_take_109 (by decide) ?_
  refine j_copyi (pc := 111) C (mt_4 (List.mem_of_getElem? (i := 0) rfl) rfl) (mt_4 (List.mem_of_getElem? (i := 2) rfl) rfl) (mt_4 (List.mem_of_getElem? (i := 1) rfl) rfl) (mt_1 (List.mem_of_getElem? (i := 17) rfl) rfl) 14 6 rfl rfl (ws' := [(i, .inr (7, [.int sd, .int sw, .int sl, .ref (ia 0), .ref (ia 1), .ref (ia 2), .ref (ia 3), .ref (ia 4), .ref (ia 5), .ref (ia 6)])), (ia 0, .inl (y 0, 9, .inl (va_cpy f0 e0 0 0 9))), (ia 1, .inl (y 0, 9, .inl (va_cpy f1 e1 0 0 9))), (ia 2, .inl (y 1, 9, .inr (.inl (va_cpy f2 e2 0 0 9)))), (ia 3, .inl (y 0, 6, .inl (va_cpy f3 e3 0 0 6))), (ia 4, .inl (y 0, 6, .inl (va_cpy f4 e4 0 0 6))), (ia 5, .inl (y 0, 16, .inl (va_cpy f5 e5 0 0 16))), (ia 6, .inl (y 1, 5, .inr (.inl e6))), (h, .inr (7, [.int sd, .int sw, .int sl, .ref (sa 0), .ref (sa 1), .ref (sa 2), .ref (sa 3), .ref (sa 4), .ref (sa 5), .ref (sa 6)])), (sa 0, .inl (y 0, 9, .inl f0)), (sa 1, .inl (y 0, 9, .inl f1)), (sa 2, .inl (y 1, 9, .inr (.inl f2))), (sa 3, .inl (y 0, 6, .inl f3)), (sa 4, .inl (y 0, 6, .inl f4)), (sa 5, .inl (y 0, 16, .inl f5)), (sa 6, .inl (y 1, 5, .inr (.inl f6)))]) (by decide) (by decide) (by decide) (by decide) (by decide) (by decide) (nb rfl) rfl d_State_take_111 ?_
  refine j_aload_n (pc := 114) C d_State_take_114 rfl 1 rfl ?_
  refine j_get (pc := 115) C gf_State_31 8 rfl rfl d_State_take_115 ?_
  refine j_iconst (pc := 118) C (v := 0) d_State_take_118 (by decide) ?_
  refine j_aload_n (pc := 119) C d_State_take_119 rfl 0 rfl ?_
  refine j_get (pc := 120) C gf_State_31 0 rfl rfl d_State_take_120 ?_
  refine j_iconst (pc := 123) C (v := 0) d_State_take_123 (by decide) ?_
  refine j_iconst (pc := 124) C (v := 5) d_State_take_124 (by decide) ?_
  refine j_copyl (pc := 125) C (mt_4 (List.mem_of_getElem? (i := 0) rfl) rfl) (mt_4 (List.mem_of_getElem? (i := 2) rfl) rfl) (mt_4 (List.mem_of_getElem? (i := 1) rfl) rfl) (mt_1 (List.mem_of_getElem? (i := 17) rfl) rfl) 15 7 rfl rfl (ws' := [(i, .inr (7, [.int sd, .int sw, .int sl, .ref (ia 0), .ref (ia 1), .ref (ia 2), .ref (ia 3), .ref (ia 4), .ref (ia 5), .ref (ia 6)])), (ia 0, .inl (y 0, 9, .inl (va_cpy f0 e0 0 0 9))), (ia 1, .inl (y 0, 9, .inl (va_cpy f1 e1 0 0 9))), (ia 2, .inl (y 1, 9, .inr (.inl (va_cpy f2 e2 0 0 9)))), (ia 3, .inl (y 0, 6, .inl (va_cpy f3 e3 0 0 6))), (ia 4, .inl (y 0, 6, .inl (va_cpy f4 e4 0 0 6))), (ia 5, .inl (y 0, 16, .inl (va_cpy f5 e5 0 0 16))), (ia 6, .inl (y 1, 5, .inr (.inl (va_cpy f6 e6 0 0 5)))), (h, .inr (7, [.int sd, .int sw, .int sl, .ref (sa 0), .ref (sa 1), .ref (sa 2), .ref (sa 3), .ref (sa 4), .ref (sa 5), .ref (sa 6)])), (sa 0, .inl (y 0, 9, .inl f0)), (sa 1, .inl (y 0, 9, .inl f1)), (sa 2, .inl (y 1, 9, .inr (.inl f2))), (sa 3, .inl (y 0, 6, .inl f3)), (sa 4, .inl (y 0, 6, .inl f4)), (sa 5, .inl (y 0, 16, .inl f5)), (sa 6, .inl (y 1, 5, .inr (.inl f6)))]) (by decide) (by decide) (by decide) (by decide) (by decide) (by decide) (nb rfl) rfl d_State_take_125 ?_
  exact j_vret (pc := 128) C hr (fun k => [sd, sw, sl].getD k 0, fun k => [(va_cpy f0 e0 0 0 9), (va_cpy f1 e1 0 0 9), (va_cpy f3 e3 0 0 6), (va_cpy f4 e4 0 0 6), (va_cpy f5 e5 0 0 16)].getD k (fun _ => 0), fun k => [(va_cpy f2 e2 0 0 9), (va_cpy f6 e6 0 0 5)].getD k (fun _ => 0)) trivial [0, 1, 2, 3, 4, 5, 6, 7, 8, 9, 10, 11, 12, 13, 14, 15] rfl (by decide) (by decide) (by decide) d_State_take_128
theorem d_State_clear_0 : decode prog_10_method_2_code 0 = .ok (.aload_n 0, 1) := by decide +kernel
theorem d_State_clear_1 : decode prog_10_method_2_code 1 = .ok (.iconst 0, 1) := by decide +kernel
theorem d_State_clear_2 : decode prog_10_method_2_code 2 = .ok (.putfield 34, 3) := by decide +kernel
theorem d_State_clear_5 : decode prog_10_method_2_code 5 = .ok (.aload_n 0, 1) := by decide +kernel
theorem d_State_clear_6 : decode prog_10_method_2_code 6 = .ok (.iconst 0, 1) := by decide +kernel
theorem d_State_clear_7 : decode prog_10_method_2_code 7 = .ok (.putfield 38, 3) := by decide +kernel
theorem d_State_clear_10 : decode prog_10_method_2_code 10 = .ok (.aload_n 0, 1) := by decide +kernel
theorem d_State_clear_11 : decode prog_10_method_2_code 11 = .ok (.iconst 0, 1) := by decide +kernel
theorem d_State_clear_12 : decode prog_10_method_2_code 12 = .ok (.putfield 41, 3) := by decide +kernel
theorem d_State_clear_15 : decode prog_10_method_2_code 15 = .ok (.iconst 0, 1) := by decide +kernel
theorem d_State_clear_16 : decode prog_10_method_2_code 16 = .ok (.istore_n 1, 1) := by decide +kernel
theorem d_State_clear_17 : decode prog_10_method_2_code 17 = .ok (.iload_n 1, 1) := by decide +kernel
theorem d_State_clear_18 : decode prog_10_method_2_code 18 = .ok (.bipush 9, 2) := by decide +kernel
theorem d_State_clear_20 : decode prog_10_method_2_code 20 = .ok (.if_icmp .ge 30, 3) := by decide +kernel
theorem d_State_clear_23 : decode prog_10_method_2_code 23 = .ok (.aload_n 0, 1) := by decide +kernel
theorem d_State_clear_24 : decode prog_10_method_2_code 24 = .ok (.getfield 9, 3) := by decide +kernel
theorem d_State_clear_27 : decode prog_10_method_2_code 27 = .ok (.iload_n 1, 1) := by decide +kernel
theorem d_State_clear_28 : decode prog_10_method_2_code 28 = .ok (.iconst 0, 1) := by decide +kernel
theorem d_State_clear_29 : decode prog_10_method_2_code 29 = .ok (.iastore, 1) := by decide +kernel
theorem d_State_clear_30 : decode prog_10_method_2_code 30 = .ok (.aload_n 0, 1) := by decide +kernel
theorem d_State_clear_31 : decode prog_10_method_2_code 31 = .ok (.getfield 15, 3) := by decide +kernel
theorem d_State_clear_34 : decode prog_10_method_2_code 34 = .ok (.iload_n 1, 1) := by decide +kernel
theorem d_State_clear_35 : decode prog_10_method_2_code 35 = .ok (.iconst 0, 1) := by decide +kernel
theorem d_State_clear_36 : decode prog_10_method_2_code 36 = .ok (.iastore, 1) := by decide +kernel
theorem d_State_clear_37 : decode prog_10_method_2_code 37 = .ok (.aload_n 0, 1) := by decide +kernel
theorem d_State_clear_38 : decode prog_10_method_2_code 38 = .ok (.getfield 18, 3) := by decide +kernel
theorem d_State_clear_41 : decode prog_10_method_2_code 41 = .ok (.iload_n 1, 1) := by decide +kernel
theorem d_State_clear_42 : decode prog_10_method_2_code 42 = .ok (.lconst 0, 1) := by decide +kernel
theorem d_State_clear_43 : decode prog_10_method_2_code 43 = .ok (.lastore, 1) := by decide +kernel
theorem d_State_clear_44 : decode prog_10_method_2_code 44 = .ok (.iinc 1 1, 3) := by decide +kernel
theorem d_State_clear_47 : decode prog_10_method_2_code 47 = .ok (.goto (-30), 3) := by decide +kernel
theorem d_State_clear_50 : decode prog_10_method_2_code 50 = .ok (.iconst 0, 1) := by decide +kernel
theorem d_State_clear_51 : decode prog_10_method_2_code 51 = .ok (.istore_n 1, 1) := by decide +kernel
theorem d_State_clear_52 : decode prog_10_method_2_code 52 = .ok (.iload_n 1, 1) := by decide +kernel
theorem d_State_clear_53 : decode prog_10_method_2_code 53 = .ok (.bipush 6, 2) := by decide +kernel
theorem d_State_clear_55 : decode prog_10_method_2_code 55 = .ok (.if_icmp .ge 23, 3) := by decide +kernel
theorem d_State_clear_58 : decode prog_10_method_2_code 58 = .ok (.aload_n 0, 1) := by decide +kernel
theorem d_State_clear_59 : decode prog_10_method_2_code 59 = .ok (.getfield 22, 3) := by decide +kernel
theorem d_State_clear_62 : decode prog_10_method_2_code 62 = .ok (.iload_n 1, 1) := by decide +kernel
theorem d_State_clear_63 : decode prog_10_method_2_code 63 = .ok (.iconst 0, 1) := by decide +kernel
theorem d_State_clear_64 : decode prog_10_method_2_code 64 = .ok (.iastore, 1) := by decide +kernel
theorem d_State_clear_65 : decode prog_10_method_2_code 65 = .ok (.aload_n 0, 1) := by decide +kernel
theorem d_State_clear_66 : decode prog_10_method_2_code 66 = .ok (.getfield 25, 3) := by decide +kernel
theorem d_State_clear_69 : decode prog_10_method_2_code 69 = .ok (.iload_n 1, 1) := by decide +kernel
theorem d_State_clear_70 : decode prog_10_method_2_code 70 = .ok (.iconst 0, 1) := by decide +kernel
theorem d_State_clear_71 : decode prog_10_method_2_code 71 = .ok (.iastore, 1) := by decide +kernel
theorem d_State_clear_72 : decode prog_10_method_2_code 72 = .ok (.iinc 1 1, 3) := by decide +kernel
theorem d_State_clear_75 : decode prog_10_method_2_code 75 = .ok (.goto (-23), 3) := by decide +kernel
theorem d_State_clear_78 : decode prog_10_method_2_code 78 = .ok (.iconst 0, 1) := by decide +kernel
theorem d_State_clear_79 : decode prog_10_method_2_code 79 = .ok (.istore_n 1, 1) := by decide +kernel
theorem d_State_clear_80 : decode prog_10_method_2_code 80 = .ok (.iload_n 1, 1) := by decide +kernel
theorem d_State_clear_81 : decode prog_10_method_2_code 81 = .ok (.bipush 16, 2) := by decide +kernel
theorem d_State_clear_83 : decode prog_10_method_2_code 83 = .ok (.if_icmp .ge 16, 3) := by decide +kernel
theorem d_State_clear_86 : decode prog_10_method_2_code 86 = .ok (.aload_n 0, 1) := by decide +kernel
theorem d_State_clear_87 : decode prog_10_method_2_code 87 = .ok (.getfield 28, 3) := by decide +kernel
theorem d_State_clear_90 : decode prog_10_method_2_code 90 = .ok (.iload_n 1, 1) := by decide +kernel
theorem d_State_clear_91 : decode prog_10_method_2_code 91 = .ok (.iconst 0, 1) := by decide +kernel
theorem d_State_clear_92 : decode prog_10_method_2_code 92 = .ok (.iastore, 1) := by decide +kernel
theorem d_State_clear_93 : decode prog_10_method_2_code 93 = .ok (.iinc 1 1, 3) := by decide +kernel
theorem d_State_clear_96 : decode prog_10_method_2_code 96 = .ok (.goto (-16), 3) := by decide +kernel
theorem d_State_clear_99 : decode prog_10_method_2_code 99 = .ok (.iconst 0, 1) := by decide +kernel
theorem d_State_clear_100 : decode prog_10_method_2_code 100 = .ok (.istore_n 1, 1) := by decide +kernel
theorem d_State_clear_101 : decode prog_10_method_2_code 101 = .ok (.iload_n 1, 1) := by decide +kernel
theorem d_State_clear_102 : decode prog_10_method_2_code 102 = .ok (.iconst 5, 1) := by decide +kernel
theorem d_State_clear_103 : decode prog_10_method_2_code 103 = .ok (.if_icmp .ge 16, 3) := by decide +kernel
theorem d_State_clear_106 : decode prog_10_method_2_code 106 = .ok (.aload_n 0, 1) := by decide +kernel
theorem d_State_clear_107 : decode prog_10_method_2_code 107 = .ok (.getfield 31, 3) := by decide +kernel
theorem d_State_clear_110 : decode prog_10_method_2_code 110 = .ok (.iload_n 1, 1) := by decide +kernel
theorem d_State_clear_111 : decode prog_10_method_2_code 111 = .ok (.lconst 0, 1) := by decide +kernel
theorem d_State_clear_112 : decode prog_10_method_2_code 112 = .ok (.lastore, 1) := by decide +kernel
theorem d_State_clear_113 : decode prog_10_method_2_code 113 = .ok (.iinc 1 1, 3) := by decide +kernel
theorem d_State_clear_116 : decode prog_10_method_2_code 116 = .ok (.goto (-15), 3) := by decide +kernel
theorem d_State_clear_119 : decode prog_10_method_2_code 119 = .ok (.return_, 1) := by decide +kernel
theorem d_Past_keep_0 : decode prog_6_method_2_code 0 = .ok (.aload_n 0, 1) := by decide +kernel
theorem d_Past_keep_1 : decode prog_6_method_2_code 1 = .ok (.getfield 11, 3) := by decide +kernel
theorem gf_Past_11 : GF "NineBoards$Past" 11 3 2 := ⟨_, _, _, rfl, ci_Past, by decide, (mt_1 (List.mem_of_getElem? (i := 119) rfl) rfl)⟩
theorem d_Past_keep_4 : decode prog_6_method_2_code 4 = .ok (.aload_n 0, 1) := by decide +kernel
theorem d_Past_keep_5 : decode prog_6_method_2_code 5 = .ok (.getfield 18, 3) := by decide +kernel
theorem gf_Past_18 : GF "NineBoards$Past" 18 3 1 := ⟨_, _, _, rfl, ci_Past, by decide, (mt_1 (List.mem_of_getElem? (i := 118) rfl) rfl)⟩
theorem d_Past_keep_8 : decode prog_6_method_2_code 8 = .ok (.aaload, 1) := by decide +kernel
theorem d_Past_keep_9 : decode prog_6_method_2_code 9 = .ok (.aload_n 1, 1) := by decide +kernel
theorem d_Past_keep_10 : decode prog_6_method_2_code 10 = .ok (.invokevirtual 22, 3) := by decide +kernel
theorem kw_Past_22 : KW "NineBoards$Past" 22 ⟨"NineBoards$State", "take", "(LNineBoards$State;)V"⟩ prog_10_method_3_code 2 none 1 := ⟨(mt_4 (List.mem_of_getElem? (i := 65) rfl) rfl), (mt_1 (List.mem_of_getElem? (i := 4) rfl) rfl), (mt_3 (List.mem_of_getElem? (i := 239) rfl) rfl), by decide +kernel⟩
theorem kv_State_take : Cond.instanceMethod ⟨"NineBoards$State", "take", "(LNineBoards$State;)V"⟩ ∈ TB ∧ Cond.selects "NineBoards$State" ⟨"NineBoards$State", "take", "(LNineBoards$State;)V"⟩ ⟨"NineBoards$State", "take", "(LNineBoards$State;)V"⟩ ∈ TB := ⟨(mt_3 (List.mem_of_getElem? (i := 237) rfl) rfl), (mt_3 (List.mem_of_getElem? (i := 238) rfl) rfl)⟩
theorem d_Past_keep_13 : decode prog_6_method_2_code 13 = .ok (.aload_n 0, 1) := by decide +kernel
theorem d_Past_keep_14 : decode prog_6_method_2_code 14 = .ok (.aload_n 0, 1) := by decide +kernel
theorem d_Past_keep_15 : decode prog_6_method_2_code 15 = .ok (.getfield 18, 3) := by decide +kernel
theorem d_Past_keep_18 : decode prog_6_method_2_code 18 = .ok (.iconst 1, 1) := by decide +kernel
theorem d_Past_keep_19 : decode prog_6_method_2_code 19 = .ok (.iadd, 1) := by decide +kernel
theorem d_Past_keep_20 : decode prog_6_method_2_code 20 = .ok (.bipush 30, 2) := by decide +kernel
theorem d_Past_keep_22 : decode prog_6_method_2_code 22 = .ok (.irem, 1) := by decide +kernel
theorem d_Past_keep_23 : decode prog_6_method_2_code 23 = .ok (.putfield 18, 3) := by decide +kernel
theorem pf_Past_18 : PF "NineBoards$Past" 18 3 1 (.int) false := ⟨_, _, _, ct_Past, rfl, ci_Past, by decide, (mt_1 (List.mem_of_getElem? (i := 118) rfl) rfl), cp_Past, cn_Past, rfl, by decide +kernel, (fun h => by cases h)⟩
theorem d_Past_keep_26 : decode prog_6_method_2_code 26 = .ok (.aload_n 0, 1) := by decide +kernel
theorem d_Past_keep_27 : decode prog_6_method_2_code 27 = .ok (.bipush 30, 2) := by decide +kernel
theorem d_Past_keep_29 : decode prog_6_method_2_code 29 = .ok (.aload_n 0, 1) := by decide +kernel
theorem d_Past_keep_30 : decode prog_6_method_2_code 30 = .ok (.getfield 26, 3) := by decide +kernel
theorem gf_Past_26 : GF "NineBoards$Past" 26 3 0 := ⟨_, _, _, rfl, ci_Past, by decide, (mt_1 (List.mem_of_getElem? (i := 116) rfl) rfl)⟩
theorem d_Past_keep_33 : decode prog_6_method_2_code 33 = .ok (.iconst 1, 1) := by decide +kernel
theorem d_Past_keep_34 : decode prog_6_method_2_code 34 = .ok (.iadd, 1) := by decide +kernel
theorem d_Past_keep_35 : decode prog_6_method_2_code 35 = .ok (.invokestatic 29, 3) := by decide +kernel
theorem d_Past_keep_38 : decode prog_6_method_2_code 38 = .ok (.putfield 26, 3) := by decide +kernel
theorem pf_Past_26 : PF "NineBoards$Past" 26 3 0 (.int) false := ⟨_, _, _, ct_Past, rfl, ci_Past, by decide, (mt_1 (List.mem_of_getElem? (i := 116) rfl) rfl), cp_Past, cn_Past, rfl, by decide +kernel, (fun h => by cases h)⟩
theorem d_Past_keep_41 : decode prog_6_method_2_code 41 = .ok (.return_, 1) := by decide +kernel
theorem d_Past_bringBack_0 : decode prog_6_method_3_code 0 = .ok (.aload_n 0, 1) := by decide +kernel
theorem d_Past_bringBack_1 : decode prog_6_method_3_code 1 = .ok (.getfield 26, 3) := by decide +kernel
theorem d_Past_bringBack_4 : decode prog_6_method_3_code 4 = .ok (.ifCond .gt 5, 3) := by decide +kernel
theorem d_Past_bringBack_9 : decode prog_6_method_3_code 9 = .ok (.aload_n 0, 1) := by decide +kernel
theorem d_Past_bringBack_10 : decode prog_6_method_3_code 10 = .ok (.aload_n 0, 1) := by decide +kernel
theorem d_Past_bringBack_11 : decode prog_6_method_3_code 11 = .ok (.getfield 18, 3) := by decide +kernel
theorem d_Past_bringBack_14 : decode prog_6_method_3_code 14 = .ok (.bipush 30, 2) := by decide +kernel
theorem d_Past_bringBack_16 : decode prog_6_method_3_code 16 = .ok (.iadd, 1) := by decide +kernel
theorem d_Past_bringBack_17 : decode prog_6_method_3_code 17 = .ok (.iconst 1, 1) := by decide +kernel
theorem d_Past_bringBack_18 : decode prog_6_method_3_code 18 = .ok (.isub, 1) := by decide +kernel
theorem d_Past_bringBack_19 : decode prog_6_method_3_code 19 = .ok (.bipush 30, 2) := by decide +kernel
theorem d_Past_bringBack_21 : decode prog_6_method_3_code 21 = .ok (.irem, 1) := by decide +kernel
theorem d_Past_bringBack_22 : decode prog_6_method_3_code 22 = .ok (.putfield 18, 3) := by decide +kernel
theorem d_Past_bringBack_25 : decode prog_6_method_3_code 25 = .ok (.aload_n 0, 1) := by decide +kernel
theorem d_Past_bringBack_26 : decode prog_6_method_3_code 26 = .ok (.dup, 1) := by decide +kernel
theorem d_Past_bringBack_27 : decode prog_6_method_3_code 27 = .ok (.getfield 26, 3) := by decide +kernel
theorem d_Past_bringBack_30 : decode prog_6_method_3_code 30 = .ok (.iconst 1, 1) := by decide +kernel
theorem d_Past_bringBack_31 : decode prog_6_method_3_code 31 = .ok (.isub, 1) := by decide +kernel
theorem d_Past_bringBack_32 : decode prog_6_method_3_code 32 = .ok (.putfield 26, 3) := by decide +kernel
theorem d_Past_bringBack_35 : decode prog_6_method_3_code 35 = .ok (.aload_n 1, 1) := by decide +kernel
theorem d_Past_bringBack_36 : decode prog_6_method_3_code 36 = .ok (.aload_n 0, 1) := by decide +kernel
theorem d_Past_bringBack_37 : decode prog_6_method_3_code 37 = .ok (.getfield 11, 3) := by decide +kernel
theorem d_Past_bringBack_40 : decode prog_6_method_3_code 40 = .ok (.aload_n 0, 1) := by decide +kernel
theorem d_Past_bringBack_41 : decode prog_6_method_3_code 41 = .ok (.getfield 18, 3) := by decide +kernel
theorem d_Past_bringBack_44 : decode prog_6_method_3_code 44 = .ok (.aaload, 1) := by decide +kernel
theorem d_Past_bringBack_45 : decode prog_6_method_3_code 45 = .ok (.invokevirtual 22, 3) := by decide +kernel
theorem d_Past_bringBack_48 : decode prog_6_method_3_code 48 = .ok (.iconst 1, 1) := by decide +kernel
theorem d_Past_bringBack_49 : decode prog_6_method_3_code 49 = .ok (.ireturn, 1) := by decide +kernel
theorem d_Past_bringBack_7 : decode prog_6_method_3_code 7 = .ok (.iconst 0, 1) := by decide +kernel
theorem d_Past_bringBack_8 : decode prog_6_method_3_code 8 = .ok (.ireturn, 1) := by decide +kernel
