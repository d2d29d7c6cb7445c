def NSq (w : Nat → Int32) (n : Nat) : Prop := ∀ k, k < n → ¬ w k = 25
def HSq (w : Nat → Int32) (n : Nat) : Prop := ∃ k, k < n ∧ w k = 25
theorem ti_nq {v : Int32} (h : TIt v) (hv : ¬ v = 25) : v = 14 ∨ v = 15 ∨ v = 16 := by
  rcases h with e | e | e | e
  · exact Or.inl e
  · exact Or.inr (Or.inl e)
  · exact Or.inr (Or.inr e)
  · exact absurd e hv
theorem nsq_up {w : Nat → Int32} {n : Nat} (h : NSq w n) (hv : ¬ w n = 25) : NSq w (n + 1) := by
  intro k hk
  by_cases q : k = n
  · rw [q]
    exact hv
  · exact h k (by omega)
theorem sq_mem {S : List Nat} {w : Nat → Int32} {n : Nat} (h : WB S w 0 n) (hs : HSq w n) : 25 ∈ S := by
  induction S generalizing n with
  | nil =>
    obtain ⟨k, hk, _⟩ := hs
    have : n = 0 := h
    omega
  | cons v S ih =>
    obtain ⟨h1, h2, h3, h4⟩ := h
    obtain ⟨k, hk, e⟩ := hs
    by_cases q : k = n - 1
    · rw [q] at e
      have : v = 25 := on_yes h2 h3 (by decide) e
      rw [this]
      exact List.mem_cons_self
    · exact List.mem_cons_of_mem _ (ih h4 ⟨k, by omega, e⟩)
theorem sq_mem0 {S : List Nat} {w : Nat → Int32} {n : Nat} (h : WB S w 0 n) (hs : NSq w n) : ¬ 25 ∈ S := by
  induction S generalizing n with
  | nil => exact fun q => by cases q
  | cons v S ih =>
    obtain ⟨h1, h2, h3, h4⟩ := h
    intro q
    rcases List.mem_cons.mp q with q | q
    · exact hs (n - 1) (by omega) (by rw [h2, ← q]; rfl)
    · exact ih h4 (fun k hk => hs k (by omega)) q
theorem sq_nsq {S : List Nat} {w : Nat → Int32} {n : Nat} (h : WB S w 0 n) (hs : ¬ 25 ∈ S) : NSq w n := fun k hk e => hs (sq_mem h ⟨k, hk, e⟩)
theorem d_Model_sumsTold_0 : decode prog_13_method_40_code 0 = .ok (.aload_n 0, 1) := by decide +kernel
theorem d_Model_sumsTold_1 : decode prog_13_method_40_code 1 = .ok (.getfield 298, 3) := by decide +kernel
theorem d_Model_sumsTold_4 : decode prog_13_method_40_code 4 = .ok (.istore_n 1, 1) := by decide +kernel
theorem d_Model_sumsTold_5 : decode prog_13_method_40_code 5 = .ok (.aload_n 0, 1) := by decide +kernel
theorem d_Model_sumsTold_6 : decode prog_13_method_40_code 6 = .ok (.aload_n 0, 1) := by decide +kernel
theorem d_Model_sumsTold_7 : decode prog_13_method_40_code 7 = .ok (.getfield 292, 3) := by decide +kernel
theorem d_Model_sumsTold_10 : decode prog_13_method_40_code 10 = .ok (.putfield 298, 3) := by decide +kernel
theorem pf_Model_298 : PF "NineBoardsModel" 298 10 59 (.int) false := ⟨_, _, _, ct_Model, rfl, ci_Model, by decide, (mt_5 (List.mem_of_getElem? (i := 147) rfl) rfl), cp_Model, cn_Model, rfl, by decide +kernel, (fun h => by cases h)⟩
theorem d_Model_sumsTold_13 : decode prog_13_method_40_code 13 = .ok (.iconst 1, 1) := by decide +kernel
theorem d_Model_sumsTold_14 : decode prog_13_method_40_code 14 = .ok (.istore_n 2, 1) := by decide +kernel
theorem d_Model_sumsTold_15 : decode prog_13_method_40_code 15 = .ok (.iload_n 2, 1) := by decide +kernel
theorem d_Model_sumsTold_16 : decode prog_13_method_40_code 16 = .ok (.ifCond .eq 37, 3) := by decide +kernel
theorem d_Model_sumsTold_53 : decode prog_13_method_40_code 53 = .ok (.aload_n 0, 1) := by decide +kernel
theorem d_Model_sumsTold_54 : decode prog_13_method_40_code 54 = .ok (.getfield 201, 3) := by decide +kernel
theorem d_Model_sumsTold_57 : decode prog_13_method_40_code 57 = .ok (.ifCond .ne 21, 3) := by decide +kernel
theorem d_Model_sumsTold_78 : decode prog_13_method_40_code 78 = .ok (.aload_n 0, 1) := by decide +kernel
theorem d_Model_sumsTold_79 : decode prog_13_method_40_code 79 = .ok (.iload_n 1, 1) := by decide +kernel
theorem d_Model_sumsTold_80 : decode prog_13_method_40_code 80 = .ok (.putfield 298, 3) := by decide +kernel
theorem d_Model_sumsTold_83 : decode prog_13_method_40_code 83 = .ok (.return_, 1) := by decide +kernel
theorem d_Model_sumsTold_60 : decode prog_13_method_40_code 60 = .ok (.aload_n 0, 1) := by decide +kernel
theorem d_Model_sumsTold_61 : decode prog_13_method_40_code 61 = .ok (.getfield 292, 3) := by decide +kernel
theorem d_Model_sumsTold_64 : decode prog_13_method_40_code 64 = .ok (.aload_n 0, 1) := by decide +kernel
theorem d_Model_sumsTold_65 : decode prog_13_method_40_code 65 = .ok (.getfield 298, 3) := by decide +kernel
theorem d_Model_sumsTold_68 : decode prog_13_method_40_code 68 = .ok (.if_icmp .le 10, 3) := by decide +kernel
theorem d_Model_sumsTold_71 : decode prog_13_method_40_code 71 = .ok (.aload_n 0, 1) := by decide +kernel
theorem d_Model_sumsTold_72 : decode prog_13_method_40_code 72 = .ok (.invokevirtual 350, 3) := by decide +kernel
theorem d_Model_sumsTold_75 : decode prog_13_method_40_code 75 = .ok (.goto (-22), 3) := by decide +kernel
theorem d_Model_sumsTold_19 : decode prog_13_method_40_code 19 = .ok (.aload_n 0, 1) := by decide +kernel
theorem d_Model_sumsTold_20 : decode prog_13_method_40_code 20 = .ok (.getfield 201, 3) := by decide +kernel
theorem d_Model_sumsTold_23 : decode prog_13_method_40_code 23 = .ok (.ifCond .ne 30, 3) := by decide +kernel
theorem d_Model_sumsTold_26 : decode prog_13_method_40_code 26 = .ok (.aload_n 0, 1) := by decide +kernel
theorem d_Model_sumsTold_27 : decode prog_13_method_40_code 27 = .ok (.invokevirtual 365, 3) := by decide +kernel
theorem kw_Model_365 : KW "NineBoardsModel" 365 ⟨"NineBoardsModel", "onePart", "()V"⟩ prog_13_method_38_code 5 none 0 := ⟨(mt_6 (List.mem_of_getElem? (i := 203) rfl) rfl), (mt_1 (List.mem_of_getElem? (i := 16) rfl) rfl), (mt_6 (List.mem_of_getElem? (i := 206) rfl) rfl), by decide +kernel⟩
theorem kv_Model_onePart : Cond.instanceMethod ⟨"NineBoardsModel", "onePart", "()V"⟩ ∈ TB ∧ Cond.selects "NineBoardsModel" ⟨"NineBoardsModel", "onePart", "()V"⟩ ⟨"NineBoardsModel", "onePart", "()V"⟩ ∈ TB := ⟨(mt_6 (List.mem_of_getElem? (i := 205) rfl) rfl), (ms_0 (List.mem_map.mpr ⟨(⟨"NineBoardsModel", "onePart", "()V"⟩, 79), List.mem_of_getElem? (i := 72) (by decide +kernel), rfl⟩) rfl)⟩
theorem d_Model_sumsTold_30 : decode prog_13_method_40_code 30 = .ok (.aload_n 0, 1) := by decide +kernel
theorem d_Model_sumsTold_31 : decode prog_13_method_40_code 31 = .ok (.getfield 201, 3) := by decide +kernel
theorem d_Model_sumsTold_34 : decode prog_13_method_40_code 34 = .ok (.ifCond .ne 14, 3) := by decide +kernel
theorem d_Model_sumsTold_37 : decode prog_13_method_40_code 37 = .ok (.aload_n 0, 1) := by decide +kernel
theorem d_Model_sumsTold_38 : decode prog_13_method_40_code 38 = .ok (.invokevirtual 368, 3) := by decide +kernel
theorem kw_Model_368 : KW "NineBoardsModel" 368 ⟨"NineBoardsModel", "goesOn", "()Z"⟩ prog_13_method_39_code 2 (some .boolean) 0 := ⟨(mt_6 (List.mem_of_getElem? (i := 215) rfl) rfl), (mt_1 (List.mem_of_getElem? (i := 16) rfl) rfl), (mt_6 (List.mem_of_getElem? (i := 218) rfl) rfl), by decide +kernel⟩
theorem kv_Model_goesOn : Cond.instanceMethod ⟨"NineBoardsModel", "goesOn", "()Z"⟩ ∈ TB ∧ Cond.selects "NineBoardsModel" ⟨"NineBoardsModel", "goesOn", "()Z"⟩ ⟨"NineBoardsModel", "goesOn", "()Z"⟩ ∈ TB := ⟨(mt_6 (List.mem_of_getElem? (i := 217) rfl) rfl), (ms_0 (List.mem_map.mpr ⟨(⟨"NineBoardsModel", "goesOn", "()Z"⟩, 79), List.mem_of_getElem? (i := 75) (by decide +kernel), rfl⟩) rfl)⟩
theorem d_Model_sumsTold_41 : decode prog_13_method_40_code 41 = .ok (.ifCond .eq 7, 3) := by decide +kernel
theorem d_Model_sumsTold_44 : decode prog_13_method_40_code 44 = .ok (.iconst 1, 1) := by decide +kernel
theorem d_Model_sumsTold_45 : decode prog_13_method_40_code 45 = .ok (.goto 4, 3) := by decide +kernel
theorem d_Model_sumsTold_49 : decode prog_13_method_40_code 49 = .ok (.istore_n 2, 1) := by decide +kernel
theorem d_Model_sumsTold_50 : decode prog_13_method_40_code 50 = .ok (.goto (-35), 3) := by decide +kernel
theorem d_Model_sumsTold_48 : decode prog_13_method_40_code 48 = .ok (.iconst 0, 1) := by decide +kernel
set_option maxHeartbeats 4000000 in
set_option maxRecDepth 100000 in
theorem c_M_sumsTold (l : Launch) (D : va_G) (y : Nat → ClassId) (mo : Nat) (ma : Nat → Nat) (t1 : Nat) (t2 : Nat) (t3 : Nat) (i4 : Int32) (i6 : Int32) (i7 : Int32) (i8 : Int32) (i42 : Int32) (i49 : Int32) (cd : Nat) (wn : Nat) (oo : Nat) (i59 : Int32) (i61 : Int32) (i64 : Int32) (i66 : Int32) (t67 : Nat) (i76 : Int64) (i78 : Int32) (tx : Nat → Nat) (g50 : Nat → Int32) (g52 : Nat → Int32) (gs : PS) (s0 : Nat) (xx : Nat) (cs : List Nat) (kq : Nat) (f0 : Nat → Int32) (en : Nat) (ha : t2 ≤ t3) (he : t3 ≤ 1600) (hB : ∀ j, tx j < 256) (hx : RR tx t3 gs t2 i4 0 i6) (hR : RS kq s0 f0 xx 0 g50 g52 cd wn t2) (hTT : ITm g52 wn) (hcd : CD cs g50 cd) (he6 : oo + en = 6) (hK : 1 ≤ kq) : CT l D y ⟨"NineBoardsModel", "sumsTold", "()V"⟩ prog_13_method_40_code 3 none ({ frames := 5, cells := 0, slots := 0, locals := 109 } : Room) [.ref mo] [MB mo ma (nI t1) (nI t2) (nI t3) i4 0 i6 i7 i8 i42 i49 (nI cd) (nI wn) (nI oo) i59 i61 i64 i66 (nI t67) i76 i78, (ma 0, .inl (y 0, 1600, .inl (tby tx))), (ma 37, .inl (y 3, 3, .inl (WD 28))), (ma 38, .inl (y 3, 5, .inl (WD 29))), (ma 39, .inl (y 3, 5, .inl (WD 30))), (ma 40, .inl (y 3, 3, .inl (WD 31))), (ma 41, .inl (y 3, 3, .inl (WD 32))), (ma 50, .inl (y 0, 3200, .inl g50)), (ma 52, .inl (y 0, 1700, .inl g52))] (QV D [MB mo ma (nI t1) (nI t2) (nI t3) i4 0 i6 i7 i8 i42 i49 (nI cd) (nI wn) (nI oo) i59 i61 i64 i66 (nI t67) i76 i78, (ma 0, .inl (y 0, 1600, .inl (tby tx))), (ma 37, .inl (y 3, 3, .inl (WD 28))), (ma 38, .inl (y 3, 5, .inl (WD 29))), (ma 39, .inl (y 3, 5, .inl (WD 30))), (ma 40, .inl (y 3, 3, .inl (WD 31))), (ma 41, .inl (y 3, 3, .inl (WD 32))), (ma 50, .inl (y 0, 3200, .inl g50)), (ma 52, .inl (y 0, 1700, .inl g52))] (fun (u : Nat × Int32 × Int32 × Int32 × Nat × Nat × Nat × (Nat → Int32) × (Nat → Int32)) => t2 ≤ u.1 ∧ u.1 ≤ t3 ∧ (u.2.2.1 = 0 → 0 = 0 ∧ t2 < u.1 ∧ u.2.2.2.2.2.1 = wn) ∧ RS kq s0 f0 (xx + 1) u.2.2.1 u.2.2.2.2.2.2.2.1 u.2.2.2.2.2.2.2.2 u.2.2.2.2.1 u.2.2.2.2.2.1 u.1 ∧ ITm u.2.2.2.2.2.2.2.2 wn ∧ wn ≤ u.2.2.2.2.2.1 ∧ RR tx t3 ((sumE tx t3 en (gs, cs)).1) u.1 u.2.1 u.2.2.1 u.2.2.2.1 ∧ u.2.2.2.2.2.2.1 ≤ 6 ∧ (u.2.2.1 = 0 → CD (sumE tx t3 en (gs, cs)).2 u.2.2.2.2.2.2.2.1 u.2.2.2.2.1 ∧ u.2.2.2.2.2.2.1 = oo) ∧ (∀ j, j < wn → u.2.2.2.2.2.2.2.2 j = g52 j)) (fun u => [MB mo ma (nI t1) (nI u.1) (nI t3) u.2.1 u.2.2.1 u.2.2.2.1 i7 i8 i42 i49 (nI u.2.2.2.2.1) (nI u.2.2.2.2.2.1) (nI u.2.2.2.2.2.2.1) i59 i61 i64 i66 (nI t67) i76 i78, (ma 0, .inl (y 0, 1600, .inl (tby tx))), (ma 37, .inl (y 3, 3, .inl (WD 28))), (ma 38, .inl (y 3, 5, .inl (WD 29))), (ma 39, .inl (y 3, 5, .inl (WD 30))), (ma 40, .inl (y 3, 3, .inl (WD 31))), (ma 41, .inl (y 3, 3, .inl (WD 32))), (ma 50, .inl (y 0, 3200, .inl u.2.2.2.2.2.2.2.1)), (ma 52, .inl (y 0, 1700, .inl u.2.2.2.2.2.2.2.2))])) := by
  refine CT.of (by decide) (nb rfl) ?_
  intro p e s m args below meth c C hr
  refine j_lv (lv' := [(0, .ref mo)]) rfl ?_
  refine j_aload_n (pc := 0) C d_Model_sumsTold_0 rfl 0 rfl ?_
  refine j_get (pc := 1) C gf_Model_298 0 rfl rfl d_Model_sumsTold_1 ?_
  refine j_istore_n (pc := 4) C (lv' := [(1, .int i59), (0, .ref mo)]) d_Model_sumsTold_4 rfl (by decide) rfl ?_
  refine j_aload_n (pc := 5) C d_Model_sumsTold_5 rfl 1 rfl ?_
  refine j_aload_n (pc := 6) C d_Model_sumsTold_6 rfl 1 rfl ?_
  refine j_get (pc := 7) C gf_Model_292 0 rfl rfl d_Model_sumsTold_7 ?_
  refine j_put (pc := 10) C pf_Model_298 0 (ws' := [MB mo ma (nI t1) (nI t2) (nI t3) i4 0 i6 i7 i8 i42 i49 (nI cd) (nI wn) (nI oo) (nI wn) i61 i64 i66 (nI t67) i76 i78, (ma 0, .inl (y 0, 1600, .inl (tby tx))), (ma 37, .inl (y 3, 3, .inl (WD 28))), (ma 38, .inl (y 3, 5, .inl (WD 29))), (ma 39, .inl (y 3, 5, .inl (WD 30))), (ma 40, .inl (y 3, 3, .inl (WD 31))), (ma 41, .inl (y 3, 3, .inl (WD 32))), (ma 50, .inl (y 0, 3200, .inl g50)), (ma 52, .inl (y 0, 1700, .inl g52))]) rfl rfl rfl (nl rfl) rfl d_Model_sumsTold_10 ?_
  refine j_iconst (pc := 13) C (v := 1) d_Model_sumsTold_13 (by decide) ?_
  refine j_istore_n (pc := 14) C (lv' := [(2, .int 1), (1, .int i59), (0, .ref mo)]) d_Model_sumsTold_14 rfl (by decide) rfl ?_
  refine j_loop (α := Nat × Nat × Int32 × Nat × Nat × (Nat → Int32) × (Nat → Int32) × Int32 × Int32 × Nat × PS × List Nat × List Nat) (fun a => 2 * (t3 - a.2.1) + bz1 a.2.2.1 + a.1) (fun a => (a.2.1 ≤ t3) ∧ (t2 ≤ a.2.1) ∧ (a.1 ≤ 1) ∧ (wn ≤ a.2.2.2.1) ∧ (ITm a.2.2.2.2.2.2.1 wn) ∧ (ISm a.2.2.2.2.2.2.1 wn a.2.2.2.1) ∧ (RS kq s0 f0 (xx + (1 - a.1)) a.2.2.1 a.2.2.2.2.2.1 a.2.2.2.2.2.2.1 a.2.2.2.2.1 a.2.2.2.1 a.2.1) ∧ ((a.1 = 0 → a.2.2.1 = 0 → NMk a.2.2.2.2.2.2.1 wn a.2.2.2.1)) ∧ ((a.1 = 0 → a.2.2.1 = 0 → t2 < a.2.1)) ∧ (RR tx t3 a.2.2.2.2.2.2.2.2.2.2.1 a.2.1 a.2.2.2.2.2.2.2.1 a.2.2.1 a.2.2.2.2.2.2.2.2.1) ∧ (a.2.2.2.2.2.2.2.2.2.1 ≤ 6) ∧ ((a.1 = 1 → a.2.2.1 = 0 → Rch tx t3 (0, (gs, cs, [], oo)) (0, (a.2.2.2.2.2.2.2.2.2.2.1, a.2.2.2.2.2.2.2.2.2.2.2.1, a.2.2.2.2.2.2.2.2.2.2.2.2, a.2.2.2.2.2.2.2.2.2.1)) ∧ CD a.2.2.2.2.2.2.2.2.2.2.2.1 a.2.2.2.2.2.1 a.2.2.2.2.1 ∧ WB a.2.2.2.2.2.2.2.2.2.2.2.2 a.2.2.2.2.2.2.1 wn a.2.2.2.1 ∧ opn a.2.2.2.2.2.2.2.2.2.2.2.2 ≤ a.2.2.2.2.2.2.2.2.2.1)) ∧ ((a.1 = 0 → a.2.2.1 = 0 → Rch tx t3 (0, (gs, cs, [], oo)) (2, (a.2.2.2.2.2.2.2.2.2.2.1, a.2.2.2.2.2.2.2.2.2.2.2.1, a.2.2.2.2.2.2.2.2.2.2.2.2, a.2.2.2.2.2.2.2.2.2.1)) ∧ CD a.2.2.2.2.2.2.2.2.2.2.2.1 a.2.2.2.2.2.1 a.2.2.2.2.1 ∧ WB a.2.2.2.2.2.2.2.2.2.2.2.2 a.2.2.2.2.2.2.1 wn a.2.2.2.1 ∧ mkf a.2.2.2.2.2.2.2.2.2.2.2.2 = 0)) ∧ ((¬ a.2.2.1 = 0 → ∃ c3 s3 o3, Rch tx t3 (0, (gs, cs, [], oo)) (2, (a.2.2.2.2.2.2.2.2.2.2.1, c3, s3, o3)))) ∧ ((∀ j, j < wn → a.2.2.2.2.2.2.1 j = g52 j))) (fun a => [MB mo ma (nI t1) (nI a.2.1) (nI t3) a.2.2.2.2.2.2.2.1 a.2.2.1 a.2.2.2.2.2.2.2.2.1 i7 i8 i42 i49 (nI a.2.2.2.2.1) (nI a.2.2.2.1) (nI a.2.2.2.2.2.2.2.2.2.1) (nI wn) i61 i64 i66 (nI t67) i76 i78, (ma 0, .inl (y 0, 1600, .inl (tby tx))), (ma 37, .inl (y 3, 3, .inl (WD 28))), (ma 38, .inl (y 3, 5, .inl (WD 29))), (ma 39, .inl (y 3, 5, .inl (WD 30))), (ma 40, .inl (y 3, 3, .inl (WD 31))), (ma 41, .inl (y 3, 3, .inl (WD 32))), (ma 50, .inl (y 0, 3200, .inl a.2.2.2.2.2.1)), (ma 52, .inl (y 0, 1700, .inl a.2.2.2.2.2.2.1))]) (fun a => [(2, .int (nI a.1)), (1, .int i59), (0, .ref mo)]) (1, t2, 0, wn, cd, g50, g52, i4, i6, oo, gs, cs, []) rfl rfl ⟨ha, (show t2 ≤ t2 by omega), (show 1 ≤ 1 by omega), (show wn ≤ wn by omega), hTT, is_nil, (show RS kq s0 f0 (xx + (1 - 1)) 0 g50 g52 cd wn t2 from hR), (fun e => absurd e (by omega)), (fun e => absurd e (by omega)), (show RR tx t3 gs t2 i4 0 i6 from hx), (show oo ≤ 6 by omega), (fun _ _ => ⟨Rch.rf _, hcd, rfl, Nat.zero_le _⟩), (fun e => absurd (show (1 : Nat) = 0 from e) (by omega)), (fun e => absurd rfl e), (fun _ _ => rfl)⟩ ?_
  rintro ⟨mz, az, bz, zn, zc, zf, zw, ez, pz, oz, gz, cz, sz⟩ hP77 ih78
  obtain ⟨hz__, hy__, hmz__, hb__, hT__, hS__, hR__, hN__, hpr__, hrr__, ho__, hal__, hal2__, hde__, hF__⟩ := hP77
  have hz_ : az ≤ t3 := hz__
  have hy_ : t2 ≤ az := hy__
  have hmz_ : mz ≤ 1 := hmz__
  have hb_ : wn ≤ zn := hb__
  have hT_ : ITm zw wn := hT__
  have hS_ : ISm zw wn zn := hS__
  have hR_ : RS kq s0 f0 (xx + (1 - mz)) bz zf zw zc zn az := hR__
  have hN_ : (mz = 0 → bz = 0 → NMk zw wn zn) := hN__
  have hpr_ : (mz = 0 → bz = 0 → t2 < az) := hpr__
  have hrr_ : RR tx t3 gz az ez bz pz := hrr__
  have ho_ : oz ≤ 6 := ho__
  have hal_ : (mz = 1 → bz = 0 → Rch tx t3 (0, (gs, cs, [], oo)) (0, (gz, cz, sz, oz)) ∧ CD cz zf zc ∧ WB sz zw wn zn ∧ opn sz ≤ oz) := hal__
  have hal2_ : (mz = 0 → bz = 0 → Rch tx t3 (0, (gs, cs, [], oo)) (2, (gz, cz, sz, oz)) ∧ CD cz zf zc ∧ WB sz zw wn zn ∧ mkf sz = 0) := hal2__
  have hde_ : (¬ bz = 0 → ∃ c3 s3 o3, Rch tx t3 (0, (gs, cs, [], oo)) (2, (gz, c3, s3, o3))) := hde__
  have hF_ : (∀ j, j < wn → zw j = g52 j) := hF__
  refine j_ws (ws' := [MB mo ma (nI t1) (nI az) (nI t3) ez bz pz i7 i8 i42 i49 (nI zc) (nI zn) (nI oz) (nI wn) i61 i64 i66 (nI t67) i76 i78, (ma 0, .inl (y 0, 1600, .inl (tby tx))), (ma 37, .inl (y 3, 3, .inl (WD 28))), (ma 38, .inl (y 3, 5, .inl (WD 29))), (ma 39, .inl (y 3, 5, .inl (WD 30))), (ma 40, .inl (y 3, 3, .inl (WD 31))), (ma 41, .inl (y 3, 3, .inl (WD 32))), (ma 50, .inl (y 0, 3200, .inl zf)), (ma 52, .inl (y 0, 1700, .inl zw))]) rfl ?_
  refine j_lv (lv' := [(2, .int (nI mz)), (1, .int i59), (0, .ref mo)]) rfl ?_
  have hac := rs_acc hR_
  refine j_iload_n (pc := 15) C d_Model_sumsTold_15 rfl 0 rfl ?_
  by_cases c79 : mz = 0
  · refine j_if_eqT (pc := 16) C (tgt := 53) d_Model_sumsTold_16 (by decide) (show nI mz = nI 0 from (nI_eq (by omega) (by omega)).mpr (by omega)) ?_
    have xh80 : RS kq s0 f0 (xx + 1) bz zf zw zc zn az := (by have hq := hR_; rw [c79] at hq; exact hq)
    refine j_aload_n (pc := 53) C d_Model_sumsTold_53 rfl 2 rfl ?_
    refine j_get (pc := 54) C gf_Model_201 0 rfl rfl d_Model_sumsTold_54 ?_
    refine j_if_ne (pc := 57) C (tgt := 78) d_Model_sumsTold_57 (by decide) (fun c81 => ?_) (fun c81 => ?_)
    · refine j_aload_n (pc := 78) C d_Model_sumsTold_78 rfl 2 rfl ?_
      refine j_iload_n (pc := 79) C d_Model_sumsTold_79 rfl 1 rfl ?_
      refine j_put (pc := 80) C pf_Model_298 0 (ws' := [MB mo ma (nI t1) (nI az) (nI t3) ez bz pz i7 i8 i42 i49 (nI zc) (nI zn) (nI oz) i59 i61 i64 i66 (nI t67) i76 i78, (ma 0, .inl (y 0, 1600, .inl (tby tx))), (ma 37, .inl (y 3, 3, .inl (WD 28))), (ma 38, .inl (y 3, 5, .inl (WD 29))), (ma 39, .inl (y 3, 5, .inl (WD 30))), (ma 40, .inl (y 3, 3, .inl (WD 31))), (ma 41, .inl (y 3, 3, .inl (WD 32))), (ma 50, .inl (y 0, 3200, .inl zf)), (ma 52, .inl (y 0, 1700, .inl zw))]) rfl rfl rfl (nl rfl) rfl d_Model_sumsTold_80 ?_
      exact j_vret (pc := 83) C hr (az, ez, bz, pz, zc, zn, oz, zf, zw) ⟨(show t2 ≤ az by omega), (show az ≤ t3 by omega), (fun e => absurd e c81), (rs_at xh80 (show az ≤ az by omega)), hT_, (show wn ≤ zn by omega), (rr_of hrr_ (sm_dead he he6 ((rr_z hx).mp rfl) (rr_le hx ((rr_z hx).mp rfl)) (hde_ c81) (fun q => c81 ((rr_z hrr_).mpr q)))), (show oz ≤ 6 by omega), (fun e => absurd e c81), hF_⟩ [0, 1, 2, 3, 4, 5, 6, 7, 8] rfl (by decide) (by decide) (by decide) d_Model_sumsTold_83
    · refine j_ws (ws' := [MB mo ma (nI t1) (nI az) (nI t3) ez 0 pz i7 i8 i42 i49 (nI zc) (nI zn) (nI oz) (nI wn) i61 i64 i66 (nI t67) i76 i78, (ma 0, .inl (y 0, 1600, .inl (tby tx))), (ma 37, .inl (y 3, 3, .inl (WD 28))), (ma 38, .inl (y 3, 5, .inl (WD 29))), (ma 39, .inl (y 3, 5, .inl (WD 30))), (ma 40, .inl (y 3, 3, .inl (WD 31))), (ma 41, .inl (y 3, 3, .inl (WD 32))), (ma 50, .inl (y 0, 3200, .inl zf)), (ma 52, .inl (y 0, 1700, .inl zw))]) (by rw [c81]) ?_
      have xh82 : RS kq s0 f0 (xx + 1) 0 zf zw zc zn az := rs_z xh80 c81
      have xh83 : RR tx t3 gz az ez 0 pz := by have hq := hrr_; rw [c81] at hq; exact hq
      have hNM := hN_ c79 c81
      have hpg2 := hpr_ c79 c81
      obtain ⟨xh84, xh85, xh86, xh87⟩ := hal2_ c79 c81
      refine j_loop (α := Nat × Nat × (Nat → Int32) × List Nat × List Nat) (fun a => a.2.1) (fun a => (wn ≤ a.2.1) ∧ (a.2.1 ≤ zn) ∧ (RS kq s0 f0 (xx + 1) 0 a.2.2.1 zw a.1 a.2.1 az) ∧ (WB a.2.2.2.1 zw wn a.2.1) ∧ (CD a.2.2.2.2 a.2.2.1 a.1) ∧ (emt a.2.2.2.1 a.2.2.2.2 = emt sz cz)) (fun a => [MB mo ma (nI t1) (nI az) (nI t3) ez 0 pz i7 i8 i42 i49 (nI a.1) (nI a.2.1) (nI oz) (nI wn) i61 i64 i66 (nI t67) i76 i78, (ma 0, .inl (y 0, 1600, .inl (tby tx))), (ma 37, .inl (y 3, 3, .inl (WD 28))), (ma 38, .inl (y 3, 5, .inl (WD 29))), (ma 39, .inl (y 3, 5, .inl (WD 30))), (ma 40, .inl (y 3, 3, .inl (WD 31))), (ma 41, .inl (y 3, 3, .inl (WD 32))), (ma 50, .inl (y 0, 3200, .inl a.2.2.1)), (ma 52, .inl (y 0, 1700, .inl zw))]) (fun a => [(2, .int (nI mz)), (1, .int i59), (0, .ref mo)]) (zc, zn, zf, sz, cz) rfl rfl ⟨hb_, (show zn ≤ zn by omega), xh82, xh86, xh85, rfl⟩ ?_
      rintro ⟨yc, yn, yf, sy, cy⟩ hP96 ih97
      obtain ⟨hby__, hny__, hRy__, hWy__, hCy__, hEy__⟩ := hP96
      have hby_ : wn ≤ yn := hby__
      have hny_ : yn ≤ zn := hny__
      have hRy_ : RS kq s0 f0 (xx + 1) 0 yf zw yc yn az := hRy__
      have hWy_ : WB sy zw wn yn := hWy__
      have hCy_ : CD cy yf yc := hCy__
      have hEy_ : emt sy cy = emt sz cz := hEy__
      refine j_ws (ws' := [MB mo ma (nI t1) (nI az) (nI t3) ez 0 pz i7 i8 i42 i49 (nI yc) (nI yn) (nI oz) (nI wn) i61 i64 i66 (nI t67) i76 i78, (ma 0, .inl (y 0, 1600, .inl (tby tx))), (ma 37, .inl (y 3, 3, .inl (WD 28))), (ma 38, .inl (y 3, 5, .inl (WD 29))), (ma 39, .inl (y 3, 5, .inl (WD 30))), (ma 40, .inl (y 3, 3, .inl (WD 31))), (ma 41, .inl (y 3, 3, .inl (WD 32))), (ma 50, .inl (y 0, 3200, .inl yf)), (ma 52, .inl (y 0, 1700, .inl zw))]) rfl ?_
      refine j_lv (lv' := [(2, .int (nI mz)), (1, .int i59), (0, .ref mo)]) rfl ?_
      have hacy := rs_ac3 hRy_
      refine j_aload_n (pc := 60) C d_Model_sumsTold_60 rfl 2 rfl ?_
      refine j_get (pc := 61) C gf_Model_292 0 rfl rfl d_Model_sumsTold_61 ?_
      refine j_aload_n (pc := 64) C d_Model_sumsTold_64 rfl 2 rfl ?_
      refine j_get (pc := 65) C gf_Model_298 0 rfl rfl d_Model_sumsTold_65 ?_
      by_cases c98 : yn ≤ wn
      · refine j_icmp_leT (pc := 68) C (tgt := 78) d_Model_sumsTold_68 (by decide) (show nI yn ≤ nI wn from nI_le (by omega) (by omega)) ?_
        refine j_aload_n (pc := 78) C d_Model_sumsTold_78 rfl 2 rfl ?_
        refine j_iload_n (pc := 79) C d_Model_sumsTold_79 rfl 1 rfl ?_
        refine j_put (pc := 80) C pf_Model_298 0 (ws' := [MB mo ma (nI t1) (nI az) (nI t3) ez 0 pz i7 i8 i42 i49 (nI yc) (nI yn) (nI oz) i59 i61 i64 i66 (nI t67) i76 i78, (ma 0, .inl (y 0, 1600, .inl (tby tx))), (ma 37, .inl (y 3, 3, .inl (WD 28))), (ma 38, .inl (y 3, 5, .inl (WD 29))), (ma 39, .inl (y 3, 5, .inl (WD 30))), (ma 40, .inl (y 3, 3, .inl (WD 31))), (ma 41, .inl (y 3, 3, .inl (WD 32))), (ma 50, .inl (y 0, 3200, .inl yf)), (ma 52, .inl (y 0, 1700, .inl zw))]) rfl rfl rfl (nl rfl) rfl d_Model_sumsTold_80 ?_
        have xh99 := sm_alive he he6 ((rr_z hx).mp rfl) (rr_le hx ((rr_z hx).mp rfl)) xh84 ((rr_z xh83).mp rfl)
        exact j_vret (pc := 83) C hr (az, ez, 0, pz, yc, yn, oz, yf, zw) ⟨(show t2 ≤ az by omega), (show az ≤ t3 by omega), (fun _ => ⟨rfl, show t2 < az by omega, show yn = wn by omega⟩), (rs_at hRy_ (show az ≤ az by omega)), hT_, (show wn ≤ yn by omega), (rr_of xh83 xh99.1), (show oz ≤ 6 by omega), (fun _ => ⟨by rw [xh99.2.1, ← hEy_, wb_nil hWy_ (by omega)]; exact hCy_, xh99.2.2⟩), hF_⟩ [0, 1, 2, 3, 4, 5, 6, 7, 8] rfl (by decide) (by decide) (by decide) d_Model_sumsTold_83
      · refine j_icmp_leF (pc := 68) C (tgt := 78) d_Model_sumsTold_68 (by decide) (show ¬ nI yn ≤ nI wn from nI_ge (by omega) (by omega)) ?_
        obtain ⟨vq100, sq101, xh102, xh103, xh104, xh105⟩ := wb_top hWy_ (show wn < yn by omega)
        refine j_aload_n (pc := 71) C d_Model_sumsTold_71 rfl 2 rfl ?_
        refine j_callVv (pc := 72) C (c_M_drops l D y mo ma t1 az t3 ez 0 pz i7 i8 i42 i49 yc yn (nI oz) (nI wn) i61 i64 i66 t67 i76 i78 yf zw (by omega) (by omega) (by omega)) kw_Model_350 kv_Model_drops 0 10 rfl rfl ⟨by decide, by decide⟩ ⟨by decide, by decide⟩ (wr := [(ma 0, .inl (y 0, 1600, .inl (tby tx))), (ma 37, .inl (y 3, 3, .inl (WD 28))), (ma 38, .inl (y 3, 5, .inl (WD 29))), (ma 39, .inl (y 3, 5, .inl (WD 30))), (ma 40, .inl (y 3, 3, .inl (WD 31))), (ma 41, .inl (y 3, 3, .inl (WD 32)))]) [0, 7, 8] [1, 2, 3, 4, 5, 6] rfl rfl (by decide +kernel) (by decide +kernel) (by decide +kernel) (As := []) (rest := []) rfl (nb rfl) rfl d_Model_sumsTold_72 (fun _ _ => ?_)
        refine j_ws (ws' := [(ma 0, .inl (y 0, 1600, .inl (tby tx))), (ma 37, .inl (y 3, 3, .inl (WD 28))), (ma 38, .inl (y 3, 5, .inl (WD 29))), (ma 39, .inl (y 3, 5, .inl (WD 30))), (ma 40, .inl (y 3, 3, .inl (WD 31))), (ma 41, .inl (y 3, 3, .inl (WD 32))), MB mo ma (nI t1) (nI az) (nI t3) ez 0 pz i7 i8 i42 i49 (nI (yc + 1)) (nI (yn - 1)) (nI oz) (nI wn) i61 i64 i66 (nI t67) i76 i78, (ma 50, .inl (y 0, 3200, .inl (upd yf yc (zw (yn - 1))))), (ma 52, .inl (y 0, 1700, .inl zw))]) rfl ?_
        refine j_goto (pc := 75) C (tgt := 53) d_Model_sumsTold_75 (by decide) ?_
        refine j_aload_n (pc := 53) C d_Model_sumsTold_53 rfl 2 rfl ?_
        refine j_get (pc := 54) C gf_Model_201 6 rfl rfl d_Model_sumsTold_54 ?_
        refine j_if_neF (pc := 57) C (tgt := 78) d_Model_sumsTold_57 (by decide) (by decide) ?_
        refine j_sub (ws' := [MB mo ma (nI t1) (nI az) (nI t3) ez 0 pz i7 i8 i42 i49 (nI (yc + 1)) (nI (yn - 1)) (nI oz) (nI wn) i61 i64 i66 (nI t67) i76 i78, (ma 0, .inl (y 0, 1600, .inl (tby tx))), (ma 37, .inl (y 3, 3, .inl (WD 28))), (ma 38, .inl (y 3, 5, .inl (WD 29))), (ma 39, .inl (y 3, 5, .inl (WD 30))), (ma 40, .inl (y 3, 3, .inl (WD 31))), (ma 41, .inl (y 3, 3, .inl (WD 32))), (ma 50, .inl (y 0, 3200, .inl (upd yf yc (zw (yn - 1))))), (ma 52, .inl (y 0, 1700, .inl zw))]) [6, 0, 1, 2, 3, 4, 5, 7, 8] rfl (by decide +kernel) ?_
        exact ih97 ((yc + 1), (yn - 1), (upd yf yc (zw (yn - 1))), sq101, (putS vq100 cy)) ⟨(show wn ≤ (yn - 1) by omega), (show (yn - 1) ≤ zn by omega), (show RS kq s0 f0 (xx + 1) 0 (upd yf yc (zw (yn - 1))) zw (yc + 1) (yn - 1) az from rs_drop hRy_ (by omega) (show yn = yn - 1 + 1 by omega) (Or.inl (si_nm (hS_ (yn - 1) (by omega) (by omega)) (hNM (yn - 1) (by omega) (by omega))))), xh105, (show CD (putS vq100 cy) (upd yf yc (zw (yn - 1))) (yc + 1) from cd_put hCy_ (by omega) xh103 (by omega)), (show emt sq101 (putS vq100 cy) = emt sz cz by rw [← hEy_, xh102]; rfl)⟩ (show (yn - 1) < yn by omega)
  · refine j_if_eqF (pc := 16) C (tgt := 53) d_Model_sumsTold_16 (by decide) (show ¬ nI mz = nI 0 from fun e => absurd ((nI_eq (by omega) (by omega)).mp e) (by omega)) ?_
    refine j_aload_n (pc := 19) C d_Model_sumsTold_19 rfl 2 rfl ?_
    refine j_get (pc := 20) C gf_Model_201 0 rfl rfl d_Model_sumsTold_20 ?_
    refine j_if_ne (pc := 23) C (tgt := 53) d_Model_sumsTold_23 (by decide) (fun c106 => ?_) (fun c106 => ?_)
    · have xh107 : RS kq s0 f0 (xx + 1) bz zf zw zc zn az := rs_bad hR_ c106
      refine j_aload_n (pc := 53) C d_Model_sumsTold_53 rfl 2 rfl ?_
      refine j_get (pc := 54) C gf_Model_201 0 rfl rfl d_Model_sumsTold_54 ?_
      refine j_if_neT (pc := 57) C (tgt := 78) d_Model_sumsTold_57 (by decide) c106 ?_
      refine j_aload_n (pc := 78) C d_Model_sumsTold_78 rfl 2 rfl ?_
      refine j_iload_n (pc := 79) C d_Model_sumsTold_79 rfl 1 rfl ?_
      refine j_put (pc := 80) C pf_Model_298 0 (ws' := [MB mo ma (nI t1) (nI az) (nI t3) ez bz pz i7 i8 i42 i49 (nI zc) (nI zn) (nI oz) i59 i61 i64 i66 (nI t67) i76 i78, (ma 0, .inl (y 0, 1600, .inl (tby tx))), (ma 37, .inl (y 3, 3, .inl (WD 28))), (ma 38, .inl (y 3, 5, .inl (WD 29))), (ma 39, .inl (y 3, 5, .inl (WD 30))), (ma 40, .inl (y 3, 3, .inl (WD 31))), (ma 41, .inl (y 3, 3, .inl (WD 32))), (ma 50, .inl (y 0, 3200, .inl zf)), (ma 52, .inl (y 0, 1700, .inl zw))]) rfl rfl rfl (nl rfl) rfl d_Model_sumsTold_80 ?_
      exact j_vret (pc := 83) C hr (az, ez, bz, pz, zc, zn, oz, zf, zw) ⟨(show t2 ≤ az by omega), (show az ≤ t3 by omega), (fun e => absurd e c106), (rs_at xh107 (show az ≤ az by omega)), hT_, (show wn ≤ zn by omega), (rr_of hrr_ (sm_dead he he6 ((rr_z hx).mp rfl) (rr_le hx ((rr_z hx).mp rfl)) (hde_ c106) (fun q => c106 ((rr_z hrr_).mpr q)))), (show oz ≤ 6 by omega), (fun e => absurd e c106), hF_⟩ [0, 1, 2, 3, 4, 5, 6, 7, 8] rfl (by decide) (by decide) (by decide) d_Model_sumsTold_83
    · have hm1 : mz = 1 := by omega
      have xh108 : RS kq s0 f0 xx bz zf zw zc zn az := (by have hq := hR_; rw [hm1] at hq; exact hq)
      refine j_ws (ws' := [MB mo ma (nI t1) (nI az) (nI t3) ez 0 pz i7 i8 i42 i49 (nI zc) (nI zn) (nI oz) (nI wn) i61 i64 i66 (nI t67) i76 i78, (ma 0, .inl (y 0, 1600, .inl (tby tx))), (ma 37, .inl (y 3, 3, .inl (WD 28))), (ma 38, .inl (y 3, 5, .inl (WD 29))), (ma 39, .inl (y 3, 5, .inl (WD 30))), (ma 40, .inl (y 3, 3, .inl (WD 31))), (ma 41, .inl (y 3, 3, .inl (WD 32))), (ma 50, .inl (y 0, 3200, .inl zf)), (ma 52, .inl (y 0, 1700, .inl zw))]) (by rw [c106]) ?_
      have xh109 : RS kq s0 f0 xx 0 zf zw zc zn az := rs_z xh108 c106
      have xh110 : RR tx t3 gz az ez 0 pz := by have hq := hrr_; rw [c106] at hq; exact hq
      obtain ⟨xh111, xh112, xh113, xh114⟩ := hal_ hm1 c106
      refine j_aload_n (pc := 26) C d_Model_sumsTold_26 rfl 2 rfl ?_
      refine j_callVv (pc := 27) C (c_M_onePart l D y mo ma t1 az t3 ez pz i7 i8 i42 i49 zc zn oz wn i61 i64 i66 t67 i76 i78 tx zf zw gz s0 xx sz cz kq f0 hz_ he hB xh110 xh109 hT_ hS_ hb_ xh113 xh112 xh114 (by omega) hK) kw_Model_365 kv_Model_onePart 0 10 rfl rfl ⟨by decide, by decide⟩ ⟨by decide, by decide⟩ (wr := []) [0, 1, 2, 3, 4, 5, 6, 7, 8] [] rfl rfl (by decide +kernel) (by decide +kernel) (by decide +kernel) (As := []) (rest := []) rfl (nb rfl) rfl d_Model_sumsTold_27 (fun u115 hu116 => ?_)
      obtain ⟨xh117, xh118, xh119, xh120, xh121, xh122, xh123, xh124, xh125, xh126, xh127, xh128⟩ := hu116
      refine j_ws (ws' := [MB mo ma (nI t1) (nI u115.1) (nI t3) u115.2.1 u115.2.2.1 u115.2.2.2.1 i7 i8 i42 i49 (nI u115.2.2.2.2.1) (nI u115.2.2.2.2.2.1) (nI u115.2.2.2.2.2.2.1) (nI wn) i61 i64 i66 (nI t67) i76 i78, (ma 0, .inl (y 0, 1600, .inl (tby tx))), (ma 37, .inl (y 3, 3, .inl (WD 28))), (ma 38, .inl (y 3, 5, .inl (WD 29))), (ma 39, .inl (y 3, 5, .inl (WD 30))), (ma 40, .inl (y 3, 3, .inl (WD 31))), (ma 41, .inl (y 3, 3, .inl (WD 32))), (ma 50, .inl (y 0, 3200, .inl u115.2.2.2.2.2.2.2.1)), (ma 52, .inl (y 0, 1700, .inl u115.2.2.2.2.2.2.2.2.1))]) rfl ?_
      by_cases c129 : u115.2.2.1 = 0
      · have hpg := (xh119 c129).2
        refine j_ws (ws' := [MB mo ma (nI t1) (nI u115.1) (nI t3) u115.2.1 0 u115.2.2.2.1 i7 i8 i42 i49 (nI u115.2.2.2.2.1) (nI u115.2.2.2.2.2.1) (nI u115.2.2.2.2.2.2.1) (nI wn) i61 i64 i66 (nI t67) i76 i78, (ma 0, .inl (y 0, 1600, .inl (tby tx))), (ma 37, .inl (y 3, 3, .inl (WD 28))), (ma 38, .inl (y 3, 5, .inl (WD 29))), (ma 39, .inl (y 3, 5, .inl (WD 30))), (ma 40, .inl (y 3, 3, .inl (WD 31))), (ma 41, .inl (y 3, 3, .inl (WD 32))), (ma 50, .inl (y 0, 3200, .inl u115.2.2.2.2.2.2.2.1)), (ma 52, .inl (y 0, 1700, .inl u115.2.2.2.2.2.2.2.2.1))]) (by rw [c129]) ?_
        have xh130 : RS kq s0 f0 (xx + 1) 0 u115.2.2.2.2.2.2.2.1 u115.2.2.2.2.2.2.2.2.1 u115.2.2.2.2.1 u115.2.2.2.2.2.1 u115.1 := rs_z xh120 c129
        have xh131 : RR tx t3 u115.2.2.2.2.2.2.2.2.2.1 u115.1 u115.2.1 0 u115.2.2.2.1 := by have hq := xh124; rw [c129] at hq; exact hq
        refine j_aload_n (pc := 30) C d_Model_sumsTold_30 rfl 2 rfl ?_
        refine j_get (pc := 31) C gf_Model_201 0 rfl rfl d_Model_sumsTold_31 ?_
        refine j_if_neF (pc := 34) C (tgt := 48) d_Model_sumsTold_34 (by decide) (by decide) ?_
        obtain ⟨xh132, xh133, xh134, xh135⟩ := xh127 c129
        have xh136 := xh111.tr xh132
        refine j_aload_n (pc := 37) C d_Model_sumsTold_37 rfl 2 rfl ?_
        refine j_callVi (pc := 38) C (c_M_goesOn l D y mo ma t1 u115.1 t3 u115.2.1 u115.2.2.2.1 i7 i8 i42 i49 u115.2.2.2.2.1 u115.2.2.2.2.2.1 u115.2.2.2.2.2.2.1 wn i61 i64 i66 t67 i76 i78 tx u115.2.2.2.2.2.2.2.1 u115.2.2.2.2.2.2.2.2.1 u115.2.2.2.2.2.2.2.2.2.1 s0 xx u115.2.2.2.2.2.2.2.2.2.2.2 u115.2.2.2.2.2.2.2.2.2.2.1 kq f0 xh118 he hB xh131 xh130 xh121 xh122 xh123 xh134 xh133 xh135 (by omega) hK) kw_Model_368 kv_Model_goesOn 0 10 rfl rfl ⟨by decide, by decide⟩ ⟨by decide, by decide⟩ (wr := [(ma 37, .inl (y 3, 3, .inl (WD 28))), (ma 38, .inl (y 3, 5, .inl (WD 29))), (ma 39, .inl (y 3, 5, .inl (WD 30))), (ma 40, .inl (y 3, 3, .inl (WD 31))), (ma 41, .inl (y 3, 3, .inl (WD 32)))]) [0, 1, 7, 8] [2, 3, 4, 5, 6] rfl rfl (by decide +kernel) (by decide +kernel) (by decide +kernel) (As := []) (rest := []) rfl (nb rfl) rfl d_Model_sumsTold_38 (fun r137 u138 hr137 => ?_)
        refine j_ws (ws' := [(ma 37, .inl (y 3, 3, .inl (WD 28))), (ma 38, .inl (y 3, 5, .inl (WD 29))), (ma 39, .inl (y 3, 5, .inl (WD 30))), (ma 40, .inl (y 3, 3, .inl (WD 31))), (ma 41, .inl (y 3, 3, .inl (WD 32))), MB mo ma (nI t1) (nI u138.1) (nI t3) u115.2.1 u138.2.1 u138.2.2.1 i7 i8 i42 i49 (nI u138.2.2.2.1) (nI u138.2.2.2.2.1) (nI u138.2.2.2.2.2.1) (nI wn) i61 i64 i66 (nI t67) i76 i78, (ma 0, .inl (y 0, 1600, .inl (tby tx))), (ma 50, .inl (y 0, 3200, .inl u138.2.2.2.2.2.2.1)), (ma 52, .inl (y 0, 1700, .inl u138.2.2.2.2.2.2.2.1))]) rfl ?_
        obtain ⟨xh139, xh140, xh141, xh142, xh143, xh144, xh145, xh146, xh147, xh148⟩ := hr137
        rcases xh148 with ⟨rfl, e149, xh150, xh151⟩ | ⟨rfl, xh152, xh153, xh154⟩
        · refine j_if_eqF (pc := 41) C (tgt := 48) d_Model_sumsTold_41 (by decide) (by decide) ?_
          refine j_iconst (pc := 44) C (v := 1) d_Model_sumsTold_44 (by decide) ?_
          refine j_goto (pc := 45) C (tgt := 49) d_Model_sumsTold_45 (by decide) ?_
          refine j_istore_n (pc := 49) C (lv' := [(2, .int 1), (1, .int i59), (0, .ref mo)]) d_Model_sumsTold_49 rfl (by decide) rfl ?_
          refine j_goto (pc := 50) C (tgt := 15) d_Model_sumsTold_50 (by decide) ?_
          refine j_sub (ws' := [MB mo ma (nI t1) (nI u138.1) (nI t3) u115.2.1 u138.2.1 u138.2.2.1 i7 i8 i42 i49 (nI u138.2.2.2.1) (nI u138.2.2.2.2.1) (nI u138.2.2.2.2.2.1) (nI wn) i61 i64 i66 (nI t67) i76 i78, (ma 0, .inl (y 0, 1600, .inl (tby tx))), (ma 37, .inl (y 3, 3, .inl (WD 28))), (ma 38, .inl (y 3, 5, .inl (WD 29))), (ma 39, .inl (y 3, 5, .inl (WD 30))), (ma 40, .inl (y 3, 3, .inl (WD 31))), (ma 41, .inl (y 3, 3, .inl (WD 32))), (ma 50, .inl (y 0, 3200, .inl u138.2.2.2.2.2.2.1)), (ma 52, .inl (y 0, 1700, .inl u138.2.2.2.2.2.2.2.1))]) [5, 6, 0, 1, 2, 3, 4, 7, 8] rfl (by decide +kernel) ?_
          have hz1 := bz_e c106
          have hz0 := bz_le u138.2.1
          have hz2 : bz1 u138.2.1 = 0 ∨ az + 1 ≤ u138.1 := by
            by_cases e : u138.2.1 = 0
            · exact Or.inr (by have f0 := xh141 e; have g0 := f0.2; omega)
            · exact Or.inl (bz_0 e)
          exact ih78 (1, u138.1, u138.2.1, u138.2.2.2.2.1, u138.2.2.2.1, u138.2.2.2.2.2.2.1, u138.2.2.2.2.2.2.2.1, u115.2.1, u138.2.2.1, u138.2.2.2.2.2.1, u138.2.2.2.2.2.2.2.2.1, u138.2.2.2.2.2.2.2.2.2.1, u138.2.2.2.2.2.2.2.2.2.2) ⟨xh140, (show t2 ≤ u138.1 by omega), (show 1 ≤ 1 by omega), xh144, xh142, xh143, (show RS kq s0 f0 (xx + (1 - 1)) u138.2.1 u138.2.2.2.2.2.2.1 u138.2.2.2.2.2.2.2.1 u138.2.2.2.1 u138.2.2.2.2.1 u138.1 from rs_at xh150 (by omega)), (fun e => absurd e (by omega)), (fun e => absurd e (by omega)), (show RR tx t3 u138.2.2.2.2.2.2.2.2.1 u138.1 u115.2.1 u138.2.1 u138.2.2.1 from xh145), xh147, (fun _ _ => ⟨(xh136.tr xh151.1), xh151.2.1, xh151.2.2.1, xh151.2.2.2⟩), (fun e => absurd (show (1 : Nat) = 0 from e) (by omega)), (fun e => absurd e149 e), (fun j hj => (xh146 j hj).trans ((xh125 j hj).trans (hF_ j hj)))⟩ (show 2 * (t3 - u138.1) + bz1 u138.2.1 + 1 < 2 * (t3 - az) + bz1 bz + mz by omega)
        · refine j_if_eqT (pc := 41) C (tgt := 48) d_Model_sumsTold_41 (by decide) (by decide) ?_
          refine j_iconst (pc := 48) C (v := 0) d_Model_sumsTold_48 (by decide) ?_
          refine j_istore_n (pc := 49) C (lv' := [(2, .int 0), (1, .int i59), (0, .ref mo)]) d_Model_sumsTold_49 rfl (by decide) rfl ?_
          refine j_goto (pc := 50) C (tgt := 15) d_Model_sumsTold_50 (by decide) ?_
          refine j_sub (ws' := [MB mo ma (nI t1) (nI u138.1) (nI t3) u115.2.1 u138.2.1 u138.2.2.1 i7 i8 i42 i49 (nI u138.2.2.2.1) (nI u138.2.2.2.2.1) (nI u138.2.2.2.2.2.1) (nI wn) i61 i64 i66 (nI t67) i76 i78, (ma 0, .inl (y 0, 1600, .inl (tby tx))), (ma 37, .inl (y 3, 3, .inl (WD 28))), (ma 38, .inl (y 3, 5, .inl (WD 29))), (ma 39, .inl (y 3, 5, .inl (WD 30))), (ma 40, .inl (y 3, 3, .inl (WD 31))), (ma 41, .inl (y 3, 3, .inl (WD 32))), (ma 50, .inl (y 0, 3200, .inl u138.2.2.2.2.2.2.1)), (ma 52, .inl (y 0, 1700, .inl u138.2.2.2.2.2.2.2.1))]) [5, 6, 0, 1, 2, 3, 4, 7, 8] rfl (by decide +kernel) ?_
          have hz1 := bz_e c106
          have hz0 := bz_le u138.2.1
          exact ih78 (0, u138.1, u138.2.1, u138.2.2.2.2.1, u138.2.2.2.1, u138.2.2.2.2.2.2.1, u138.2.2.2.2.2.2.2.1, u115.2.1, u138.2.2.1, u138.2.2.2.2.2.1, u138.2.2.2.2.2.2.2.2.1, u138.2.2.2.2.2.2.2.2.2.1, u138.2.2.2.2.2.2.2.2.2.2) ⟨xh140, (show t2 ≤ u138.1 by omega), (show 0 ≤ 1 by omega), xh144, xh142, xh143, (show RS kq s0 f0 (xx + (1 - 0)) u138.2.1 u138.2.2.2.2.2.2.1 u138.2.2.2.2.2.2.2.1 u138.2.2.2.1 u138.2.2.2.2.1 u138.1 from rs_at xh152 (by omega)), (fun _ e => (xh153 e).1), (fun _ _ => (show t2 < u138.1 by omega)), (show RR tx t3 u138.2.2.2.2.2.2.2.2.1 u138.1 u115.2.1 u138.2.1 u138.2.2.1 from xh145), xh147, (fun e => absurd (show (0 : Nat) = 1 from e) (by decide)), (fun _ e => ⟨xh136.tr (xh153 e).2.1, (xh153 e).2.2.1, (xh153 e).2.2.2.1, (xh153 e).2.2.2.2⟩), (fun e => by obtain ⟨c3, s3, o3, h3_⟩ := xh154 e; exact ⟨c3, s3, o3, xh136.tr h3_⟩), (fun j hj => (xh146 j hj).trans ((xh125 j hj).trans (hF_ j hj)))⟩ (show 2 * (t3 - u138.1) + bz1 u138.2.1 + 0 < 2 * (t3 - az) + bz1 bz + mz by omega)
      · refine j_aload_n (pc := 30) C d_Model_sumsTold_30 rfl 2 rfl ?_
        refine j_get (pc := 31) C gf_Model_201 0 rfl rfl d_Model_sumsTold_31 ?_
        refine j_if_neT (pc := 34) C (tgt := 48) d_Model_sumsTold_34 (by decide) c129 ?_
        refine j_iconst (pc := 48) C (v := 0) d_Model_sumsTold_48 (by decide) ?_
        refine j_istore_n (pc := 49) C (lv' := [(2, .int 0), (1, .int i59), (0, .ref mo)]) d_Model_sumsTold_49 rfl (by decide) rfl ?_
        refine j_goto (pc := 50) C (tgt := 15) d_Model_sumsTold_50 (by decide) ?_
        have hz1 := bz_e c106
        have hz0 := bz_le u115.2.2.1
        exact ih78 (0, u115.1, u115.2.2.1, u115.2.2.2.2.2.1, u115.2.2.2.2.1, u115.2.2.2.2.2.2.2.1, u115.2.2.2.2.2.2.2.2.1, u115.2.1, u115.2.2.2.1, u115.2.2.2.2.2.2.1, u115.2.2.2.2.2.2.2.2.2.1, u115.2.2.2.2.2.2.2.2.2.2.1, u115.2.2.2.2.2.2.2.2.2.2.2) ⟨xh118, (show t2 ≤ u115.1 by omega), (show 0 ≤ 1 by omega), xh123, xh121, xh122, (show RS kq s0 f0 (xx + (1 - 0)) u115.2.2.1 u115.2.2.2.2.2.2.2.1 u115.2.2.2.2.2.2.2.2.1 u115.2.2.2.2.1 u115.2.2.2.2.2.1 u115.1 from rs_at xh120 (by omega)), (fun _ e => absurd e c129), (fun _ e => absurd e c129), (show RR tx t3 u115.2.2.2.2.2.2.2.2.2.1 u115.1 u115.2.1 u115.2.2.1 u115.2.2.2.1 from xh124), xh126, (fun e => absurd (show (0 : Nat) = 1 from e) (by decide)), (fun _ e => absurd e c129), (fun e => by obtain ⟨c3, s3, o3, h3_⟩ := xh128 e; exact ⟨c3, s3, o3, xh111.tr h3_⟩), (fun j hj => (xh125 j hj).trans (hF_ j hj))⟩ (show 2 * (t3 - u115.1) + bz1 u115.2.2.1 + 0 < 2 * (t3 - az) + bz1 bz + mz by omega)
theorem d_Model_fact_0 : decode prog_13_method_41_code 0 = .ok (.aload_n 0, 1) := by decide +kernel
theorem d_Model_fact_1 : decode prog_13_method_41_code 1 = .ok (.aload_n 0, 1) := by decide +kernel
theorem d_Model_fact_2 : decode prog_13_method_41_code 2 = .ok (.getfield 99, 3) := by decide +kernel
theorem d_Model_fact_5 : decode prog_13_method_41_code 5 = .ok (.invokevirtual 228, 3) := by decide +kernel
theorem d_Model_fact_8 : decode prog_13_method_41_code 8 = .ok (.ifCond .eq 10, 3) := by decide +kernel
theorem d_Model_fact_18 : decode prog_13_method_41_code 18 = .ok (.aload_n 0, 1) := by decide +kernel
theorem d_Model_fact_19 : decode prog_13_method_41_code 19 = .ok (.invokevirtual 301, 3) := by decide +kernel
theorem kw_Model_301 : KW "NineBoardsModel" 301 ⟨"NineBoardsModel", "sumsTold", "()V"⟩ prog_13_method_40_code 3 none 0 := ⟨(mt_6 (List.mem_of_getElem? (i := 199) rfl) rfl), (mt_1 (List.mem_of_getElem? (i := 16) rfl) rfl), (mt_6 (List.mem_of_getElem? (i := 202) rfl) rfl), by decide +kernel⟩
theorem kv_Model_sumsTold : Cond.instanceMethod ⟨"NineBoardsModel", "sumsTold", "()V"⟩ ∈ TB ∧ Cond.selects "NineBoardsModel" ⟨"NineBoardsModel", "sumsTold", "()V"⟩ ⟨"NineBoardsModel", "sumsTold", "()V"⟩ ∈ TB := ⟨(mt_6 (List.mem_of_getElem? (i := 201) rfl) rfl), (ms_0 (List.mem_map.mpr ⟨(⟨"NineBoardsModel", "sumsTold", "()V"⟩, 79), List.mem_of_getElem? (i := 71) (by decide +kernel), rfl⟩) rfl)⟩
theorem d_Model_fact_22 : decode prog_13_method_41_code 22 = .ok (.aload_n 0, 1) := by decide +kernel
theorem d_Model_fact_23 : decode prog_13_method_41_code 23 = .ok (.getfield 201, 3) := by decide +kernel
theorem d_Model_fact_26 : decode prog_13_method_41_code 26 = .ok (.ifCond .eq 4, 3) := by decide +kernel
theorem d_Model_fact_30 : decode prog_13_method_41_code 30 = .ok (.aload_n 0, 1) := by decide +kernel
theorem d_Model_fact_31 : decode prog_13_method_41_code 31 = .ok (.invokevirtual 213, 3) := by decide +kernel
theorem d_Model_fact_34 : decode prog_13_method_41_code 34 = .ok (.istore_n 1, 1) := by decide +kernel
theorem d_Model_fact_35 : decode prog_13_method_41_code 35 = .ok (.iload_n 1, 1) := by decide +kernel
theorem d_Model_fact_36 : decode prog_13_method_41_code 36 = .ok (.bipush 60, 2) := by decide +kernel
theorem d_Model_fact_38 : decode prog_13_method_41_code 38 = .ok (.if_icmp .eq 25, 3) := by decide +kernel
theorem d_Model_fact_41 : decode prog_13_method_41_code 41 = .ok (.iload_n 1, 1) := by decide +kernel
theorem d_Model_fact_42 : decode prog_13_method_41_code 42 = .ok (.bipush 62, 2) := by decide +kernel
theorem d_Model_fact_44 : decode prog_13_method_41_code 44 = .ok (.if_icmp .eq 19, 3) := by decide +kernel
theorem d_Model_fact_47 : decode prog_13_method_41_code 47 = .ok (.iload_n 1, 1) := by decide +kernel
theorem d_Model_fact_48 : decode prog_13_method_41_code 48 = .ok (.bipush 61, 2) := by decide +kernel
theorem d_Model_fact_50 : decode prog_13_method_41_code 50 = .ok (.if_icmp .eq 13, 3) := by decide +kernel
theorem d_Model_fact_53 : decode prog_13_method_41_code 53 = .ok (.aload_n 0, 1) := by decide +kernel
theorem d_Model_fact_54 : decode prog_13_method_41_code 54 = .ok (.iconst 1, 1) := by decide +kernel
theorem d_Model_fact_55 : decode prog_13_method_41_code 55 = .ok (.aload_n 0, 1) := by decide +kernel
theorem d_Model_fact_56 : decode prog_13_method_41_code 56 = .ok (.getfield 207, 3) := by decide +kernel
theorem d_Model_fact_59 : decode prog_13_method_41_code 59 = .ok (.invokevirtual 230, 3) := by decide +kernel
theorem d_Model_fact_62 : decode prog_13_method_41_code 62 = .ok (.return_, 1) := by decide +kernel
theorem d_Model_fact_63 : decode prog_13_method_41_code 63 = .ok (.aload_n 0, 1) := by decide +kernel
theorem d_Model_fact_64 : decode prog_13_method_41_code 64 = .ok (.dup, 1) := by decide +kernel
theorem d_Model_fact_65 : decode prog_13_method_41_code 65 = .ok (.getfield 207, 3) := by decide +kernel
theorem d_Model_fact_68 : decode prog_13_method_41_code 68 = .ok (.iconst 1, 1) := by decide +kernel
theorem d_Model_fact_69 : decode prog_13_method_41_code 69 = .ok (.iadd, 1) := by decide +kernel
theorem d_Model_fact_70 : decode prog_13_method_41_code 70 = .ok (.putfield 207, 3) := by decide +kernel
theorem d_Model_fact_73 : decode prog_13_method_41_code 73 = .ok (.aload_n 0, 1) := by decide +kernel
theorem d_Model_fact_74 : decode prog_13_method_41_code 74 = .ok (.invokevirtual 301, 3) := by decide +kernel
theorem d_Model_fact_77 : decode prog_13_method_41_code 77 = .ok (.aload_n 0, 1) := by decide +kernel
theorem d_Model_fact_78 : decode prog_13_method_41_code 78 = .ok (.iload_n 1, 1) := by decide +kernel
theorem d_Model_fact_79 : decode prog_13_method_41_code 79 = .ok (.bipush 60, 2) := by decide +kernel
theorem d_Model_fact_81 : decode prog_13_method_41_code 81 = .ok (.if_icmp .ne 8, 3) := by decide +kernel
theorem d_Model_fact_84 : decode prog_13_method_41_code 84 = .ok (.bipush 11, 2) := by decide +kernel
theorem d_Model_fact_86 : decode prog_13_method_41_code 86 = .ok (.goto 16, 3) := by decide +kernel
theorem d_Model_fact_102 : decode prog_13_method_41_code 102 = .ok (.invokevirtual 344, 3) := by decide +kernel
theorem d_Model_fact_105 : decode prog_13_method_41_code 105 = .ok (.return_, 1) := by decide +kernel
theorem d_Model_fact_89 : decode prog_13_method_41_code 89 = .ok (.iload_n 1, 1) := by decide +kernel
theorem d_Model_fact_90 : decode prog_13_method_41_code 90 = .ok (.bipush 62, 2) := by decide +kernel
theorem d_Model_fact_92 : decode prog_13_method_41_code 92 = .ok (.if_icmp .ne 8, 3) := by decide +kernel
theorem d_Model_fact_95 : decode prog_13_method_41_code 95 = .ok (.bipush 12, 2) := by decide +kernel
theorem d_Model_fact_97 : decode prog_13_method_41_code 97 = .ok (.goto 5, 3) := by decide +kernel
theorem d_Model_fact_100 : decode prog_13_method_41_code 100 = .ok (.bipush 13, 2) := by decide +kernel
theorem d_Model_fact_29 : decode prog_13_method_41_code 29 = .ok (.return_, 1) := by decide +kernel
theorem d_Model_fact_11 : decode prog_13_method_41_code 11 = .ok (.aload_n 0, 1) := by decide +kernel
theorem d_Model_fact_12 : decode prog_13_method_41_code 12 = .ok (.bipush 17, 2) := by decide +kernel
theorem d_Model_fact_14 : decode prog_13_method_41_code 14 = .ok (.invokevirtual 344, 3) := by decide +kernel
theorem d_Model_fact_17 : decode prog_13_method_41_code 17 = .ok (.return_, 1) := by decide +kernel
set_option maxHeartbeats 4000000 in
set_option maxRecDepth 100000 in
theorem c_M_fact (l : Launch) (D : va_G) (y : Nat → ClassId) (mo : Nat) (ma : Nat → Nat) (t1 : Nat) (t2 : Nat) (t3 : Nat) (i4 : Int32) (i6 : Int32) (i7 : Int32) (i8 : Int32) (i42 : Int32) (i49 : Int32) (cd : Nat) (wn : Nat) (oo : Nat) (i59 : Int32) (i61 : Int32) (i64 : Int32) (i66 : Int32) (t67 : Nat) (i76 : Int64) (i78 : Int32) (tx : Nat → Nat) (g50 : Nat → Int32) (g52 : Nat → Int32) (gs : PS) (s0 : Nat) (xx : Nat) (cs : List Nat) (kq : Nat) (f0 : Nat → Int32) (en : Nat) (ha : t2 ≤ t3) (he : t3 ≤ 1600) (hB : ∀ j, tx j < 256) (hx : RR tx t3 gs t2 i4 0 i6) (hR : RS kq s0 f0 xx 0 g50 g52 cd wn t2) (hTT : ITm g52 wn) (hcd : CD cs g50 cd) (he6 : oo + en = 6) (hK : 1 ≤ kq) : CT l D y ⟨"NineBoardsModel", "fact", "()V"⟩ prog_13_method_41_code 2 none ({ frames := 6, cells := 0, slots := 0, locals := 131 } : Room) [.ref mo] [MB mo ma (nI t1) (nI t2) (nI t3) i4 0 i6 i7 i8 i42 i49 (nI cd) (nI wn) (nI oo) i59 i61 i64 i66 (nI t67) i76 i78, (ma 0, .inl (y 0, 1600, .inl (tby tx))), (ma 36, .inl (y 3, 3, .inl (WD 27))), (ma 37, .inl (y 3, 3, .inl (WD 28))), (ma 38, .inl (y 3, 5, .inl (WD 29))), (ma 39, .inl (y 3, 5, .inl (WD 30))), (ma 40, .inl (y 3, 3, .inl (WD 31))), (ma 41, .inl (y 3, 3, .inl (WD 32))), (ma 50, .inl (y 0, 3200, .inl g50)), (ma 52, .inl (y 0, 1700, .inl g52))] (QV D [MB mo ma (nI t1) (nI t2) (nI t3) i4 0 i6 i7 i8 i42 i49 (nI cd) (nI wn) (nI oo) i59 i61 i64 i66 (nI t67) i76 i78, (ma 0, .inl (y 0, 1600, .inl (tby tx))), (ma 36, .inl (y 3, 3, .inl (WD 27))), (ma 37, .inl (y 3, 3, .inl (WD 28))), (ma 38, .inl (y 3, 5, .inl (WD 29))), (ma 39, .inl (y 3, 5, .inl (WD 30))), (ma 40, .inl (y 3, 3, .inl (WD 31))), (ma 41, .inl (y 3, 3, .inl (WD 32))), (ma 50, .inl (y 0, 3200, .inl g50)), (ma 52, .inl (y 0, 1700, .inl g52))] (fun (u : Nat × Int32 × Int32 × Int32 × Nat × Nat × Nat × (Nat → Int32) × (Nat → Int32)) => t2 ≤ u.1 ∧ u.1 ≤ t3 ∧ (u.2.2.1 = 0 → 0 = 0 ∧ t2 < u.1 ∧ u.2.2.2.2.2.1 = wn) ∧ RS kq s0 f0 (xx + 1) u.2.2.1 u.2.2.2.2.2.2.2.1 u.2.2.2.2.2.2.2.2 u.2.2.2.2.1 u.2.2.2.2.2.1 u.1 ∧ ITm u.2.2.2.2.2.2.2.2 wn ∧ wn ≤ u.2.2.2.2.2.1 ∧ RR tx t3 ((fact0 tx t3 en (gs, cs)).1) u.1 u.2.1 u.2.2.1 u.2.2.2.1 ∧ u.2.2.2.2.2.2.1 ≤ 6 ∧ (u.2.2.1 = 0 → CD (fact0 tx t3 en (gs, cs)).2 u.2.2.2.2.2.2.2.1 u.2.2.2.2.1 ∧ u.2.2.2.2.2.2.1 = oo) ∧ (∀ j, j < wn → u.2.2.2.2.2.2.2.2 j = g52 j)) (fun u => [MB mo ma (nI t1) (nI u.1) (nI t3) u.2.1 u.2.2.1 u.2.2.2.1 i7 i8 i42 i49 (nI u.2.2.2.2.1) (nI u.2.2.2.2.2.1) (nI u.2.2.2.2.2.2.1) i59 i61 i64 i66 (nI t67) i76 i78, (ma 0, .inl (y 0, 1600, .inl (tby tx))), (ma 36, .inl (y 3, 3, .inl (WD 27))), (ma 37, .inl (y 3, 3, .inl (WD 28))), (ma 38, .inl (y 3, 5, .inl (WD 29))), (ma 39, .inl (y 3, 5, .inl (WD 30))), (ma 40, .inl (y 3, 3, .inl (WD 31))), (ma 41, .inl (y 3, 3, .inl (WD 32))), (ma 50, .inl (y 0, 3200, .inl u.2.2.2.2.2.2.2.1)), (ma 52, .inl (y 0, 1700, .inl u.2.2.2.2.2.2.2.2))])) := by
  refine CT.of (by decide) (nb rfl) ?_
  intro p e s m args below meth c C hr
  refine j_lv (lv' := [(0, .ref mo)]) rfl ?_
  have hac := rs_ac3 hR
  refine j_aload_n (pc := 0) C d_Model_fact_0 rfl 0 rfl ?_
  refine j_aload_n (pc := 1) C d_Model_fact_1 rfl 0 rfl ?_
  refine j_get (pc := 2) C gf_Model_99 0 rfl rfl d_Model_fact_2 ?_
  refine j_callVi (pc := 5) C (c_M_takes_3 l D y mo (ma 36) ma t1 t2 t3 i4 0 i6 i7 i8 i42 i49 (nI cd) (nI wn) (nI oo) i59 i61 i64 i66 t67 i76 i78 tx 27 gs ha he hB hx (by omega) (by decide)) kw_Model_228 kv_Model_takes 0 10 rfl rfl ⟨by decide, by decide⟩ ⟨by decide, by decide⟩ (wr := [(ma 37, .inl (y 3, 3, .inl (WD 28))), (ma 38, .inl (y 3, 5, .inl (WD 29))), (ma 39, .inl (y 3, 5, .inl (WD 30))), (ma 40, .inl (y 3, 3, .inl (WD 31))), (ma 41, .inl (y 3, 3, .inl (WD 32))), (ma 50, .inl (y 0, 3200, .inl g50)), (ma 52, .inl (y 0, 1700, .inl g52))]) [0, 1, 2] [3, 4, 5, 6, 7, 8, 9] rfl rfl (by decide +kernel) (by decide +kernel) (by decide +kernel) (As := [.ref (ma 36)]) (rest := []) rfl (nb rfl) rfl d_Model_fact_5 (fun r1 u2 hr1 => ?_)
  refine j_ws (ws' := [(ma 37, .inl (y 3, 3, .inl (WD 28))), (ma 38, .inl (y 3, 5, .inl (WD 29))), (ma 39, .inl (y 3, 5, .inl (WD 30))), (ma 40, .inl (y 3, 3, .inl (WD 31))), (ma 41, .inl (y 3, 3, .inl (WD 32))), (ma 50, .inl (y 0, 3200, .inl g50)), (ma 52, .inl (y 0, 1700, .inl g52)), MB mo ma (nI t1) (nI u2.1) (nI t3) u2.2 0 i6 i7 i8 i42 i49 (nI cd) (nI wn) (nI oo) i59 i61 i64 i66 (nI t67) i76 i78, (ma 0, .inl (y 0, 1600, .inl (tby tx))), (ma 36, .inl (y 3, 3, .inl (WD 27)))]) rfl ?_
  obtain ⟨xh3, xh4, xh5⟩ := hr1
  rcases xh5 with ⟨rfl, xh6, xh7, xh8⟩ | ⟨rfl, xh9, xh10, xh11⟩
  · refine j_if_eqT (pc := 8) C (tgt := 18) d_Model_fact_8 (by decide) (by decide) ?_
    refine j_aload_n (pc := 18) C d_Model_fact_18 rfl 0 rfl ?_
    refine j_callVv (pc := 19) C (c_M_sumsTold l D y mo ma t1 u2.1 t3 u2.2 i6 i7 i8 i42 i49 cd wn oo i59 i61 i64 i66 t67 i76 i78 tx g50 g52 gs s0 xx cs kq f0 en xh4 he hB xh6 (rs_at hR (by omega)) hTT hcd (by omega) hK) kw_Model_301 kv_Model_sumsTold 0 10 rfl rfl ⟨by decide, by decide⟩ ⟨by decide, by decide⟩ (wr := [(ma 36, .inl (y 3, 3, .inl (WD 27)))]) [7, 8, 0, 1, 2, 3, 4, 5, 6] [9] rfl rfl (by decide +kernel) (by decide +kernel) (by decide +kernel) (As := []) (rest := []) rfl (nb rfl) rfl d_Model_fact_19 (fun u12 hu13 => ?_)
    obtain ⟨xh14, xh15, xh16, xh17, xh18, xh19, xh20, xh21, xh22, xh23⟩ := hu13
    refine j_ws (ws' := [(ma 36, .inl (y 3, 3, .inl (WD 27))), MB mo ma (nI t1) (nI u12.1) (nI t3) u12.2.1 u12.2.2.1 u12.2.2.2.1 i7 i8 i42 i49 (nI u12.2.2.2.2.1) (nI u12.2.2.2.2.2.1) (nI u12.2.2.2.2.2.2.1) i59 i61 i64 i66 (nI t67) i76 i78, (ma 0, .inl (y 0, 1600, .inl (tby tx))), (ma 37, .inl (y 3, 3, .inl (WD 28))), (ma 38, .inl (y 3, 5, .inl (WD 29))), (ma 39, .inl (y 3, 5, .inl (WD 30))), (ma 40, .inl (y 3, 3, .inl (WD 31))), (ma 41, .inl (y 3, 3, .inl (WD 32))), (ma 50, .inl (y 0, 3200, .inl u12.2.2.2.2.2.2.2.1)), (ma 52, .inl (y 0, 1700, .inl u12.2.2.2.2.2.2.2.2))]) rfl ?_
    by_cases c24 : u12.2.2.1 = 0
    · have hpg := (xh16 c24).2
      obtain ⟨xh25, xh26⟩ := xh22 c24
      refine j_ws (ws' := [(ma 36, .inl (y 3, 3, .inl (WD 27))), MB mo ma (nI t1) (nI u12.1) (nI t3) u12.2.1 0 u12.2.2.2.1 i7 i8 i42 i49 (nI u12.2.2.2.2.1) (nI u12.2.2.2.2.2.1) (nI u12.2.2.2.2.2.2.1) i59 i61 i64 i66 (nI t67) i76 i78, (ma 0, .inl (y 0, 1600, .inl (tby tx))), (ma 37, .inl (y 3, 3, .inl (WD 28))), (ma 38, .inl (y 3, 5, .inl (WD 29))), (ma 39, .inl (y 3, 5, .inl (WD 30))), (ma 40, .inl (y 3, 3, .inl (WD 31))), (ma 41, .inl (y 3, 3, .inl (WD 32))), (ma 50, .inl (y 0, 3200, .inl u12.2.2.2.2.2.2.2.1)), (ma 52, .inl (y 0, 1700, .inl u12.2.2.2.2.2.2.2.2))]) (by rw [c24]) ?_
      have xh27 : RS kq s0 f0 (xx + 1) 0 u12.2.2.2.2.2.2.2.1 u12.2.2.2.2.2.2.2.2 u12.2.2.2.2.1 u12.2.2.2.2.2.1 u12.1 := rs_z xh17 c24
      have xh28 : RR tx t3 ((sumE tx t3 en (gs, cs)).1) u12.1 u12.2.1 0 u12.2.2.2.1 := by have hq := xh20; rw [c24] at hq; exact hq
      refine j_ws (ws' := [(ma 36, .inl (y 3, 3, .inl (WD 27))), MB mo ma (nI t1) (nI u12.1) (nI t3) u12.2.1 0 u12.2.2.2.1 i7 i8 i42 i49 (nI u12.2.2.2.2.1) (nI u12.2.2.2.2.2.1) (nI oo) i59 i61 i64 i66 (nI t67) i76 i78, (ma 0, .inl (y 0, 1600, .inl (tby tx))), (ma 37, .inl (y 3, 3, .inl (WD 28))), (ma 38, .inl (y 3, 5, .inl (WD 29))), (ma 39, .inl (y 3, 5, .inl (WD 30))), (ma 40, .inl (y 3, 3, .inl (WD 31))), (ma 41, .inl (y 3, 3, .inl (WD 32))), (ma 50, .inl (y 0, 3200, .inl u12.2.2.2.2.2.2.2.1)), (ma 52, .inl (y 0, 1700, .inl u12.2.2.2.2.2.2.2.2))]) (by rw [xh26]) ?_
      refine j_aload_n (pc := 22) C d_Model_fact_22 rfl 0 rfl ?_
      refine j_get (pc := 23) C gf_Model_201 1 rfl rfl d_Model_fact_23 ?_
      refine j_if_eqT (pc := 26) C (tgt := 30) d_Model_fact_26 (by decide) (by decide) ?_
      refine j_aload_n (pc := 30) C d_Model_fact_30 rfl 0 rfl ?_
      refine j_callVi (pc := 31) C (c_M_look l D y mo ma t1 u12.1 t3 u12.2.1 0 u12.2.2.2.1 i7 i8 i42 i49 (nI u12.2.2.2.2.1) (nI u12.2.2.2.2.2.1) (nI oo) i59 i61 i64 i66 t67 i76 i78 tx ((sumE tx t3 en (gs, cs)).1) xh15 he hB xh28 rfl) kw_Model_213 kv_Model_look 0 10 rfl rfl ⟨by decide, by decide⟩ ⟨by decide, by decide⟩ (wr := [(ma 36, .inl (y 3, 3, .inl (WD 27))), (ma 37, .inl (y 3, 3, .inl (WD 28))), (ma 38, .inl (y 3, 5, .inl (WD 29))), (ma 39, .inl (y 3, 5, .inl (WD 30))), (ma 40, .inl (y 3, 3, .inl (WD 31))), (ma 41, .inl (y 3, 3, .inl (WD 32))), (ma 50, .inl (y 0, 3200, .inl u12.2.2.2.2.2.2.2.1)), (ma 52, .inl (y 0, 1700, .inl u12.2.2.2.2.2.2.2.2))]) [1, 2] [0, 3, 4, 5, 6, 7, 8, 9] rfl rfl (by decide +kernel) (by decide +kernel) (by decide +kernel) (As := []) (rest := []) rfl (nb rfl) rfl d_Model_fact_31 (fun r29 u30 hr29 => ?_)
      refine j_ws (ws' := [(ma 36, .inl (y 3, 3, .inl (WD 27))), (ma 37, .inl (y 3, 3, .inl (WD 28))), (ma 38, .inl (y 3, 5, .inl (WD 29))), (ma 39, .inl (y 3, 5, .inl (WD 30))), (ma 40, .inl (y 3, 3, .inl (WD 31))), (ma 41, .inl (y 3, 3, .inl (WD 32))), (ma 50, .inl (y 0, 3200, .inl u12.2.2.2.2.2.2.2.1)), (ma 52, .inl (y 0, 1700, .inl u12.2.2.2.2.2.2.2.2)), MB mo ma (nI t1) (nI u30) (nI t3) u12.2.1 0 u12.2.2.2.1 i7 i8 i42 i49 (nI u12.2.2.2.2.1) (nI u12.2.2.2.2.2.1) (nI oo) i59 i61 i64 i66 (nI t67) i76 i78, (ma 0, .inl (y 0, 1600, .inl (tby tx)))]) rfl ?_
      obtain ⟨xh31, xh32, xh33, xh34, xh35⟩ := hr29
      rcases xh35 with ⟨rfl, xh36⟩ | ⟨rfl, xh37⟩
      · refine j_istore_n (pc := 34) C (lv' := [(1, .int (-1)), (0, .ref mo)]) d_Model_fact_34 rfl (by decide) rfl ?_
        refine j_iload_n (pc := 35) C d_Model_fact_35 rfl 0 rfl ?_
        refine j_bipush (pc := 36) C (v := 60) d_Model_fact_36 (by decide) ?_
        refine j_icmp_eqF (pc := 38) C (tgt := 63) d_Model_fact_38 (by decide) (by decide) ?_
        refine j_iload_n (pc := 41) C d_Model_fact_41 rfl 0 rfl ?_
        refine j_bipush (pc := 42) C (v := 62) d_Model_fact_42 (by decide) ?_
        refine j_icmp_eqF (pc := 44) C (tgt := 63) d_Model_fact_44 (by decide) (by decide) ?_
        refine j_iload_n (pc := 47) C d_Model_fact_47 rfl 0 rfl ?_
        refine j_bipush (pc := 48) C (v := 61) d_Model_fact_48 (by decide) ?_
        refine j_icmp_eqF (pc := 50) C (tgt := 63) d_Model_fact_50 (by decide) (by decide) ?_
        have xh38 : ¬ issS tx t3 60 ((sumE tx t3 en (gs, cs)).1) = true := (sg_no1 ((rr_z xh34).mp rfl) xh33 xh36)
        have xh39 : ¬ issS tx t3 62 ((sumE tx t3 en (gs, cs)).1) = true := (sg_no1 ((rr_z xh34).mp rfl) xh33 xh36)
        have xh40 : ¬ issS tx t3 61 ((sumE tx t3 en (gs, cs)).1) = true := (sg_no1 ((rr_z xh34).mp rfl) xh33 xh36)
        refine j_aload_n (pc := 53) C d_Model_fact_53 rfl 1 rfl ?_
        refine j_iconst (pc := 54) C (v := 1) d_Model_fact_54 (by decide) ?_
        refine j_aload_n (pc := 55) C d_Model_fact_55 rfl 1 rfl ?_
        refine j_get (pc := 56) C gf_Model_207 8 rfl rfl d_Model_fact_56 ?_
        refine j_callVv (pc := 59) C (c_M_fail_1 l D y mo ma t1 u30 t3 u12.2.1 0 u12.2.2.2.1 i7 i8 i42 i49 (nI u12.2.2.2.2.1) (nI u12.2.2.2.2.2.1) (nI oo) i59 i61 i64 i66 t67 i76 i78 u30 ((sumE tx t3 en (gs, cs)).1) tx ((rr_z xh34).mp rfl) (by omega) rfl) kw_Model_230 kv_Model_fail 0 10 rfl rfl ⟨by decide, by decide⟩ ⟨by decide, by decide⟩ (wr := [(ma 36, .inl (y 3, 3, .inl (WD 27))), (ma 37, .inl (y 3, 3, .inl (WD 28))), (ma 38, .inl (y 3, 5, .inl (WD 29))), (ma 39, .inl (y 3, 5, .inl (WD 30))), (ma 40, .inl (y 3, 3, .inl (WD 31))), (ma 41, .inl (y 3, 3, .inl (WD 32))), (ma 50, .inl (y 0, 3200, .inl u12.2.2.2.2.2.2.2.1)), (ma 52, .inl (y 0, 1700, .inl u12.2.2.2.2.2.2.2.2)), (ma 0, .inl (y 0, 1600, .inl (tby tx)))]) [8] [0, 1, 2, 3, 4, 5, 6, 7, 9] rfl rfl (by decide +kernel) (by decide +kernel) (by decide +kernel) (As := [.int 1, .int (nI u30)]) (rest := []) rfl (nb rfl) rfl d_Model_fact_59 (fun u41 hu42 => ?_)
        obtain ⟨xh43, xh44⟩ := hu42
        refine j_ws (ws' := [(ma 36, .inl (y 3, 3, .inl (WD 27))), (ma 37, .inl (y 3, 3, .inl (WD 28))), (ma 38, .inl (y 3, 5, .inl (WD 29))), (ma 39, .inl (y 3, 5, .inl (WD 30))), (ma 40, .inl (y 3, 3, .inl (WD 31))), (ma 41, .inl (y 3, 3, .inl (WD 32))), (ma 50, .inl (y 0, 3200, .inl u12.2.2.2.2.2.2.2.1)), (ma 52, .inl (y 0, 1700, .inl u12.2.2.2.2.2.2.2.2)), (ma 0, .inl (y 0, 1600, .inl (tby tx))), MB mo ma (nI t1) (nI u30) (nI t3) u12.2.1 u41.1 u41.2 i7 i8 i42 i49 (nI u12.2.2.2.2.1) (nI u12.2.2.2.2.2.1) (nI oo) i59 i61 i64 i66 (nI t67) i76 i78]) rfl ?_
        have xh45 : RS kq s0 f0 (xx + 1) u41.1 u12.2.2.2.2.2.2.2.1 u12.2.2.2.2.2.2.2.2 u12.2.2.2.2.1 u12.2.2.2.2.2.1 u12.1 := rs_bad xh27 xh43
        exact j_vret (pc := 62) C hr (u30, u12.2.1, u41.1, u41.2, u12.2.2.2.2.1, u12.2.2.2.2.2.1, oo, u12.2.2.2.2.2.2.2.1, u12.2.2.2.2.2.2.2.2) ⟨(show t2 ≤ u30 by omega), (show u30 ≤ t3 by omega), (fun e => absurd e xh43), (rs_at xh45 (show u12.1 ≤ u30 by omega)), xh18, (show wn ≤ u12.2.2.2.2.2.1 by omega), (rr_of xh44 (by rw [(show fact0 tx t3 en (gs, cs) = ((sumE tx t3 en (rsS tx t3 (cmpG tx t3 (sumE tx t3 en (gs, cs)).1) (sumE tx t3 en (gs, cs)).1, (sumE tx t3 en (gs, cs)).2)).1, putS (cmpC tx t3 (sumE tx t3 en (gs, cs)).1) (sumE tx t3 en (rsS tx t3 (cmpG tx t3 (sumE tx t3 en (gs, cs)).1) (sumE tx t3 en (gs, cs)).1, (sumE tx t3 en (gs, cs)).2)).2) from if_neg xh7)]; dsimp only; rw [(show cmpG tx t3 (sumE tx t3 en (gs, cs)).1 = 61 from cmpG_3 xh38 xh39), show rsS tx t3 61 (sumE tx t3 en (gs, cs)).1 = failS 1 (stS tx t3 (sumE tx t3 en (gs, cs)).1) (sumE tx t3 en (gs, cs)).1 from if_neg xh40, sumE_d en _ _ (fail_nz (by decide)), ← xh33])), (show oo ≤ 6 by omega), (fun e => absurd e xh43), xh23⟩ [9, 8, 0, 1, 2, 3, 4, 5, 6, 7] rfl (by decide) (by decide) (by decide) d_Model_fact_62
      · have hb46 : tx u30 < 256 := hB u30
        refine j_istore_n (pc := 34) C (lv' := [(1, .int (nI (tx u30))), (0, .ref mo)]) d_Model_fact_34 rfl (by decide) rfl ?_
        refine j_iload_n (pc := 35) C d_Model_fact_35 rfl 0 rfl ?_
        refine j_bipush (pc := 36) C (v := 60) d_Model_fact_36 (by decide) ?_
        by_cases c47 : (tx u30) = 60
        · refine j_icmp_eqT (pc := 38) C (tgt := 63) d_Model_fact_38 (by decide) (show nI (tx u30) = nI 60 from (nI_eq (by omega) (by omega)).mpr (by omega)) ?_
          have hat := xh37
          have xh48 := sg_yes ((rr_z xh34).mp rfl) xh33 xh37 (show tx u30 = 60 by omega) (by decide)
          have xh50 : cmpC tx t3 (sumE tx t3 en (gs, cs)).1 = 11 := cmpC_1 xh48.1
          have xh51 : cmpG tx t3 (sumE tx t3 en (gs, cs)).1 = 60 := cmpG_1 xh48.1
          refine j_aload_n (pc := 63) C d_Model_fact_63 rfl 1 rfl ?_
          refine j_dup (pc := 64) C d_Model_fact_64 rfl ?_
          refine j_get (pc := 65) C gf_Model_207 8 rfl rfl d_Model_fact_65 ?_
          refine j_iconst (pc := 68) C (v := 1) d_Model_fact_68 (by decide) ?_
          refine j_iadd (pc := 69) C (v := nI (u30 + 1)) d_Model_fact_69 (nI_add _ _) ?_
          refine j_put (pc := 70) C pf_Model_207 8 (ws' := [(ma 36, .inl (y 3, 3, .inl (WD 27))), (ma 37, .inl (y 3, 3, .inl (WD 28))), (ma 38, .inl (y 3, 5, .inl (WD 29))), (ma 39, .inl (y 3, 5, .inl (WD 30))), (ma 40, .inl (y 3, 3, .inl (WD 31))), (ma 41, .inl (y 3, 3, .inl (WD 32))), (ma 50, .inl (y 0, 3200, .inl u12.2.2.2.2.2.2.2.1)), (ma 52, .inl (y 0, 1700, .inl u12.2.2.2.2.2.2.2.2)), MB mo ma (nI t1) (nI (u30 + 1)) (nI t3) u12.2.1 0 u12.2.2.2.1 i7 i8 i42 i49 (nI u12.2.2.2.2.1) (nI u12.2.2.2.2.2.1) (nI oo) i59 i61 i64 i66 (nI t67) i76 i78, (ma 0, .inl (y 0, 1600, .inl (tby tx)))]) rfl rfl rfl (nl rfl) rfl d_Model_fact_70 ?_
          have xh52 : RS (kq + 1) s0 f0 (xx + 1) 0 u12.2.2.2.2.2.2.2.1 u12.2.2.2.2.2.2.2.2 u12.2.2.2.2.1 u12.2.2.2.2.2.1 (u30 + 1) := rs_kup xh27 (by omega)
          have xh53 : RR tx t3 (advS tx t3 (sumE tx t3 en (gs, cs)).1) (u30 + 1) u12.2.1 0 u12.2.2.2.1 := (rr_adv xh34 he xh48.2.2 (by decide) xh48.2.1 (Or.inl ⟨rfl, rfl⟩))
          refine j_aload_n (pc := 73) C d_Model_fact_73 rfl 1 rfl ?_
          refine j_callVv (pc := 74) C (c_M_sumsTold l D y mo ma t1 (u30 + 1) t3 u12.2.1 u12.2.2.2.1 i7 i8 i42 i49 u12.2.2.2.2.1 u12.2.2.2.2.2.1 oo i59 i61 i64 i66 t67 i76 i78 tx u12.2.2.2.2.2.2.2.1 u12.2.2.2.2.2.2.2.2 (advS tx t3 (sumE tx t3 en (gs, cs)).1) s0 (xx + 1) ((sumE tx t3 en (gs, cs)).2) (kq + 1) f0 en (by omega) he hB xh53 xh52 (it_le xh18 (by omega)) xh25 (by omega) (by omega)) kw_Model_301 kv_Model_sumsTold 0 10 rfl rfl ⟨by decide, by decide⟩ ⟨by decide, by decide⟩ (wr := [(ma 36, .inl (y 3, 3, .inl (WD 27)))]) [8, 9, 1, 2, 3, 4, 5, 6, 7] [0] rfl rfl (by decide +kernel) (by decide +kernel) (by decide +kernel) (As := []) (rest := []) rfl (nb rfl) rfl d_Model_fact_74 (fun u54 hu55 => ?_)
          obtain ⟨xh56, xh57, xh58, xh59, xh60, xh61, xh62, xh63, xh64, xh65⟩ := hu55
          refine j_ws (ws' := [(ma 36, .inl (y 3, 3, .inl (WD 27))), MB mo ma (nI t1) (nI u54.1) (nI t3) u54.2.1 u54.2.2.1 u54.2.2.2.1 i7 i8 i42 i49 (nI u54.2.2.2.2.1) (nI u54.2.2.2.2.2.1) (nI u54.2.2.2.2.2.2.1) i59 i61 i64 i66 (nI t67) i76 i78, (ma 0, .inl (y 0, 1600, .inl (tby tx))), (ma 37, .inl (y 3, 3, .inl (WD 28))), (ma 38, .inl (y 3, 5, .inl (WD 29))), (ma 39, .inl (y 3, 5, .inl (WD 30))), (ma 40, .inl (y 3, 3, .inl (WD 31))), (ma 41, .inl (y 3, 3, .inl (WD 32))), (ma 50, .inl (y 0, 3200, .inl u54.2.2.2.2.2.2.2.1)), (ma 52, .inl (y 0, 1700, .inl u54.2.2.2.2.2.2.2.2))]) rfl ?_
          refine j_aload_n (pc := 77) C d_Model_fact_77 rfl 1 rfl ?_
          refine j_iload_n (pc := 78) C d_Model_fact_78 rfl 0 rfl ?_
          refine j_bipush (pc := 79) C (v := 60) d_Model_fact_79 (by decide) ?_
          refine j_icmp_neF (pc := 81) C (tgt := 89) d_Model_fact_81 (by decide) (show nI (tx u30) = nI 60 from (nI_eq (by omega) (by omega)).mpr (by omega)) ?_
          refine j_bipush (pc := 84) C (v := 11) d_Model_fact_84 (by decide) ?_
          refine j_goto (pc := 86) C (tgt := 102) d_Model_fact_86 (by decide) ?_
          have hac5 := rs_acc xh59
          refine j_callVv (pc := 102) C (c_M_code l D y mo ma t1 u54.1 t3 u54.2.1 u54.2.2.1 u54.2.2.2.1 i7 i8 i42 i49 u54.2.2.2.2.1 u54.2.2.2.2.2.1 (nI u54.2.2.2.2.2.2.1) i59 i61 i64 i66 t67 i76 i78 u54.2.2.2.2.2.2.2.1 11 (by omega)) kw_Model_344 kv_Model_code 0 10 rfl rfl ⟨by decide, by decide⟩ ⟨by decide, by decide⟩ (wr := [(ma 36, .inl (y 3, 3, .inl (WD 27))), (ma 0, .inl (y 0, 1600, .inl (tby tx))), (ma 37, .inl (y 3, 3, .inl (WD 28))), (ma 38, .inl (y 3, 5, .inl (WD 29))), (ma 39, .inl (y 3, 5, .inl (WD 30))), (ma 40, .inl (y 3, 3, .inl (WD 31))), (ma 41, .inl (y 3, 3, .inl (WD 32))), (ma 52, .inl (y 0, 1700, .inl u54.2.2.2.2.2.2.2.2))]) [1, 8] [0, 2, 3, 4, 5, 6, 7, 9] rfl rfl (by decide +kernel) (by decide +kernel) (by decide +kernel) (As := [.int 11]) (rest := []) rfl (nb rfl) rfl d_Model_fact_102 (fun _ _ => ?_)
          refine j_ws (ws' := [(ma 36, .inl (y 3, 3, .inl (WD 27))), (ma 0, .inl (y 0, 1600, .inl (tby tx))), (ma 37, .inl (y 3, 3, .inl (WD 28))), (ma 38, .inl (y 3, 5, .inl (WD 29))), (ma 39, .inl (y 3, 5, .inl (WD 30))), (ma 40, .inl (y 3, 3, .inl (WD 31))), (ma 41, .inl (y 3, 3, .inl (WD 32))), (ma 52, .inl (y 0, 1700, .inl u54.2.2.2.2.2.2.2.2)), MB mo ma (nI t1) (nI u54.1) (nI t3) u54.2.1 u54.2.2.1 u54.2.2.2.1 i7 i8 i42 i49 (nI (u54.2.2.2.2.1 + 1)) (nI u54.2.2.2.2.2.1) (nI u54.2.2.2.2.2.2.1) i59 i61 i64 i66 (nI t67) i76 i78, (ma 50, .inl (y 0, 3200, .inl (upd u54.2.2.2.2.2.2.2.1 u54.2.2.2.2.1 11)))]) rfl ?_
          exact j_vret (pc := 105) C hr (u54.1, u54.2.1, u54.2.2.1, u54.2.2.2.1, (u54.2.2.2.2.1 + 1), u54.2.2.2.2.2.1, u54.2.2.2.2.2.2.1, (upd u54.2.2.2.2.2.2.2.1 u54.2.2.2.2.1 11), u54.2.2.2.2.2.2.2.2) ⟨(show t2 ≤ u54.1 by omega), (show u54.1 ≤ t3 by omega), (fun e => by obtain ⟨_, f1, f2⟩ := xh58 e; exact ⟨rfl, show t2 < u54.1 by omega, show u54.2.2.2.2.2.1 = wn by omega⟩), (rs_held xh59 (by omega) (by decide)), (it_le xh60 (by omega)), (show wn ≤ u54.2.2.2.2.2.1 by omega), (rr_of xh62 (by rw [(show fact0 tx t3 en (gs, cs) = ((sumE tx t3 en (rsS tx t3 (cmpG tx t3 (sumE tx t3 en (gs, cs)).1) (sumE tx t3 en (gs, cs)).1, (sumE tx t3 en (gs, cs)).2)).1, putS (cmpC tx t3 (sumE tx t3 en (gs, cs)).1) (sumE tx t3 en (rsS tx t3 (cmpG tx t3 (sumE tx t3 en (gs, cs)).1) (sumE tx t3 en (gs, cs)).1, (sumE tx t3 en (gs, cs)).2)).2) from if_neg xh7)]; dsimp only; rw [xh51, show rsS tx t3 60 (sumE tx t3 en (gs, cs)).1 = advS tx t3 (sumE tx t3 en (gs, cs)).1 from if_pos xh48.1])), (show u54.2.2.2.2.2.2.1 ≤ 6 by omega), (fun e => ⟨by rw [(show fact0 tx t3 en (gs, cs) = ((sumE tx t3 en (rsS tx t3 (cmpG tx t3 (sumE tx t3 en (gs, cs)).1) (sumE tx t3 en (gs, cs)).1, (sumE tx t3 en (gs, cs)).2)).1, putS (cmpC tx t3 (sumE tx t3 en (gs, cs)).1) (sumE tx t3 en (rsS tx t3 (cmpG tx t3 (sumE tx t3 en (gs, cs)).1) (sumE tx t3 en (gs, cs)).1, (sumE tx t3 en (gs, cs)).2)).2) from if_neg xh7)]; dsimp only; rw [xh51, show rsS tx t3 60 (sumE tx t3 en (gs, cs)).1 = advS tx t3 (sumE tx t3 en (gs, cs)).1 from if_pos xh48.1]; rw [xh50]; exact cd_put (xh64 e).1 (by omega) rfl (by decide), (xh64 e).2⟩), (fun j hj => (xh65 j (by omega)).trans (xh23 j hj))⟩ [8, 1, 0, 2, 3, 4, 5, 6, 9, 7] rfl (by decide) (by decide) (by decide) d_Model_fact_105
        · refine j_icmp_eqF (pc := 38) C (tgt := 63) d_Model_fact_38 (by decide) (show ¬ nI (tx u30) = nI 60 from fun e => absurd ((nI_eq (by omega) (by omega)).mp e) (by omega)) ?_
          refine j_iload_n (pc := 41) C d_Model_fact_41 rfl 0 rfl ?_
          refine j_bipush (pc := 42) C (v := 62) d_Model_fact_42 (by decide) ?_
          by_cases c66 : (tx u30) = 62
          · refine j_icmp_eqT (pc := 44) C (tgt := 63) d_Model_fact_44 (by decide) (show nI (tx u30) = nI 62 from (nI_eq (by omega) (by omega)).mpr (by omega)) ?_
            have hat := xh37
            have xh67 := sg_yes ((rr_z xh34).mp rfl) xh33 xh37 (show tx u30 = 62 by omega) (by decide)
            have xh69 : cmpC tx t3 (sumE tx t3 en (gs, cs)).1 = 12 := cmpC_2 (sg_no2 xh33 (show ¬ tx u30 = 60 by omega)) xh67.1
            have xh70 : cmpG tx t3 (sumE tx t3 en (gs, cs)).1 = 62 := cmpG_2 (sg_no2 xh33 (show ¬ tx u30 = 60 by omega)) xh67.1
            refine j_aload_n (pc := 63) C d_Model_fact_63 rfl 1 rfl ?_
            refine j_dup (pc := 64) C d_Model_fact_64 rfl ?_
            refine j_get (pc := 65) C gf_Model_207 8 rfl rfl d_Model_fact_65 ?_
            refine j_iconst (pc := 68) C (v := 1) d_Model_fact_68 (by decide) ?_
            refine j_iadd (pc := 69) C (v := nI (u30 + 1)) d_Model_fact_69 (nI_add _ _) ?_
            refine j_put (pc := 70) C pf_Model_207 8 (ws' := [(ma 36, .inl (y 3, 3, .inl (WD 27))), (ma 37, .inl (y 3, 3, .inl (WD 28))), (ma 38, .inl (y 3, 5, .inl (WD 29))), (ma 39, .inl (y 3, 5, .inl (WD 30))), (ma 40, .inl (y 3, 3, .inl (WD 31))), (ma 41, .inl (y 3, 3, .inl (WD 32))), (ma 50, .inl (y 0, 3200, .inl u12.2.2.2.2.2.2.2.1)), (ma 52, .inl (y 0, 1700, .inl u12.2.2.2.2.2.2.2.2)), MB mo ma (nI t1) (nI (u30 + 1)) (nI t3) u12.2.1 0 u12.2.2.2.1 i7 i8 i42 i49 (nI u12.2.2.2.2.1) (nI u12.2.2.2.2.2.1) (nI oo) i59 i61 i64 i66 (nI t67) i76 i78, (ma 0, .inl (y 0, 1600, .inl (tby tx)))]) rfl rfl rfl (nl rfl) rfl d_Model_fact_70 ?_
            have xh71 : RS (kq + 1) s0 f0 (xx + 1) 0 u12.2.2.2.2.2.2.2.1 u12.2.2.2.2.2.2.2.2 u12.2.2.2.2.1 u12.2.2.2.2.2.1 (u30 + 1) := rs_kup xh27 (by omega)
            have xh72 : RR tx t3 (advS tx t3 (sumE tx t3 en (gs, cs)).1) (u30 + 1) u12.2.1 0 u12.2.2.2.1 := (rr_adv xh34 he xh67.2.2 (by decide) xh67.2.1 (Or.inl ⟨rfl, rfl⟩))
            refine j_aload_n (pc := 73) C d_Model_fact_73 rfl 1 rfl ?_
            refine j_callVv (pc := 74) C (c_M_sumsTold l D y mo ma t1 (u30 + 1) t3 u12.2.1 u12.2.2.2.1 i7 i8 i42 i49 u12.2.2.2.2.1 u12.2.2.2.2.2.1 oo i59 i61 i64 i66 t67 i76 i78 tx u12.2.2.2.2.2.2.2.1 u12.2.2.2.2.2.2.2.2 (advS tx t3 (sumE tx t3 en (gs, cs)).1) s0 (xx + 1) ((sumE tx t3 en (gs, cs)).2) (kq + 1) f0 en (by omega) he hB xh72 xh71 (it_le xh18 (by omega)) xh25 (by omega) (by omega)) kw_Model_301 kv_Model_sumsTold 0 10 rfl rfl ⟨by decide, by decide⟩ ⟨by decide, by decide⟩ (wr := [(ma 36, .inl (y 3, 3, .inl (WD 27)))]) [8, 9, 1, 2, 3, 4, 5, 6, 7] [0] rfl rfl (by decide +kernel) (by decide +kernel) (by decide +kernel) (As := []) (rest := []) rfl (nb rfl) rfl d_Model_fact_74 (fun u73 hu74 => ?_)
            obtain ⟨xh75, xh76, xh77, xh78, xh79, xh80, xh81, xh82, xh83, xh84⟩ := hu74
            refine j_ws (ws' := [(ma 36, .inl (y 3, 3, .inl (WD 27))), MB mo ma (nI t1) (nI u73.1) (nI t3) u73.2.1 u73.2.2.1 u73.2.2.2.1 i7 i8 i42 i49 (nI u73.2.2.2.2.1) (nI u73.2.2.2.2.2.1) (nI u73.2.2.2.2.2.2.1) i59 i61 i64 i66 (nI t67) i76 i78, (ma 0, .inl (y 0, 1600, .inl (tby tx))), (ma 37, .inl (y 3, 3, .inl (WD 28))), (ma 38, .inl (y 3, 5, .inl (WD 29))), (ma 39, .inl (y 3, 5, .inl (WD 30))), (ma 40, .inl (y 3, 3, .inl (WD 31))), (ma 41, .inl (y 3, 3, .inl (WD 32))), (ma 50, .inl (y 0, 3200, .inl u73.2.2.2.2.2.2.2.1)), (ma 52, .inl (y 0, 1700, .inl u73.2.2.2.2.2.2.2.2))]) rfl ?_
            refine j_aload_n (pc := 77) C d_Model_fact_77 rfl 1 rfl ?_
            refine j_iload_n (pc := 78) C d_Model_fact_78 rfl 0 rfl ?_
            refine j_bipush (pc := 79) C (v := 60) d_Model_fact_79 (by decide) ?_
            refine j_icmp_neT (pc := 81) C (tgt := 89) d_Model_fact_81 (by decide) (show ¬ nI (tx u30) = nI 60 from fun e => absurd ((nI_eq (by omega) (by omega)).mp e) (by omega)) ?_
            refine j_iload_n (pc := 89) C d_Model_fact_89 rfl 0 rfl ?_
            refine j_bipush (pc := 90) C (v := 62) d_Model_fact_90 (by decide) ?_
            refine j_icmp_neF (pc := 92) C (tgt := 100) d_Model_fact_92 (by decide) (show nI (tx u30) = nI 62 from (nI_eq (by omega) (by omega)).mpr (by omega)) ?_
            refine j_bipush (pc := 95) C (v := 12) d_Model_fact_95 (by decide) ?_
            refine j_goto (pc := 97) C (tgt := 102) d_Model_fact_97 (by decide) ?_
            have hac5 := rs_acc xh78
            refine j_callVv (pc := 102) C (c_M_code l D y mo ma t1 u73.1 t3 u73.2.1 u73.2.2.1 u73.2.2.2.1 i7 i8 i42 i49 u73.2.2.2.2.1 u73.2.2.2.2.2.1 (nI u73.2.2.2.2.2.2.1) i59 i61 i64 i66 t67 i76 i78 u73.2.2.2.2.2.2.2.1 12 (by omega)) kw_Model_344 kv_Model_code 0 10 rfl rfl ⟨by decide, by decide⟩ ⟨by decide, by decide⟩ (wr := [(ma 36, .inl (y 3, 3, .inl (WD 27))), (ma 0, .inl (y 0, 1600, .inl (tby tx))), (ma 37, .inl (y 3, 3, .inl (WD 28))), (ma 38, .inl (y 3, 5, .inl (WD 29))), (ma 39, .inl (y 3, 5, .inl (WD 30))), (ma 40, .inl (y 3, 3, .inl (WD 31))), (ma 41, .inl (y 3, 3, .inl (WD 32))), (ma 52, .inl (y 0, 1700, .inl u73.2.2.2.2.2.2.2.2))]) [1, 8] [0, 2, 3, 4, 5, 6, 7, 9] rfl rfl (by decide +kernel) (by decide +kernel) (by decide +kernel) (As := [.int 12]) (rest := []) rfl (nb rfl) rfl d_Model_fact_102 (fun _ _ => ?_)
            refine j_ws (ws' := [(ma 36, .inl (y 3, 3, .inl (WD 27))), (ma 0, .inl (y 0, 1600, .inl (tby tx))), (ma 37, .inl (y 3, 3, .inl (WD 28))), (ma 38, .inl (y 3, 5, .inl (WD 29))), (ma 39, .inl (y 3, 5, .inl (WD 30))), (ma 40, .inl (y 3, 3, .inl (WD 31))), (ma 41, .inl (y 3, 3, .inl (WD 32))), (ma 52, .inl (y 0, 1700, .inl u73.2.2.2.2.2.2.2.2)), MB mo ma (nI t1) (nI u73.1) (nI t3) u73.2.1 u73.2.2.1 u73.2.2.2.1 i7 i8 i42 i49 (nI (u73.2.2.2.2.1 + 1)) (nI u73.2.2.2.2.2.1) (nI u73.2.2.2.2.2.2.1) i59 i61 i64 i66 (nI t67) i76 i78, (ma 50, .inl (y 0, 3200, .inl (upd u73.2.2.2.2.2.2.2.1 u73.2.2.2.2.1 12)))]) rfl ?_
            exact j_vret (pc := 105) C hr (u73.1, u73.2.1, u73.2.2.1, u73.2.2.2.1, (u73.2.2.2.2.1 + 1), u73.2.2.2.2.2.1, u73.2.2.2.2.2.2.1, (upd u73.2.2.2.2.2.2.2.1 u73.2.2.2.2.1 12), u73.2.2.2.2.2.2.2.2) ⟨(show t2 ≤ u73.1 by omega), (show u73.1 ≤ t3 by omega), (fun e => by obtain ⟨_, f1, f2⟩ := xh77 e; exact ⟨rfl, show t2 < u73.1 by omega, show u73.2.2.2.2.2.1 = wn by omega⟩), (rs_held xh78 (by omega) (by decide)), (it_le xh79 (by omega)), (show wn ≤ u73.2.2.2.2.2.1 by omega), (rr_of xh81 (by rw [(show fact0 tx t3 en (gs, cs) = ((sumE tx t3 en (rsS tx t3 (cmpG tx t3 (sumE tx t3 en (gs, cs)).1) (sumE tx t3 en (gs, cs)).1, (sumE tx t3 en (gs, cs)).2)).1, putS (cmpC tx t3 (sumE tx t3 en (gs, cs)).1) (sumE tx t3 en (rsS tx t3 (cmpG tx t3 (sumE tx t3 en (gs, cs)).1) (sumE tx t3 en (gs, cs)).1, (sumE tx t3 en (gs, cs)).2)).2) from if_neg xh7)]; dsimp only; rw [xh70, show rsS tx t3 62 (sumE tx t3 en (gs, cs)).1 = advS tx t3 (sumE tx t3 en (gs, cs)).1 from if_pos xh67.1])), (show u73.2.2.2.2.2.2.1 ≤ 6 by omega), (fun e => ⟨by rw [(show fact0 tx t3 en (gs, cs) = ((sumE tx t3 en (rsS tx t3 (cmpG tx t3 (sumE tx t3 en (gs, cs)).1) (sumE tx t3 en (gs, cs)).1, (sumE tx t3 en (gs, cs)).2)).1, putS (cmpC tx t3 (sumE tx t3 en (gs, cs)).1) (sumE tx t3 en (rsS tx t3 (cmpG tx t3 (sumE tx t3 en (gs, cs)).1) (sumE tx t3 en (gs, cs)).1, (sumE tx t3 en (gs, cs)).2)).2) from if_neg xh7)]; dsimp only; rw [xh70, show rsS tx t3 62 (sumE tx t3 en (gs, cs)).1 = advS tx t3 (sumE tx t3 en (gs, cs)).1 from if_pos xh67.1]; rw [xh69]; exact cd_put (xh83 e).1 (by omega) rfl (by decide), (xh83 e).2⟩), (fun j hj => (xh84 j (by omega)).trans (xh23 j hj))⟩ [8, 1, 0, 2, 3, 4, 5, 6, 9, 7] rfl (by decide) (by decide) (by decide) d_Model_fact_105
          · refine j_icmp_eqF (pc := 44) C (tgt := 63) d_Model_fact_44 (by decide) (show ¬ nI (tx u30) = nI 62 from fun e => absurd ((nI_eq (by omega) (by omega)).mp e) (by omega)) ?_
            refine j_iload_n (pc := 47) C d_Model_fact_47 rfl 0 rfl ?_
            refine j_bipush (pc := 48) C (v := 61) d_Model_fact_48 (by decide) ?_
            by_cases c85 : (tx u30) = 61
            · refine j_icmp_eqT (pc := 50) C (tgt := 63) d_Model_fact_50 (by decide) (show nI (tx u30) = nI 61 from (nI_eq (by omega) (by omega)).mpr (by omega)) ?_
              have hat := xh37
              have xh86 := sg_yes ((rr_z xh34).mp rfl) xh33 xh37 (show tx u30 = 61 by omega) (by decide)
              have xh88 : cmpC tx t3 (sumE tx t3 en (gs, cs)).1 = 13 := cmpC_3 (sg_no2 xh33 (show ¬ tx u30 = 60 by omega)) (sg_no2 xh33 (show ¬ tx u30 = 62 by omega))
              have xh89 : cmpG tx t3 (sumE tx t3 en (gs, cs)).1 = 61 := cmpG_3 (sg_no2 xh33 (show ¬ tx u30 = 60 by omega)) (sg_no2 xh33 (show ¬ tx u30 = 62 by omega))
              refine j_aload_n (pc := 63) C d_Model_fact_63 rfl 1 rfl ?_
              refine j_dup (pc := 64) C d_Model_fact_64 rfl ?_
              refine j_get (pc := 65) C gf_Model_207 8 rfl rfl d_Model_fact_65 ?_
              refine j_iconst (pc := 68) C (v := 1) d_Model_fact_68 (by decide) ?_
              refine j_iadd (pc := 69) C (v := nI (u30 + 1)) d_Model_fact_69 (nI_add _ _) ?_
              refine j_put (pc := 70) C pf_Model_207 8 (ws' := [(ma 36, .inl (y 3, 3, .inl (WD 27))), (ma 37, .inl (y 3, 3, .inl (WD 28))), (ma 38, .inl (y 3, 5, .inl (WD 29))), (ma 39, .inl (y 3, 5, .inl (WD 30))), (ma 40, .inl (y 3, 3, .inl (WD 31))), (ma 41, .inl (y 3, 3, .inl (WD 32))), (ma 50, .inl (y 0, 3200, .inl u12.2.2.2.2.2.2.2.1)), (ma 52, .inl (y 0, 1700, .inl u12.2.2.2.2.2.2.2.2)), MB mo ma (nI t1) (nI (u30 + 1)) (nI t3) u12.2.1 0 u12.2.2.2.1 i7 i8 i42 i49 (nI u12.2.2.2.2.1) (nI u12.2.2.2.2.2.1) (nI oo) i59 i61 i64 i66 (nI t67) i76 i78, (ma 0, .inl (y 0, 1600, .inl (tby tx)))]) rfl rfl rfl (nl rfl) rfl d_Model_fact_70 ?_
              have xh90 : RS (kq + 1) s0 f0 (xx + 1) 0 u12.2.2.2.2.2.2.2.1 u12.2.2.2.2.2.2.2.2 u12.2.2.2.2.1 u12.2.2.2.2.2.1 (u30 + 1) := rs_kup xh27 (by omega)
              have xh91 : RR tx t3 (advS tx t3 (sumE tx t3 en (gs, cs)).1) (u30 + 1) u12.2.1 0 u12.2.2.2.1 := (rr_adv xh34 he xh86.2.2 (by decide) xh86.2.1 (Or.inl ⟨rfl, rfl⟩))
              refine j_aload_n (pc := 73) C d_Model_fact_73 rfl 1 rfl ?_
              refine j_callVv (pc := 74) C (c_M_sumsTold l D y mo ma t1 (u30 + 1) t3 u12.2.1 u12.2.2.2.1 i7 i8 i42 i49 u12.2.2.2.2.1 u12.2.2.2.2.2.1 oo i59 i61 i64 i66 t67 i76 i78 tx u12.2.2.2.2.2.2.2.1 u12.2.2.2.2.2.2.2.2 (advS tx t3 (sumE tx t3 en (gs, cs)).1) s0 (xx + 1) ((sumE tx t3 en (gs, cs)).2) (kq + 1) f0 en (by omega) he hB xh91 xh90 (it_le xh18 (by omega)) xh25 (by omega) (by omega)) kw_Model_301 kv_Model_sumsTold 0 10 rfl rfl ⟨by decide, by decide⟩ ⟨by decide, by decide⟩ (wr := [(ma 36, .inl (y 3, 3, .inl (WD 27)))]) [8, 9, 1, 2, 3, 4, 5, 6, 7] [0] rfl rfl (by decide +kernel) (by decide +kernel) (by decide +kernel) (As := []) (rest := []) rfl (nb rfl) rfl d_Model_fact_74 (fun u92 hu93 => ?_)
              obtain ⟨xh94, xh95, xh96, xh97, xh98, xh99, xh100, xh101, xh102, xh103⟩ := hu93
              refine j_ws (ws' := [(ma 36, .inl (y 3, 3, .inl (WD 27))), MB mo ma (nI t1) (nI u92.1) (nI t3) u92.2.1 u92.2.2.1 u92.2.2.2.1 i7 i8 i42 i49 (nI u92.2.2.2.2.1) (nI u92.2.2.2.2.2.1) (nI u92.2.2.2.2.2.2.1) i59 i61 i64 i66 (nI t67) i76 i78, (ma 0, .inl (y 0, 1600, .inl (tby tx))), (ma 37, .inl (y 3, 3, .inl (WD 28))), (ma 38, .inl (y 3, 5, .inl (WD 29))), (ma 39, .inl (y 3, 5, .inl (WD 30))), (ma 40, .inl (y 3, 3, .inl (WD 31))), (ma 41, .inl (y 3, 3, .inl (WD 32))), (ma 50, .inl (y 0, 3200, .inl u92.2.2.2.2.2.2.2.1)), (ma 52, .inl (y 0, 1700, .inl u92.2.2.2.2.2.2.2.2))]) rfl ?_
              refine j_aload_n (pc := 77) C d_Model_fact_77 rfl 1 rfl ?_
              refine j_iload_n (pc := 78) C d_Model_fact_78 rfl 0 rfl ?_
              refine j_bipush (pc := 79) C (v := 60) d_Model_fact_79 (by decide) ?_
              refine j_icmp_neT (pc := 81) C (tgt := 89) d_Model_fact_81 (by decide) (show ¬ nI (tx u30) = nI 60 from fun e => absurd ((nI_eq (by omega) (by omega)).mp e) (by omega)) ?_
              refine j_iload_n (pc := 89) C d_Model_fact_89 rfl 0 rfl ?_
              refine j_bipush (pc := 90) C (v := 62) d_Model_fact_90 (by decide) ?_
              refine j_icmp_neT (pc := 92) C (tgt := 100) d_Model_fact_92 (by decide) (show ¬ nI (tx u30) = nI 62 from fun e => absurd ((nI_eq (by omega) (by omega)).mp e) (by omega)) ?_
              refine j_bipush (pc := 100) C (v := 13) d_Model_fact_100 (by decide) ?_
              have hac5 := rs_acc xh97
              refine j_callVv (pc := 102) C (c_M_code l D y mo ma t1 u92.1 t3 u92.2.1 u92.2.2.1 u92.2.2.2.1 i7 i8 i42 i49 u92.2.2.2.2.1 u92.2.2.2.2.2.1 (nI u92.2.2.2.2.2.2.1) i59 i61 i64 i66 t67 i76 i78 u92.2.2.2.2.2.2.2.1 13 (by omega)) kw_Model_344 kv_Model_code 0 10 rfl rfl ⟨by decide, by decide⟩ ⟨by decide, by decide⟩ (wr := [(ma 36, .inl (y 3, 3, .inl (WD 27))), (ma 0, .inl (y 0, 1600, .inl (tby tx))), (ma 37, .inl (y 3, 3, .inl (WD 28))), (ma 38, .inl (y 3, 5, .inl (WD 29))), (ma 39, .inl (y 3, 5, .inl (WD 30))), (ma 40, .inl (y 3, 3, .inl (WD 31))), (ma 41, .inl (y 3, 3, .inl (WD 32))), (ma 52, .inl (y 0, 1700, .inl u92.2.2.2.2.2.2.2.2))]) [1, 8] [0, 2, 3, 4, 5, 6, 7, 9] rfl rfl (by decide +kernel) (by decide +kernel) (by decide +kernel) (As := [.int 13]) (rest := []) rfl (nb rfl) rfl d_Model_fact_102 (fun _ _ => ?_)
              refine j_ws (ws' := [(ma 36, .inl (y 3, 3, .inl (WD 27))), (ma 0, .inl (y 0, 1600, .inl (tby tx))), (ma 37, .inl (y 3, 3, .inl (WD 28))), (ma 38, .inl (y 3, 5, .inl (WD 29))), (ma 39, .inl (y 3, 5, .inl (WD 30))), (ma 40, .inl (y 3, 3, .inl (WD 31))), (ma 41, .inl (y 3, 3, .inl (WD 32))), (ma 52, .inl (y 0, 1700, .inl u92.2.2.2.2.2.2.2.2)), MB mo ma (nI t1) (nI u92.1) (nI t3) u92.2.1 u92.2.2.1 u92.2.2.2.1 i7 i8 i42 i49 (nI (u92.2.2.2.2.1 + 1)) (nI u92.2.2.2.2.2.1) (nI u92.2.2.2.2.2.2.1) i59 i61 i64 i66 (nI t67) i76 i78, (ma 50, .inl (y 0, 3200, .inl (upd u92.2.2.2.2.2.2.2.1 u92.2.2.2.2.1 13)))]) rfl ?_
              exact j_vret (pc := 105) C hr (u92.1, u92.2.1, u92.2.2.1, u92.2.2.2.1, (u92.2.2.2.2.1 + 1), u92.2.2.2.2.2.1, u92.2.2.2.2.2.2.1, (upd u92.2.2.2.2.2.2.2.1 u92.2.2.2.2.1 13), u92.2.2.2.2.2.2.2.2) ⟨(show t2 ≤ u92.1 by omega), (show u92.1 ≤ t3 by omega), (fun e => by obtain ⟨_, f1, f2⟩ := xh96 e; exact ⟨rfl, show t2 < u92.1 by omega, show u92.2.2.2.2.2.1 = wn by omega⟩), (rs_held xh97 (by omega) (by decide)), (it_le xh98 (by omega)), (show wn ≤ u92.2.2.2.2.2.1 by omega), (rr_of xh100 (by rw [(show fact0 tx t3 en (gs, cs) = ((sumE tx t3 en (rsS tx t3 (cmpG tx t3 (sumE tx t3 en (gs, cs)).1) (sumE tx t3 en (gs, cs)).1, (sumE tx t3 en (gs, cs)).2)).1, putS (cmpC tx t3 (sumE tx t3 en (gs, cs)).1) (sumE tx t3 en (rsS tx t3 (cmpG tx t3 (sumE tx t3 en (gs, cs)).1) (sumE tx t3 en (gs, cs)).1, (sumE tx t3 en (gs, cs)).2)).2) from if_neg xh7)]; dsimp only; rw [xh89, show rsS tx t3 61 (sumE tx t3 en (gs, cs)).1 = advS tx t3 (sumE tx t3 en (gs, cs)).1 from if_pos xh86.1])), (show u92.2.2.2.2.2.2.1 ≤ 6 by omega), (fun e => ⟨by rw [(show fact0 tx t3 en (gs, cs) = ((sumE tx t3 en (rsS tx t3 (cmpG tx t3 (sumE tx t3 en (gs, cs)).1) (sumE tx t3 en (gs, cs)).1, (sumE tx t3 en (gs, cs)).2)).1, putS (cmpC tx t3 (sumE tx t3 en (gs, cs)).1) (sumE tx t3 en (rsS tx t3 (cmpG tx t3 (sumE tx t3 en (gs, cs)).1) (sumE tx t3 en (gs, cs)).1, (sumE tx t3 en (gs, cs)).2)).2) from if_neg xh7)]; dsimp only; rw [xh89, show rsS tx t3 61 (sumE tx t3 en (gs, cs)).1 = advS tx t3 (sumE tx t3 en (gs, cs)).1 from if_pos xh86.1]; rw [xh88]; exact cd_put (xh102 e).1 (by omega) rfl (by decide), (xh102 e).2⟩), (fun j hj => (xh103 j (by omega)).trans (xh23 j hj))⟩ [8, 1, 0, 2, 3, 4, 5, 6, 9, 7] rfl (by decide) (by decide) (by decide) d_Model_fact_105
            · refine j_icmp_eqF (pc := 50) C (tgt := 63) d_Model_fact_50 (by decide) (show ¬ nI (tx u30) = nI 61 from fun e => absurd ((nI_eq (by omega) (by omega)).mp e) (by omega)) ?_
              have xh104 : ¬ issS tx t3 60 ((sumE tx t3 en (gs, cs)).1) = true := (sg_no2 xh33 (show ¬ tx u30 = 60 by omega))
              have xh105 : ¬ issS tx t3 62 ((sumE tx t3 en (gs, cs)).1) = true := (sg_no2 xh33 (show ¬ tx u30 = 62 by omega))
              have xh106 : ¬ issS tx t3 61 ((sumE tx t3 en (gs, cs)).1) = true := (sg_no2 xh33 (show ¬ tx u30 = 61 by omega))
              refine j_aload_n (pc := 53) C d_Model_fact_53 rfl 1 rfl ?_
              refine j_iconst (pc := 54) C (v := 1) d_Model_fact_54 (by decide) ?_
              refine j_aload_n (pc := 55) C d_Model_fact_55 rfl 1 rfl ?_
              refine j_get (pc := 56) C gf_Model_207 8 rfl rfl d_Model_fact_56 ?_
              refine j_callVv (pc := 59) C (c_M_fail_1 l D y mo ma t1 u30 t3 u12.2.1 0 u12.2.2.2.1 i7 i8 i42 i49 (nI u12.2.2.2.2.1) (nI u12.2.2.2.2.2.1) (nI oo) i59 i61 i64 i66 t67 i76 i78 u30 ((sumE tx t3 en (gs, cs)).1) tx ((rr_z xh34).mp rfl) (by omega) rfl) kw_Model_230 kv_Model_fail 0 10 rfl rfl ⟨by decide, by decide⟩ ⟨by decide, by decide⟩ (wr := [(ma 36, .inl (y 3, 3, .inl (WD 27))), (ma 37, .inl (y 3, 3, .inl (WD 28))), (ma 38, .inl (y 3, 5, .inl (WD 29))), (ma 39, .inl (y 3, 5, .inl (WD 30))), (ma 40, .inl (y 3, 3, .inl (WD 31))), (ma 41, .inl (y 3, 3, .inl (WD 32))), (ma 50, .inl (y 0, 3200, .inl u12.2.2.2.2.2.2.2.1)), (ma 52, .inl (y 0, 1700, .inl u12.2.2.2.2.2.2.2.2)), (ma 0, .inl (y 0, 1600, .inl (tby tx)))]) [8] [0, 1, 2, 3, 4, 5, 6, 7, 9] rfl rfl (by decide +kernel) (by decide +kernel) (by decide +kernel) (As := [.int 1, .int (nI u30)]) (rest := []) rfl (nb rfl) rfl d_Model_fact_59 (fun u107 hu108 => ?_)
              obtain ⟨xh109, xh110⟩ := hu108
              refine j_ws (ws' := [(ma 36, .inl (y 3, 3, .inl (WD 27))), (ma 37, .inl (y 3, 3, .inl (WD 28))), (ma 38, .inl (y 3, 5, .inl (WD 29))), (ma 39, .inl (y 3, 5, .inl (WD 30))), (ma 40, .inl (y 3, 3, .inl (WD 31))), (ma 41, .inl (y 3, 3, .inl (WD 32))), (ma 50, .inl (y 0, 3200, .inl u12.2.2.2.2.2.2.2.1)), (ma 52, .inl (y 0, 1700, .inl u12.2.2.2.2.2.2.2.2)), (ma 0, .inl (y 0, 1600, .inl (tby tx))), MB mo ma (nI t1) (nI u30) (nI t3) u12.2.1 u107.1 u107.2 i7 i8 i42 i49 (nI u12.2.2.2.2.1) (nI u12.2.2.2.2.2.1) (nI oo) i59 i61 i64 i66 (nI t67) i76 i78]) rfl ?_
              have xh111 : RS kq s0 f0 (xx + 1) u107.1 u12.2.2.2.2.2.2.2.1 u12.2.2.2.2.2.2.2.2 u12.2.2.2.2.1 u12.2.2.2.2.2.1 u12.1 := rs_bad xh27 xh109
              exact j_vret (pc := 62) C hr (u30, u12.2.1, u107.1, u107.2, u12.2.2.2.2.1, u12.2.2.2.2.2.1, oo, u12.2.2.2.2.2.2.2.1, u12.2.2.2.2.2.2.2.2) ⟨(show t2 ≤ u30 by omega), (show u30 ≤ t3 by omega), (fun e => absurd e xh109), (rs_at xh111 (show u12.1 ≤ u30 by omega)), xh18, (show wn ≤ u12.2.2.2.2.2.1 by omega), (rr_of xh110 (by rw [(show fact0 tx t3 en (gs, cs) = ((sumE tx t3 en (rsS tx t3 (cmpG tx t3 (sumE tx t3 en (gs, cs)).1) (sumE tx t3 en (gs, cs)).1, (sumE tx t3 en (gs, cs)).2)).1, putS (cmpC tx t3 (sumE tx t3 en (gs, cs)).1) (sumE tx t3 en (rsS tx t3 (cmpG tx t3 (sumE tx t3 en (gs, cs)).1) (sumE tx t3 en (gs, cs)).1, (sumE tx t3 en (gs, cs)).2)).2) from if_neg xh7)]; dsimp only; rw [(show cmpG tx t3 (sumE tx t3 en (gs, cs)).1 = 61 from cmpG_3 xh104 xh105), show rsS tx t3 61 (sumE tx t3 en (gs, cs)).1 = failS 1 (stS tx t3 (sumE tx t3 en (gs, cs)).1) (sumE tx t3 en (gs, cs)).1 from if_neg xh106, sumE_d en _ _ (fail_nz (by decide)), ← xh33])), (show oo ≤ 6 by omega), (fun e => absurd e xh109), xh23⟩ [9, 8, 0, 1, 2, 3, 4, 5, 6, 7] rfl (by decide) (by decide) (by decide) d_Model_fact_62
    · refine j_aload_n (pc := 22) C d_Model_fact_22 rfl 0 rfl ?_
      refine j_get (pc := 23) C gf_Model_201 1 rfl rfl d_Model_fact_23 ?_
      refine j_if_eqF (pc := 26) C (tgt := 30) d_Model_fact_26 (by decide) c24 ?_
      exact j_vret (pc := 29) C hr (u12.1, u12.2.1, u12.2.2.1, u12.2.2.2.1, u12.2.2.2.2.1, u12.2.2.2.2.2.1, u12.2.2.2.2.2.2.1, u12.2.2.2.2.2.2.2.1, u12.2.2.2.2.2.2.2.2) ⟨(show t2 ≤ u12.1 by omega), (show u12.1 ≤ t3 by omega), (fun e => absurd e c24), (rs_at xh17 (show u12.1 ≤ u12.1 by omega)), xh18, (show wn ≤ u12.2.2.2.2.2.1 by omega), (rr_of xh20 (by rw [(show fact0 tx t3 en (gs, cs) = ((sumE tx t3 en (rsS tx t3 (cmpG tx t3 (sumE tx t3 en (gs, cs)).1) (sumE tx t3 en (gs, cs)).1, (sumE tx t3 en (gs, cs)).2)).1, putS (cmpC tx t3 (sumE tx t3 en (gs, cs)).1) (sumE tx t3 en (rsS tx t3 (cmpG tx t3 (sumE tx t3 en (gs, cs)).1) (sumE tx t3 en (gs, cs)).1, (sumE tx t3 en (gs, cs)).2)).2) from if_neg xh7)]; dsimp only; rw [rs_d (fun q => c24 ((rr_z xh20).mpr q)), sumE_d en _ _ (fun q => c24 ((rr_z xh20).mpr q))])), (show u12.2.2.2.2.2.2.1 ≤ 6 by omega), (fun e => absurd e c24), xh23⟩ [1, 2, 0, 3, 4, 5, 6, 7, 8, 9] rfl (by decide) (by decide) (by decide) d_Model_fact_29
  · refine j_if_eqF (pc := 8) C (tgt := 18) d_Model_fact_8 (by decide) (by decide) ?_
    refine j_aload_n (pc := 11) C d_Model_fact_11 rfl 0 rfl ?_
    refine j_bipush (pc := 12) C (v := 17) d_Model_fact_12 (by decide) ?_
    refine j_callVv (pc := 14) C (c_M_code l D y mo ma t1 u2.1 t3 u2.2 0 i6 i7 i8 i42 i49 cd wn (nI oo) i59 i61 i64 i66 t67 i76 i78 g50 17 (by omega)) kw_Model_344 kv_Model_code 0 10 rfl rfl ⟨by decide, by decide⟩ ⟨by decide, by decide⟩ (wr := [(ma 37, .inl (y 3, 3, .inl (WD 28))), (ma 38, .inl (y 3, 5, .inl (WD 29))), (ma 39, .inl (y 3, 5, .inl (WD 30))), (ma 40, .inl (y 3, 3, .inl (WD 31))), (ma 41, .inl (y 3, 3, .inl (WD 32))), (ma 52, .inl (y 0, 1700, .inl g52)), (ma 0, .inl (y 0, 1600, .inl (tby tx))), (ma 36, .inl (y 3, 3, .inl (WD 27)))]) [7, 5] [0, 1, 2, 3, 4, 6, 8, 9] rfl rfl (by decide +kernel) (by decide +kernel) (by decide +kernel) (As := [.int 17]) (rest := []) rfl (nb rfl) rfl d_Model_fact_14 (fun _ _ => ?_)
    refine j_ws (ws' := [(ma 37, .inl (y 3, 3, .inl (WD 28))), (ma 38, .inl (y 3, 5, .inl (WD 29))), (ma 39, .inl (y 3, 5, .inl (WD 30))), (ma 40, .inl (y 3, 3, .inl (WD 31))), (ma 41, .inl (y 3, 3, .inl (WD 32))), (ma 52, .inl (y 0, 1700, .inl g52)), (ma 0, .inl (y 0, 1600, .inl (tby tx))), (ma 36, .inl (y 3, 3, .inl (WD 27))), MB mo ma (nI t1) (nI u2.1) (nI t3) u2.2 0 i6 i7 i8 i42 i49 (nI (cd + 1)) (nI wn) (nI oo) i59 i61 i64 i66 (nI t67) i76 i78, (ma 50, .inl (y 0, 3200, .inl (upd g50 cd 17)))]) rfl ?_
    exact j_vret (pc := 17) C hr (u2.1, u2.2, 0, i6, (cd + 1), wn, oo, (upd g50 cd 17), g52) ⟨(show t2 ≤ u2.1 by omega), (show u2.1 ≤ t3 by omega), (fun _ => ⟨rfl, show t2 < u2.1 by omega, show wn = wn by omega⟩), (rs_leaf hR (by omega) (show t2 ≤ u2.1 by omega) (fun _ => ⟨show t2 < u2.1 by omega, by decide⟩)), hTT, (show wn ≤ wn by omega), (rr_of xh9 (by rw [(show fact0 tx t3 en (gs, cs) = (advS tx t3 gs, putS 17 cs) from if_pos xh10)])), (show oo ≤ 6 by omega), (fun _ => ⟨by rw [(show fact0 tx t3 en (gs, cs) = (advS tx t3 gs, putS 17 cs) from if_pos xh10)]; exact cd_put hcd (by omega) rfl (by decide), rfl⟩), (fun _ _ => rfl)⟩ [8, 6, 7, 0, 1, 2, 3, 4, 9, 5] rfl (by decide) (by decide) (by decide) d_Model_fact_17
theorem d_Model_hasSquare_0 : decode prog_13_method_42_code 0 = .ok (.iconst 0, 1) := by decide +kernel
theorem d_Model_hasSquare_1 : decode prog_13_method_42_code 1 = .ok (.istore_n 1, 1) := by decide +kernel
theorem d_Model_hasSquare_2 : decode prog_13_method_42_code 2 = .ok (.iload_n 1, 1) := by decide +kernel
theorem d_Model_hasSquare_3 : decode prog_13_method_42_code 3 = .ok (.aload_n 0, 1) := by decide +kernel
theorem d_Model_hasSquare_4 : decode prog_13_method_42_code 4 = .ok (.getfield 292, 3) := by decide +kernel
theorem d_Model_hasSquare_7 : decode prog_13_method_42_code 7 = .ok (.if_icmp .ge 22, 3) := by decide +kernel
theorem d_Model_hasSquare_29 : decode prog_13_method_42_code 29 = .ok (.iconst 0, 1) := by decide +kernel
theorem d_Model_hasSquare_30 : decode prog_13_method_42_code 30 = .ok (.ireturn, 1) := by decide +kernel
theorem d_Model_hasSquare_10 : decode prog_13_method_42_code 10 = .ok (.aload_n 0, 1) := by decide +kernel
theorem d_Model_hasSquare_11 : decode prog_13_method_42_code 11 = .ok (.getfield 139, 3) := by decide +kernel
theorem d_Model_hasSquare_14 : decode prog_13_method_42_code 14 = .ok (.iload_n 1, 1) := by decide +kernel
theorem d_Model_hasSquare_15 : decode prog_13_method_42_code 15 = .ok (.iaload, 1) := by decide +kernel
theorem d_Model_hasSquare_16 : decode prog_13_method_42_code 16 = .ok (.bipush 25, 2) := by decide +kernel
theorem d_Model_hasSquare_18 : decode prog_13_method_42_code 18 = .ok (.if_icmp .ne 5, 3) := by decide +kernel
theorem d_Model_hasSquare_23 : decode prog_13_method_42_code 23 = .ok (.iinc 1 1, 3) := by decide +kernel
theorem d_Model_hasSquare_26 : decode prog_13_method_42_code 26 = .ok (.goto (-24), 3) := by decide +kernel
theorem d_Model_hasSquare_21 : decode prog_13_method_42_code 21 = .ok (.iconst 1, 1) := by decide +kernel
theorem d_Model_hasSquare_22 : decode prog_13_method_42_code 22 = .ok (.ireturn, 1) := by decide +kernel
set_option maxHeartbeats 4000000 in
set_option maxRecDepth 100000 in
theorem c_M_hasSquare (l : Launch) (D : va_G) (y : Nat → ClassId) (mo : Nat) (ma : Nat → Nat) (t1 : Nat) (t2 : Nat) (t3 : Nat) (i4 : Int32) (i5 : Int32) (i6 : Int32) (i7 : Int32) (i8 : Int32) (i42 : Int32) (i49 : Int32) (i51 : Int32) (wn : Nat) (i54 : Int32) (i59 : Int32) (i61 : Int32) (i64 : Int32) (i66 : Int32) (t67 : Nat) (i76 : Int64) (i78 : Int32) (g52 : Nat → Int32) (sk : List Nat) (hw : wn ≤ 1700) (hww : WB sk g52 0 wn) : CT l D y ⟨"NineBoardsModel", "hasSquare", "()Z"⟩ prog_13_method_42_code 2 (some .boolean) ({ frames := 0, cells := 0, slots := 0, locals := 0 } : Room) [.ref mo] [MB mo ma (nI t1) (nI t2) (nI t3) i4 i5 i6 i7 i8 i42 i49 i51 (nI wn) i54 i59 i61 i64 i66 (nI t67) i76 i78, (ma 52, .inl (y 0, 1700, .inl g52))] (QI D [MB mo ma (nI t1) (nI t2) (nI t3) i4 i5 i6 i7 i8 i42 i49 i51 (nI wn) i54 i59 i61 i64 i66 (nI t67) i76 i78, (ma 52, .inl (y 0, 1700, .inl g52))] (fun (r : Int32) (u : Unit) => ((r = 0 ∧ ¬ 25 ∈ sk) ∨ (r = 1 ∧ 25 ∈ sk))) (fun _ => [MB mo ma (nI t1) (nI t2) (nI t3) i4 i5 i6 i7 i8 i42 i49 i51 (nI wn) i54 i59 i61 i64 i66 (nI t67) i76 i78, (ma 52, .inl (y 0, 1700, .inl g52))])) := by
  refine CT.of (by decide) (nb rfl) ?_
  intro p e s m args below meth c C hr
  refine j_lv (lv' := [(0, .ref mo)]) rfl ?_
  refine j_iconst (pc := 0) C (v := 0) d_Model_hasSquare_0 (by decide) ?_
  refine j_istore_n (pc := 1) C (lv' := [(1, .int 0), (0, .ref mo)]) d_Model_hasSquare_1 rfl (by decide) rfl ?_
  refine j_loop (α := Nat) (fun a => wn - a) (fun a => (a ≤ wn) ∧ (NSq g52 a)) (fun a => [MB mo ma (nI t1) (nI t2) (nI t3) i4 i5 i6 i7 i8 i42 i49 i51 (nI wn) i54 i59 i61 i64 i66 (nI t67) i76 i78, (ma 52, .inl (y 0, 1700, .inl g52))]) (fun a => [(1, .int (nI a)), (0, .ref mo)]) (0) rfl rfl ⟨(show 0 ≤ wn by omega), (fun k hk => absurd hk (by omega))⟩ ?_
  rintro iz hP3 ih4
  obtain ⟨hi__, hq__⟩ := hP3
  have hi_ : iz ≤ wn := hi__
  have hq_ : NSq g52 iz := hq__
  refine j_ws (ws' := [MB mo ma (nI t1) (nI t2) (nI t3) i4 i5 i6 i7 i8 i42 i49 i51 (nI wn) i54 i59 i61 i64 i66 (nI t67) i76 i78, (ma 52, .inl (y 0, 1700, .inl g52))]) rfl ?_
  refine j_lv (lv' := [(1, .int (nI iz)), (0, .ref mo)]) rfl ?_
  refine j_iload_n (pc := 2) C d_Model_hasSquare_2 rfl 0 rfl ?_
  refine j_aload_n (pc := 3) C d_Model_hasSquare_3 rfl 1 rfl ?_
  refine j_get (pc := 4) C gf_Model_292 0 rfl rfl d_Model_hasSquare_4 ?_
  by_cases c5 : wn ≤ iz
  · refine j_icmp_geT (pc := 7) C (tgt := 29) d_Model_hasSquare_7 (by decide) (show nI wn ≤ nI iz from nI_le (by omega) (by omega)) ?_
    refine j_iconst (pc := 29) C (v := 0) d_Model_hasSquare_29 (by decide) ?_
    exact j_iret (pc := 30) C hr (by decide) () (Or.inl ⟨rfl, sq_mem0 hww (show NSq g52 wn by rw [show wn = iz by omega]; exact hq_)⟩) [0, 1] rfl (by decide) (by decide) (by decide) d_Model_hasSquare_30
  · refine j_icmp_geF (pc := 7) C (tgt := 29) d_Model_hasSquare_7 (by decide) (show ¬ nI wn ≤ nI iz from nI_ge (by omega) (by omega)) ?_
    refine j_aload_n (pc := 10) C d_Model_hasSquare_10 rfl 1 rfl ?_
    refine j_get (pc := 11) C gf_Model_139 0 rfl rfl d_Model_hasSquare_11 ?_
    refine j_iload_n (pc := 14) C d_Model_hasSquare_14 rfl 0 rfl ?_
    refine j_iald (pc := 15) C 1 rfl (v := g52 iz) (vp_in_nI (by omega) (by decide)) (by rw [nI_clamp (by omega)]) d_Model_hasSquare_15 ?_
    refine j_bipush (pc := 16) C (v := 25) d_Model_hasSquare_16 (by decide) ?_
    refine j_icmp_ne (pc := 18) C (tgt := 23) d_Model_hasSquare_18 (by decide) (fun c6 => ?_) (fun c6 => ?_)
    · refine j_iinc (pc := 23) C (v := nI (iz + 1)) (lv' := [(1, .int (nI (iz + 1))), (0, .ref mo)]) d_Model_hasSquare_23 0 rfl (nI_add _ _) (by decide) rfl ?_
      refine j_goto (pc := 26) C (tgt := 2) d_Model_hasSquare_26 (by decide) ?_
      exact ih4 ((iz + 1)) ⟨(show (iz + 1) ≤ wn by omega), (nsq_up hq_ c6)⟩ (show wn - (iz + 1) < wn - iz by omega)
    · refine j_iconst (pc := 21) C (v := 1) d_Model_hasSquare_21 (by decide) ?_
      exact j_iret (pc := 22) C hr (by decide) () (Or.inr ⟨rfl, sq_mem hww ⟨iz, by omega, c6⟩⟩) [0, 1] rfl (by decide) (by decide) (by decide) d_Model_hasSquare_22
theorem d_Model_dropsNots_0 : decode prog_13_method_43_code 0 = .ok (.aload_n 0, 1) := by decide +kernel
theorem d_Model_dropsNots_1 : decode prog_13_method_43_code 1 = .ok (.getfield 201, 3) := by decide +kernel
theorem d_Model_dropsNots_4 : decode prog_13_method_43_code 4 = .ok (.ifCond .ne 29, 3) := by decide +kernel
theorem d_Model_dropsNots_7 : decode prog_13_method_43_code 7 = .ok (.aload_n 0, 1) := by decide +kernel
theorem d_Model_dropsNots_8 : decode prog_13_method_43_code 8 = .ok (.bipush 16, 2) := by decide +kernel
theorem d_Model_dropsNots_10 : decode prog_13_method_43_code 10 = .ok (.invokevirtual 362, 3) := by decide +kernel
theorem d_Model_dropsNots_13 : decode prog_13_method_43_code 13 = .ok (.ifCond .eq 20, 3) := by decide +kernel
theorem d_Model_dropsNots_33 : decode prog_13_method_43_code 33 = .ok (.return_, 1) := by decide +kernel
theorem d_Model_dropsNots_16 : decode prog_13_method_43_code 16 = .ok (.aload_n 0, 1) := by decide +kernel
theorem d_Model_dropsNots_17 : decode prog_13_method_43_code 17 = .ok (.dup, 1) := by decide +kernel
theorem d_Model_dropsNots_18 : decode prog_13_method_43_code 18 = .ok (.getfield 295, 3) := by decide +kernel
theorem d_Model_dropsNots_21 : decode prog_13_method_43_code 21 = .ok (.iconst 1, 1) := by decide +kernel
theorem d_Model_dropsNots_22 : decode prog_13_method_43_code 22 = .ok (.isub, 1) := by decide +kernel
theorem d_Model_dropsNots_23 : decode prog_13_method_43_code 23 = .ok (.putfield 295, 3) := by decide +kernel
theorem d_Model_dropsNots_26 : decode prog_13_method_43_code 26 = .ok (.aload_n 0, 1) := by decide +kernel
theorem d_Model_dropsNots_27 : decode prog_13_method_43_code 27 = .ok (.invokevirtual 350, 3) := by decide +kernel
theorem d_Model_dropsNots_30 : decode prog_13_method_43_code 30 = .ok (.goto (-30), 3) := by decide +kernel
set_option maxHeartbeats 4000000 in
set_option maxRecDepth 100000 in
theorem c_M_dropsNots_A (l : Launch) (D : va_G) (y : Nat → ClassId) (mo : Nat) (ma : Nat → Nat) (t1 : Nat) (t2 : Nat) (t3 : Nat) (i4 : Int32) (i6 : Int32) (i7 : Int32) (i8 : Int32) (i42 : Int32) (i49 : Int32) (cd : Nat) (wn : Nat) (oo : Nat) (i59 : Int32) (i61 : Int32) (i64 : Int32) (i66 : Int32) (t67 : Nat) (i76 : Int64) (i78 : Int32) (g50 : Nat → Int32) (g52 : Nat → Int32) (s0 : Nat) (xx : Nat) (sk : List Nat) (cs : List Nat) (kq : Nat) (f0 : Nat → Int32) (ha : t2 ≤ t3) (he : t3 ≤ 1600) (hR : RS kq s0 f0 (xx + 1) 0 g50 g52 cd wn t2) (hww : WB sk g52 0 wn) (hcd : CD cs g50 cd) (hop : opn sk ≤ oo) (ho6 : oo ≤ 6) (hK : 1 ≤ kq) : CT l D y ⟨"NineBoardsModel", "dropsNots", "()V"⟩ prog_13_method_43_code 1 none ({ frames := 2, cells := 0, slots := 0, locals := 41 } : Room) [.ref mo] [MB mo ma (nI t1) (nI t2) (nI t3) i4 0 i6 i7 i8 i42 i49 (nI cd) (nI wn) (nI oo) i59 i61 i64 i66 (nI t67) i76 i78, (ma 50, .inl (y 0, 3200, .inl g50)), (ma 52, .inl (y 0, 1700, .inl g52))] (QV D [MB mo ma (nI t1) (nI t2) (nI t3) i4 0 i6 i7 i8 i42 i49 (nI cd) (nI wn) (nI oo) i59 i61 i64 i66 (nI t67) i76 i78, (ma 50, .inl (y 0, 3200, .inl g50)), (ma 52, .inl (y 0, 1700, .inl g52))] (fun (u : Nat × Nat × Nat × (Nat → Int32) × List Nat × List Nat) => u.2.1 ≤ wn ∧ RS kq s0 f0 (xx + 1) 0 u.2.2.2.1 g52 u.1 u.2.1 t2 ∧ WB u.2.2.2.2.2 g52 0 u.2.1 ∧ CD u.2.2.2.2.1 u.2.2.2.1 u.1 ∧ opn u.2.2.2.2.2 ≤ u.2.2.1 ∧ u.2.2.1 ≤ 6 ∧ dnN sk cs oo = (u.2.2.2.2.2, u.2.2.2.2.1, u.2.2.1)) (fun u => [MB mo ma (nI t1) (nI t2) (nI t3) i4 0 i6 i7 i8 i42 i49 (nI u.1) (nI u.2.1) (nI u.2.2.1) i59 i61 i64 i66 (nI t67) i76 i78, (ma 50, .inl (y 0, 3200, .inl u.2.2.2.1)), (ma 52, .inl (y 0, 1700, .inl g52))])) := by
  refine CT.of (by decide) (nb rfl) ?_
  intro p e s m args below meth c C hr
  refine j_lv (lv' := [(0, .ref mo)]) rfl ?_
  refine j_loop (α := Nat × Nat × (Nat → Int32) × Nat × List Nat × List Nat) (fun a => a.2.1) (fun a => (a.2.1 ≤ wn) ∧ (RS kq s0 f0 (xx + 1) 0 a.2.2.1 g52 a.1 a.2.1 t2) ∧ (WB a.2.2.2.2.1 g52 0 a.2.1) ∧ (CD a.2.2.2.2.2 a.2.2.1 a.1) ∧ (opn a.2.2.2.2.1 ≤ a.2.2.2.1) ∧ (a.2.2.2.1 ≤ 6) ∧ (dnN a.2.2.2.2.1 a.2.2.2.2.2 a.2.2.2.1 = dnN sk cs oo)) (fun a => [MB mo ma (nI t1) (nI t2) (nI t3) i4 0 i6 i7 i8 i42 i49 (nI a.1) (nI a.2.1) (nI a.2.2.2.1) i59 i61 i64 i66 (nI t67) i76 i78, (ma 50, .inl (y 0, 3200, .inl a.2.2.1)), (ma 52, .inl (y 0, 1700, .inl g52))]) (fun a => [(0, .ref mo)]) (cd, wn, g50, oo, sk, cs) rfl rfl ⟨(show wn ≤ wn by omega), hR, hww, hcd, hop, ho6, rfl⟩ ?_
  rintro ⟨zc, zn, zf, oz, sz, cz⟩ hP15 ih16
  obtain ⟨hn__, hR__, hwz__, hcz__, hoz__, ho__, hdz__⟩ := hP15
  have hn_ : zn ≤ wn := hn__
  have hR_ : RS kq s0 f0 (xx + 1) 0 zf g52 zc zn t2 := hR__
  have hwz_ : WB sz g52 0 zn := hwz__
  have hcz_ : CD cz zf zc := hcz__
  have hoz_ : opn sz ≤ oz := hoz__
  have ho_ : oz ≤ 6 := ho__
  have hdz_ : dnN sz cz oz = dnN sk cs oo := hdz__
  refine j_ws (ws' := [MB mo ma (nI t1) (nI t2) (nI t3) i4 0 i6 i7 i8 i42 i49 (nI zc) (nI zn) (nI oz) i59 i61 i64 i66 (nI t67) i76 i78, (ma 50, .inl (y 0, 3200, .inl zf)), (ma 52, .inl (y 0, 1700, .inl g52))]) rfl ?_
  refine j_lv (lv' := [(0, .ref mo)]) rfl ?_
  have hac := rs_acc hR_
  refine j_aload_n (pc := 0) C d_Model_dropsNots_0 rfl 0 rfl ?_
  refine j_get (pc := 1) C gf_Model_201 0 rfl rfl d_Model_dropsNots_1 ?_
  refine j_if_neF (pc := 4) C (tgt := 33) d_Model_dropsNots_4 (by decide) (by decide) ?_
  refine j_aload_n (pc := 7) C d_Model_dropsNots_7 rfl 0 rfl ?_
  refine j_bipush (pc := 8) C (v := 16) d_Model_dropsNots_8 (by decide) ?_
  refine j_callVi (pc := 10) C (c_M_isOn l D y mo ma t1 t2 t3 i4 0 i6 i7 i8 i42 i49 (nI zc) zn (nI oz) i59 i61 i64 i66 t67 i76 i78 g52 16 (by omega)) kw_Model_362 kv_Model_isOn 0 10 rfl rfl ⟨by decide, by decide⟩ ⟨by decide, by decide⟩ (wr := [(ma 50, .inl (y 0, 3200, .inl zf))]) [0, 2] [1] rfl rfl (by decide) (by decide) (by decide) (As := [.int 16]) (rest := []) rfl (nb rfl) rfl d_Model_dropsNots_10 (fun r17 _ hr17 => ?_)
  refine j_ws (ws' := [(ma 50, .inl (y 0, 3200, .inl zf)), MB mo ma (nI t1) (nI t2) (nI t3) i4 0 i6 i7 i8 i42 i49 (nI zc) (nI zn) (nI oz) i59 i61 i64 i66 (nI t67) i76 i78, (ma 52, .inl (y 0, 1700, .inl g52))]) rfl ?_
  rcases hr17 with ⟨rfl, xh19⟩ | ⟨rfl, xh20, e21⟩
  · refine j_if_eqT (pc := 13) C (tgt := 33) d_Model_dropsNots_13 (by decide) (by decide) ?_
    exact j_vret (pc := 33) C hr (zc, zn, oz, zf, cz, sz) ⟨hn_, hR_, hwz_, hcz_, hoz_, (show oz ≤ 6 by omega), (show dnN sk cs oo = (sz, cz, oz) by rw [← hdz_]; exact dn_no (on_no (c := 16) hwz_ xh19) cz oz)⟩ [1, 0, 2] rfl (by decide) (by decide) (by decide) d_Model_dropsNots_33
  · refine j_if_eqF (pc := 13) C (tgt := 33) d_Model_dropsNots_13 (by decide) (by decide) ?_
    obtain ⟨vq22, sq23, xh24, xh25, xh26, xh27⟩ := wb_top hwz_ (show 0 < zn by omega)
    have xh28 : vq22 = 16 := on_yes xh25 xh26 (by decide) e21
    obtain ⟨xh29, xh30⟩ := opn_hd (show opn (16 :: sq23) ≤ oz by have hq := hoz_; rw [xh24, xh28] at hq; exact hq) (by decide)
    refine j_aload_n (pc := 16) C d_Model_dropsNots_16 rfl 0 rfl ?_
    refine j_dup (pc := 17) C d_Model_dropsNots_17 rfl ?_
    refine j_get (pc := 18) C gf_Model_295 1 rfl rfl d_Model_dropsNots_18 ?_
    refine j_iconst (pc := 21) C (v := 1) d_Model_dropsNots_21 (by decide) ?_
    refine j_isub (pc := 22) C (v := nI (oz - 1)) d_Model_dropsNots_22 (pk_sub (a := oz) (b := 1) (by omega)) ?_
    refine j_put (pc := 23) C pf_Model_295 1 (ws' := [(ma 50, .inl (y 0, 3200, .inl zf)), MB mo ma (nI t1) (nI t2) (nI t3) i4 0 i6 i7 i8 i42 i49 (nI zc) (nI zn) (nI (oz - 1)) i59 i61 i64 i66 (nI t67) i76 i78, (ma 52, .inl (y 0, 1700, .inl g52))]) rfl rfl rfl (nl rfl) rfl d_Model_dropsNots_23 ?_
    refine j_aload_n (pc := 26) C d_Model_dropsNots_26 rfl 0 rfl ?_
    refine j_callVv (pc := 27) C (c_M_drops l D y mo ma t1 t2 t3 i4 0 i6 i7 i8 i42 i49 zc zn (nI (oz - 1)) i59 i61 i64 i66 t67 i76 i78 zf g52 (by omega) (by omega) (by omega)) kw_Model_350 kv_Model_drops 0 10 rfl rfl ⟨by decide, by decide⟩ ⟨by decide, by decide⟩ (wr := []) [1, 0, 2] [] rfl rfl (by decide) (by decide) (by decide) (As := []) (rest := []) rfl (nb rfl) rfl d_Model_dropsNots_27 (fun _ _ => ?_)
    refine j_ws (ws' := [MB mo ma (nI t1) (nI t2) (nI t3) i4 0 i6 i7 i8 i42 i49 (nI (zc + 1)) (nI (zn - 1)) (nI (oz - 1)) i59 i61 i64 i66 (nI t67) i76 i78, (ma 50, .inl (y 0, 3200, .inl (upd zf zc (g52 (zn - 1))))), (ma 52, .inl (y 0, 1700, .inl g52))]) rfl ?_
    refine j_goto (pc := 30) C (tgt := 0) d_Model_dropsNots_30 (by decide) ?_
    exact ih16 ((zc + 1), (zn - 1), (upd zf zc (g52 (zn - 1))), (oz - 1), sq23, (putS 16 cz)) ⟨(show (zn - 1) ≤ wn by omega), (show RS kq s0 f0 (xx + 1) 0 (upd zf zc (g52 (zn - 1))) g52 (zc + 1) (zn - 1) t2 from rs_drop hR_ (by omega) (show zn = zn - 1 + 1 by omega) (Or.inr (by rw [e21]; decide))), xh27, (show CD (putS 16 cz) (upd zf zc (g52 (zn - 1))) (zc + 1) from cd_put hcz_ (by omega) (by rw [xh25, xh28]) (by decide)), xh30, (show (oz - 1) ≤ 6 by omega), (show dnN sq23 (putS 16 cz) (oz - 1) = dnN sk cs oo by rw [← hdz_, xh24, xh28]; rfl)⟩ (show (zn - 1) < zn by omega)
set_option maxHeartbeats 4000000 in
set_option maxRecDepth 100000 in
theorem c_M_dropsNots_D (l : Launch) (D : va_G) (y : Nat → ClassId) (mo : Nat) (ma : Nat → Nat) (t1 : Nat) (t2 : Nat) (t3 : Nat) (i4 : Int32) (i5 : Int32) (i6 : Int32) (i7 : Int32) (i8 : Int32) (i42 : Int32) (i49 : Int32) (i51 : Int32) (i53 : Int32) (i54 : Int32) (i59 : Int32) (i61 : Int32) (i64 : Int32) (i66 : Int32) (t67 : Nat) (i76 : Int64) (i78 : Int32) (g50 : Nat → Int32) (g52 : Nat → Int32) (hb5 : ¬ i5 = 0) : CT l D y ⟨"NineBoardsModel", "dropsNots", "()V"⟩ prog_13_method_43_code 1 none ({ frames := 0, cells := 0, slots := 0, locals := 0 } : Room) [.ref mo] [MB mo ma (nI t1) (nI t2) (nI t3) i4 i5 i6 i7 i8 i42 i49 i51 i53 i54 i59 i61 i64 i66 (nI t67) i76 i78, (ma 50, .inl (y 0, 3200, .inl g50)), (ma 52, .inl (y 0, 1700, .inl g52))] (QV D [MB mo ma (nI t1) (nI t2) (nI t3) i4 i5 i6 i7 i8 i42 i49 i51 i53 i54 i59 i61 i64 i66 (nI t67) i76 i78, (ma 50, .inl (y 0, 3200, .inl g50)), (ma 52, .inl (y 0, 1700, .inl g52))] (fun (u : Unit) => True) (fun _ => [MB mo ma (nI t1) (nI t2) (nI t3) i4 i5 i6 i7 i8 i42 i49 i51 i53 i54 i59 i61 i64 i66 (nI t67) i76 i78, (ma 50, .inl (y 0, 3200, .inl g50)), (ma 52, .inl (y 0, 1700, .inl g52))])) := by
  refine CT.of (by decide) (nb rfl) ?_
  intro p e s m args below meth c C hr
  refine j_lv (lv' := [(0, .ref mo)]) rfl ?_
  refine j_aload_n (pc := 0) C d_Model_dropsNots_0 rfl 0 rfl ?_
  refine j_get (pc := 1) C gf_Model_201 0 rfl rfl d_Model_dropsNots_1 ?_
  refine j_if_neT (pc := 4) C (tgt := 33) d_Model_dropsNots_4 (by decide) hb5 ?_
  exact j_vret (pc := 33) C hr () trivial [0, 1, 2] rfl (by decide) (by decide) (by decide) d_Model_dropsNots_33
