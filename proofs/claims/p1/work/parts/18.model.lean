def dayF (d : Int32) : Nat → Int32 := fun k => if k = 0 then d else 0
def lakeF : Nat → Int32 := fun k => if k = 7 then 1 else if k = 8 then 1 else if k = 12 then 9999 else 0
def powF : Nat → Int32 := fun k => nI (3 ^ k)
def mixF (i : Nat) (f g : Nat → Int32) : Nat → Int32 := fun k => if k < i then g k else f k
theorem up_dayF {d : Int32} {k : Nat} (h : k ≠ 0) : upd (dayF d) k 0 = dayF d := by
  funext j
  by_cases e : j = k
  · subst e
    simp [upd, dayF, h]
  · simp [upd, e]
theorem up_day0 {d v : Int32} : upd (dayF d) (Int32.toNatClampNeg 0) v = dayF v := by
  funext j
  by_cases e : j = 0
  · subst e
    simp [upd, dayF]
  · simp [upd, dayF, e]
theorem day_z {d : Int32} {k : Nat} (h : k ≠ 0) : dayF d k = 0 := if_neg h
theorem mix_up {i : Nat} {f g : Nat → Int32} (hi : i < 2 ^ 31) : upd (mixF i f g) (nI i).toNatClampNeg (g i) = mixF (i + 1) f g := by
  rw [nI_clamp hi]
  funext j
  by_cases e : j = i
  · subst e
    simp [upd, mixF]
  · by_cases h : j < i
    · simp [upd, mixF, e, h, Nat.lt_succ_of_lt h]
    · have h2 : ¬ j < i + 1 := by omega
      simp [upd, mixF, e, h, h2]
theorem nI_ofT {x : Int32} {n : Nat} (h0 : 0 ≤ x.toInt) (h : x.toInt ≤ n) (hn : n < 2 ^ 31) : ∃ j : Nat, j ≤ n ∧ x = nI j := ⟨x.toInt.toNat, by omega, Int32.toInt_inj.mp (by rw [nI_toInt (by omega)]; omega)⟩
/-- the reference's own object: where its rows lie, and its numbers -/
abbrev MB (mo : Nat) (ad : Nat → Nat) (x1 x2 x3 x4 x5 x6 x7 x8 x42 x49 x51 x53 x54 x59 x61 x64 x66 x67 : Int32) (x76 : Int64) (x78 : Int32) : Nat × va_E := (mo, .inr (10, [.ref (ad 0), .int x1, .int x2, .int x3, .int x4, .int x5, .int x6, .int x7, .int x8, .ref (ad 9), .ref (ad 10), .ref (ad 11), .ref (ad 12), .ref (ad 13), .ref (ad 14), .ref (ad 15), .ref (ad 16), .ref (ad 17), .ref (ad 18), .ref (ad 19), .ref (ad 20), .ref (ad 21), .ref (ad 22), .ref (ad 23), .ref (ad 24), .ref (ad 25), .ref (ad 26), .ref (ad 27), .ref (ad 28), .ref (ad 29), .ref (ad 30), .ref (ad 31), .ref (ad 32), .ref (ad 33), .ref (ad 34), .ref (ad 35), .ref (ad 36), .ref (ad 37), .ref (ad 38), .ref (ad 39), .ref (ad 40), .ref (ad 41), .int x42, .ref (ad 43), .ref (ad 44), .ref (ad 45), .ref (ad 46), .ref (ad 47), .ref (ad 48), .int x49, .ref (ad 50), .int x51, .ref (ad 52), .int x53, .int x54, .ref (ad 55), .ref (ad 56), .ref (ad 57), .ref (ad 58), .int x59, .ref (ad 60), .int x61, .ref (ad 62), .ref (ad 63), .int x64, .ref (ad 65), .int x66, .int x67, .ref (ad 68), .ref (ad 69), .ref (ad 70), .ref (ad 71), .ref (ad 72), .ref (ad 73), .ref (ad 74), .ref (ad 75), .long x76, .ref (ad 77), .int x78]))
theorem d_Model_isIn_0 : decode prog_13_method_2_code 0 = .ok (.lload_n 0, 1) := by decide +kernel
theorem d_Model_isIn_1 : decode prog_13_method_2_code 1 = .ok (.lload_n 2, 1) := by decide +kernel
theorem d_Model_isIn_2 : decode prog_13_method_2_code 2 = .ok (.lcmp, 1) := by decide +kernel
theorem d_Model_isIn_3 : decode prog_13_method_2_code 3 = .ok (.ifCond .lt 14, 3) := by decide +kernel
theorem d_Model_isIn_17 : decode prog_13_method_2_code 17 = .ok (.iconst 0, 1) := by decide +kernel
theorem d_Model_isIn_18 : decode prog_13_method_2_code 18 = .ok (.ireturn, 1) := by decide +kernel
theorem d_Model_isIn_6 : decode prog_13_method_2_code 6 = .ok (.lload_n 0, 1) := by decide +kernel
theorem d_Model_isIn_7 : decode prog_13_method_2_code 7 = .ok (.lload 4, 2) := by decide +kernel
theorem d_Model_isIn_9 : decode prog_13_method_2_code 9 = .ok (.lcmp, 1) := by decide +kernel
theorem d_Model_isIn_10 : decode prog_13_method_2_code 10 = .ok (.ifCond .gt 7, 3) := by decide +kernel
theorem d_Model_isIn_13 : decode prog_13_method_2_code 13 = .ok (.iconst 1, 1) := by decide +kernel
theorem d_Model_isIn_14 : decode prog_13_method_2_code 14 = .ok (.goto 4, 3) := by decide +kernel
set_option maxHeartbeats 4000000 in
set_option maxRecDepth 100000 in
theorem c_isIn_x (l : Launch) (D : va_G) (y : Nat → ClassId) (v : Int32) (a : Int64) (b : Int64) (a' : Int) (b' : Int) (ha : a.toInt = a') (hb : b.toInt = b') : CT l D y ⟨"NineBoardsModel", "isIn", "(JJJ)Z"⟩ prog_13_method_2_code 6 (some .boolean) ({ frames := 0, cells := 0, slots := 0, locals := 0 } : Room) [.long v.toInt64, .long a, .long b] [] (QI D [] (fun (r : Int32) (u : Unit) => r = if a' ≤ v.toInt ∧ v.toInt ≤ b' then 1 else 0) (fun _ => [])) := by
  refine CT.of (by decide) (nb rfl) ?_
  intro p e s m args below meth c C hr
  refine j_lv (lv' := [(0, .long v.toInt64), (2, .long a), (4, .long b)]) rfl ?_
  refine j_lload_n (pc := 0) C d_Model_isIn_0 rfl 0 rfl ?_
  refine j_lload_n (pc := 1) C d_Model_isIn_1 rfl 1 rfl ?_
  refine j_lcmp (pc := 2) C (v := lg_cmp v.toInt64 a) d_Model_isIn_2 rfl ?_
  refine j_if_lt (pc := 3) C (tgt := 17) d_Model_isIn_3 (by decide) (fun c1 => ?_) (fun c1 => ?_)
  · refine j_iconst (pc := 17) C (v := 0) d_Model_isIn_17 (by decide) ?_
    exact j_iret (pc := 18) C hr (by decide) () (by simp only [lg_cmp_lt, lg_cmp_gt, Int64.lt_iff_toInt_lt, Int32.toInt_toInt64, ha, hb] at c1; (first | rw [if_pos (by omega)] | rw [if_neg (by omega)])) [] rfl (by decide) (by decide) (by decide) d_Model_isIn_18
  · refine j_lload_n (pc := 6) C d_Model_isIn_6 rfl 0 rfl ?_
    refine j_lload (pc := 7) C d_Model_isIn_7 2 rfl ?_
    refine j_lcmp (pc := 9) C (v := lg_cmp v.toInt64 b) d_Model_isIn_9 rfl ?_
    refine j_if_gt (pc := 10) C (tgt := 17) d_Model_isIn_10 (by decide) (fun c2 => ?_) (fun c2 => ?_)
    · refine j_iconst (pc := 17) C (v := 0) d_Model_isIn_17 (by decide) ?_
      exact j_iret (pc := 18) C hr (by decide) () (by simp only [lg_cmp_lt, lg_cmp_gt, Int64.lt_iff_toInt_lt, Int32.toInt_toInt64, ha, hb] at c1 c2; (first | rw [if_pos (by omega)] | rw [if_neg (by omega)])) [] rfl (by decide) (by decide) (by decide) d_Model_isIn_18
    · refine j_iconst (pc := 13) C (v := 1) d_Model_isIn_13 (by decide) ?_
      refine j_goto (pc := 14) C (tgt := 18) d_Model_isIn_14 (by decide) ?_
      exact j_iret (pc := 18) C hr (by decide) () (by simp only [lg_cmp_lt, lg_cmp_gt, Int64.lt_iff_toInt_lt, Int32.toInt_toInt64, ha, hb] at c1 c2; (first | rw [if_pos (by omega)] | rw [if_neg (by omega)])) [] rfl (by decide) (by decide) (by decide) d_Model_isIn_18
set_option maxHeartbeats 4000000 in
set_option maxRecDepth 100000 in
theorem c_isIn_c (l : Launch) (D : va_G) (y : Nat → ClassId) (v : Int64) (a : Int64) (b : Int64) (v' : Int) (a' : Int) (b' : Int) (hv : v.toInt = v') (ha : a.toInt = a') (hb : b.toInt = b') : CT l D y ⟨"NineBoardsModel", "isIn", "(JJJ)Z"⟩ prog_13_method_2_code 6 (some .boolean) ({ frames := 0, cells := 0, slots := 0, locals := 0 } : Room) [.long v, .long a, .long b] [] (QI D [] (fun (r : Int32) (u : Unit) => r = if a' ≤ v' ∧ v' ≤ b' then 1 else 0) (fun _ => [])) := by
  refine CT.of (by decide) (nb rfl) ?_
  intro p e s m args below meth c C hr
  refine j_lv (lv' := [(0, .long v), (2, .long a), (4, .long b)]) rfl ?_
  refine j_lload_n (pc := 0) C d_Model_isIn_0 rfl 0 rfl ?_
  refine j_lload_n (pc := 1) C d_Model_isIn_1 rfl 1 rfl ?_
  refine j_lcmp (pc := 2) C (v := lg_cmp v a) d_Model_isIn_2 rfl ?_
  refine j_if_lt (pc := 3) C (tgt := 17) d_Model_isIn_3 (by decide) (fun c1 => ?_) (fun c1 => ?_)
  · refine j_iconst (pc := 17) C (v := 0) d_Model_isIn_17 (by decide) ?_
    exact j_iret (pc := 18) C hr (by decide) () (by simp only [lg_cmp_lt, lg_cmp_gt, Int64.lt_iff_toInt_lt, hv, ha, hb] at c1; (first | rw [if_pos (by omega)] | rw [if_neg (by omega)])) [] rfl (by decide) (by decide) (by decide) d_Model_isIn_18
  · refine j_lload_n (pc := 6) C d_Model_isIn_6 rfl 0 rfl ?_
    refine j_lload (pc := 7) C d_Model_isIn_7 2 rfl ?_
    refine j_lcmp (pc := 9) C (v := lg_cmp v b) d_Model_isIn_9 rfl ?_
    refine j_if_gt (pc := 10) C (tgt := 17) d_Model_isIn_10 (by decide) (fun c2 => ?_) (fun c2 => ?_)
    · refine j_iconst (pc := 17) C (v := 0) d_Model_isIn_17 (by decide) ?_
      exact j_iret (pc := 18) C hr (by decide) () (by simp only [lg_cmp_lt, lg_cmp_gt, Int64.lt_iff_toInt_lt, hv, ha, hb] at c1 c2; (first | rw [if_pos (by omega)] | rw [if_neg (by omega)])) [] rfl (by decide) (by decide) (by decide) d_Model_isIn_18
    · refine j_iconst (pc := 13) C (v := 1) d_Model_isIn_13 (by decide) ?_
      refine j_goto (pc := 14) C (tgt := 18) d_Model_isIn_14 (by decide) ?_
      exact j_iret (pc := 18) C hr (by decide) () (by simp only [lg_cmp_lt, lg_cmp_gt, Int64.lt_iff_toInt_lt, hv, ha, hb] at c1 c2; (first | rw [if_pos (by omega)] | rw [if_neg (by omega)])) [] rfl (by decide) (by decide) (by decide) d_Model_isIn_18
theorem d_Model_gateMany_0 : decode prog_13_method_54_code 0 = .ok (.aload_n 0, 1) := by decide +kernel
theorem d_Model_gateMany_1 : decode prog_13_method_54_code 1 = .ok (.getfield 117, 3) := by decide +kernel
theorem gf_Model_117 : GF "NineBoardsModel" 117 10 43 := ⟨_, _, _, rfl, ci_Model, by decide, (mt_5 (List.mem_of_getElem? (i := 131) rfl) rfl)⟩
theorem d_Model_gateMany_4 : decode prog_13_method_54_code 4 = .ok (.iconst 4, 1) := by decide +kernel
theorem d_Model_gateMany_5 : decode prog_13_method_54_code 5 = .ok (.iaload, 1) := by decide +kernel
theorem d_Model_gateMany_6 : decode prog_13_method_54_code 6 = .ok (.ireturn, 1) := by decide +kernel
set_option maxHeartbeats 4000000 in
set_option maxRecDepth 100000 in
theorem c_M_gateMany (l : Launch) (D : va_G) (y : Nat → ClassId) (mo : Nat) (ad : Nat → Nat) (un : Int32) (ne : Int32) (sd : Int64)  : CT l D y ⟨"NineBoardsModel", "gateMany", "()I"⟩ prog_13_method_54_code 1 (some .int) ({ frames := 0, cells := 0, slots := 0, locals := 0 } : Room) [.ref mo] [MB mo ad 0 0 0 0 0 0 0 (-1) 0 0 0 0 0 0 0 0 un ne sd 0, (ad 43, .inl (y 0, 8, .inl (fun _ => 0)))] (QI D [MB mo ad 0 0 0 0 0 0 0 (-1) 0 0 0 0 0 0 0 0 un ne sd 0, (ad 43, .inl (y 0, 8, .inl (fun _ => 0)))] (fun (r : Int32) (_ : Unit) => r = 0) (fun _ => [MB mo ad 0 0 0 0 0 0 0 (-1) 0 0 0 0 0 0 0 0 un ne sd 0, (ad 43, .inl (y 0, 8, .inl (fun _ => 0)))])) := by
  refine CT.of (by decide) (nb rfl) ?_
  intro p e s m args below meth c C hr
  refine j_lv (lv' := [(0, .ref mo)]) rfl ?_
  refine j_aload_n (pc := 0) C d_Model_gateMany_0 rfl 0 rfl ?_
  refine j_get (pc := 1) C gf_Model_117 0 rfl rfl d_Model_gateMany_1 ?_
  refine j_iconst (pc := 4) C (v := 4) d_Model_gateMany_4 (by decide) ?_
  refine j_iald (pc := 5) C 1 rfl (v := 0) (vin (by decide)) rfl d_Model_gateMany_5 ?_
  exact j_iret (pc := 6) C hr rfl () rfl [0, 1] rfl (by decide) (by decide) (by decide) d_Model_gateMany_6
theorem d_Model_villages_0 : decode prog_13_method_55_code 0 = .ok (.aload_n 0, 1) := by decide +kernel
theorem d_Model_villages_1 : decode prog_13_method_55_code 1 = .ok (.getfield 117, 3) := by decide +kernel
theorem d_Model_villages_4 : decode prog_13_method_55_code 4 = .ok (.iconst 5, 1) := by decide +kernel
theorem d_Model_villages_5 : decode prog_13_method_55_code 5 = .ok (.iaload, 1) := by decide +kernel
theorem d_Model_villages_6 : decode prog_13_method_55_code 6 = .ok (.ireturn, 1) := by decide +kernel
set_option maxHeartbeats 4000000 in
set_option maxRecDepth 100000 in
theorem c_M_villages (l : Launch) (D : va_G) (y : Nat → ClassId) (mo : Nat) (ad : Nat → Nat) (un : Int32) (ne : Int32) (sd : Int64)  : CT l D y ⟨"NineBoardsModel", "villages", "()I"⟩ prog_13_method_55_code 1 (some .int) ({ frames := 0, cells := 0, slots := 0, locals := 0 } : Room) [.ref mo] [MB mo ad 0 0 0 0 0 0 0 (-1) 0 0 0 0 0 0 0 0 un ne sd 0, (ad 43, .inl (y 0, 8, .inl (fun _ => 0)))] (QI D [MB mo ad 0 0 0 0 0 0 0 (-1) 0 0 0 0 0 0 0 0 un ne sd 0, (ad 43, .inl (y 0, 8, .inl (fun _ => 0)))] (fun (r : Int32) (_ : Unit) => r = 0) (fun _ => [MB mo ad 0 0 0 0 0 0 0 (-1) 0 0 0 0 0 0 0 0 un ne sd 0, (ad 43, .inl (y 0, 8, .inl (fun _ => 0)))])) := by
  refine CT.of (by decide) (nb rfl) ?_
  intro p e s m args below meth c C hr
  refine j_lv (lv' := [(0, .ref mo)]) rfl ?_
  refine j_aload_n (pc := 0) C d_Model_villages_0 rfl 0 rfl ?_
  refine j_get (pc := 1) C gf_Model_117 0 rfl rfl d_Model_villages_1 ?_
  refine j_iconst (pc := 4) C (v := 5) d_Model_villages_4 (by decide) ?_
  refine j_iald (pc := 5) C 1 rfl (v := 0) (vin (by decide)) rfl d_Model_villages_5 ?_
  exact j_iret (pc := 6) C hr rfl () rfl [0, 1] rfl (by decide) (by decide) (by decide) d_Model_villages_6
theorem d_Model_level_0 : decode prog_13_method_57_code 0 = .ok (.aload_n 0, 1) := by decide +kernel
theorem d_Model_level_1 : decode prog_13_method_57_code 1 = .ok (.getfield 158, 3) := by decide +kernel
theorem gf_Model_158 : GF "NineBoardsModel" 158 10 62 := ⟨_, _, _, rfl, ci_Model, by decide, (mt_5 (List.mem_of_getElem? (i := 150) rfl) rfl)⟩
theorem d_Model_level_4 : decode prog_13_method_57_code 4 = .ok (.iconst 1, 1) := by decide +kernel
theorem d_Model_level_5 : decode prog_13_method_57_code 5 = .ok (.iaload, 1) := by decide +kernel
theorem d_Model_level_6 : decode prog_13_method_57_code 6 = .ok (.aload_n 0, 1) := by decide +kernel
theorem d_Model_level_7 : decode prog_13_method_57_code 7 = .ok (.getfield 124, 3) := by decide +kernel
theorem gf_Model_124 : GF "NineBoardsModel" 124 10 45 := ⟨_, _, _, rfl, ci_Model, by decide, (mt_5 (List.mem_of_getElem? (i := 133) rfl) rfl)⟩
theorem d_Model_level_10 : decode prog_13_method_57_code 10 = .ok (.bipush 7, 2) := by decide +kernel
theorem d_Model_level_12 : decode prog_13_method_57_code 12 = .ok (.iaload, 1) := by decide +kernel
theorem d_Model_level_13 : decode prog_13_method_57_code 13 = .ok (.idiv, 1) := by decide +kernel
theorem d_Model_level_14 : decode prog_13_method_57_code 14 = .ok (.ireturn, 1) := by decide +kernel
set_option maxHeartbeats 4000000 in
set_option maxRecDepth 100000 in
theorem c_M_level (l : Launch) (D : va_G) (y : Nat → ClassId) (mo : Nat) (ad : Nat → Nat) (un : Int32) (ne : Int32) (sd : Int64) (d : Int32)  : CT l D y ⟨"NineBoardsModel", "level", "()I"⟩ prog_13_method_57_code 1 (some .int) ({ frames := 0, cells := 0, slots := 0, locals := 0 } : Room) [.ref mo] [MB mo ad 0 0 0 0 0 0 0 (-1) 0 0 0 0 0 0 0 0 un ne sd 0, (ad 62, .inl (y 0, 63, .inl (dayF d))), (ad 45, .inl (y 0, 14, .inl lakeF))] (QI D [MB mo ad 0 0 0 0 0 0 0 (-1) 0 0 0 0 0 0 0 0 un ne sd 0, (ad 62, .inl (y 0, 63, .inl (dayF d))), (ad 45, .inl (y 0, 14, .inl lakeF))] (fun (r : Int32) (_ : Unit) => r = 0) (fun _ => [MB mo ad 0 0 0 0 0 0 0 (-1) 0 0 0 0 0 0 0 0 un ne sd 0, (ad 62, .inl (y 0, 63, .inl (dayF d))), (ad 45, .inl (y 0, 14, .inl lakeF))])) := by
  refine CT.of (by decide) (nb rfl) ?_
  intro p e s m args below meth c C hr
  refine j_lv (lv' := [(0, .ref mo)]) rfl ?_
  refine j_aload_n (pc := 0) C d_Model_level_0 rfl 0 rfl ?_
  refine j_get (pc := 1) C gf_Model_158 0 rfl rfl d_Model_level_1 ?_
  refine j_iconst (pc := 4) C (v := 1) d_Model_level_4 (by decide) ?_
  refine j_iald (pc := 5) C 1 rfl (v := 0) (vin (by decide)) rfl d_Model_level_5 ?_
  refine j_aload_n (pc := 6) C d_Model_level_6 rfl 0 rfl ?_
  refine j_get (pc := 7) C gf_Model_124 0 rfl rfl d_Model_level_7 ?_
  refine j_bipush (pc := 10) C (v := 7) d_Model_level_10 (by decide) ?_
  refine j_iald (pc := 12) C 2 rfl (v := 1) (vin (by decide)) (by decide) d_Model_level_12 ?_
  refine j_idiv (pc := 13) C (v := 0) d_Model_level_13 (by decide) (by decide) ?_
  exact j_iret (pc := 14) C hr rfl () rfl [0, 1, 2] rfl (by decide) (by decide) (by decide) d_Model_level_14
theorem d_Model_todays_0 : decode prog_13_method_66_code 0 = .ok (.aload_n 0, 1) := by decide +kernel
theorem d_Model_todays_1 : decode prog_13_method_66_code 1 = .ok (.invokevirtual 448, 3) := by decide +kernel
theorem kw_Model_448 : KW "NineBoardsModel" 448 ⟨"NineBoardsModel", "villages", "()I"⟩ prog_13_method_55_code 1 (some .int) 0 := ⟨(mt_7 (List.mem_of_getElem? (i := 39) rfl) rfl), (mt_1 (List.mem_of_getElem? (i := 16) rfl) rfl), (mt_7 (List.mem_of_getElem? (i := 42) rfl) rfl), by decide +kernel⟩
theorem kv_Model_villages : Cond.instanceMethod ⟨"NineBoardsModel", "villages", "()I"⟩ ∈ TB ∧ Cond.selects "NineBoardsModel" ⟨"NineBoardsModel", "villages", "()I"⟩ ⟨"NineBoardsModel", "villages", "()I"⟩ ∈ TB := ⟨(mt_7 (List.mem_of_getElem? (i := 41) rfl) rfl), (ms_0 (List.mem_map.mpr ⟨(⟨"NineBoardsModel", "villages", "()I"⟩, 79), List.mem_of_getElem? (i := 89) (by decide +kernel), rfl⟩) rfl)⟩
theorem d_Model_todays_4 : decode prog_13_method_66_code 4 = .ok (.ifCond .ne 7, 3) := by decide +kernel
theorem d_Model_todays_7 : decode prog_13_method_66_code 7 = .ok (.iconst (-1), 1) := by decide +kernel
theorem d_Model_todays_8 : decode prog_13_method_66_code 8 = .ok (.goto 14, 3) := by decide +kernel
theorem d_Model_todays_22 : decode prog_13_method_66_code 22 = .ok (.ireturn, 1) := by decide +kernel
set_option maxHeartbeats 4000000 in
set_option maxRecDepth 100000 in
theorem c_M_todays (l : Launch) (D : va_G) (y : Nat → ClassId) (mo : Nat) (ad : Nat → Nat) (un : Int32) (ne : Int32) (sd : Int64)  : CT l D y ⟨"NineBoardsModel", "todays", "()I"⟩ prog_13_method_66_code 1 (some .int) ({ frames := 1, cells := 0, slots := 0, locals := 20 } : Room) [.ref mo] [MB mo ad 0 0 0 0 0 0 0 (-1) 0 0 0 0 0 0 0 0 un ne sd 0, (ad 43, .inl (y 0, 8, .inl (fun _ => 0)))] (QI D [MB mo ad 0 0 0 0 0 0 0 (-1) 0 0 0 0 0 0 0 0 un ne sd 0, (ad 43, .inl (y 0, 8, .inl (fun _ => 0)))] (fun (r : Int32) (_ : Unit) => r = (-1)) (fun _ => [MB mo ad 0 0 0 0 0 0 0 (-1) 0 0 0 0 0 0 0 0 un ne sd 0, (ad 43, .inl (y 0, 8, .inl (fun _ => 0)))])) := by
  refine CT.of (by decide) (nb rfl) ?_
  intro p e s m args below meth c C hr
  refine j_lv (lv' := [(0, .ref mo)]) rfl ?_
  refine j_aload_n (pc := 0) C d_Model_todays_0 rfl 0 rfl ?_
  refine j_callVi (pc := 1) C (c_M_villages l D y mo ad un ne sd) kw_Model_448 kv_Model_villages 0 10 rfl rfl ⟨by decide, by decide⟩ ⟨by decide, by decide⟩ (wr := []) [0, 1] [] rfl rfl (by decide) (by decide) (by decide) (As := []) (rest := []) rfl (nb rfl) rfl d_Model_todays_1 (fun r1 _ hr1 => ?_)
  subst hr1
  refine j_ws (ws' := [MB mo ad 0 0 0 0 0 0 0 (-1) 0 0 0 0 0 0 0 0 un ne sd 0, (ad 43, .inl (y 0, 8, .inl (fun _ => 0)))]) rfl ?_
  refine j_st (st' := [.int 0]) rfl ?_
  refine j_if_neF (pc := 4) C (tgt := 11) d_Model_todays_4 (by decide) (by decide) ?_
  refine j_iconst (pc := 7) C (v := (-1)) d_Model_todays_7 (by decide) ?_
  refine j_goto (pc := 8) C (tgt := 22) d_Model_todays_8 (by decide) ?_
  exact j_iret (pc := 22) C hr rfl () rfl [0, 1] rfl (by decide) (by decide) (by decide) d_Model_todays_22
theorem d_Model_isGate_0 : decode prog_13_method_74_code 0 = .ok (.iload_n 1, 1) := by decide +kernel
theorem d_Model_isGate_1 : decode prog_13_method_74_code 1 = .ok (.i2l, 1) := by decide +kernel
theorem d_Model_isGate_2 : decode prog_13_method_74_code 2 = .ok (.lconst 0, 1) := by decide +kernel
theorem d_Model_isGate_3 : decode prog_13_method_74_code 3 = .ok (.aload_n 0, 1) := by decide +kernel
theorem d_Model_isGate_4 : decode prog_13_method_74_code 4 = .ok (.invokevirtual 341, 3) := by decide +kernel
theorem kw_Model_341 : KW "NineBoardsModel" 341 ⟨"NineBoardsModel", "gateMany", "()I"⟩ prog_13_method_54_code 1 (some .int) 0 := ⟨(mt_7 (List.mem_of_getElem? (i := 27) rfl) rfl), (mt_1 (List.mem_of_getElem? (i := 16) rfl) rfl), (mt_7 (List.mem_of_getElem? (i := 30) rfl) rfl), by decide +kernel⟩
theorem kv_Model_gateMany : Cond.instanceMethod ⟨"NineBoardsModel", "gateMany", "()I"⟩ ∈ TB ∧ Cond.selects "NineBoardsModel" ⟨"NineBoardsModel", "gateMany", "()I"⟩ ⟨"NineBoardsModel", "gateMany", "()I"⟩ ∈ TB := ⟨(mt_7 (List.mem_of_getElem? (i := 29) rfl) rfl), (ms_0 (List.mem_map.mpr ⟨(⟨"NineBoardsModel", "gateMany", "()I"⟩, 79), List.mem_of_getElem? (i := 88) (by decide +kernel), rfl⟩) rfl)⟩
theorem d_Model_isGate_7 : decode prog_13_method_74_code 7 = .ok (.iconst 1, 1) := by decide +kernel
theorem d_Model_isGate_8 : decode prog_13_method_74_code 8 = .ok (.isub, 1) := by decide +kernel
theorem d_Model_isGate_9 : decode prog_13_method_74_code 9 = .ok (.i2l, 1) := by decide +kernel
theorem d_Model_isGate_10 : decode prog_13_method_74_code 10 = .ok (.invokestatic 240, 3) := by decide +kernel
theorem kw_Model_240 : KW "NineBoardsModel" 240 ⟨"NineBoardsModel", "isIn", "(JJJ)Z"⟩ prog_13_method_2_code 6 (some .boolean) 3 := ⟨(mt_6 (List.mem_of_getElem? (i := 134) rfl) rfl), (mt_1 (List.mem_of_getElem? (i := 16) rfl) rfl), (mt_6 (List.mem_of_getElem? (i := 136) rfl) rfl), by decide +kernel⟩
theorem ks_Model_isIn : Cond.static ⟨"NineBoardsModel", "isIn", "(JJJ)Z"⟩ ∈ TB := (mt_6 (List.mem_of_getElem? (i := 135) rfl) rfl)
theorem d_Model_isGate_13 : decode prog_13_method_74_code 13 = .ok (.ireturn, 1) := by decide +kernel
set_option maxHeartbeats 4000000 in
set_option maxRecDepth 100000 in
theorem c_M_isGate (l : Launch) (D : va_G) (y : Nat → ClassId) (mo : Nat) (ad : Nat → Nat) (un : Int32) (ne : Int32) (sd : Int64) (v : Int32)  : CT l D y ⟨"NineBoardsModel", "isGate", "(I)Z"⟩ prog_13_method_74_code 2 (some .boolean) ({ frames := 1, cells := 0, slots := 0, locals := 25 } : Room) [.ref mo, .int v] [MB mo ad 0 0 0 0 0 0 0 (-1) 0 0 0 0 0 0 0 0 un ne sd 0, (ad 43, .inl (y 0, 8, .inl (fun _ => 0)))] (QI D [MB mo ad 0 0 0 0 0 0 0 (-1) 0 0 0 0 0 0 0 0 un ne sd 0, (ad 43, .inl (y 0, 8, .inl (fun _ => 0)))] (fun (r : Int32) (_ : Unit) => r = 0) (fun _ => [MB mo ad 0 0 0 0 0 0 0 (-1) 0 0 0 0 0 0 0 0 un ne sd 0, (ad 43, .inl (y 0, 8, .inl (fun _ => 0)))])) := by
  refine CT.of (by decide) (nb rfl) ?_
  intro p e s m args below meth c C hr
  refine j_lv (lv' := [(0, .ref mo), (1, .int v)]) rfl ?_
  refine j_iload_n (pc := 0) C d_Model_isGate_0 rfl 1 rfl ?_
  refine j_i2l (pc := 1) C (v := v.toInt64) d_Model_isGate_1 rfl ?_
  refine j_lconst (pc := 2) C (v := 0) d_Model_isGate_2 (by decide) ?_
  refine j_aload_n (pc := 3) C d_Model_isGate_3 rfl 0 rfl ?_
  refine j_callVi (pc := 4) C (c_M_gateMany l D y mo ad un ne sd) kw_Model_341 kv_Model_gateMany 0 10 rfl rfl ⟨by decide, by decide⟩ ⟨by decide, by decide⟩ (wr := []) [0, 1] [] rfl rfl (by decide) (by decide) (by decide) (As := []) (rest := [.long 0, .long v.toInt64]) rfl (nb rfl) rfl d_Model_isGate_4 (fun r1 _ hr1 => ?_)
  subst hr1
  refine j_ws (ws' := [MB mo ad 0 0 0 0 0 0 0 (-1) 0 0 0 0 0 0 0 0 un ne sd 0, (ad 43, .inl (y 0, 8, .inl (fun _ => 0)))]) rfl ?_
  refine j_st (st' := [.int 0, .long 0, .long v.toInt64]) rfl ?_
  refine j_iconst (pc := 7) C (v := 1) d_Model_isGate_7 (by decide) ?_
  refine j_isub (pc := 8) C (v := (-1)) d_Model_isGate_8 (by decide) ?_
  refine j_i2l (pc := 9) C (v := (-1)) d_Model_isGate_9 (by decide) ?_
  refine j_callSi (pc := 10) C (c_isIn_x l D y v 0 (-1) 0 (-1) (by decide) (by decide)) kw_Model_240 ks_Model_isIn ⟨by decide, by decide⟩ ⟨by decide, by decide⟩ (wr := [MB mo ad 0 0 0 0 0 0 0 (-1) 0 0 0 0 0 0 0 0 un ne sd 0, (ad 43, .inl (y 0, 8, .inl (fun _ => 0)))]) [] [0, 1] rfl rfl (by decide) (by decide) (by decide) (As := [.long v.toInt64, .long 0, .long (-1)]) (rest := []) rfl (nb rfl) rfl d_Model_isGate_10 (fun r2 _ hr2 => ?_)
  refine j_ws (ws' := [MB mo ad 0 0 0 0 0 0 0 (-1) 0 0 0 0 0 0 0 0 un ne sd 0, (ad 43, .inl (y 0, 8, .inl (fun _ => 0)))]) rfl ?_
  rw [if_neg (by omega)] at hr2
  subst hr2
  exact j_iret (pc := 13) C hr (by decide) () rfl [0, 1] rfl (by decide) (by decide) (by decide) d_Model_isGate_13
theorem d_Model_isVillage_0 : decode prog_13_method_75_code 0 = .ok (.iload_n 1, 1) := by decide +kernel
theorem d_Model_isVillage_1 : decode prog_13_method_75_code 1 = .ok (.i2l, 1) := by decide +kernel
theorem d_Model_isVillage_2 : decode prog_13_method_75_code 2 = .ok (.lconst 0, 1) := by decide +kernel
theorem d_Model_isVillage_3 : decode prog_13_method_75_code 3 = .ok (.aload_n 0, 1) := by decide +kernel
theorem d_Model_isVillage_4 : decode prog_13_method_75_code 4 = .ok (.invokevirtual 448, 3) := by decide +kernel
theorem d_Model_isVillage_7 : decode prog_13_method_75_code 7 = .ok (.iconst 1, 1) := by decide +kernel
theorem d_Model_isVillage_8 : decode prog_13_method_75_code 8 = .ok (.isub, 1) := by decide +kernel
theorem d_Model_isVillage_9 : decode prog_13_method_75_code 9 = .ok (.i2l, 1) := by decide +kernel
theorem d_Model_isVillage_10 : decode prog_13_method_75_code 10 = .ok (.invokestatic 240, 3) := by decide +kernel
theorem d_Model_isVillage_13 : decode prog_13_method_75_code 13 = .ok (.ireturn, 1) := by decide +kernel
set_option maxHeartbeats 4000000 in
set_option maxRecDepth 100000 in
theorem c_M_isVillage (l : Launch) (D : va_G) (y : Nat → ClassId) (mo : Nat) (ad : Nat → Nat) (un : Int32) (ne : Int32) (sd : Int64) (v : Int32)  : CT l D y ⟨"NineBoardsModel", "isVillage", "(I)Z"⟩ prog_13_method_75_code 2 (some .boolean) ({ frames := 1, cells := 0, slots := 0, locals := 25 } : Room) [.ref mo, .int v] [MB mo ad 0 0 0 0 0 0 0 (-1) 0 0 0 0 0 0 0 0 un ne sd 0, (ad 43, .inl (y 0, 8, .inl (fun _ => 0)))] (QI D [MB mo ad 0 0 0 0 0 0 0 (-1) 0 0 0 0 0 0 0 0 un ne sd 0, (ad 43, .inl (y 0, 8, .inl (fun _ => 0)))] (fun (r : Int32) (_ : Unit) => r = 0) (fun _ => [MB mo ad 0 0 0 0 0 0 0 (-1) 0 0 0 0 0 0 0 0 un ne sd 0, (ad 43, .inl (y 0, 8, .inl (fun _ => 0)))])) := by
  refine CT.of (by decide) (nb rfl) ?_
  intro p e s m args below meth c C hr
  refine j_lv (lv' := [(0, .ref mo), (1, .int v)]) rfl ?_
  refine j_iload_n (pc := 0) C d_Model_isVillage_0 rfl 1 rfl ?_
  refine j_i2l (pc := 1) C (v := v.toInt64) d_Model_isVillage_1 rfl ?_
  refine j_lconst (pc := 2) C (v := 0) d_Model_isVillage_2 (by decide) ?_
  refine j_aload_n (pc := 3) C d_Model_isVillage_3 rfl 0 rfl ?_
  refine j_callVi (pc := 4) C (c_M_villages l D y mo ad un ne sd) kw_Model_448 kv_Model_villages 0 10 rfl rfl ⟨by decide, by decide⟩ ⟨by decide, by decide⟩ (wr := []) [0, 1] [] rfl rfl (by decide) (by decide) (by decide) (As := []) (rest := [.long 0, .long v.toInt64]) rfl (nb rfl) rfl d_Model_isVillage_4 (fun r1 _ hr1 => ?_)
  subst hr1
  refine j_ws (ws' := [MB mo ad 0 0 0 0 0 0 0 (-1) 0 0 0 0 0 0 0 0 un ne sd 0, (ad 43, .inl (y 0, 8, .inl (fun _ => 0)))]) rfl ?_
  refine j_st (st' := [.int 0, .long 0, .long v.toInt64]) rfl ?_
  refine j_iconst (pc := 7) C (v := 1) d_Model_isVillage_7 (by decide) ?_
  refine j_isub (pc := 8) C (v := (-1)) d_Model_isVillage_8 (by decide) ?_
  refine j_i2l (pc := 9) C (v := (-1)) d_Model_isVillage_9 (by decide) ?_
  refine j_callSi (pc := 10) C (c_isIn_x l D y v 0 (-1) 0 (-1) (by decide) (by decide)) kw_Model_240 ks_Model_isIn ⟨by decide, by decide⟩ ⟨by decide, by decide⟩ (wr := [MB mo ad 0 0 0 0 0 0 0 (-1) 0 0 0 0 0 0 0 0 un ne sd 0, (ad 43, .inl (y 0, 8, .inl (fun _ => 0)))]) [] [0, 1] rfl rfl (by decide) (by decide) (by decide) (As := [.long v.toInt64, .long 0, .long (-1)]) (rest := []) rfl (nb rfl) rfl d_Model_isVillage_10 (fun r2 _ hr2 => ?_)
  refine j_ws (ws' := [MB mo ad 0 0 0 0 0 0 0 (-1) 0 0 0 0 0 0 0 0 un ne sd 0, (ad 43, .inl (y 0, 8, .inl (fun _ => 0)))]) rfl ?_
  rw [if_neg (by omega)] at hr2
  subst hr2
  exact j_iret (pc := 13) C hr (by decide) () rfl [0, 1] rfl (by decide) (by decide) (by decide) d_Model_isVillage_13
theorem d_Model_isThing_0 : decode prog_13_method_102_code 0 = .ok (.iload_n 1, 1) := by decide +kernel
theorem d_Model_isThing_1 : decode prog_13_method_102_code 1 = .ok (.i2l, 1) := by decide +kernel
theorem d_Model_isThing_2 : decode prog_13_method_102_code 2 = .ok (.lconst 0, 1) := by decide +kernel
theorem d_Model_isThing_3 : decode prog_13_method_102_code 3 = .ok (.aload_n 0, 1) := by decide +kernel
theorem d_Model_isThing_4 : decode prog_13_method_102_code 4 = .ok (.getfield 117, 3) := by decide +kernel
theorem d_Model_isThing_7 : decode prog_13_method_102_code 7 = .ok (.bipush 6, 2) := by decide +kernel
theorem d_Model_isThing_9 : decode prog_13_method_102_code 9 = .ok (.iaload, 1) := by decide +kernel
theorem d_Model_isThing_10 : decode prog_13_method_102_code 10 = .ok (.iconst 1, 1) := by decide +kernel
theorem d_Model_isThing_11 : decode prog_13_method_102_code 11 = .ok (.isub, 1) := by decide +kernel
theorem d_Model_isThing_12 : decode prog_13_method_102_code 12 = .ok (.i2l, 1) := by decide +kernel
theorem d_Model_isThing_13 : decode prog_13_method_102_code 13 = .ok (.invokestatic 240, 3) := by decide +kernel
theorem d_Model_isThing_16 : decode prog_13_method_102_code 16 = .ok (.ireturn, 1) := by decide +kernel
set_option maxHeartbeats 4000000 in
set_option maxRecDepth 100000 in
theorem c_M_isThing (l : Launch) (D : va_G) (y : Nat → ClassId) (mo : Nat) (ad : Nat → Nat) (un : Int32) (ne : Int32) (sd : Int64) (v : Int32)  : CT l D y ⟨"NineBoardsModel", "isThing", "(I)Z"⟩ prog_13_method_102_code 2 (some .boolean) ({ frames := 1, cells := 0, slots := 0, locals := 25 } : Room) [.ref mo, .int v] [MB mo ad 0 0 0 0 0 0 0 (-1) 0 0 0 0 0 0 0 0 un ne sd 0, (ad 43, .inl (y 0, 8, .inl (fun _ => 0)))] (QI D [MB mo ad 0 0 0 0 0 0 0 (-1) 0 0 0 0 0 0 0 0 un ne sd 0, (ad 43, .inl (y 0, 8, .inl (fun _ => 0)))] (fun (r : Int32) (_ : Unit) => r = 0) (fun _ => [MB mo ad 0 0 0 0 0 0 0 (-1) 0 0 0 0 0 0 0 0 un ne sd 0, (ad 43, .inl (y 0, 8, .inl (fun _ => 0)))])) := by
  refine CT.of (by decide) (nb rfl) ?_
  intro p e s m args below meth c C hr
  refine j_lv (lv' := [(0, .ref mo), (1, .int v)]) rfl ?_
  refine j_iload_n (pc := 0) C d_Model_isThing_0 rfl 1 rfl ?_
  refine j_i2l (pc := 1) C (v := v.toInt64) d_Model_isThing_1 rfl ?_
  refine j_lconst (pc := 2) C (v := 0) d_Model_isThing_2 (by decide) ?_
  refine j_aload_n (pc := 3) C d_Model_isThing_3 rfl 0 rfl ?_
  refine j_get (pc := 4) C gf_Model_117 0 rfl rfl d_Model_isThing_4 ?_
  refine j_bipush (pc := 7) C (v := 6) d_Model_isThing_7 (by decide) ?_
  refine j_iald (pc := 9) C 1 rfl (v := 0) (vin (by decide)) rfl d_Model_isThing_9 ?_
  refine j_iconst (pc := 10) C (v := 1) d_Model_isThing_10 (by decide) ?_
  refine j_isub (pc := 11) C (v := (-1)) d_Model_isThing_11 (by decide) ?_
  refine j_i2l (pc := 12) C (v := (-1)) d_Model_isThing_12 (by decide) ?_
  refine j_callSi (pc := 13) C (c_isIn_x l D y v 0 (-1) 0 (-1) (by decide) (by decide)) kw_Model_240 ks_Model_isIn ⟨by decide, by decide⟩ ⟨by decide, by decide⟩ (wr := [MB mo ad 0 0 0 0 0 0 0 (-1) 0 0 0 0 0 0 0 0 un ne sd 0, (ad 43, .inl (y 0, 8, .inl (fun _ => 0)))]) [] [0, 1] rfl rfl (by decide) (by decide) (by decide) (As := [.long v.toInt64, .long 0, .long (-1)]) (rest := []) rfl (nb rfl) rfl d_Model_isThing_13 (fun r1 _ hr1 => ?_)
  refine j_ws (ws' := [MB mo ad 0 0 0 0 0 0 0 (-1) 0 0 0 0 0 0 0 0 un ne sd 0, (ad 43, .inl (y 0, 8, .inl (fun _ => 0)))]) rfl ?_
  rw [if_neg (by omega)] at hr1
  subst hr1
  exact j_iret (pc := 16) C hr (by decide) () rfl [0, 1] rfl (by decide) (by decide) (by decide) d_Model_isThing_16
theorem d_Model_weatherOf_0 : decode prog_13_method_52_code 0 = .ok (.bipush 8, 2) := by decide +kernel
theorem d_Model_weatherOf_2 : decode prog_13_method_52_code 2 = .ok (.istore 4, 2) := by decide +kernel
theorem d_Model_weatherOf_4 : decode prog_13_method_52_code 4 = .ok (.iload 4, 2) := by decide +kernel
theorem d_Model_weatherOf_6 : decode prog_13_method_52_code 6 = .ok (.bipush 8, 2) := by decide +kernel
theorem d_Model_weatherOf_8 : decode prog_13_method_52_code 8 = .ok (.aload_n 0, 1) := by decide +kernel
theorem d_Model_weatherOf_9 : decode prog_13_method_52_code 9 = .ok (.getfield 117, 3) := by decide +kernel
theorem d_Model_weatherOf_12 : decode prog_13_method_52_code 12 = .ok (.bipush 7, 2) := by decide +kernel
theorem d_Model_weatherOf_14 : decode prog_13_method_52_code 14 = .ok (.iaload, 1) := by decide +kernel
theorem d_Model_weatherOf_15 : decode prog_13_method_52_code 15 = .ok (.iadd, 1) := by decide +kernel
theorem d_Model_weatherOf_16 : decode prog_13_method_52_code 16 = .ok (.if_icmp .ge 100, 3) := by decide +kernel
theorem d_Model_weatherOf_116 : decode prog_13_method_52_code 116 = .ok (.iconst 0, 1) := by decide +kernel
theorem d_Model_weatherOf_117 : decode prog_13_method_52_code 117 = .ok (.ireturn, 1) := by decide +kernel
set_option maxHeartbeats 4000000 in
set_option maxRecDepth 100000 in
theorem c_M_weatherOf (l : Launch) (D : va_G) (y : Nat → ClassId) (mo : Nat) (ad : Nat → Nat) (un : Int32) (ne : Int32) (sd : Int64) (va : Int32) (vb : Int32) (vc : Int32)  : CT l D y ⟨"NineBoardsModel", "weatherOf", "(IIZ)I"⟩ prog_13_method_52_code 7 (some .int) ({ frames := 0, cells := 0, slots := 0, locals := 0 } : Room) [.ref mo, .int va, .int vb, .int vc] [MB mo ad 0 0 0 0 0 0 0 (-1) 0 0 0 0 0 0 0 0 un ne sd 0, (ad 43, .inl (y 0, 8, .inl (fun _ => 0)))] (QI D [MB mo ad 0 0 0 0 0 0 0 (-1) 0 0 0 0 0 0 0 0 un ne sd 0, (ad 43, .inl (y 0, 8, .inl (fun _ => 0)))] (fun (r : Int32) (_ : Unit) => r = 0) (fun _ => [MB mo ad 0 0 0 0 0 0 0 (-1) 0 0 0 0 0 0 0 0 un ne sd 0, (ad 43, .inl (y 0, 8, .inl (fun _ => 0)))])) := by
  refine CT.of (by decide) (nb rfl) ?_
  intro p e s m args below meth c C hr
  refine j_lv (lv' := [(0, .ref mo), (1, .int va), (2, .int vb), (3, .int vc)]) rfl ?_
  refine j_bipush (pc := 0) C (v := 8) d_Model_weatherOf_0 (by decide) ?_
  refine j_istore (pc := 2) C (lv' := [(4, .int 8), (0, .ref mo), (1, .int va), (2, .int vb), (3, .int vc)]) d_Model_weatherOf_2 (by decide) rfl ?_
  refine j_iload (pc := 4) C d_Model_weatherOf_4 0 rfl ?_
  refine j_bipush (pc := 6) C (v := 8) d_Model_weatherOf_6 (by decide) ?_
  refine j_aload_n (pc := 8) C d_Model_weatherOf_8 rfl 1 rfl ?_
  refine j_get (pc := 9) C gf_Model_117 0 rfl rfl d_Model_weatherOf_9 ?_
  refine j_bipush (pc := 12) C (v := 7) d_Model_weatherOf_12 (by decide) ?_
  refine j_iald (pc := 14) C 1 rfl (v := 0) (vin (by decide)) rfl d_Model_weatherOf_14 ?_
  refine j_iadd (pc := 15) C (v := 8) d_Model_weatherOf_15 (by decide) ?_
  refine j_icmp_geT (pc := 16) C (tgt := 116) d_Model_weatherOf_16 (by decide) (by decide) ?_
  refine j_iconst (pc := 116) C (v := 0) d_Model_weatherOf_116 (by decide) ?_
  exact j_iret (pc := 117) C hr rfl () rfl [0, 1] rfl (by decide) (by decide) (by decide) d_Model_weatherOf_117
theorem d_Model_flowsNow_0 : decode prog_13_method_63_code 0 = .ok (.aload_n 0, 1) := by decide +kernel
theorem d_Model_flowsNow_1 : decode prog_13_method_63_code 1 = .ok (.invokevirtual 427, 3) := by decide +kernel
theorem kw_Model_427 : KW "NineBoardsModel" 427 ⟨"NineBoardsModel", "level", "()I"⟩ prog_13_method_57_code 1 (some .int) 0 := ⟨(mt_7 (List.mem_of_getElem? (i := 43) rfl) rfl), (mt_1 (List.mem_of_getElem? (i := 16) rfl) rfl), (mt_7 (List.mem_of_getElem? (i := 46) rfl) rfl), by decide +kernel⟩
theorem kv_Model_level : Cond.instanceMethod ⟨"NineBoardsModel", "level", "()I"⟩ ∈ TB ∧ Cond.selects "NineBoardsModel" ⟨"NineBoardsModel", "level", "()I"⟩ ⟨"NineBoardsModel", "level", "()I"⟩ ∈ TB := ⟨(mt_7 (List.mem_of_getElem? (i := 45) rfl) rfl), (ms_0 (List.mem_map.mpr ⟨(⟨"NineBoardsModel", "level", "()I"⟩, 79), List.mem_of_getElem? (i := 90) (by decide +kernel), rfl⟩) rfl)⟩
theorem d_Model_flowsNow_4 : decode prog_13_method_63_code 4 = .ok (.istore_n 1, 1) := by decide +kernel
theorem d_Model_flowsNow_5 : decode prog_13_method_63_code 5 = .ok (.aload_n 0, 1) := by decide +kernel
theorem d_Model_flowsNow_6 : decode prog_13_method_63_code 6 = .ok (.getfield 158, 3) := by decide +kernel
theorem d_Model_flowsNow_9 : decode prog_13_method_63_code 9 = .ok (.iconst 1, 1) := by decide +kernel
theorem d_Model_flowsNow_10 : decode prog_13_method_63_code 10 = .ok (.iaload, 1) := by decide +kernel
theorem d_Model_flowsNow_11 : decode prog_13_method_63_code 11 = .ok (.istore_n 2, 1) := by decide +kernel
theorem d_Model_flowsNow_12 : decode prog_13_method_63_code 12 = .ok (.iconst 0, 1) := by decide +kernel
theorem d_Model_flowsNow_13 : decode prog_13_method_63_code 13 = .ok (.istore_n 3, 1) := by decide +kernel
theorem d_Model_flowsNow_14 : decode prog_13_method_63_code 14 = .ok (.iload_n 3, 1) := by decide +kernel
theorem d_Model_flowsNow_15 : decode prog_13_method_63_code 15 = .ok (.aload_n 0, 1) := by decide +kernel
theorem d_Model_flowsNow_16 : decode prog_13_method_63_code 16 = .ok (.invokevirtual 341, 3) := by decide +kernel
theorem d_Model_flowsNow_19 : decode prog_13_method_63_code 19 = .ok (.if_icmp .ge 31, 3) := by decide +kernel
theorem d_Model_flowsNow_50 : decode prog_13_method_63_code 50 = .ok (.iload_n 2, 1) := by decide +kernel
theorem d_Model_flowsNow_51 : decode prog_13_method_63_code 51 = .ok (.ireturn, 1) := by decide +kernel
set_option maxHeartbeats 4000000 in
set_option maxRecDepth 100000 in
theorem c_M_flowsNow (l : Launch) (D : va_G) (y : Nat → ClassId) (mo : Nat) (ad : Nat → Nat) (un : Int32) (ne : Int32) (sd : Int64) (d : Int32)  : CT l D y ⟨"NineBoardsModel", "flowsNow", "()I"⟩ prog_13_method_63_code 4 (some .int) ({ frames := 1, cells := 0, slots := 0, locals := 20 } : Room) [.ref mo] [MB mo ad 0 0 0 0 0 0 0 (-1) 0 0 0 0 0 0 0 0 un ne sd 0, (ad 43, .inl (y 0, 8, .inl (fun _ => 0))), (ad 62, .inl (y 0, 63, .inl (dayF d))), (ad 45, .inl (y 0, 14, .inl lakeF))] (QI D [MB mo ad 0 0 0 0 0 0 0 (-1) 0 0 0 0 0 0 0 0 un ne sd 0, (ad 43, .inl (y 0, 8, .inl (fun _ => 0))), (ad 62, .inl (y 0, 63, .inl (dayF d))), (ad 45, .inl (y 0, 14, .inl lakeF))] (fun (r : Int32) (_ : Unit) => r = 0) (fun _ => [MB mo ad 0 0 0 0 0 0 0 (-1) 0 0 0 0 0 0 0 0 un ne sd 0, (ad 43, .inl (y 0, 8, .inl (fun _ => 0))), (ad 62, .inl (y 0, 63, .inl (dayF d))), (ad 45, .inl (y 0, 14, .inl lakeF))])) := by
  refine CT.of (by decide) (nb rfl) ?_
  intro p e s m args below meth c C hr
  refine j_lv (lv' := [(0, .ref mo)]) rfl ?_
  refine j_aload_n (pc := 0) C d_Model_flowsNow_0 rfl 0 rfl ?_
  refine j_callVi (pc := 1) C (c_M_level l D y mo ad un ne sd d) kw_Model_427 kv_Model_level 0 10 rfl rfl ⟨by decide, by decide⟩ ⟨by decide, by decide⟩ (wr := [(ad 43, .inl (y 0, 8, .inl (fun _ => 0)))]) [0, 2, 3] [1] rfl rfl (by decide) (by decide) (by decide) (As := []) (rest := []) rfl (nb rfl) rfl d_Model_flowsNow_1 (fun r1 _ hr1 => ?_)
  subst hr1
  refine j_ws (ws' := [(ad 43, .inl (y 0, 8, .inl (fun _ => 0))), MB mo ad 0 0 0 0 0 0 0 (-1) 0 0 0 0 0 0 0 0 un ne sd 0, (ad 62, .inl (y 0, 63, .inl (dayF d))), (ad 45, .inl (y 0, 14, .inl lakeF))]) rfl ?_
  refine j_st (st' := [.int 0]) rfl ?_
  refine j_istore_n (pc := 4) C (lv' := [(1, .int 0), (0, .ref mo)]) d_Model_flowsNow_4 rfl (by decide) rfl ?_
  refine j_aload_n (pc := 5) C d_Model_flowsNow_5 rfl 1 rfl ?_
  refine j_get (pc := 6) C gf_Model_158 1 rfl rfl d_Model_flowsNow_6 ?_
  refine j_iconst (pc := 9) C (v := 1) d_Model_flowsNow_9 (by decide) ?_
  refine j_iald (pc := 10) C 2 rfl (v := 0) (vin (by decide)) rfl d_Model_flowsNow_10 ?_
  refine j_istore_n (pc := 11) C (lv' := [(2, .int 0), (1, .int 0), (0, .ref mo)]) d_Model_flowsNow_11 rfl (by decide) rfl ?_
  refine j_iconst (pc := 12) C (v := 0) d_Model_flowsNow_12 (by decide) ?_
  refine j_istore_n (pc := 13) C (lv' := [(3, .int 0), (2, .int 0), (1, .int 0), (0, .ref mo)]) d_Model_flowsNow_13 rfl (by decide) rfl ?_
  refine j_iload_n (pc := 14) C d_Model_flowsNow_14 rfl 0 rfl ?_
  refine j_aload_n (pc := 15) C d_Model_flowsNow_15 rfl 3 rfl ?_
  refine j_callVi (pc := 16) C (c_M_gateMany l D y mo ad un ne sd) kw_Model_341 kv_Model_gateMany 0 10 rfl rfl ⟨by decide, by decide⟩ ⟨by decide, by decide⟩ (wr := [(ad 62, .inl (y 0, 63, .inl (dayF d))), (ad 45, .inl (y 0, 14, .inl lakeF))]) [1, 0] [2, 3] rfl rfl (by decide) (by decide) (by decide) (As := []) (rest := [.int 0]) rfl (nb rfl) rfl d_Model_flowsNow_16 (fun r2 _ hr2 => ?_)
  subst hr2
  refine j_ws (ws' := [(ad 62, .inl (y 0, 63, .inl (dayF d))), (ad 45, .inl (y 0, 14, .inl lakeF)), MB mo ad 0 0 0 0 0 0 0 (-1) 0 0 0 0 0 0 0 0 un ne sd 0, (ad 43, .inl (y 0, 8, .inl (fun _ => 0)))]) rfl ?_
  refine j_st (st' := [.int 0, .int 0]) rfl ?_
  refine j_icmp_geT (pc := 19) C (tgt := 50) d_Model_flowsNow_19 (by decide) (by decide) ?_
  refine j_iload_n (pc := 50) C d_Model_flowsNow_50 rfl 1 rfl ?_
  exact j_iret (pc := 51) C hr rfl () rfl [2, 3, 0, 1] rfl (by decide) (by decide) (by decide) d_Model_flowsNow_51
theorem d_Model_worths_0 : decode prog_13_method_65_code 0 = .ok (.aload_n 0, 1) := by decide +kernel
theorem d_Model_worths_1 : decode prog_13_method_65_code 1 = .ok (.invokevirtual 427, 3) := by decide +kernel
theorem d_Model_worths_4 : decode prog_13_method_65_code 4 = .ok (.aload_n 0, 1) := by decide +kernel
theorem d_Model_worths_5 : decode prog_13_method_65_code 5 = .ok (.getfield 124, 3) := by decide +kernel
theorem d_Model_worths_8 : decode prog_13_method_65_code 8 = .ok (.bipush 10, 2) := by decide +kernel
theorem d_Model_worths_10 : decode prog_13_method_65_code 10 = .ok (.iaload, 1) := by decide +kernel
theorem d_Model_worths_11 : decode prog_13_method_65_code 11 = .ok (.if_icmp .ge 13, 3) := by decide +kernel
theorem d_Model_worths_24 : decode prog_13_method_65_code 24 = .ok (.iconst 0, 1) := by decide +kernel
theorem d_Model_worths_25 : decode prog_13_method_65_code 25 = .ok (.iload_n 1, 1) := by decide +kernel
theorem d_Model_worths_26 : decode prog_13_method_65_code 26 = .ok (.ifCond .eq 13, 3) := by decide +kernel
theorem d_Model_worths_39 : decode prog_13_method_65_code 39 = .ok (.iconst 0, 1) := by decide +kernel
theorem d_Model_worths_40 : decode prog_13_method_65_code 40 = .ok (.iadd, 1) := by decide +kernel
theorem d_Model_worths_41 : decode prog_13_method_65_code 41 = .ok (.istore_n 2, 1) := by decide +kernel
theorem d_Model_worths_42 : decode prog_13_method_65_code 42 = .ok (.iconst 0, 1) := by decide +kernel
theorem d_Model_worths_43 : decode prog_13_method_65_code 43 = .ok (.istore_n 3, 1) := by decide +kernel
theorem d_Model_worths_44 : decode prog_13_method_65_code 44 = .ok (.iload_n 3, 1) := by decide +kernel
theorem d_Model_worths_45 : decode prog_13_method_65_code 45 = .ok (.aload_n 0, 1) := by decide +kernel
theorem d_Model_worths_46 : decode prog_13_method_65_code 46 = .ok (.invokevirtual 448, 3) := by decide +kernel
theorem d_Model_worths_49 : decode prog_13_method_65_code 49 = .ok (.if_icmp .ge 20, 3) := by decide +kernel
theorem d_Model_worths_69 : decode prog_13_method_65_code 69 = .ok (.iconst 0, 1) := by decide +kernel
theorem d_Model_worths_70 : decode prog_13_method_65_code 70 = .ok (.istore_n 3, 1) := by decide +kernel
theorem d_Model_worths_71 : decode prog_13_method_65_code 71 = .ok (.iload_n 3, 1) := by decide +kernel
theorem d_Model_worths_72 : decode prog_13_method_65_code 72 = .ok (.aload_n 0, 1) := by decide +kernel
theorem d_Model_worths_73 : decode prog_13_method_65_code 73 = .ok (.getfield 117, 3) := by decide +kernel
theorem d_Model_worths_76 : decode prog_13_method_65_code 76 = .ok (.bipush 6, 2) := by decide +kernel
theorem d_Model_worths_78 : decode prog_13_method_65_code 78 = .ok (.iaload, 1) := by decide +kernel
theorem d_Model_worths_79 : decode prog_13_method_65_code 79 = .ok (.if_icmp .ge 136, 3) := by decide +kernel
theorem d_Model_worths_215 : decode prog_13_method_65_code 215 = .ok (.iconst 0, 1) := by decide +kernel
theorem d_Model_worths_216 : decode prog_13_method_65_code 216 = .ok (.istore_n 3, 1) := by decide +kernel
theorem d_Model_worths_217 : decode prog_13_method_65_code 217 = .ok (.iload_n 3, 1) := by decide +kernel
theorem d_Model_worths_218 : decode prog_13_method_65_code 218 = .ok (.aload_n 0, 1) := by decide +kernel
theorem d_Model_worths_219 : decode prog_13_method_65_code 219 = .ok (.invokevirtual 448, 3) := by decide +kernel
theorem d_Model_worths_222 : decode prog_13_method_65_code 222 = .ok (.if_icmp .ge 30, 3) := by decide +kernel
theorem d_Model_worths_252 : decode prog_13_method_65_code 252 = .ok (.return_, 1) := by decide +kernel
set_option maxHeartbeats 4000000 in
set_option maxRecDepth 100000 in
theorem c_M_worths (l : Launch) (D : va_G) (y : Nat → ClassId) (mo : Nat) (ad : Nat → Nat) (un : Int32) (ne : Int32) (sd : Int64) (d : Int32)  : CT l D y ⟨"NineBoardsModel", "worths", "(Z)V"⟩ prog_13_method_65_code 5 none ({ frames := 1, cells := 0, slots := 0, locals := 20 } : Room) [.ref mo, .int 0] [MB mo ad 0 0 0 0 0 0 0 (-1) 0 0 0 0 0 0 0 0 un ne sd 0, (ad 43, .inl (y 0, 8, .inl (fun _ => 0))), (ad 62, .inl (y 0, 63, .inl (dayF d))), (ad 45, .inl (y 0, 14, .inl lakeF))] (QV D [MB mo ad 0 0 0 0 0 0 0 (-1) 0 0 0 0 0 0 0 0 un ne sd 0, (ad 43, .inl (y 0, 8, .inl (fun _ => 0))), (ad 62, .inl (y 0, 63, .inl (dayF d))), (ad 45, .inl (y 0, 14, .inl lakeF))] (fun (_ : Unit) => True) (fun _ => [MB mo ad 0 0 0 0 0 0 0 (-1) 0 0 0 0 0 0 0 0 un ne sd 0, (ad 43, .inl (y 0, 8, .inl (fun _ => 0))), (ad 62, .inl (y 0, 63, .inl (dayF d))), (ad 45, .inl (y 0, 14, .inl lakeF))])) := by
  refine CT.of (by decide) (nb rfl) ?_
  intro p e s m args below meth c C hr
  refine j_lv (lv' := [(0, .ref mo), (1, .int 0)]) rfl ?_
  refine j_aload_n (pc := 0) C d_Model_worths_0 rfl 0 rfl ?_
  refine j_callVi (pc := 1) C (c_M_level l D y mo ad un ne sd d) kw_Model_427 kv_Model_level 0 10 rfl rfl ⟨by decide, by decide⟩ ⟨by decide, by decide⟩ (wr := [(ad 43, .inl (y 0, 8, .inl (fun _ => 0)))]) [0, 2, 3] [1] rfl rfl (by decide) (by decide) (by decide) (As := []) (rest := []) rfl (nb rfl) rfl d_Model_worths_1 (fun r1 _ hr1 => ?_)
  subst hr1
  refine j_ws (ws' := [(ad 43, .inl (y 0, 8, .inl (fun _ => 0))), MB mo ad 0 0 0 0 0 0 0 (-1) 0 0 0 0 0 0 0 0 un ne sd 0, (ad 62, .inl (y 0, 63, .inl (dayF d))), (ad 45, .inl (y 0, 14, .inl lakeF))]) rfl ?_
  refine j_st (st' := [.int 0]) rfl ?_
  refine j_aload_n (pc := 4) C d_Model_worths_4 rfl 0 rfl ?_
  refine j_get (pc := 5) C gf_Model_124 1 rfl rfl d_Model_worths_5 ?_
  refine j_bipush (pc := 8) C (v := 10) d_Model_worths_8 (by decide) ?_
  refine j_iald (pc := 10) C 3 rfl (v := 0) (vin (by decide)) (by decide) d_Model_worths_10 ?_
  refine j_icmp_geT (pc := 11) C (tgt := 24) d_Model_worths_11 (by decide) (by decide) ?_
  refine j_iconst (pc := 24) C (v := 0) d_Model_worths_24 (by decide) ?_
  refine j_iload_n (pc := 25) C d_Model_worths_25 rfl 1 rfl ?_
  refine j_if_eqT (pc := 26) C (tgt := 39) d_Model_worths_26 (by decide) (by decide) ?_
  refine j_iconst (pc := 39) C (v := 0) d_Model_worths_39 (by decide) ?_
  refine j_iadd (pc := 40) C (v := 0) d_Model_worths_40 (by decide) ?_
  refine j_istore_n (pc := 41) C (lv' := [(2, .int 0), (0, .ref mo), (1, .int 0)]) d_Model_worths_41 rfl (by decide) rfl ?_
  refine j_iconst (pc := 42) C (v := 0) d_Model_worths_42 (by decide) ?_
  refine j_istore_n (pc := 43) C (lv' := [(3, .int 0), (2, .int 0), (0, .ref mo), (1, .int 0)]) d_Model_worths_43 rfl (by decide) rfl ?_
  refine j_iload_n (pc := 44) C d_Model_worths_44 rfl 0 rfl ?_
  refine j_aload_n (pc := 45) C d_Model_worths_45 rfl 2 rfl ?_
  refine j_callVi (pc := 46) C (c_M_villages l D y mo ad un ne sd) kw_Model_448 kv_Model_villages 0 10 rfl rfl ⟨by decide, by decide⟩ ⟨by decide, by decide⟩ (wr := [(ad 62, .inl (y 0, 63, .inl (dayF d))), (ad 45, .inl (y 0, 14, .inl lakeF))]) [1, 0] [2, 3] rfl rfl (by decide) (by decide) (by decide) (As := []) (rest := [.int 0]) rfl (nb rfl) rfl d_Model_worths_46 (fun r2 _ hr2 => ?_)
  subst hr2
  refine j_ws (ws' := [(ad 62, .inl (y 0, 63, .inl (dayF d))), (ad 45, .inl (y 0, 14, .inl lakeF)), MB mo ad 0 0 0 0 0 0 0 (-1) 0 0 0 0 0 0 0 0 un ne sd 0, (ad 43, .inl (y 0, 8, .inl (fun _ => 0)))]) rfl ?_
  refine j_st (st' := [.int 0, .int 0]) rfl ?_
  refine j_icmp_geT (pc := 49) C (tgt := 69) d_Model_worths_49 (by decide) (by decide) ?_
  refine j_iconst (pc := 69) C (v := 0) d_Model_worths_69 (by decide) ?_
  refine j_istore_n (pc := 70) C (lv' := [(3, .int 0), (2, .int 0), (0, .ref mo), (1, .int 0)]) d_Model_worths_70 rfl (by decide) rfl ?_
  refine j_iload_n (pc := 71) C d_Model_worths_71 rfl 0 rfl ?_
  refine j_aload_n (pc := 72) C d_Model_worths_72 rfl 2 rfl ?_
  refine j_get (pc := 73) C gf_Model_117 2 rfl rfl d_Model_worths_73 ?_
  refine j_bipush (pc := 76) C (v := 6) d_Model_worths_76 (by decide) ?_
  refine j_iald (pc := 78) C 3 rfl (v := 0) (vin (by decide)) rfl d_Model_worths_78 ?_
  refine j_icmp_geT (pc := 79) C (tgt := 215) d_Model_worths_79 (by decide) (by decide) ?_
  refine j_iconst (pc := 215) C (v := 0) d_Model_worths_215 (by decide) ?_
  refine j_istore_n (pc := 216) C (lv' := [(3, .int 0), (2, .int 0), (0, .ref mo), (1, .int 0)]) d_Model_worths_216 rfl (by decide) rfl ?_
  refine j_iload_n (pc := 217) C d_Model_worths_217 rfl 0 rfl ?_
  refine j_aload_n (pc := 218) C d_Model_worths_218 rfl 2 rfl ?_
  refine j_callVi (pc := 219) C (c_M_villages l D y mo ad un ne sd) kw_Model_448 kv_Model_villages 0 10 rfl rfl ⟨by decide, by decide⟩ ⟨by decide, by decide⟩ (wr := [(ad 62, .inl (y 0, 63, .inl (dayF d))), (ad 45, .inl (y 0, 14, .inl lakeF))]) [2, 3] [0, 1] rfl rfl (by decide) (by decide) (by decide) (As := []) (rest := [.int 0]) rfl (nb rfl) rfl d_Model_worths_219 (fun r3 _ hr3 => ?_)
  subst hr3
  refine j_ws (ws' := [(ad 62, .inl (y 0, 63, .inl (dayF d))), (ad 45, .inl (y 0, 14, .inl lakeF)), MB mo ad 0 0 0 0 0 0 0 (-1) 0 0 0 0 0 0 0 0 un ne sd 0, (ad 43, .inl (y 0, 8, .inl (fun _ => 0)))]) rfl ?_
  refine j_st (st' := [.int 0, .int 0]) rfl ?_
  refine j_icmp_geT (pc := 222) C (tgt := 252) d_Model_worths_222 (by decide) (by decide) ?_
  exact j_vret (pc := 252) C hr () trivial [2, 3, 0, 1] rfl (by decide) (by decide) (by decide) d_Model_worths_252
theorem d_Model_goesBy_0 : decode prog_13_method_64_code 0 = .ok (.aload_n 0, 1) := by decide +kernel
theorem d_Model_goesBy_1 : decode prog_13_method_64_code 1 = .ok (.invokevirtual 434, 3) := by decide +kernel
theorem kw_Model_434 : KW "NineBoardsModel" 434 ⟨"NineBoardsModel", "flowsNow", "()I"⟩ prog_13_method_63_code 4 (some .int) 0 := ⟨(mt_7 (List.mem_of_getElem? (i := 68) rfl) rfl), (mt_1 (List.mem_of_getElem? (i := 16) rfl) rfl), (mt_7 (List.mem_of_getElem? (i := 71) rfl) rfl), by decide +kernel⟩
theorem kv_Model_flowsNow : Cond.instanceMethod ⟨"NineBoardsModel", "flowsNow", "()I"⟩ ∈ TB ∧ Cond.selects "NineBoardsModel" ⟨"NineBoardsModel", "flowsNow", "()I"⟩ ⟨"NineBoardsModel", "flowsNow", "()I"⟩ ∈ TB := ⟨(mt_7 (List.mem_of_getElem? (i := 70) rfl) rfl), (ms_0 (List.mem_map.mpr ⟨(⟨"NineBoardsModel", "flowsNow", "()I"⟩, 79), List.mem_of_getElem? (i := 94) (by decide +kernel), rfl⟩) rfl)⟩
theorem d_Model_goesBy_4 : decode prog_13_method_64_code 4 = .ok (.istore_n 2, 1) := by decide +kernel
theorem d_Model_goesBy_5 : decode prog_13_method_64_code 5 = .ok (.aload_n 0, 1) := by decide +kernel
theorem d_Model_goesBy_6 : decode prog_13_method_64_code 6 = .ok (.aload_n 0, 1) := by decide +kernel
theorem d_Model_goesBy_7 : decode prog_13_method_64_code 7 = .ok (.getfield 158, 3) := by decide +kernel
theorem d_Model_goesBy_10 : decode prog_13_method_64_code 10 = .ok (.iconst 0, 1) := by decide +kernel
theorem d_Model_goesBy_11 : decode prog_13_method_64_code 11 = .ok (.iaload, 1) := by decide +kernel
theorem d_Model_goesBy_12 : decode prog_13_method_64_code 12 = .ok (.iload_n 2, 1) := by decide +kernel
theorem d_Model_goesBy_13 : decode prog_13_method_64_code 13 = .ok (.iconst 0, 1) := by decide +kernel
theorem d_Model_goesBy_14 : decode prog_13_method_64_code 14 = .ok (.invokevirtual 437, 3) := by decide +kernel
theorem kw_Model_437 : KW "NineBoardsModel" 437 ⟨"NineBoardsModel", "weatherOf", "(IIZ)I"⟩ prog_13_method_52_code 7 (some .int) 3 := ⟨(mt_7 (List.mem_of_getElem? (i := 136) rfl) rfl), (mt_1 (List.mem_of_getElem? (i := 16) rfl) rfl), (mt_7 (List.mem_of_getElem? (i := 139) rfl) rfl), by decide +kernel⟩
theorem kv_Model_weatherOf : Cond.instanceMethod ⟨"NineBoardsModel", "weatherOf", "(IIZ)I"⟩ ∈ TB ∧ Cond.selects "NineBoardsModel" ⟨"NineBoardsModel", "weatherOf", "(IIZ)I"⟩ ⟨"NineBoardsModel", "weatherOf", "(IIZ)I"⟩ ∈ TB := ⟨(mt_7 (List.mem_of_getElem? (i := 138) rfl) rfl), (ms_0 (List.mem_map.mpr ⟨(⟨"NineBoardsModel", "weatherOf", "(IIZ)I"⟩, 79), List.mem_of_getElem? (i := 105) (by decide +kernel), rfl⟩) rfl)⟩
theorem d_Model_goesBy_17 : decode prog_13_method_64_code 17 = .ok (.iload_n 1, 1) := by decide +kernel
theorem d_Model_goesBy_18 : decode prog_13_method_64_code 18 = .ok (.iadd, 1) := by decide +kernel
theorem d_Model_goesBy_19 : decode prog_13_method_64_code 19 = .ok (.istore_n 3, 1) := by decide +kernel
theorem d_Model_goesBy_20 : decode prog_13_method_64_code 20 = .ok (.iload_n 2, 1) := by decide +kernel
theorem d_Model_goesBy_21 : decode prog_13_method_64_code 21 = .ok (.iload_n 3, 1) := by decide +kernel
theorem d_Model_goesBy_22 : decode prog_13_method_64_code 22 = .ok (.iadd, 1) := by decide +kernel
theorem d_Model_goesBy_23 : decode prog_13_method_64_code 23 = .ok (.istore 4, 2) := by decide +kernel
theorem d_Model_goesBy_25 : decode prog_13_method_64_code 25 = .ok (.aload_n 0, 1) := by decide +kernel
theorem d_Model_goesBy_26 : decode prog_13_method_64_code 26 = .ok (.iload 4, 2) := by decide +kernel
theorem d_Model_goesBy_28 : decode prog_13_method_64_code 28 = .ok (.aload_n 0, 1) := by decide +kernel
theorem d_Model_goesBy_29 : decode prog_13_method_64_code 29 = .ok (.getfield 124, 3) := by decide +kernel
theorem d_Model_goesBy_32 : decode prog_13_method_64_code 32 = .ok (.bipush 8, 2) := by decide +kernel
theorem d_Model_goesBy_34 : decode prog_13_method_64_code 34 = .ok (.iaload, 1) := by decide +kernel
theorem d_Model_goesBy_35 : decode prog_13_method_64_code 35 = .ok (.if_icmp .le 16, 3) := by decide +kernel
theorem d_Model_goesBy_51 : decode prog_13_method_64_code 51 = .ok (.iconst 0, 1) := by decide +kernel
theorem d_Model_goesBy_52 : decode prog_13_method_64_code 52 = .ok (.putfield 441, 3) := by decide +kernel
theorem pf_Model_441 : PF "NineBoardsModel" 441 10 64 (.int) false := ⟨_, _, _, ct_Model, rfl, ci_Model, by decide, (mt_5 (List.mem_of_getElem? (i := 152) rfl) rfl), cp_Model, cn_Model, rfl, by decide +kernel, (fun h => by cases h)⟩
theorem d_Model_goesBy_55 : decode prog_13_method_64_code 55 = .ok (.iload 4, 2) := by decide +kernel
theorem d_Model_goesBy_57 : decode prog_13_method_64_code 57 = .ok (.aload_n 0, 1) := by decide +kernel
theorem d_Model_goesBy_58 : decode prog_13_method_64_code 58 = .ok (.getfield 441, 3) := by decide +kernel
theorem gf_Model_441 : GF "NineBoardsModel" 441 10 64 := ⟨_, _, _, rfl, ci_Model, by decide, (mt_5 (List.mem_of_getElem? (i := 152) rfl) rfl)⟩
theorem d_Model_goesBy_61 : decode prog_13_method_64_code 61 = .ok (.isub, 1) := by decide +kernel
theorem d_Model_goesBy_62 : decode prog_13_method_64_code 62 = .ok (.istore 5, 2) := by decide +kernel
theorem d_Model_goesBy_64 : decode prog_13_method_64_code 64 = .ok (.aload_n 0, 1) := by decide +kernel
theorem d_Model_goesBy_65 : decode prog_13_method_64_code 65 = .ok (.aload_n 0, 1) := by decide +kernel
theorem d_Model_goesBy_66 : decode prog_13_method_64_code 66 = .ok (.getfield 158, 3) := by decide +kernel
theorem d_Model_goesBy_69 : decode prog_13_method_64_code 69 = .ok (.iconst 0, 1) := by decide +kernel
theorem d_Model_goesBy_70 : decode prog_13_method_64_code 70 = .ok (.iaload, 1) := by decide +kernel
theorem d_Model_goesBy_71 : decode prog_13_method_64_code 71 = .ok (.iload 5, 2) := by decide +kernel
theorem d_Model_goesBy_73 : decode prog_13_method_64_code 73 = .ok (.iconst 1, 1) := by decide +kernel
theorem d_Model_goesBy_74 : decode prog_13_method_64_code 74 = .ok (.invokevirtual 437, 3) := by decide +kernel
theorem d_Model_goesBy_77 : decode prog_13_method_64_code 77 = .ok (.istore 6, 2) := by decide +kernel
theorem d_Model_goesBy_79 : decode prog_13_method_64_code 79 = .ok (.iload 6, 2) := by decide +kernel
theorem d_Model_goesBy_81 : decode prog_13_method_64_code 81 = .ok (.iload 5, 2) := by decide +kernel
theorem d_Model_goesBy_83 : decode prog_13_method_64_code 83 = .ok (.if_icmp .ge 8, 3) := by decide +kernel
theorem d_Model_goesBy_91 : decode prog_13_method_64_code 91 = .ok (.iload 5, 2) := by decide +kernel
theorem d_Model_goesBy_93 : decode prog_13_method_64_code 93 = .ok (.istore 6, 2) := by decide +kernel
theorem d_Model_goesBy_95 : decode prog_13_method_64_code 95 = .ok (.iconst 0, 1) := by decide +kernel
theorem d_Model_goesBy_96 : decode prog_13_method_64_code 96 = .ok (.istore 7, 2) := by decide +kernel
theorem d_Model_goesBy_98 : decode prog_13_method_64_code 98 = .ok (.iload 7, 2) := by decide +kernel
theorem d_Model_goesBy_100 : decode prog_13_method_64_code 100 = .ok (.aload_n 0, 1) := by decide +kernel
theorem d_Model_goesBy_101 : decode prog_13_method_64_code 101 = .ok (.invokevirtual 341, 3) := by decide +kernel
theorem d_Model_goesBy_104 : decode prog_13_method_64_code 104 = .ok (.if_icmp .ge 63, 3) := by decide +kernel
theorem d_Model_goesBy_167 : decode prog_13_method_64_code 167 = .ok (.aload_n 0, 1) := by decide +kernel
theorem d_Model_goesBy_168 : decode prog_13_method_64_code 168 = .ok (.getfield 158, 3) := by decide +kernel
theorem d_Model_goesBy_171 : decode prog_13_method_64_code 171 = .ok (.bipush 31, 2) := by decide +kernel
theorem d_Model_goesBy_173 : decode prog_13_method_64_code 173 = .ok (.dup2, 1) := by decide +kernel
theorem d_Model_goesBy_174 : decode prog_13_method_64_code 174 = .ok (.iaload, 1) := by decide +kernel
theorem d_Model_goesBy_175 : decode prog_13_method_64_code 175 = .ok (.iload_n 3, 1) := by decide +kernel
theorem d_Model_goesBy_176 : decode prog_13_method_64_code 176 = .ok (.iadd, 1) := by decide +kernel
theorem d_Model_goesBy_177 : decode prog_13_method_64_code 177 = .ok (.iastore, 1) := by decide +kernel
theorem d_Model_goesBy_178 : decode prog_13_method_64_code 178 = .ok (.aload_n 0, 1) := by decide +kernel
theorem d_Model_goesBy_179 : decode prog_13_method_64_code 179 = .ok (.getfield 158, 3) := by decide +kernel
theorem d_Model_goesBy_182 : decode prog_13_method_64_code 182 = .ok (.bipush 32, 2) := by decide +kernel
theorem d_Model_goesBy_184 : decode prog_13_method_64_code 184 = .ok (.dup2, 1) := by decide +kernel
theorem d_Model_goesBy_185 : decode prog_13_method_64_code 185 = .ok (.iaload, 1) := by decide +kernel
theorem d_Model_goesBy_186 : decode prog_13_method_64_code 186 = .ok (.aload_n 0, 1) := by decide +kernel
theorem d_Model_goesBy_187 : decode prog_13_method_64_code 187 = .ok (.getfield 441, 3) := by decide +kernel
theorem d_Model_goesBy_190 : decode prog_13_method_64_code 190 = .ok (.iadd, 1) := by decide +kernel
theorem d_Model_goesBy_191 : decode prog_13_method_64_code 191 = .ok (.iastore, 1) := by decide +kernel
theorem d_Model_goesBy_192 : decode prog_13_method_64_code 192 = .ok (.aload_n 0, 1) := by decide +kernel
theorem d_Model_goesBy_193 : decode prog_13_method_64_code 193 = .ok (.getfield 158, 3) := by decide +kernel
theorem d_Model_goesBy_196 : decode prog_13_method_64_code 196 = .ok (.bipush 34, 2) := by decide +kernel
theorem d_Model_goesBy_198 : decode prog_13_method_64_code 198 = .ok (.dup2, 1) := by decide +kernel
theorem d_Model_goesBy_199 : decode prog_13_method_64_code 199 = .ok (.iaload, 1) := by decide +kernel
theorem d_Model_goesBy_200 : decode prog_13_method_64_code 200 = .ok (.iload 6, 2) := by decide +kernel
theorem d_Model_goesBy_202 : decode prog_13_method_64_code 202 = .ok (.iadd, 1) := by decide +kernel
theorem d_Model_goesBy_203 : decode prog_13_method_64_code 203 = .ok (.iastore, 1) := by decide +kernel
theorem d_Model_goesBy_204 : decode prog_13_method_64_code 204 = .ok (.aload_n 0, 1) := by decide +kernel
theorem d_Model_goesBy_205 : decode prog_13_method_64_code 205 = .ok (.getfield 158, 3) := by decide +kernel
theorem d_Model_goesBy_208 : decode prog_13_method_64_code 208 = .ok (.iconst 1, 1) := by decide +kernel
theorem d_Model_goesBy_209 : decode prog_13_method_64_code 209 = .ok (.iload 5, 2) := by decide +kernel
theorem d_Model_goesBy_211 : decode prog_13_method_64_code 211 = .ok (.iload 6, 2) := by decide +kernel
theorem d_Model_goesBy_213 : decode prog_13_method_64_code 213 = .ok (.isub, 1) := by decide +kernel
theorem d_Model_goesBy_214 : decode prog_13_method_64_code 214 = .ok (.iastore, 1) := by decide +kernel
theorem d_Model_goesBy_215 : decode prog_13_method_64_code 215 = .ok (.aload_n 0, 1) := by decide +kernel
theorem d_Model_goesBy_216 : decode prog_13_method_64_code 216 = .ok (.iload 4, 2) := by decide +kernel
theorem d_Model_goesBy_218 : decode prog_13_method_64_code 218 = .ok (.aload_n 0, 1) := by decide +kernel
theorem d_Model_goesBy_219 : decode prog_13_method_64_code 219 = .ok (.getfield 124, 3) := by decide +kernel
theorem d_Model_goesBy_222 : decode prog_13_method_64_code 222 = .ok (.bipush 7, 2) := by decide +kernel
theorem d_Model_goesBy_224 : decode prog_13_method_64_code 224 = .ok (.iaload, 1) := by decide +kernel
theorem d_Model_goesBy_225 : decode prog_13_method_64_code 225 = .ok (.idiv, 1) := by decide +kernel
theorem d_Model_goesBy_226 : decode prog_13_method_64_code 226 = .ok (.aload_n 0, 1) := by decide +kernel
theorem d_Model_goesBy_227 : decode prog_13_method_64_code 227 = .ok (.getfield 124, 3) := by decide +kernel
theorem d_Model_goesBy_230 : decode prog_13_method_64_code 230 = .ok (.bipush 12, 2) := by decide +kernel
theorem d_Model_goesBy_232 : decode prog_13_method_64_code 232 = .ok (.iaload, 1) := by decide +kernel
theorem d_Model_goesBy_233 : decode prog_13_method_64_code 233 = .ok (.if_icmp .le 7, 3) := by decide +kernel
theorem d_Model_goesBy_240 : decode prog_13_method_64_code 240 = .ok (.iconst 0, 1) := by decide +kernel
theorem d_Model_goesBy_241 : decode prog_13_method_64_code 241 = .ok (.invokevirtual 444, 3) := by decide +kernel
theorem kw_Model_444 : KW "NineBoardsModel" 444 ⟨"NineBoardsModel", "worths", "(Z)V"⟩ prog_13_method_65_code 5 none 1 := ⟨(mt_7 (List.mem_of_getElem? (i := 163) rfl) rfl), (mt_1 (List.mem_of_getElem? (i := 16) rfl) rfl), (mt_7 (List.mem_of_getElem? (i := 166) rfl) rfl), by decide +kernel⟩
theorem kv_Model_worths : Cond.instanceMethod ⟨"NineBoardsModel", "worths", "(Z)V"⟩ ∈ TB ∧ Cond.selects "NineBoardsModel" ⟨"NineBoardsModel", "worths", "(Z)V"⟩ ⟨"NineBoardsModel", "worths", "(Z)V"⟩ ∈ TB := ⟨(mt_7 (List.mem_of_getElem? (i := 165) rfl) rfl), (ms_0 (List.mem_map.mpr ⟨(⟨"NineBoardsModel", "worths", "(Z)V"⟩, 79), List.mem_of_getElem? (i := 109) (by decide +kernel), rfl⟩) rfl)⟩
theorem d_Model_goesBy_244 : decode prog_13_method_64_code 244 = .ok (.aload_n 0, 1) := by decide +kernel
theorem d_Model_goesBy_245 : decode prog_13_method_64_code 245 = .ok (.getfield 158, 3) := by decide +kernel
theorem d_Model_goesBy_248 : decode prog_13_method_64_code 248 = .ok (.iconst 0, 1) := by decide +kernel
theorem d_Model_goesBy_249 : decode prog_13_method_64_code 249 = .ok (.dup2, 1) := by decide +kernel
theorem d_Model_goesBy_250 : decode prog_13_method_64_code 250 = .ok (.iaload, 1) := by decide +kernel
theorem d_Model_goesBy_251 : decode prog_13_method_64_code 251 = .ok (.iconst 1, 1) := by decide +kernel
theorem d_Model_goesBy_252 : decode prog_13_method_64_code 252 = .ok (.iadd, 1) := by decide +kernel
theorem d_Model_goesBy_253 : decode prog_13_method_64_code 253 = .ok (.iastore, 1) := by decide +kernel
theorem d_Model_goesBy_254 : decode prog_13_method_64_code 254 = .ok (.return_, 1) := by decide +kernel
set_option maxHeartbeats 4000000 in
set_option maxRecDepth 100000 in
theorem c_M_goesBy (l : Launch) (D : va_G) (y : Nat → ClassId) (mo : Nat) (ad : Nat → Nat) (un : Int32) (ne : Int32) (sd : Int64) (d : Int32)  : CT l D y ⟨"NineBoardsModel", "goesBy", "(I)V"⟩ prog_13_method_64_code 8 none ({ frames := 2, cells := 0, slots := 0, locals := 44 } : Room) [.ref mo, .int 0] [MB mo ad 0 0 0 0 0 0 0 (-1) 0 0 0 0 0 0 0 0 un ne sd 0, (ad 43, .inl (y 0, 8, .inl (fun _ => 0))), (ad 62, .inl (y 0, 63, .inl (dayF d))), (ad 45, .inl (y 0, 14, .inl lakeF))] (QV D [MB mo ad 0 0 0 0 0 0 0 (-1) 0 0 0 0 0 0 0 0 un ne sd 0, (ad 43, .inl (y 0, 8, .inl (fun _ => 0))), (ad 62, .inl (y 0, 63, .inl (dayF d))), (ad 45, .inl (y 0, 14, .inl lakeF))] (fun (_ : Unit) => True) (fun _ => [MB mo ad 0 0 0 0 0 0 0 (-1) 0 0 0 0 0 0 0 0 un ne sd 0, (ad 43, .inl (y 0, 8, .inl (fun _ => 0))), (ad 62, .inl (y 0, 63, .inl (dayF (d + 1)))), (ad 45, .inl (y 0, 14, .inl lakeF))])) := by
  refine CT.of (by decide) (nb rfl) ?_
  intro p e s m args below meth c C hr
  refine j_lv (lv' := [(0, .ref mo), (1, .int 0)]) rfl ?_
  refine j_aload_n (pc := 0) C d_Model_goesBy_0 rfl 0 rfl ?_
  refine j_callVi (pc := 1) C (c_M_flowsNow l D y mo ad un ne sd d) kw_Model_434 kv_Model_flowsNow 0 10 rfl rfl ⟨by decide, by decide⟩ ⟨by decide, by decide⟩ (wr := []) [0, 1, 2, 3] [] rfl rfl (by decide) (by decide) (by decide) (As := []) (rest := []) rfl (nb rfl) rfl d_Model_goesBy_1 (fun r1 _ hr1 => ?_)
  subst hr1
  refine j_ws (ws' := [MB mo ad 0 0 0 0 0 0 0 (-1) 0 0 0 0 0 0 0 0 un ne sd 0, (ad 43, .inl (y 0, 8, .inl (fun _ => 0))), (ad 62, .inl (y 0, 63, .inl (dayF d))), (ad 45, .inl (y 0, 14, .inl lakeF))]) rfl ?_
  refine j_st (st' := [.int 0]) rfl ?_
  refine j_istore_n (pc := 4) C (lv' := [(2, .int 0), (0, .ref mo), (1, .int 0)]) d_Model_goesBy_4 rfl (by decide) rfl ?_
  refine j_aload_n (pc := 5) C d_Model_goesBy_5 rfl 1 rfl ?_
  refine j_aload_n (pc := 6) C d_Model_goesBy_6 rfl 1 rfl ?_
  refine j_get (pc := 7) C gf_Model_158 0 rfl rfl d_Model_goesBy_7 ?_
  refine j_iconst (pc := 10) C (v := 0) d_Model_goesBy_10 (by decide) ?_
  refine j_iald (pc := 11) C 2 rfl (v := d) (vin (by decide)) rfl d_Model_goesBy_11 ?_
  refine j_iload_n (pc := 12) C d_Model_goesBy_12 rfl 0 rfl ?_
  refine j_iconst (pc := 13) C (v := 0) d_Model_goesBy_13 (by decide) ?_
  refine j_callVi (pc := 14) C (c_M_weatherOf l D y mo ad un ne sd d 0 0) kw_Model_437 kv_Model_weatherOf 0 10 rfl rfl ⟨by decide, by decide⟩ ⟨by decide, by decide⟩ (wr := [(ad 62, .inl (y 0, 63, .inl (dayF d))), (ad 45, .inl (y 0, 14, .inl lakeF))]) [0, 1] [2, 3] rfl rfl (by decide) (by decide) (by decide) (As := [.int d, .int 0, .int 0]) (rest := []) rfl (nb rfl) rfl d_Model_goesBy_14 (fun r2 _ hr2 => ?_)
  subst hr2
  refine j_ws (ws' := [(ad 62, .inl (y 0, 63, .inl (dayF d))), (ad 45, .inl (y 0, 14, .inl lakeF)), MB mo ad 0 0 0 0 0 0 0 (-1) 0 0 0 0 0 0 0 0 un ne sd 0, (ad 43, .inl (y 0, 8, .inl (fun _ => 0)))]) rfl ?_
  refine j_st (st' := [.int 0]) rfl ?_
  refine j_iload_n (pc := 17) C d_Model_goesBy_17 rfl 2 rfl ?_
  refine j_iadd (pc := 18) C (v := 0) d_Model_goesBy_18 (by decide) ?_
  refine j_istore_n (pc := 19) C (lv' := [(3, .int 0), (2, .int 0), (0, .ref mo), (1, .int 0)]) d_Model_goesBy_19 rfl (by decide) rfl ?_
  refine j_iload_n (pc := 20) C d_Model_goesBy_20 rfl 1 rfl ?_
  refine j_iload_n (pc := 21) C d_Model_goesBy_21 rfl 0 rfl ?_
  refine j_iadd (pc := 22) C (v := 0) d_Model_goesBy_22 (by decide) ?_
  refine j_istore (pc := 23) C (lv' := [(4, .int 0), (3, .int 0), (2, .int 0), (0, .ref mo), (1, .int 0)]) d_Model_goesBy_23 (by decide) rfl ?_
  refine j_aload_n (pc := 25) C d_Model_goesBy_25 rfl 3 rfl ?_
  refine j_iload (pc := 26) C d_Model_goesBy_26 0 rfl ?_
  refine j_aload_n (pc := 28) C d_Model_goesBy_28 rfl 3 rfl ?_
  refine j_get (pc := 29) C gf_Model_124 2 rfl rfl d_Model_goesBy_29 ?_
  refine j_bipush (pc := 32) C (v := 8) d_Model_goesBy_32 (by decide) ?_
  refine j_iald (pc := 34) C 1 rfl (v := 1) (vin (by decide)) (by decide) d_Model_goesBy_34 ?_
  refine j_icmp_leT (pc := 35) C (tgt := 51) d_Model_goesBy_35 (by decide) (by decide) ?_
  refine j_iconst (pc := 51) C (v := 0) d_Model_goesBy_51 (by decide) ?_
  refine j_put (pc := 52) C pf_Model_441 2 (ws' := [(ad 62, .inl (y 0, 63, .inl (dayF d))), (ad 45, .inl (y 0, 14, .inl lakeF)), MB mo ad 0 0 0 0 0 0 0 (-1) 0 0 0 0 0 0 0 0 un ne sd 0, (ad 43, .inl (y 0, 8, .inl (fun _ => 0)))]) rfl rfl rfl (nl rfl) rfl d_Model_goesBy_52 ?_
  refine j_iload (pc := 55) C d_Model_goesBy_55 0 rfl ?_
  refine j_aload_n (pc := 57) C d_Model_goesBy_57 rfl 3 rfl ?_
  refine j_get (pc := 58) C gf_Model_441 2 rfl rfl d_Model_goesBy_58 ?_
  refine j_isub (pc := 61) C (v := 0) d_Model_goesBy_61 (by decide) ?_
  refine j_istore (pc := 62) C (lv' := [(5, .int 0), (4, .int 0), (3, .int 0), (2, .int 0), (0, .ref mo), (1, .int 0)]) d_Model_goesBy_62 (by decide) rfl ?_
  refine j_aload_n (pc := 64) C d_Model_goesBy_64 rfl 4 rfl ?_
  refine j_aload_n (pc := 65) C d_Model_goesBy_65 rfl 4 rfl ?_
  refine j_get (pc := 66) C gf_Model_158 2 rfl rfl d_Model_goesBy_66 ?_
  refine j_iconst (pc := 69) C (v := 0) d_Model_goesBy_69 (by decide) ?_
  refine j_iald (pc := 70) C 0 rfl (v := d) (vin (by decide)) rfl d_Model_goesBy_70 ?_
  refine j_iload (pc := 71) C d_Model_goesBy_71 0 rfl ?_
  refine j_iconst (pc := 73) C (v := 1) d_Model_goesBy_73 (by decide) ?_
  refine j_callVi (pc := 74) C (c_M_weatherOf l D y mo ad un ne sd d 0 1) kw_Model_437 kv_Model_weatherOf 0 10 rfl rfl ⟨by decide, by decide⟩ ⟨by decide, by decide⟩ (wr := [(ad 62, .inl (y 0, 63, .inl (dayF d))), (ad 45, .inl (y 0, 14, .inl lakeF))]) [2, 3] [0, 1] rfl rfl (by decide) (by decide) (by decide) (As := [.int d, .int 0, .int 1]) (rest := []) rfl (nb rfl) rfl d_Model_goesBy_74 (fun r3 _ hr3 => ?_)
  subst hr3
  refine j_ws (ws' := [(ad 62, .inl (y 0, 63, .inl (dayF d))), (ad 45, .inl (y 0, 14, .inl lakeF)), MB mo ad 0 0 0 0 0 0 0 (-1) 0 0 0 0 0 0 0 0 un ne sd 0, (ad 43, .inl (y 0, 8, .inl (fun _ => 0)))]) rfl ?_
  refine j_st (st' := [.int 0]) rfl ?_
  refine j_istore (pc := 77) C (lv' := [(6, .int 0), (5, .int 0), (4, .int 0), (3, .int 0), (2, .int 0), (0, .ref mo), (1, .int 0)]) d_Model_goesBy_77 (by decide) rfl ?_
  refine j_iload (pc := 79) C d_Model_goesBy_79 0 rfl ?_
  refine j_iload (pc := 81) C d_Model_goesBy_81 1 rfl ?_
  refine j_icmp_geT (pc := 83) C (tgt := 91) d_Model_goesBy_83 (by decide) (by decide) ?_
  refine j_iload (pc := 91) C d_Model_goesBy_91 1 rfl ?_
  refine j_istore (pc := 93) C (lv' := [(6, .int 0), (5, .int 0), (4, .int 0), (3, .int 0), (2, .int 0), (0, .ref mo), (1, .int 0)]) d_Model_goesBy_93 (by decide) rfl ?_
  refine j_iconst (pc := 95) C (v := 0) d_Model_goesBy_95 (by decide) ?_
  refine j_istore (pc := 96) C (lv' := [(7, .int 0), (6, .int 0), (5, .int 0), (4, .int 0), (3, .int 0), (2, .int 0), (0, .ref mo), (1, .int 0)]) d_Model_goesBy_96 (by decide) rfl ?_
  refine j_iload (pc := 98) C d_Model_goesBy_98 0 rfl ?_
  refine j_aload_n (pc := 100) C d_Model_goesBy_100 rfl 6 rfl ?_
  refine j_callVi (pc := 101) C (c_M_gateMany l D y mo ad un ne sd) kw_Model_341 kv_Model_gateMany 0 10 rfl rfl ⟨by decide, by decide⟩ ⟨by decide, by decide⟩ (wr := [(ad 62, .inl (y 0, 63, .inl (dayF d))), (ad 45, .inl (y 0, 14, .inl lakeF))]) [2, 3] [0, 1] rfl rfl (by decide) (by decide) (by decide) (As := []) (rest := [.int 0]) rfl (nb rfl) rfl d_Model_goesBy_101 (fun r4 _ hr4 => ?_)
  subst hr4
  refine j_ws (ws' := [(ad 62, .inl (y 0, 63, .inl (dayF d))), (ad 45, .inl (y 0, 14, .inl lakeF)), MB mo ad 0 0 0 0 0 0 0 (-1) 0 0 0 0 0 0 0 0 un ne sd 0, (ad 43, .inl (y 0, 8, .inl (fun _ => 0)))]) rfl ?_
  refine j_st (st' := [.int 0, .int 0]) rfl ?_
  refine j_icmp_geT (pc := 104) C (tgt := 167) d_Model_goesBy_104 (by decide) (by decide) ?_
  refine j_aload_n (pc := 167) C d_Model_goesBy_167 rfl 6 rfl ?_
  refine j_get (pc := 168) C gf_Model_158 2 rfl rfl d_Model_goesBy_168 ?_
  refine j_bipush (pc := 171) C (v := 31) d_Model_goesBy_171 (by decide) ?_
  refine j_dup2 (pc := 173) C d_Model_goesBy_173 rfl rfl ?_
  refine j_iald (pc := 174) C 0 rfl (v := 0) (vin (by decide)) rfl d_Model_goesBy_174 ?_
  refine j_iload_n (pc := 175) C d_Model_goesBy_175 rfl 4 rfl ?_
  refine j_iadd (pc := 176) C (v := 0) d_Model_goesBy_176 (by decide) ?_
  refine j_iast (pc := 177) C 0 rfl (ws' := [(ad 62, .inl (y 0, 63, .inl (dayF d))), (ad 45, .inl (y 0, 14, .inl lakeF)), MB mo ad 0 0 0 0 0 0 0 (-1) 0 0 0 0 0 0 0 0 un ne sd 0, (ad 43, .inl (y 0, 8, .inl (fun _ => 0)))]) (vin (by decide)) (by rw [up_dayF (by decide)]; rfl) d_Model_goesBy_177 ?_
  refine j_aload_n (pc := 178) C d_Model_goesBy_178 rfl 6 rfl ?_
  refine j_get (pc := 179) C gf_Model_158 2 rfl rfl d_Model_goesBy_179 ?_
  refine j_bipush (pc := 182) C (v := 32) d_Model_goesBy_182 (by decide) ?_
  refine j_dup2 (pc := 184) C d_Model_goesBy_184 rfl rfl ?_
  refine j_iald (pc := 185) C 0 rfl (v := 0) (vin (by decide)) rfl d_Model_goesBy_185 ?_
  refine j_aload_n (pc := 186) C d_Model_goesBy_186 rfl 6 rfl ?_
  refine j_get (pc := 187) C gf_Model_441 2 rfl rfl d_Model_goesBy_187 ?_
  refine j_iadd (pc := 190) C (v := 0) d_Model_goesBy_190 (by decide) ?_
  refine j_iast (pc := 191) C 0 rfl (ws' := [(ad 62, .inl (y 0, 63, .inl (dayF d))), (ad 45, .inl (y 0, 14, .inl lakeF)), MB mo ad 0 0 0 0 0 0 0 (-1) 0 0 0 0 0 0 0 0 un ne sd 0, (ad 43, .inl (y 0, 8, .inl (fun _ => 0)))]) (vin (by decide)) (by rw [up_dayF (by decide)]; rfl) d_Model_goesBy_191 ?_
  refine j_aload_n (pc := 192) C d_Model_goesBy_192 rfl 6 rfl ?_
  refine j_get (pc := 193) C gf_Model_158 2 rfl rfl d_Model_goesBy_193 ?_
  refine j_bipush (pc := 196) C (v := 34) d_Model_goesBy_196 (by decide) ?_
  refine j_dup2 (pc := 198) C d_Model_goesBy_198 rfl rfl ?_
  refine j_iald (pc := 199) C 0 rfl (v := 0) (vin (by decide)) rfl d_Model_goesBy_199 ?_
  refine j_iload (pc := 200) C d_Model_goesBy_200 1 rfl ?_
  refine j_iadd (pc := 202) C (v := 0) d_Model_goesBy_202 (by decide) ?_
  refine j_iast (pc := 203) C 0 rfl (ws' := [(ad 62, .inl (y 0, 63, .inl (dayF d))), (ad 45, .inl (y 0, 14, .inl lakeF)), MB mo ad 0 0 0 0 0 0 0 (-1) 0 0 0 0 0 0 0 0 un ne sd 0, (ad 43, .inl (y 0, 8, .inl (fun _ => 0)))]) (vin (by decide)) (by rw [up_dayF (by decide)]; rfl) d_Model_goesBy_203 ?_
  refine j_aload_n (pc := 204) C d_Model_goesBy_204 rfl 6 rfl ?_
  refine j_get (pc := 205) C gf_Model_158 2 rfl rfl d_Model_goesBy_205 ?_
  refine j_iconst (pc := 208) C (v := 1) d_Model_goesBy_208 (by decide) ?_
  refine j_iload (pc := 209) C d_Model_goesBy_209 2 rfl ?_
  refine j_iload (pc := 211) C d_Model_goesBy_211 1 rfl ?_
  refine j_isub (pc := 213) C (v := 0) d_Model_goesBy_213 (by decide) ?_
  refine j_iast (pc := 214) C 0 rfl (ws' := [(ad 62, .inl (y 0, 63, .inl (dayF d))), (ad 45, .inl (y 0, 14, .inl lakeF)), MB mo ad 0 0 0 0 0 0 0 (-1) 0 0 0 0 0 0 0 0 un ne sd 0, (ad 43, .inl (y 0, 8, .inl (fun _ => 0)))]) (vin (by decide)) (by rw [up_dayF (by decide)]; rfl) d_Model_goesBy_214 ?_
  refine j_aload_n (pc := 215) C d_Model_goesBy_215 rfl 6 rfl ?_
  refine j_iload (pc := 216) C d_Model_goesBy_216 3 rfl ?_
  refine j_aload_n (pc := 218) C d_Model_goesBy_218 rfl 6 rfl ?_
  refine j_get (pc := 219) C gf_Model_124 2 rfl rfl d_Model_goesBy_219 ?_
  refine j_bipush (pc := 222) C (v := 7) d_Model_goesBy_222 (by decide) ?_
  refine j_iald (pc := 224) C 1 rfl (v := 1) (vin (by decide)) (by decide) d_Model_goesBy_224 ?_
  refine j_idiv (pc := 225) C (v := 0) d_Model_goesBy_225 (by decide) (by decide) ?_
  refine j_aload_n (pc := 226) C d_Model_goesBy_226 rfl 6 rfl ?_
  refine j_get (pc := 227) C gf_Model_124 2 rfl rfl d_Model_goesBy_227 ?_
  refine j_bipush (pc := 230) C (v := 12) d_Model_goesBy_230 (by decide) ?_
  refine j_iald (pc := 232) C 1 rfl (v := 9999) (vin (by decide)) (by decide) d_Model_goesBy_232 ?_
  refine j_icmp_leT (pc := 233) C (tgt := 240) d_Model_goesBy_233 (by decide) (by decide) ?_
  refine j_iconst (pc := 240) C (v := 0) d_Model_goesBy_240 (by decide) ?_
  refine j_callVv (pc := 241) C (c_M_worths l D y mo ad un ne sd d) kw_Model_444 kv_Model_worths 0 10 rfl rfl ⟨by decide, by decide⟩ ⟨by decide, by decide⟩ (wr := []) [2, 3, 0, 1] [] rfl rfl (by decide) (by decide) (by decide) (As := [.int 0]) (rest := []) rfl (nb rfl) rfl d_Model_goesBy_241 (fun _ _ => ?_)
  refine j_ws (ws' := [MB mo ad 0 0 0 0 0 0 0 (-1) 0 0 0 0 0 0 0 0 un ne sd 0, (ad 43, .inl (y 0, 8, .inl (fun _ => 0))), (ad 62, .inl (y 0, 63, .inl (dayF d))), (ad 45, .inl (y 0, 14, .inl lakeF))]) rfl ?_
  refine j_aload_n (pc := 244) C d_Model_goesBy_244 rfl 6 rfl ?_
  refine j_get (pc := 245) C gf_Model_158 0 rfl rfl d_Model_goesBy_245 ?_
  refine j_iconst (pc := 248) C (v := 0) d_Model_goesBy_248 (by decide) ?_
  refine j_dup2 (pc := 249) C d_Model_goesBy_249 rfl rfl ?_
  refine j_iald (pc := 250) C 2 rfl (v := d) (vin (by decide)) rfl d_Model_goesBy_250 ?_
  refine j_iconst (pc := 251) C (v := 1) d_Model_goesBy_251 (by decide) ?_
  refine j_iadd (pc := 252) C (v := d + 1) d_Model_goesBy_252 rfl ?_
  refine j_iast (pc := 253) C 2 rfl (ws' := [MB mo ad 0 0 0 0 0 0 0 (-1) 0 0 0 0 0 0 0 0 un ne sd 0, (ad 43, .inl (y 0, 8, .inl (fun _ => 0))), (ad 62, .inl (y 0, 63, .inl (dayF (d + 1)))), (ad 45, .inl (y 0, 14, .inl lakeF))]) (vin (by decide)) (by rw [up_day0]; rfl) d_Model_goesBy_253 ?_
  exact j_vret (pc := 254) C hr () trivial [0, 1, 2, 3] rfl (by decide) (by decide) (by decide) d_Model_goesBy_254
theorem d_Model_mayDo_0 : decode prog_13_method_68_code 0 = .ok (.iload_n 2, 1) := by decide +kernel
theorem d_Model_mayDo_1 : decode prog_13_method_68_code 1 = .ok (.ifCond .eq 31, 3) := by decide +kernel
theorem d_Model_mayDo_32 : decode prog_13_method_68_code 32 = .ok (.iconst 1, 1) := by decide +kernel
theorem d_Model_mayDo_33 : decode prog_13_method_68_code 33 = .ok (.goto 4, 3) := by decide +kernel
theorem d_Model_mayDo_37 : decode prog_13_method_68_code 37 = .ok (.ireturn, 1) := by decide +kernel
set_option maxHeartbeats 4000000 in
set_option maxRecDepth 100000 in
theorem c_M_mayDo_0 (l : Launch) (D : va_G) (y : Nat → ClassId) (mo : Nat) (ad : Nat → Nat) (un : Int32) (ne : Int32) (sd : Int64) (lw : Int32)  : CT l D y ⟨"NineBoardsModel", "mayDo", "(II)Z"⟩ prog_13_method_68_code 3 (some .boolean) ({ frames := 0, cells := 0, slots := 0, locals := 0 } : Room) [.ref mo, .int lw, .int 0] [MB mo ad 0 0 0 0 0 0 0 (-1) 0 0 0 0 0 0 0 0 un ne sd 0] (QI D [MB mo ad 0 0 0 0 0 0 0 (-1) 0 0 0 0 0 0 0 0 un ne sd 0] (fun (r : Int32) (_ : Unit) => r = 1) (fun _ => [MB mo ad 0 0 0 0 0 0 0 (-1) 0 0 0 0 0 0 0 0 un ne sd 0])) := by
  refine CT.of (by decide) (nb rfl) ?_
  intro p e s m args below meth c C hr
  refine j_lv (lv' := [(0, .ref mo), (1, .int lw), (2, .int 0)]) rfl ?_
  refine j_iload_n (pc := 0) C d_Model_mayDo_0 rfl 2 rfl ?_
  refine j_if_eqT (pc := 1) C (tgt := 32) d_Model_mayDo_1 (by decide) (by decide) ?_
  refine j_iconst (pc := 32) C (v := 1) d_Model_mayDo_32 (by decide) ?_
  refine j_goto (pc := 33) C (tgt := 37) d_Model_mayDo_33 (by decide) ?_
  exact j_iret (pc := 37) C hr (by decide) () rfl [0] rfl (by decide) (by decide) (by decide) d_Model_mayDo_37
theorem d_Model_mayDo_4 : decode prog_13_method_68_code 4 = .ok (.aload_n 0, 1) := by decide +kernel
theorem d_Model_mayDo_5 : decode prog_13_method_68_code 5 = .ok (.invokevirtual 448, 3) := by decide +kernel
theorem d_Model_mayDo_8 : decode prog_13_method_68_code 8 = .ok (.ifCond .le 28, 3) := by decide +kernel
theorem d_Model_mayDo_36 : decode prog_13_method_68_code 36 = .ok (.iconst 0, 1) := by decide +kernel
set_option maxHeartbeats 4000000 in
set_option maxRecDepth 100000 in
theorem c_M_mayDo_n (l : Launch) (D : va_G) (y : Nat → ClassId) (mo : Nat) (ad : Nat → Nat) (un : Int32) (ne : Int32) (sd : Int64) (lw : Int32) (v : Int32) (hv : ¬ v = 0) : CT l D y ⟨"NineBoardsModel", "mayDo", "(II)Z"⟩ prog_13_method_68_code 3 (some .boolean) ({ frames := 1, cells := 0, slots := 0, locals := 20 } : Room) [.ref mo, .int lw, .int v] [MB mo ad 0 0 0 0 0 0 0 (-1) 0 0 0 0 0 0 0 0 un ne sd 0, (ad 43, .inl (y 0, 8, .inl (fun _ => 0)))] (QI D [MB mo ad 0 0 0 0 0 0 0 (-1) 0 0 0 0 0 0 0 0 un ne sd 0, (ad 43, .inl (y 0, 8, .inl (fun _ => 0)))] (fun (r : Int32) (_ : Unit) => r = 0) (fun _ => [MB mo ad 0 0 0 0 0 0 0 (-1) 0 0 0 0 0 0 0 0 un ne sd 0, (ad 43, .inl (y 0, 8, .inl (fun _ => 0)))])) := by
  refine CT.of (by decide) (nb rfl) ?_
  intro p e s m args below meth c C hr
  refine j_lv (lv' := [(0, .ref mo), (1, .int lw), (2, .int v)]) rfl ?_
  refine j_iload_n (pc := 0) C d_Model_mayDo_0 rfl 2 rfl ?_
  refine j_if_eqF (pc := 1) C (tgt := 32) d_Model_mayDo_1 (by decide) hv ?_
  refine j_aload_n (pc := 4) C d_Model_mayDo_4 rfl 0 rfl ?_
  refine j_callVi (pc := 5) C (c_M_villages l D y mo ad un ne sd) kw_Model_448 kv_Model_villages 0 10 rfl rfl ⟨by decide, by decide⟩ ⟨by decide, by decide⟩ (wr := []) [0, 1] [] rfl rfl (by decide) (by decide) (by decide) (As := []) (rest := []) rfl (nb rfl) rfl d_Model_mayDo_5 (fun r1 _ hr1 => ?_)
  subst hr1
  refine j_ws (ws' := [MB mo ad 0 0 0 0 0 0 0 (-1) 0 0 0 0 0 0 0 0 un ne sd 0, (ad 43, .inl (y 0, 8, .inl (fun _ => 0)))]) rfl ?_
  refine j_st (st' := [.int 0]) rfl ?_
  refine j_if_leT (pc := 8) C (tgt := 36) d_Model_mayDo_8 (by decide) (by decide) ?_
  refine j_iconst (pc := 36) C (v := 0) d_Model_mayDo_36 (by decide) ?_
  exact j_iret (pc := 37) C hr (by decide) () rfl [0, 1] rfl (by decide) (by decide) (by decide) d_Model_mayDo_37
theorem d_Model_acts_0 : decode prog_13_method_67_code 0 = .ok (.iload_n 1, 1) := by decide +kernel
theorem d_Model_acts_1 : decode prog_13_method_67_code 1 = .ok (.ifCond .ne 4, 3) := by decide +kernel
theorem d_Model_acts_4 : decode prog_13_method_67_code 4 = .ok (.return_, 1) := by decide +kernel
set_option maxHeartbeats 4000000 in
set_option maxRecDepth 100000 in
theorem c_M_acts (l : Launch) (D : va_G) (y : Nat → ClassId) (mo : Nat) (ad : Nat → Nat) (un : Int32) (ne : Int32) (sd : Int64)  : CT l D y ⟨"NineBoardsModel", "acts", "(I)V"⟩ prog_13_method_67_code 2 none ({ frames := 0, cells := 0, slots := 0, locals := 0 } : Room) [.ref mo, .int 0] [MB mo ad 0 0 0 0 0 0 0 (-1) 0 0 0 0 0 0 0 0 un ne sd 0] (QV D [MB mo ad 0 0 0 0 0 0 0 (-1) 0 0 0 0 0 0 0 0 un ne sd 0] (fun (_ : Unit) => True) (fun _ => [MB mo ad 0 0 0 0 0 0 0 (-1) 0 0 0 0 0 0 0 0 un ne sd 0])) := by
  refine CT.of (by decide) (nb rfl) ?_
  intro p e s m args below meth c C hr
  refine j_lv (lv' := [(0, .ref mo), (1, .int 0)]) rfl ?_
  refine j_iload_n (pc := 0) C d_Model_acts_0 rfl 1 rfl ?_
  refine j_if_neF (pc := 1) C (tgt := 5) d_Model_acts_1 (by decide) (by decide) ?_
  exact j_vret (pc := 4) C hr () trivial [0] rfl (by decide) (by decide) (by decide) d_Model_acts_4
theorem d_Model_takesBack_2 : decode prog_13_method_71_code 2 = .ok (.iload_n 1, 1) := by decide +kernel
theorem d_Model_takesBack_3 : decode prog_13_method_71_code 3 = .ok (.bipush 63, 2) := by decide +kernel
theorem d_Model_takesBack_5 : decode prog_13_method_71_code 5 = .ok (.if_icmp .ge 21, 3) := by decide +kernel
theorem d_Model_takesBack_8 : decode prog_13_method_71_code 8 = .ok (.aload_n 0, 1) := by decide +kernel
theorem d_Model_takesBack_9 : decode prog_13_method_71_code 9 = .ok (.getfield 158, 3) := by decide +kernel
theorem d_Model_takesBack_12 : decode prog_13_method_71_code 12 = .ok (.iload_n 1, 1) := by decide +kernel
theorem d_Model_takesBack_13 : decode prog_13_method_71_code 13 = .ok (.aload_n 0, 1) := by decide +kernel
theorem d_Model_takesBack_14 : decode prog_13_method_71_code 14 = .ok (.getfield 167, 3) := by decide +kernel
theorem gf_Model_167 : GF "NineBoardsModel" 167 10 68 := ⟨_, _, _, rfl, ci_Model, by decide, (mt_5 (List.mem_of_getElem? (i := 156) rfl) rfl)⟩
theorem d_Model_takesBack_17 : decode prog_13_method_71_code 17 = .ok (.iload_n 1, 1) := by decide +kernel
theorem d_Model_takesBack_18 : decode prog_13_method_71_code 18 = .ok (.iaload, 1) := by decide +kernel
theorem d_Model_takesBack_19 : decode prog_13_method_71_code 19 = .ok (.iastore, 1) := by decide +kernel
theorem d_Model_takesBack_20 : decode prog_13_method_71_code 20 = .ok (.iinc 1 1, 3) := by decide +kernel
theorem d_Model_takesBack_23 : decode prog_13_method_71_code 23 = .ok (.goto (-21), 3) := by decide +kernel
theorem d_Model_takesBack_0 : decode prog_13_method_71_code 0 = .ok (.iconst 0, 1) := by decide +kernel
theorem d_Model_takesBack_1 : decode prog_13_method_71_code 1 = .ok (.istore_n 1, 1) := by decide +kernel
theorem d_Model_takesBack_26 : decode prog_13_method_71_code 26 = .ok (.return_, 1) := by decide +kernel
set_option maxHeartbeats 4000000 in
set_option maxRecDepth 100000 in
theorem lp_takesBack {p : Program} {l : Launch} {e : Env} {s : State} {m : MethodId} {args : Array Value} {below : List Frame} {meth : Method} {c : Code} {Q : State → Prop} {D : va_G} {y : Nat → ClassId} {A : Nat → Prop} (C : Cx p s m args meth c D y A prog_13_method_71_code 2 "NineBoardsModel" "takesBack") (mo : Nat) (ad : Nat → Nat) (un : Int32) (ne : Int32) (sd : Int64) (f : Nat → Int32) (g : Nat → Int32) (kx : J p l e ({ frames := 0, cells := 0, slots := 0, locals := 0 } : Room) s m args below meth c Q D A 2 [MB mo ad 0 0 0 0 0 0 0 (-1) 0 0 0 0 0 0 0 0 un ne sd 0, (ad 62, .inl (y 0, 63, .inl (mixF 63 f g))), (ad 68, .inl (y 0, 63, .inl g))] [(0, .ref mo), (1, .int (nI 63))] 0 0 26 []) : ∀ (n : Nat) (i : Nat), (i + n = 63) → J p l e ({ frames := 0, cells := 0, slots := 0, locals := 0 } : Room) s m args below meth c Q D A 2 [MB mo ad 0 0 0 0 0 0 0 (-1) 0 0 0 0 0 0 0 0 un ne sd 0, (ad 62, .inl (y 0, 63, .inl (mixF i f g))), (ad 68, .inl (y 0, 63, .inl g))] [(0, .ref mo), (1, .int (nI i))] 0 0 2 [] := by
  intro n
  induction n with
  | zero =>
    intro i hi
    obtain rfl : i = 63 := by omega
    refine j_iload_n (pc := 2) C d_Model_takesBack_2 rfl 1 rfl ?_
    refine j_bipush (pc := 3) C (v := 63) d_Model_takesBack_3 (by decide) ?_
    refine j_icmp_geT (pc := 5) C (tgt := 26) d_Model_takesBack_5 (by decide) (by decide) ?_
    exact kx
  | succ n ih =>
    intro i hi
    refine j_iload_n (pc := 2) C d_Model_takesBack_2 rfl 1 rfl ?_
    refine j_bipush (pc := 3) C (v := 63) d_Model_takesBack_3 (by decide) ?_
    refine j_icmp_geF (pc := 5) C (tgt := 26) d_Model_takesBack_5 (by decide) (show ¬ nI 63 ≤ nI i from nI_ge (by omega) (by decide)) ?_
    refine j_aload_n (pc := 8) C d_Model_takesBack_8 rfl 0 rfl ?_
    refine j_get (pc := 9) C gf_Model_158 0 rfl rfl d_Model_takesBack_9 ?_
    refine j_iload_n (pc := 12) C d_Model_takesBack_12 rfl 1 rfl ?_
    refine j_aload_n (pc := 13) C d_Model_takesBack_13 rfl 0 rfl ?_
    refine j_get (pc := 14) C gf_Model_167 0 rfl rfl d_Model_takesBack_14 ?_
    refine j_iload_n (pc := 17) C d_Model_takesBack_17 rfl 1 rfl ?_
    refine j_iald (pc := 18) C 2 rfl (v := g i) (vp_in_nI (by omega) (by decide)) (by rw [nI_clamp (by omega)]) d_Model_takesBack_18 ?_
    refine j_iast (pc := 19) C 1 rfl (ws' := [MB mo ad 0 0 0 0 0 0 0 (-1) 0 0 0 0 0 0 0 0 un ne sd 0, (ad 62, .inl (y 0, 63, .inl (mixF (i + 1) f g))), (ad 68, .inl (y 0, 63, .inl g))]) (vp_in_nI (by omega) (by decide)) (by rw [mix_up (by omega)]; rfl) d_Model_takesBack_19 ?_
    refine j_iinc (pc := 20) C (v := nI (i + 1)) (lv' := [(1, .int (nI (i + 1))), (0, .ref mo)]) d_Model_takesBack_20 1 rfl (nI_1 _) (by decide) rfl ?_
    refine j_goto (pc := 23) C (tgt := 2) d_Model_takesBack_23 (by decide) ?_
    refine j_locs (lv' := [(0, .ref mo), (1, .int (nI (i + 1)))]) [1, 0] rfl ?_
    exact ih (i + 1) (by omega)
set_option maxHeartbeats 4000000 in
set_option maxRecDepth 100000 in
theorem c_M_takesBack (l : Launch) (D : va_G) (y : Nat → ClassId) (mo : Nat) (ad : Nat → Nat) (un : Int32) (ne : Int32) (sd : Int64) (f : Nat → Int32) (g : Nat → Int32)  : CT l D y ⟨"NineBoardsModel", "takesBack", "()V"⟩ prog_13_method_71_code 2 none ({ frames := 0, cells := 0, slots := 0, locals := 0 } : Room) [.ref mo] [MB mo ad 0 0 0 0 0 0 0 (-1) 0 0 0 0 0 0 0 0 un ne sd 0, (ad 62, .inl (y 0, 63, .inl f)), (ad 68, .inl (y 0, 63, .inl g))] (QV D [MB mo ad 0 0 0 0 0 0 0 (-1) 0 0 0 0 0 0 0 0 un ne sd 0, (ad 62, .inl (y 0, 63, .inl f)), (ad 68, .inl (y 0, 63, .inl g))] (fun (_ : Unit) => True) (fun _ => [MB mo ad 0 0 0 0 0 0 0 (-1) 0 0 0 0 0 0 0 0 un ne sd 0, (ad 62, .inl (y 0, 63, .inl g)), (ad 68, .inl (y 0, 63, .inl g))])) := by
  refine CT.of (by decide) (nb rfl) ?_
  intro p e s m args below meth c C hr
  refine j_lv (lv' := [(0, .ref mo)]) rfl ?_
  refine j_iconst (pc := 0) C (v := 0) d_Model_takesBack_0 (by decide) ?_
  refine j_istore_n (pc := 1) C (lv' := [(1, .int 0), (0, .ref mo)]) d_Model_takesBack_1 rfl (by decide) rfl ?_
  refine j_row (ws' := [MB mo ad 0 0 0 0 0 0 0 (-1) 0 0 0 0 0 0 0 0 un ne sd 0, (ad 62, .inl (y 0, 63, .inl (mixF 0 f g))), (ad 68, .inl (y 0, 63, .inl g))]) 1 rfl (fun j _ => rfl) rfl ?_
  refine j_locs (lv' := [(0, .ref mo), (1, .int 0)]) [1, 0] rfl ?_
  refine lp_takesBack C mo ad un ne sd f g ?_ 63 0 (by omega)
  refine j_row (g := g) (ws' := [MB mo ad 0 0 0 0 0 0 0 (-1) 0 0 0 0 0 0 0 0 un ne sd 0, (ad 62, .inl (y 0, 63, .inl g)), (ad 68, .inl (y 0, 63, .inl g))]) 1 rfl (fun j hj => if_pos hj) rfl ?_
  exact j_vret (pc := 26) C hr () trivial [0, 1, 2] rfl (by decide) (by decide) (by decide) d_Model_takesBack_26
theorem d_Model_putsAside_2 : decode prog_13_method_70_code 2 = .ok (.iload_n 1, 1) := by decide +kernel
theorem d_Model_putsAside_3 : decode prog_13_method_70_code 3 = .ok (.bipush 63, 2) := by decide +kernel
theorem d_Model_putsAside_5 : decode prog_13_method_70_code 5 = .ok (.if_icmp .ge 21, 3) := by decide +kernel
theorem d_Model_putsAside_8 : decode prog_13_method_70_code 8 = .ok (.aload_n 0, 1) := by decide +kernel
theorem d_Model_putsAside_9 : decode prog_13_method_70_code 9 = .ok (.getfield 167, 3) := by decide +kernel
theorem d_Model_putsAside_12 : decode prog_13_method_70_code 12 = .ok (.iload_n 1, 1) := by decide +kernel
theorem d_Model_putsAside_13 : decode prog_13_method_70_code 13 = .ok (.aload_n 0, 1) := by decide +kernel
theorem d_Model_putsAside_14 : decode prog_13_method_70_code 14 = .ok (.getfield 158, 3) := by decide +kernel
theorem d_Model_putsAside_17 : decode prog_13_method_70_code 17 = .ok (.iload_n 1, 1) := by decide +kernel
theorem d_Model_putsAside_18 : decode prog_13_method_70_code 18 = .ok (.iaload, 1) := by decide +kernel
theorem d_Model_putsAside_19 : decode prog_13_method_70_code 19 = .ok (.iastore, 1) := by decide +kernel
theorem d_Model_putsAside_20 : decode prog_13_method_70_code 20 = .ok (.iinc 1 1, 3) := by decide +kernel
theorem d_Model_putsAside_23 : decode prog_13_method_70_code 23 = .ok (.goto (-21), 3) := by decide +kernel
theorem d_Model_putsAside_0 : decode prog_13_method_70_code 0 = .ok (.iconst 0, 1) := by decide +kernel
theorem d_Model_putsAside_1 : decode prog_13_method_70_code 1 = .ok (.istore_n 1, 1) := by decide +kernel
theorem d_Model_putsAside_26 : decode prog_13_method_70_code 26 = .ok (.return_, 1) := by decide +kernel
set_option maxHeartbeats 4000000 in
set_option maxRecDepth 100000 in
theorem lp_putsAside {p : Program} {l : Launch} {e : Env} {s : State} {m : MethodId} {args : Array Value} {below : List Frame} {meth : Method} {c : Code} {Q : State → Prop} {D : va_G} {y : Nat → ClassId} {A : Nat → Prop} (C : Cx p s m args meth c D y A prog_13_method_70_code 2 "NineBoardsModel" "putsAside") (mo : Nat) (ad : Nat → Nat) (un : Int32) (ne : Int32) (sd : Int64) (f : Nat → Int32) (g : Nat → Int32) (kx : J p l e ({ frames := 0, cells := 0, slots := 0, locals := 0 } : Room) s m args below meth c Q D A 2 [MB mo ad 0 0 0 0 0 0 0 (-1) 0 0 0 0 0 0 0 0 un ne sd 0, (ad 68, .inl (y 0, 63, .inl (mixF 63 f g))), (ad 62, .inl (y 0, 63, .inl g))] [(0, .ref mo), (1, .int (nI 63))] 0 0 26 []) : ∀ (n : Nat) (i : Nat), (i + n = 63) → J p l e ({ frames := 0, cells := 0, slots := 0, locals := 0 } : Room) s m args below meth c Q D A 2 [MB mo ad 0 0 0 0 0 0 0 (-1) 0 0 0 0 0 0 0 0 un ne sd 0, (ad 68, .inl (y 0, 63, .inl (mixF i f g))), (ad 62, .inl (y 0, 63, .inl g))] [(0, .ref mo), (1, .int (nI i))] 0 0 2 [] := by
  intro n
  induction n with
  | zero =>
    intro i hi
    obtain rfl : i = 63 := by omega
    refine j_iload_n (pc := 2) C d_Model_putsAside_2 rfl 1 rfl ?_
    refine j_bipush (pc := 3) C (v := 63) d_Model_putsAside_3 (by decide) ?_
    refine j_icmp_geT (pc := 5) C (tgt := 26) d_Model_putsAside_5 (by decide) (by decide) ?_
    exact kx
  | succ n ih =>
    intro i hi
    refine j_iload_n (pc := 2) C d_Model_putsAside_2 rfl 1 rfl ?_
    refine j_bipush (pc := 3) C (v := 63) d_Model_putsAside_3 (by decide) ?_
    refine j_icmp_geF (pc := 5) C (tgt := 26) d_Model_putsAside_5 (by decide) (show ¬ nI 63 ≤ nI i from nI_ge (by omega) (by decide)) ?_
    refine j_aload_n (pc := 8) C d_Model_putsAside_8 rfl 0 rfl ?_
    refine j_get (pc := 9) C gf_Model_167 0 rfl rfl d_Model_putsAside_9 ?_
    refine j_iload_n (pc := 12) C d_Model_putsAside_12 rfl 1 rfl ?_
    refine j_aload_n (pc := 13) C d_Model_putsAside_13 rfl 0 rfl ?_
    refine j_get (pc := 14) C gf_Model_158 0 rfl rfl d_Model_putsAside_14 ?_
    refine j_iload_n (pc := 17) C d_Model_putsAside_17 rfl 1 rfl ?_
    refine j_iald (pc := 18) C 2 rfl (v := g i) (vp_in_nI (by omega) (by decide)) (by rw [nI_clamp (by omega)]) d_Model_putsAside_18 ?_
    refine j_iast (pc := 19) C 1 rfl (ws' := [MB mo ad 0 0 0 0 0 0 0 (-1) 0 0 0 0 0 0 0 0 un ne sd 0, (ad 68, .inl (y 0, 63, .inl (mixF (i + 1) f g))), (ad 62, .inl (y 0, 63, .inl g))]) (vp_in_nI (by omega) (by decide)) (by rw [mix_up (by omega)]; rfl) d_Model_putsAside_19 ?_
    refine j_iinc (pc := 20) C (v := nI (i + 1)) (lv' := [(1, .int (nI (i + 1))), (0, .ref mo)]) d_Model_putsAside_20 1 rfl (nI_1 _) (by decide) rfl ?_
    refine j_goto (pc := 23) C (tgt := 2) d_Model_putsAside_23 (by decide) ?_
    refine j_locs (lv' := [(0, .ref mo), (1, .int (nI (i + 1)))]) [1, 0] rfl ?_
    exact ih (i + 1) (by omega)
set_option maxHeartbeats 4000000 in
set_option maxRecDepth 100000 in
theorem c_M_putsAside (l : Launch) (D : va_G) (y : Nat → ClassId) (mo : Nat) (ad : Nat → Nat) (un : Int32) (ne : Int32) (sd : Int64) (f : Nat → Int32) (g : Nat → Int32)  : CT l D y ⟨"NineBoardsModel", "putsAside", "()V"⟩ prog_13_method_70_code 2 none ({ frames := 0, cells := 0, slots := 0, locals := 0 } : Room) [.ref mo] [MB mo ad 0 0 0 0 0 0 0 (-1) 0 0 0 0 0 0 0 0 un ne sd 0, (ad 68, .inl (y 0, 63, .inl f)), (ad 62, .inl (y 0, 63, .inl g))] (QV D [MB mo ad 0 0 0 0 0 0 0 (-1) 0 0 0 0 0 0 0 0 un ne sd 0, (ad 68, .inl (y 0, 63, .inl f)), (ad 62, .inl (y 0, 63, .inl g))] (fun (_ : Unit) => True) (fun _ => [MB mo ad 0 0 0 0 0 0 0 (-1) 0 0 0 0 0 0 0 0 un ne sd 0, (ad 68, .inl (y 0, 63, .inl g)), (ad 62, .inl (y 0, 63, .inl g))])) := by
  refine CT.of (by decide) (nb rfl) ?_
  intro p e s m args below meth c C hr
  refine j_lv (lv' := [(0, .ref mo)]) rfl ?_
  refine j_iconst (pc := 0) C (v := 0) d_Model_putsAside_0 (by decide) ?_
  refine j_istore_n (pc := 1) C (lv' := [(1, .int 0), (0, .ref mo)]) d_Model_putsAside_1 rfl (by decide) rfl ?_
  refine j_row (ws' := [MB mo ad 0 0 0 0 0 0 0 (-1) 0 0 0 0 0 0 0 0 un ne sd 0, (ad 68, .inl (y 0, 63, .inl (mixF 0 f g))), (ad 62, .inl (y 0, 63, .inl g))]) 1 rfl (fun j _ => rfl) rfl ?_
  refine j_locs (lv' := [(0, .ref mo), (1, .int 0)]) [1, 0] rfl ?_
  refine lp_putsAside C mo ad un ne sd f g ?_ 63 0 (by omega)
  refine j_row (g := g) (ws' := [MB mo ad 0 0 0 0 0 0 0 (-1) 0 0 0 0 0 0 0 0 un ne sd 0, (ad 68, .inl (y 0, 63, .inl g)), (ad 62, .inl (y 0, 63, .inl g))]) 1 rfl (fun j hj => if_pos hj) rfl ?_
  exact j_vret (pc := 26) C hr () trivial [0, 1, 2] rfl (by decide) (by decide) (by decide) d_Model_putsAside_26
theorem d_Model_keepsDay_15 : decode prog_13_method_69_code 15 = .ok (.iload_n 1, 1) := by decide +kernel
theorem d_Model_keepsDay_16 : decode prog_13_method_69_code 16 = .ok (.bipush 63, 2) := by decide +kernel
theorem d_Model_keepsDay_18 : decode prog_13_method_69_code 18 = .ok (.if_icmp .ge 29, 3) := by decide +kernel
theorem d_Model_keepsDay_21 : decode prog_13_method_69_code 21 = .ok (.aload_n 0, 1) := by decide +kernel
theorem d_Model_keepsDay_22 : decode prog_13_method_69_code 22 = .ok (.getfield 164, 3) := by decide +kernel
theorem gf_Model_164 : GF "NineBoardsModel" 164 10 65 := ⟨_, _, _, rfl, ci_Model, by decide, (mt_5 (List.mem_of_getElem? (i := 153) rfl) rfl)⟩
theorem d_Model_keepsDay_25 : decode prog_13_method_69_code 25 = .ok (.bipush 63, 2) := by decide +kernel
theorem d_Model_keepsDay_27 : decode prog_13_method_69_code 27 = .ok (.aload_n 0, 1) := by decide +kernel
theorem d_Model_keepsDay_28 : decode prog_13_method_69_code 28 = .ok (.getfield 460, 3) := by decide +kernel
theorem gf_Model_460 : GF "NineBoardsModel" 460 10 67 := ⟨_, _, _, rfl, ci_Model, by decide, (mt_5 (List.mem_of_getElem? (i := 155) rfl) rfl)⟩
theorem d_Model_keepsDay_31 : decode prog_13_method_69_code 31 = .ok (.imul, 1) := by decide +kernel
theorem d_Model_keepsDay_32 : decode prog_13_method_69_code 32 = .ok (.iload_n 1, 1) := by decide +kernel
theorem d_Model_keepsDay_33 : decode prog_13_method_69_code 33 = .ok (.iadd, 1) := by decide +kernel
theorem d_Model_keepsDay_34 : decode prog_13_method_69_code 34 = .ok (.aload_n 0, 1) := by decide +kernel
theorem d_Model_keepsDay_35 : decode prog_13_method_69_code 35 = .ok (.getfield 158, 3) := by decide +kernel
theorem d_Model_keepsDay_38 : decode prog_13_method_69_code 38 = .ok (.iload_n 1, 1) := by decide +kernel
theorem d_Model_keepsDay_39 : decode prog_13_method_69_code 39 = .ok (.iaload, 1) := by decide +kernel
theorem d_Model_keepsDay_40 : decode prog_13_method_69_code 40 = .ok (.iastore, 1) := by decide +kernel
theorem d_Model_keepsDay_41 : decode prog_13_method_69_code 41 = .ok (.iinc 1 1, 3) := by decide +kernel
theorem d_Model_keepsDay_44 : decode prog_13_method_69_code 44 = .ok (.goto (-29), 3) := by decide +kernel
theorem d_Model_keepsDay_0 : decode prog_13_method_69_code 0 = .ok (.aload_n 0, 1) := by decide +kernel
theorem d_Model_keepsDay_1 : decode prog_13_method_69_code 1 = .ok (.aload_n 0, 1) := by decide +kernel
theorem d_Model_keepsDay_2 : decode prog_13_method_69_code 2 = .ok (.getfield 460, 3) := by decide +kernel
theorem d_Model_keepsDay_5 : decode prog_13_method_69_code 5 = .ok (.iconst 1, 1) := by decide +kernel
theorem d_Model_keepsDay_6 : decode prog_13_method_69_code 6 = .ok (.iadd, 1) := by decide +kernel
theorem d_Model_keepsDay_7 : decode prog_13_method_69_code 7 = .ok (.bipush 30, 2) := by decide +kernel
theorem d_Model_keepsDay_9 : decode prog_13_method_69_code 9 = .ok (.irem, 1) := by decide +kernel
theorem d_Model_keepsDay_10 : decode prog_13_method_69_code 10 = .ok (.putfield 460, 3) := by decide +kernel
theorem pf_Model_460 : PF "NineBoardsModel" 460 10 67 (.int) false := ⟨_, _, _, ct_Model, rfl, ci_Model, by decide, (mt_5 (List.mem_of_getElem? (i := 155) rfl) rfl), cp_Model, cn_Model, rfl, by decide +kernel, (fun h => by cases h)⟩
theorem d_Model_keepsDay_13 : decode prog_13_method_69_code 13 = .ok (.iconst 0, 1) := by decide +kernel
theorem d_Model_keepsDay_14 : decode prog_13_method_69_code 14 = .ok (.istore_n 1, 1) := by decide +kernel
theorem d_Model_keepsDay_47 : decode prog_13_method_69_code 47 = .ok (.aload_n 0, 1) := by decide +kernel
theorem d_Model_keepsDay_48 : decode prog_13_method_69_code 48 = .ok (.getfield 415, 3) := by decide +kernel
theorem gf_Model_415 : GF "NineBoardsModel" 415 10 66 := ⟨_, _, _, rfl, ci_Model, by decide, (mt_5 (List.mem_of_getElem? (i := 154) rfl) rfl)⟩
theorem d_Model_keepsDay_51 : decode prog_13_method_69_code 51 = .ok (.bipush 30, 2) := by decide +kernel
theorem d_Model_keepsDay_53 : decode prog_13_method_69_code 53 = .ok (.if_icmp .ge 13, 3) := by decide +kernel
theorem d_Model_keepsDay_66 : decode prog_13_method_69_code 66 = .ok (.return_, 1) := by decide +kernel
theorem d_Model_keepsDay_56 : decode prog_13_method_69_code 56 = .ok (.aload_n 0, 1) := by decide +kernel
theorem d_Model_keepsDay_57 : decode prog_13_method_69_code 57 = .ok (.dup, 1) := by decide +kernel
theorem d_Model_keepsDay_58 : decode prog_13_method_69_code 58 = .ok (.getfield 415, 3) := by decide +kernel
theorem d_Model_keepsDay_61 : decode prog_13_method_69_code 61 = .ok (.iconst 1, 1) := by decide +kernel
theorem d_Model_keepsDay_62 : decode prog_13_method_69_code 62 = .ok (.iadd, 1) := by decide +kernel
theorem d_Model_keepsDay_63 : decode prog_13_method_69_code 63 = .ok (.putfield 415, 3) := by decide +kernel
theorem pf_Model_415 : PF "NineBoardsModel" 415 10 66 (.int) false := ⟨_, _, _, ct_Model, rfl, ci_Model, by decide, (mt_5 (List.mem_of_getElem? (i := 154) rfl) rfl), cp_Model, cn_Model, rfl, by decide +kernel, (fun h => by cases h)⟩
set_option maxHeartbeats 4000000 in
set_option maxRecDepth 100000 in
theorem lp_keepsDay {p : Program} {l : Launch} {e : Env} {s : State} {m : MethodId} {args : Array Value} {below : List Frame} {meth : Method} {c : Code} {Q : State → Prop} {D : va_G} {y : Nat → ClassId} {A : Nat → Prop} (C : Cx p s m args meth c D y A prog_13_method_69_code 2 "NineBoardsModel" "keepsDay") (mo : Nat) (ad : Nat → Nat) (un : Int32) (sd : Int64) (g : Nat → Int32) (x : Nat) (hx : x < 30) (kx : ∀ f : Nat → Int32, J p l e ({ frames := 0, cells := 0, slots := 0, locals := 0 } : Room) s m args below meth c Q D A 2 [MB mo ad 0 0 0 0 0 0 0 (-1) 0 0 0 0 0 0 0 0 un (nI x) sd 0, (ad 62, .inl (y 0, 63, .inl g)), (ad 65, .inl (y 0, 1890, .inl f))] [(0, .ref mo), (1, .int (nI 63))] 0 0 47 []) : ∀ (n : Nat) (i : Nat) (f : Nat → Int32), (i + n = 63) → J p l e ({ frames := 0, cells := 0, slots := 0, locals := 0 } : Room) s m args below meth c Q D A 2 [MB mo ad 0 0 0 0 0 0 0 (-1) 0 0 0 0 0 0 0 0 un (nI x) sd 0, (ad 62, .inl (y 0, 63, .inl g)), (ad 65, .inl (y 0, 1890, .inl f))] [(0, .ref mo), (1, .int (nI i))] 0 0 15 [] := by
  intro n
  induction n with
  | zero =>
    intro i f hi
    obtain rfl : i = 63 := by omega
    refine j_iload_n (pc := 15) C d_Model_keepsDay_15 rfl 1 rfl ?_
    refine j_bipush (pc := 16) C (v := 63) d_Model_keepsDay_16 (by decide) ?_
    refine j_icmp_geT (pc := 18) C (tgt := 47) d_Model_keepsDay_18 (by decide) (by decide) ?_
    exact kx f
  | succ n ih =>
    intro i f hi
    refine j_iload_n (pc := 15) C d_Model_keepsDay_15 rfl 1 rfl ?_
    refine j_bipush (pc := 16) C (v := 63) d_Model_keepsDay_16 (by decide) ?_
    refine j_icmp_geF (pc := 18) C (tgt := 47) d_Model_keepsDay_18 (by decide) (show ¬ nI 63 ≤ nI i from nI_ge (by omega) (by decide)) ?_
    refine j_aload_n (pc := 21) C d_Model_keepsDay_21 rfl 0 rfl ?_
    refine j_get (pc := 22) C gf_Model_164 0 rfl rfl d_Model_keepsDay_22 ?_
    refine j_bipush (pc := 25) C (v := 63) d_Model_keepsDay_25 (by decide) ?_
    refine j_aload_n (pc := 27) C d_Model_keepsDay_27 rfl 0 rfl ?_
    refine j_get (pc := 28) C gf_Model_460 0 rfl rfl d_Model_keepsDay_28 ?_
    refine j_imul (pc := 31) C (v := nI (63 * x)) d_Model_keepsDay_31 (pk_mul 63 x) ?_
    refine j_iload_n (pc := 32) C d_Model_keepsDay_32 rfl 1 rfl ?_
    refine j_iadd (pc := 33) C (v := nI (63 * x + i)) d_Model_keepsDay_33 (nI_add _ _) ?_
    refine j_aload_n (pc := 34) C d_Model_keepsDay_34 rfl 0 rfl ?_
    refine j_get (pc := 35) C gf_Model_158 0 rfl rfl d_Model_keepsDay_35 ?_
    refine j_iload_n (pc := 38) C d_Model_keepsDay_38 rfl 1 rfl ?_
    refine j_iald (pc := 39) C 1 rfl (v := g i) (vp_in_nI (by omega) (by decide)) (by rw [nI_clamp (by omega)]) d_Model_keepsDay_39 ?_
    refine j_iast (pc := 40) C 2 rfl (ws' := [MB mo ad 0 0 0 0 0 0 0 (-1) 0 0 0 0 0 0 0 0 un (nI x) sd 0, (ad 62, .inl (y 0, 63, .inl g)), (ad 65, .inl (y 0, 1890, .inl (upd f (nI (63 * x + i)).toNatClampNeg (g i))))]) (vp_in_nI (by omega) (by decide)) rfl d_Model_keepsDay_40 ?_
    refine j_iinc (pc := 41) C (v := nI (i + 1)) (lv' := [(1, .int (nI (i + 1))), (0, .ref mo)]) d_Model_keepsDay_41 1 rfl (nI_1 _) (by decide) rfl ?_
    refine j_goto (pc := 44) C (tgt := 15) d_Model_keepsDay_44 (by decide) ?_
    refine j_locs (lv' := [(0, .ref mo), (1, .int (nI (i + 1)))]) [1, 0] rfl ?_
    exact ih (i + 1) _ (by omega)
set_option maxHeartbeats 4000000 in
set_option maxRecDepth 100000 in
theorem c_M_keepsDay (l : Launch) (D : va_G) (y : Nat → ClassId) (mo : Nat) (ad : Nat → Nat) (un : Int32) (sd : Int64) (g : Nat → Int32) (j : Nat) (f : Nat → Int32) (hj : j < 30) : CT l D y ⟨"NineBoardsModel", "keepsDay", "()V"⟩ prog_13_method_69_code 2 none ({ frames := 0, cells := 0, slots := 0, locals := 0 } : Room) [.ref mo] [MB mo ad 0 0 0 0 0 0 0 (-1) 0 0 0 0 0 0 0 0 un (nI j) sd 0, (ad 62, .inl (y 0, 63, .inl g)), (ad 65, .inl (y 0, 1890, .inl f))] (QV D [MB mo ad 0 0 0 0 0 0 0 (-1) 0 0 0 0 0 0 0 0 un (nI j) sd 0, (ad 62, .inl (y 0, 63, .inl g)), (ad 65, .inl (y 0, 1890, .inl f))] (fun (_ : Int32 × (Nat → Int32)) => True) (fun u => [MB mo ad 0 0 0 0 0 0 0 (-1) 0 0 0 0 0 0 0 0 u.1 (nI ((j + 1) % 30)) sd 0, (ad 62, .inl (y 0, 63, .inl g)), (ad 65, .inl (y 0, 1890, .inl u.2))])) := by
  refine CT.of (by decide) (nb rfl) ?_
  intro p e s m args below meth c C hr
  refine j_lv (lv' := [(0, .ref mo)]) rfl ?_
  refine j_aload_n (pc := 0) C d_Model_keepsDay_0 rfl 0 rfl ?_
  refine j_aload_n (pc := 1) C d_Model_keepsDay_1 rfl 0 rfl ?_
  refine j_get (pc := 2) C gf_Model_460 0 rfl rfl d_Model_keepsDay_2 ?_
  refine j_iconst (pc := 5) C (v := 1) d_Model_keepsDay_5 (by decide) ?_
  refine j_iadd (pc := 6) C (v := (nI j) + 1) d_Model_keepsDay_6 rfl ?_
  refine j_bipush (pc := 7) C (v := 30) d_Model_keepsDay_7 (by decide) ?_
  refine j_irem (pc := 9) C (v := nI ((j + 1) % 30)) d_Model_keepsDay_9 (by decide) (i_30 hj) ?_
  refine j_put (pc := 10) C pf_Model_460 0 (ws' := [MB mo ad 0 0 0 0 0 0 0 (-1) 0 0 0 0 0 0 0 0 un (nI ((j + 1) % 30)) sd 0, (ad 62, .inl (y 0, 63, .inl g)), (ad 65, .inl (y 0, 1890, .inl f))]) rfl rfl rfl (nl rfl) rfl d_Model_keepsDay_10 ?_
  refine j_iconst (pc := 13) C (v := 0) d_Model_keepsDay_13 (by decide) ?_
  refine j_istore_n (pc := 14) C (lv' := [(1, .int 0), (0, .ref mo)]) d_Model_keepsDay_14 rfl (by decide) rfl ?_
  refine j_locs (lv' := [(0, .ref mo), (1, .int 0)]) [1, 0] rfl ?_
  refine lp_keepsDay C mo ad un sd g ((j + 1) % 30) (Nat.mod_lt _ (by decide)) (fun f => ?_) 63 0 f (by omega)
  refine j_aload_n (pc := 47) C d_Model_keepsDay_47 rfl 0 rfl ?_
  refine j_get (pc := 48) C gf_Model_415 0 rfl rfl d_Model_keepsDay_48 ?_
  refine j_bipush (pc := 51) C (v := 30) d_Model_keepsDay_51 (by decide) ?_
  refine j_icmp_ge (pc := 53) C (tgt := 66) d_Model_keepsDay_53 (by decide) (fun c1 => ?_) (fun c1 => ?_)
  · exact j_vret (pc := 66) C hr (un, f) trivial [0, 1, 2] rfl (by decide) (by decide) (by decide) d_Model_keepsDay_66
  · refine j_aload_n (pc := 56) C d_Model_keepsDay_56 rfl 0 rfl ?_
    refine j_dup (pc := 57) C d_Model_keepsDay_57 rfl ?_
    refine j_get (pc := 58) C gf_Model_415 0 rfl rfl d_Model_keepsDay_58 ?_
    refine j_iconst (pc := 61) C (v := 1) d_Model_keepsDay_61 (by decide) ?_
    refine j_iadd (pc := 62) C (v := un + 1) d_Model_keepsDay_62 rfl ?_
    refine j_put (pc := 63) C pf_Model_415 0 (ws' := [MB mo ad 0 0 0 0 0 0 0 (-1) 0 0 0 0 0 0 0 0 (un + 1) (nI ((j + 1) % 30)) sd 0, (ad 62, .inl (y 0, 63, .inl g)), (ad 65, .inl (y 0, 1890, .inl f))]) rfl rfl rfl (nl rfl) rfl d_Model_keepsDay_63 ?_
    exact j_vret (pc := 66) C hr (un + 1, f) trivial [0, 1, 2] rfl (by decide) (by decide) (by decide) d_Model_keepsDay_66
