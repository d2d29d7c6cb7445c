theorem nar_b {x : Nat} (h : x ≤ 1) : vp_nar .boolean (nI x) = nI x := by
  have : x = 0 ∨ x = 1 := by omega
  rcases this with rfl | rfl <;> rfl
theorem sl_k {t : LA_} {A SF SE TE : Nat → Int32} (h : SLR t A SF SE TE) {i : Nat} (h8 : 8 ≤ i) (hi : i < 8 + t.s 11) (hk : t.r 16 (i - 8) ≤ 1) : A i = nI (t.r 16 (i - 8)) ∧ SF i = nI (t.r 17 (i - 8)) ∧ SE i = nI (t.r 18 (i - 8)) ∧ TE i = nI (t.r 19 (i - 8)) := by
  obtain ⟨a, b, c, d⟩ := h (i - 8) (by omega)
  rw [show 8 + (i - 8) = i by omega] at a b c d
  exact ⟨a.trans (nar_b hk), b, c, d⟩
theorem cl_0 {v : Int} (h : v < 0) : cl9 v = 0 := if_pos h
theorem cl_9 {v : Int} (h : 9999 < v) : cl9 v = 9999 := (if_neg (by omega)).trans (if_pos h)
theorem cl_i {v : Int} (h : 0 ≤ v) (h2 : v ≤ 9999) : (zL v).toInt32 = nI (cl9 v) := by
  rw [zL_I (by omega) (by omega)]
  unfold cl9
  rw [if_neg (by omega), if_neg (by omega), ← zI_nat, show ((v.toNat : Nat) : Int) = v by omega]
theorem am_g8 {d l w : Nat} {t : LA_} {kd n i A : Nat} (h : amN d l w t kd (n - (i - 8)) (i - 8) = A) (h8 : 8 ≤ i) (hi : i < 8 + n) (c : ¬ (t.r 16 (i - 8) = kd ∧ ¬ vlE d l w t.cs (t.r 18 (i - 8)) (t.r 19 (i - 8)) = 0)) : amN d l w t kd (n - (i + 1 - 8)) (i + 1 - 8) = A := by
  have e := am_go h (by omega) c
  rw [show i - 8 + 1 = i + 1 - 8 by omega] at e
  exact e
set_option maxHeartbeats 4000000 in
set_option maxRecDepth 100000 in
theorem c_misIn79_7 (l : Launch) (D : va_G) (y : Nat → ClassId)   : CT l D y ⟨"NineBoardsModel", "isIn", "(JJJ)Z"⟩ prog_13_method_2_code 6 (some .boolean) ({ frames := 0, cells := 0, slots := 0, locals := 0 } : Room) [.long 7, .long 7, .long 9] [] (QI D [] (fun (r : Int32) (u : Unit) => r = 1) (fun _ => [])) := by
  refine CT.of (by decide) (nb rfl) ?_
  intro p e s m args below meth c C hr
  refine j_lv (lv' := [(0, .long 7), (2, .long 7), (4, .long 9)]) rfl ?_
  refine j_lload_n (pc := 0) C d_Model_isIn_0 rfl 0 rfl ?_
  refine j_lload_n (pc := 1) C d_Model_isIn_1 rfl 1 rfl ?_
  refine j_lcmp (pc := 2) C (v := 0) d_Model_isIn_2 (by decide) ?_
  refine j_if_ltF (pc := 3) C (tgt := 17) d_Model_isIn_3 (by decide) (by decide) ?_
  refine j_lload_n (pc := 6) C d_Model_isIn_6 rfl 0 rfl ?_
  refine j_lload (pc := 7) C d_Model_isIn_7 2 rfl ?_
  refine j_lcmp (pc := 9) C (v := (-1)) d_Model_isIn_9 (by decide) ?_
  refine j_if_gtF (pc := 10) C (tgt := 17) d_Model_isIn_10 (by decide) (by decide) ?_
  refine j_iconst (pc := 13) C (v := 1) d_Model_isIn_13 (by decide) ?_
  refine j_goto (pc := 14) C (tgt := 18) d_Model_isIn_14 (by decide) ?_
  exact j_iret (pc := 18) C hr (by decide) () rfl [] rfl (by decide) (by decide) (by decide) d_Model_isIn_18
set_option maxHeartbeats 4000000 in
set_option maxRecDepth 100000 in
theorem c_misIn79_8 (l : Launch) (D : va_G) (y : Nat → ClassId)   : CT l D y ⟨"NineBoardsModel", "isIn", "(JJJ)Z"⟩ prog_13_method_2_code 6 (some .boolean) ({ frames := 0, cells := 0, slots := 0, locals := 0 } : Room) [.long 8, .long 7, .long 9] [] (QI D [] (fun (r : Int32) (u : Unit) => r = 1) (fun _ => [])) := by
  refine CT.of (by decide) (nb rfl) ?_
  intro p e s m args below meth c C hr
  refine j_lv (lv' := [(0, .long 8), (2, .long 7), (4, .long 9)]) rfl ?_
  refine j_lload_n (pc := 0) C d_Model_isIn_0 rfl 0 rfl ?_
  refine j_lload_n (pc := 1) C d_Model_isIn_1 rfl 1 rfl ?_
  refine j_lcmp (pc := 2) C (v := 1) d_Model_isIn_2 (by decide) ?_
  refine j_if_ltF (pc := 3) C (tgt := 17) d_Model_isIn_3 (by decide) (by decide) ?_
  refine j_lload_n (pc := 6) C d_Model_isIn_6 rfl 0 rfl ?_
  refine j_lload (pc := 7) C d_Model_isIn_7 2 rfl ?_
  refine j_lcmp (pc := 9) C (v := (-1)) d_Model_isIn_9 (by decide) ?_
  refine j_if_gtF (pc := 10) C (tgt := 17) d_Model_isIn_10 (by decide) (by decide) ?_
  refine j_iconst (pc := 13) C (v := 1) d_Model_isIn_13 (by decide) ?_
  refine j_goto (pc := 14) C (tgt := 18) d_Model_isIn_14 (by decide) ?_
  exact j_iret (pc := 18) C hr (by decide) () rfl [] rfl (by decide) (by decide) (by decide) d_Model_isIn_18
set_option maxHeartbeats 4000000 in
set_option maxRecDepth 100000 in
theorem c_misIn79_9 (l : Launch) (D : va_G) (y : Nat → ClassId)   : CT l D y ⟨"NineBoardsModel", "isIn", "(JJJ)Z"⟩ prog_13_method_2_code 6 (some .boolean) ({ frames := 0, cells := 0, slots := 0, locals := 0 } : Room) [.long 9, .long 7, .long 9] [] (QI D [] (fun (r : Int32) (u : Unit) => r = 1) (fun _ => [])) := by
  refine CT.of (by decide) (nb rfl) ?_
  intro p e s m args below meth c C hr
  refine j_lv (lv' := [(0, .long 9), (2, .long 7), (4, .long 9)]) rfl ?_
  refine j_lload_n (pc := 0) C d_Model_isIn_0 rfl 0 rfl ?_
  refine j_lload_n (pc := 1) C d_Model_isIn_1 rfl 1 rfl ?_
  refine j_lcmp (pc := 2) C (v := 1) d_Model_isIn_2 (by decide) ?_
  refine j_if_ltF (pc := 3) C (tgt := 17) d_Model_isIn_3 (by decide) (by decide) ?_
  refine j_lload_n (pc := 6) C d_Model_isIn_6 rfl 0 rfl ?_
  refine j_lload (pc := 7) C d_Model_isIn_7 2 rfl ?_
  refine j_lcmp (pc := 9) C (v := 0) d_Model_isIn_9 (by decide) ?_
  refine j_if_gtF (pc := 10) C (tgt := 17) d_Model_isIn_10 (by decide) (by decide) ?_
  refine j_iconst (pc := 13) C (v := 1) d_Model_isIn_13 (by decide) ?_
  refine j_goto (pc := 14) C (tgt := 18) d_Model_isIn_14 (by decide) ?_
  exact j_iret (pc := 18) C hr (by decide) () rfl [] rfl (by decide) (by decide) (by decide) d_Model_isIn_18
set_option maxHeartbeats 4000000 in
set_option maxRecDepth 100000 in
theorem c_misIn79_1 (l : Launch) (D : va_G) (y : Nat → ClassId)   : CT l D y ⟨"NineBoardsModel", "isIn", "(JJJ)Z"⟩ prog_13_method_2_code 6 (some .boolean) ({ frames := 0, cells := 0, slots := 0, locals := 0 } : Room) [.long 1, .long 7, .long 9] [] (QI D [] (fun (r : Int32) (u : Unit) => r = 0) (fun _ => [])) := by
  refine CT.of (by decide) (nb rfl) ?_
  intro p e s m args below meth c C hr
  refine j_lv (lv' := [(0, .long 1), (2, .long 7), (4, .long 9)]) rfl ?_
  refine j_lload_n (pc := 0) C d_Model_isIn_0 rfl 0 rfl ?_
  refine j_lload_n (pc := 1) C d_Model_isIn_1 rfl 1 rfl ?_
  refine j_lcmp (pc := 2) C (v := (-1)) d_Model_isIn_2 (by decide) ?_
  refine j_if_ltT (pc := 3) C (tgt := 17) d_Model_isIn_3 (by decide) (by decide) ?_
  refine j_iconst (pc := 17) C (v := 0) d_Model_isIn_17 (by decide) ?_
  exact j_iret (pc := 18) C hr (by decide) () rfl [] rfl (by decide) (by decide) (by decide) d_Model_isIn_18
set_option maxHeartbeats 4000000 in
set_option maxRecDepth 100000 in
theorem c_misIn79_2 (l : Launch) (D : va_G) (y : Nat → ClassId)   : CT l D y ⟨"NineBoardsModel", "isIn", "(JJJ)Z"⟩ prog_13_method_2_code 6 (some .boolean) ({ frames := 0, cells := 0, slots := 0, locals := 0 } : Room) [.long 2, .long 7, .long 9] [] (QI D [] (fun (r : Int32) (u : Unit) => r = 0) (fun _ => [])) := by
  refine CT.of (by decide) (nb rfl) ?_
  intro p e s m args below meth c C hr
  refine j_lv (lv' := [(0, .long 2), (2, .long 7), (4, .long 9)]) rfl ?_
  refine j_lload_n (pc := 0) C d_Model_isIn_0 rfl 0 rfl ?_
  refine j_lload_n (pc := 1) C d_Model_isIn_1 rfl 1 rfl ?_
  refine j_lcmp (pc := 2) C (v := (-1)) d_Model_isIn_2 (by decide) ?_
  refine j_if_ltT (pc := 3) C (tgt := 17) d_Model_isIn_3 (by decide) (by decide) ?_
  refine j_iconst (pc := 17) C (v := 0) d_Model_isIn_17 (by decide) ?_
  exact j_iret (pc := 18) C hr (by decide) () rfl [] rfl (by decide) (by decide) (by decide) d_Model_isIn_18
set_option maxHeartbeats 4000000 in
set_option maxRecDepth 100000 in
theorem c_misIn79_3 (l : Launch) (D : va_G) (y : Nat → ClassId)   : CT l D y ⟨"NineBoardsModel", "isIn", "(JJJ)Z"⟩ prog_13_method_2_code 6 (some .boolean) ({ frames := 0, cells := 0, slots := 0, locals := 0 } : Room) [.long 3, .long 7, .long 9] [] (QI D [] (fun (r : Int32) (u : Unit) => r = 0) (fun _ => [])) := by
  refine CT.of (by decide) (nb rfl) ?_
  intro p e s m args below meth c C hr
  refine j_lv (lv' := [(0, .long 3), (2, .long 7), (4, .long 9)]) rfl ?_
  refine j_lload_n (pc := 0) C d_Model_isIn_0 rfl 0 rfl ?_
  refine j_lload_n (pc := 1) C d_Model_isIn_1 rfl 1 rfl ?_
  refine j_lcmp (pc := 2) C (v := (-1)) d_Model_isIn_2 (by decide) ?_
  refine j_if_ltT (pc := 3) C (tgt := 17) d_Model_isIn_3 (by decide) (by decide) ?_
  refine j_iconst (pc := 17) C (v := 0) d_Model_isIn_17 (by decide) ?_
  exact j_iret (pc := 18) C hr (by decide) () rfl [] rfl (by decide) (by decide) (by decide) d_Model_isIn_18
set_option maxHeartbeats 4000000 in
set_option maxRecDepth 100000 in
theorem c_misIn79_4 (l : Launch) (D : va_G) (y : Nat → ClassId)   : CT l D y ⟨"NineBoardsModel", "isIn", "(JJJ)Z"⟩ prog_13_method_2_code 6 (some .boolean) ({ frames := 0, cells := 0, slots := 0, locals := 0 } : Room) [.long 4, .long 7, .long 9] [] (QI D [] (fun (r : Int32) (u : Unit) => r = 0) (fun _ => [])) := by
  refine CT.of (by decide) (nb rfl) ?_
  intro p e s m args below meth c C hr
  refine j_lv (lv' := [(0, .long 4), (2, .long 7), (4, .long 9)]) rfl ?_
  refine j_lload_n (pc := 0) C d_Model_isIn_0 rfl 0 rfl ?_
  refine j_lload_n (pc := 1) C d_Model_isIn_1 rfl 1 rfl ?_
  refine j_lcmp (pc := 2) C (v := (-1)) d_Model_isIn_2 (by decide) ?_
  refine j_if_ltT (pc := 3) C (tgt := 17) d_Model_isIn_3 (by decide) (by decide) ?_
  refine j_iconst (pc := 17) C (v := 0) d_Model_isIn_17 (by decide) ?_
  exact j_iret (pc := 18) C hr (by decide) () rfl [] rfl (by decide) (by decide) (by decide) d_Model_isIn_18
set_option maxHeartbeats 4000000 in
set_option maxRecDepth 100000 in
theorem c_misIn79_5 (l : Launch) (D : va_G) (y : Nat → ClassId)   : CT l D y ⟨"NineBoardsModel", "isIn", "(JJJ)Z"⟩ prog_13_method_2_code 6 (some .boolean) ({ frames := 0, cells := 0, slots := 0, locals := 0 } : Room) [.long 5, .long 7, .long 9] [] (QI D [] (fun (r : Int32) (u : Unit) => r = 0) (fun _ => [])) := by
  refine CT.of (by decide) (nb rfl) ?_
  intro p e s m args below meth c C hr
  refine j_lv (lv' := [(0, .long 5), (2, .long 7), (4, .long 9)]) rfl ?_
  refine j_lload_n (pc := 0) C d_Model_isIn_0 rfl 0 rfl ?_
  refine j_lload_n (pc := 1) C d_Model_isIn_1 rfl 1 rfl ?_
  refine j_lcmp (pc := 2) C (v := (-1)) d_Model_isIn_2 (by decide) ?_
  refine j_if_ltT (pc := 3) C (tgt := 17) d_Model_isIn_3 (by decide) (by decide) ?_
  refine j_iconst (pc := 17) C (v := 0) d_Model_isIn_17 (by decide) ?_
  exact j_iret (pc := 18) C hr (by decide) () rfl [] rfl (by decide) (by decide) (by decide) d_Model_isIn_18
set_option maxHeartbeats 4000000 in
set_option maxRecDepth 100000 in
theorem c_misIn79_6 (l : Launch) (D : va_G) (y : Nat → ClassId)   : CT l D y ⟨"NineBoardsModel", "isIn", "(JJJ)Z"⟩ prog_13_method_2_code 6 (some .boolean) ({ frames := 0, cells := 0, slots := 0, locals := 0 } : Room) [.long 6, .long 7, .long 9] [] (QI D [] (fun (r : Int32) (u : Unit) => r = 0) (fun _ => [])) := by
  refine CT.of (by decide) (nb rfl) ?_
  intro p e s m args below meth c C hr
  refine j_lv (lv' := [(0, .long 6), (2, .long 7), (4, .long 9)]) rfl ?_
  refine j_lload_n (pc := 0) C d_Model_isIn_0 rfl 0 rfl ?_
  refine j_lload_n (pc := 1) C d_Model_isIn_1 rfl 1 rfl ?_
  refine j_lcmp (pc := 2) C (v := (-1)) d_Model_isIn_2 (by decide) ?_
  refine j_if_ltT (pc := 3) C (tgt := 17) d_Model_isIn_3 (by decide) (by decide) ?_
  refine j_iconst (pc := 17) C (v := 0) d_Model_isIn_17 (by decide) ?_
  exact j_iret (pc := 18) C hr (by decide) () rfl [] rfl (by decide) (by decide) (by decide) d_Model_isIn_18
set_option maxHeartbeats 4000000 in
set_option maxRecDepth 100000 in
theorem c_misIn79_11 (l : Launch) (D : va_G) (y : Nat → ClassId)   : CT l D y ⟨"NineBoardsModel", "isIn", "(JJJ)Z"⟩ prog_13_method_2_code 6 (some .boolean) ({ frames := 0, cells := 0, slots := 0, locals := 0 } : Room) [.long 11, .long 7, .long 9] [] (QI D [] (fun (r : Int32) (u : Unit) => r = 0) (fun _ => [])) := by
  refine CT.of (by decide) (nb rfl) ?_
  intro p e s m args below meth c C hr
  refine j_lv (lv' := [(0, .long 11), (2, .long 7), (4, .long 9)]) rfl ?_
  refine j_lload_n (pc := 0) C d_Model_isIn_0 rfl 0 rfl ?_
  refine j_lload_n (pc := 1) C d_Model_isIn_1 rfl 1 rfl ?_
  refine j_lcmp (pc := 2) C (v := 1) d_Model_isIn_2 (by decide) ?_
  refine j_if_ltF (pc := 3) C (tgt := 17) d_Model_isIn_3 (by decide) (by decide) ?_
  refine j_lload_n (pc := 6) C d_Model_isIn_6 rfl 0 rfl ?_
  refine j_lload (pc := 7) C d_Model_isIn_7 2 rfl ?_
  refine j_lcmp (pc := 9) C (v := 1) d_Model_isIn_9 (by decide) ?_
  refine j_if_gtT (pc := 10) C (tgt := 17) d_Model_isIn_10 (by decide) (by decide) ?_
  refine j_iconst (pc := 17) C (v := 0) d_Model_isIn_17 (by decide) ?_
  exact j_iret (pc := 18) C hr (by decide) () rfl [] rfl (by decide) (by decide) (by decide) d_Model_isIn_18
set_option maxHeartbeats 4000000 in
set_option maxRecDepth 100000 in
theorem c_misIn79_12 (l : Launch) (D : va_G) (y : Nat → ClassId)   : CT l D y ⟨"NineBoardsModel", "isIn", "(JJJ)Z"⟩ prog_13_method_2_code 6 (some .boolean) ({ frames := 0, cells := 0, slots := 0, locals := 0 } : Room) [.long 12, .long 7, .long 9] [] (QI D [] (fun (r : Int32) (u : Unit) => r = 0) (fun _ => [])) := by
  refine CT.of (by decide) (nb rfl) ?_
  intro p e s m args below meth c C hr
  refine j_lv (lv' := [(0, .long 12), (2, .long 7), (4, .long 9)]) rfl ?_
  refine j_lload_n (pc := 0) C d_Model_isIn_0 rfl 0 rfl ?_
  refine j_lload_n (pc := 1) C d_Model_isIn_1 rfl 1 rfl ?_
  refine j_lcmp (pc := 2) C (v := 1) d_Model_isIn_2 (by decide) ?_
  refine j_if_ltF (pc := 3) C (tgt := 17) d_Model_isIn_3 (by decide) (by decide) ?_
  refine j_lload_n (pc := 6) C d_Model_isIn_6 rfl 0 rfl ?_
  refine j_lload (pc := 7) C d_Model_isIn_7 2 rfl ?_
  refine j_lcmp (pc := 9) C (v := 1) d_Model_isIn_9 (by decide) ?_
  refine j_if_gtT (pc := 10) C (tgt := 17) d_Model_isIn_10 (by decide) (by decide) ?_
  refine j_iconst (pc := 17) C (v := 0) d_Model_isIn_17 (by decide) ?_
  exact j_iret (pc := 18) C hr (by decide) () rfl [] rfl (by decide) (by decide) (by decide) d_Model_isIn_18
set_option maxHeartbeats 4000000 in
set_option maxRecDepth 100000 in
theorem c_misIn79_13 (l : Launch) (D : va_G) (y : Nat → ClassId)   : CT l D y ⟨"NineBoardsModel", "isIn", "(JJJ)Z"⟩ prog_13_method_2_code 6 (some .boolean) ({ frames := 0, cells := 0, slots := 0, locals := 0 } : Room) [.long 13, .long 7, .long 9] [] (QI D [] (fun (r : Int32) (u : Unit) => r = 0) (fun _ => [])) := by
  refine CT.of (by decide) (nb rfl) ?_
  intro p e s m args below meth c C hr
  refine j_lv (lv' := [(0, .long 13), (2, .long 7), (4, .long 9)]) rfl ?_
  refine j_lload_n (pc := 0) C d_Model_isIn_0 rfl 0 rfl ?_
  refine j_lload_n (pc := 1) C d_Model_isIn_1 rfl 1 rfl ?_
  refine j_lcmp (pc := 2) C (v := 1) d_Model_isIn_2 (by decide) ?_
  refine j_if_ltF (pc := 3) C (tgt := 17) d_Model_isIn_3 (by decide) (by decide) ?_
  refine j_lload_n (pc := 6) C d_Model_isIn_6 rfl 0 rfl ?_
  refine j_lload (pc := 7) C d_Model_isIn_7 2 rfl ?_
  refine j_lcmp (pc := 9) C (v := 1) d_Model_isIn_9 (by decide) ?_
  refine j_if_gtT (pc := 10) C (tgt := 17) d_Model_isIn_10 (by decide) (by decide) ?_
  refine j_iconst (pc := 17) C (v := 0) d_Model_isIn_17 (by decide) ?_
  exact j_iret (pc := 18) C hr (by decide) () rfl [] rfl (by decide) (by decide) (by decide) d_Model_isIn_18
set_option maxHeartbeats 4000000 in
set_option maxRecDepth 100000 in
theorem c_misIn79_14 (l : Launch) (D : va_G) (y : Nat → ClassId)   : CT l D y ⟨"NineBoardsModel", "isIn", "(JJJ)Z"⟩ prog_13_method_2_code 6 (some .boolean) ({ frames := 0, cells := 0, slots := 0, locals := 0 } : Room) [.long 14, .long 7, .long 9] [] (QI D [] (fun (r : Int32) (u : Unit) => r = 0) (fun _ => [])) := by
  refine CT.of (by decide) (nb rfl) ?_
  intro p e s m args below meth c C hr
  refine j_lv (lv' := [(0, .long 14), (2, .long 7), (4, .long 9)]) rfl ?_
  refine j_lload_n (pc := 0) C d_Model_isIn_0 rfl 0 rfl ?_
  refine j_lload_n (pc := 1) C d_Model_isIn_1 rfl 1 rfl ?_
  refine j_lcmp (pc := 2) C (v := 1) d_Model_isIn_2 (by decide) ?_
  refine j_if_ltF (pc := 3) C (tgt := 17) d_Model_isIn_3 (by decide) (by decide) ?_
  refine j_lload_n (pc := 6) C d_Model_isIn_6 rfl 0 rfl ?_
  refine j_lload (pc := 7) C d_Model_isIn_7 2 rfl ?_
  refine j_lcmp (pc := 9) C (v := 1) d_Model_isIn_9 (by decide) ?_
  refine j_if_gtT (pc := 10) C (tgt := 17) d_Model_isIn_10 (by decide) (by decide) ?_
  refine j_iconst (pc := 17) C (v := 0) d_Model_isIn_17 (by decide) ?_
  exact j_iret (pc := 18) C hr (by decide) () rfl [] rfl (by decide) (by decide) (by decide) d_Model_isIn_18
set_option maxHeartbeats 4000000 in
set_option maxRecDepth 100000 in
theorem c_misIn79_15 (l : Launch) (D : va_G) (y : Nat → ClassId)   : CT l D y ⟨"NineBoardsModel", "isIn", "(JJJ)Z"⟩ prog_13_method_2_code 6 (some .boolean) ({ frames := 0, cells := 0, slots := 0, locals := 0 } : Room) [.long 15, .long 7, .long 9] [] (QI D [] (fun (r : Int32) (u : Unit) => r = 0) (fun _ => [])) := by
  refine CT.of (by decide) (nb rfl) ?_
  intro p e s m args below meth c C hr
  refine j_lv (lv' := [(0, .long 15), (2, .long 7), (4, .long 9)]) rfl ?_
  refine j_lload_n (pc := 0) C d_Model_isIn_0 rfl 0 rfl ?_
  refine j_lload_n (pc := 1) C d_Model_isIn_1 rfl 1 rfl ?_
  refine j_lcmp (pc := 2) C (v := 1) d_Model_isIn_2 (by decide) ?_
  refine j_if_ltF (pc := 3) C (tgt := 17) d_Model_isIn_3 (by decide) (by decide) ?_
  refine j_lload_n (pc := 6) C d_Model_isIn_6 rfl 0 rfl ?_
  refine j_lload (pc := 7) C d_Model_isIn_7 2 rfl ?_
  refine j_lcmp (pc := 9) C (v := 1) d_Model_isIn_9 (by decide) ?_
  refine j_if_gtT (pc := 10) C (tgt := 17) d_Model_isIn_10 (by decide) (by decide) ?_
  refine j_iconst (pc := 17) C (v := 0) d_Model_isIn_17 (by decide) ?_
  exact j_iret (pc := 18) C hr (by decide) () rfl [] rfl (by decide) (by decide) (by decide) d_Model_isIn_18
set_option maxHeartbeats 4000000 in
set_option maxRecDepth 100000 in
theorem c_mtold (l : Launch) (D : va_G) (y : Nat → ClassId) (mo : Nat) (ma : Nat → Nat) (t1 : Nat) (i2 : Int32) (i3 : Int32) (i4 : Int32) (i5 : Int32) (i6 : Int32) (i7 : Int32) (i8 : Int32) (i42 : Int32) (i49 : Int32) (i51 : Int32) (i53 : Int32) (i54 : Int32) (i59 : Int32) (i61 : Int32) (i64 : Int32) (i66 : Int32) (t67 : Nat) (i76 : Int64) (i78 : Int32) (g45 : Nat → Int32) (g50 : Nat → Int32) (g60 : Nat → Int64) (qa : Nat) (qb : Nat) (dq : Nat) (wq : Nat) (gt : LA_) (ty : Bool) (hto : TOQ gt) (hab : qa ≤ qb) (hbl : qb ≤ gt.cs.length) (hru : RUN (SEG gt.cs qa qb) [] [ty] 40) (hd : dq ≤ 100000) (hw : wq ≤ 100000) (hs_lake : LR gt (fun j => g45 (7 + j))) (hs_codes : CD gt.cs (fun j => g50 (1600 + j)) gt.cs.length) : CT l D y ⟨"NineBoardsModel", "told", "(IIII)J"⟩ prog_13_method_51_code 7 (some .long) ({ frames := 2, cells := 0, slots := 0, locals := 50 } : Room) [.ref mo, .int (nI qa), .int (nI qb), .int (nI dq), .int (nI wq)] [MB mo ma (nI t1) i2 i3 i4 i5 i6 i7 i8 i42 i49 i51 i53 i54 i59 i61 i64 i66 (nI t67) i76 i78, (ma 45, .inl (y 0, 14, .inl g45)), (ma 50, .inl (y 0, 3200, .inl g50)), (ma 60, .inl (y 1, 1700, .inr (.inl g60)))] (QL D [MB mo ma (nI t1) i2 i3 i4 i5 i6 i7 i8 i42 i49 i51 i53 i54 i59 i61 i64 i66 (nI t67) i76 i78, (ma 45, .inl (y 0, 14, .inl g45)), (ma 50, .inl (y 0, 3200, .inl g50)), (ma 60, .inl (y 1, 1700, .inr (.inl g60)))] (fun (r : Int64) (u : Nat → Int64) => r = zL (vlE dq (wq / gt.s 1) wq gt.cs qa qb) ∧ VT ty (vlE dq (wq / gt.s 1) wq gt.cs qa qb)) (fun u => [MB mo ma (nI t1) i2 i3 i4 i5 i6 i7 i8 i42 i49 i51 i53 i54 i59 (nI 1) i64 i66 (nI t67) i76 i78, (ma 45, .inl (y 0, 14, .inl g45)), (ma 50, .inl (y 0, 3200, .inl g50)), (ma 60, .inl (y 1, 1700, .inr (.inl u)))])) := by
  refine CT.of (by decide) (nb rfl) ?_
  intro p e s m args below meth c C hr
  refine j_lv (lv' := [(0, .ref mo), (1, .int (nI qa)), (2, .int (nI qb)), (3, .int (nI dq)), (4, .int (nI wq))]) rfl ?_
  obtain ⟨b1, b1x, b2, b2x, b3, b5, b6, b7, b8⟩ := to_n hto
  have hcl := hto.2.2.2
  have hlq : wq / gt.s 1 ≤ 100000 := Nat.le_trans (Nat.div_le_self _ _) hw
  refine j_aload_n (pc := 0) C d_Model_told_0 rfl 0 rfl ?_
  refine j_iconst (pc := 1) C (v := 0) d_Model_told_1 (by decide) ?_
  refine j_put (pc := 2) C pf_Model_387 0 (ws' := [MB mo ma (nI t1) i2 i3 i4 i5 i6 i7 i8 i42 i49 i51 i53 i54 i59 0 i64 i66 (nI t67) i76 i78, (ma 45, .inl (y 0, 14, .inl g45)), (ma 50, .inl (y 0, 3200, .inl g50)), (ma 60, .inl (y 1, 1700, .inr (.inl g60)))]) rfl rfl rfl (nl rfl) rfl d_Model_told_2 ?_
  refine j_iload_n (pc := 5) C d_Model_told_5 rfl 1 rfl ?_
  refine j_istore (pc := 6) C (lv' := [(5, .int (nI qa)), (0, .ref mo), (1, .int (nI qa)), (2, .int (nI qb)), (3, .int (nI dq)), (4, .int (nI wq))]) d_Model_told_6 (by decide) rfl ?_
  refine j_loop (α := Nat × Nat × (Nat → Int64) × List Int × List Bool) (fun a => qb - a.1) (fun a => (qa ≤ a.1) ∧ (a.1 ≤ qb) ∧ (a.2.1 = a.2.2.2.1.length) ∧ (STL a.2.2.1 a.2.2.2.1) ∧ (RUN (SEG gt.cs a.1 qb) a.2.2.2.2 [ty] 40) ∧ (RV a.2.2.2.2 a.2.2.2.1) ∧ (evR dq (wq / gt.s 1) wq (SEG gt.cs a.1 qb) a.2.2.2.1 = evR dq (wq / gt.s 1) wq (SEG gt.cs qa qb) [])) (fun a => [MB mo ma (nI t1) i2 i3 i4 i5 i6 i7 i8 i42 i49 i51 i53 i54 i59 (nI a.2.1) i64 i66 (nI t67) i76 i78, (ma 45, .inl (y 0, 14, .inl g45)), (ma 50, .inl (y 0, 3200, .inl g50)), (ma 60, .inl (y 1, 1700, .inr (.inl a.2.2.1)))]) (fun a => [(5, .int (nI a.1)), (0, .ref mo), (1, .int (nI qa)), (2, .int (nI qb)), (3, .int (nI dq)), (4, .int (nI wq))]) (qa, 0, g60, [], []) rfl rfl ⟨(show qa ≤ qa by omega), hab, rfl, True.intro, hru, True.intro, rfl⟩ ?_
  rintro ⟨iz, pz, wz, vs, ts⟩ hP75 ih76
  obtain ⟨hl__, hi__, hp__, hs__, hr__, hv__, he__⟩ := hP75
  have hl_ : qa ≤ iz := hl__
  have hi_ : iz ≤ qb := hi__
  have hp_ : pz = vs.length := hp__
  have hs_ : STL wz vs := hs__
  have hr_ : RUN (SEG gt.cs iz qb) ts [ty] 40 := hr__
  have hv_ : RV ts vs := hv__
  have he_ : evR dq (wq / gt.s 1) wq (SEG gt.cs iz qb) vs = evR dq (wq / gt.s 1) wq (SEG gt.cs qa qb) [] := he__
  refine j_ws (ws' := [MB mo ma (nI t1) i2 i3 i4 i5 i6 i7 i8 i42 i49 i51 i53 i54 i59 (nI pz) i64 i66 (nI t67) i76 i78, (ma 45, .inl (y 0, 14, .inl g45)), (ma 50, .inl (y 0, 3200, .inl g50)), (ma 60, .inl (y 1, 1700, .inr (.inl wz)))]) rfl ?_
  refine j_lv (lv' := [(5, .int (nI iz)), (0, .ref mo), (1, .int (nI qa)), (2, .int (nI qb)), (3, .int (nI dq)), (4, .int (nI wq))]) rfl ?_
  refine j_iload (pc := 8) C d_Model_told_8 0 rfl ?_
  refine j_iload_n (pc := 10) C d_Model_told_10 rfl 3 rfl ?_
  by_cases c77 : qb ≤ iz
  · refine j_icmp_geT (pc := 11) C (tgt := 168) d_Model_told_11 (by decide) (show nI qb ≤ nI iz from nI_le (by omega) (by omega)) ?_
    obtain rfl : iz = qb := by omega
    rw [seg_nil] at hr_
    obtain ⟨ve, rfl, hve⟩ := rv_end hr_ hv_
    rw [List.length_singleton] at hp_
    have hvl := evr_end he_
    refine j_ws (ws' := [MB mo ma (nI t1) i2 i3 i4 i5 i6 i7 i8 i42 i49 i51 i53 i54 i59 (nI 1) i64 i66 (nI t67) i76 i78, (ma 45, .inl (y 0, 14, .inl g45)), (ma 50, .inl (y 0, 3200, .inl g50)), (ma 60, .inl (y 1, 1700, .inr (.inl wz)))]) (by rw [show nI pz = nI 1 from (congrArg nI hp_)]) ?_
    refine j_aload_n (pc := 168) C d_Model_told_168 rfl 1 rfl ?_
    refine j_get (pc := 169) C gf_Model_155 0 rfl rfl d_Model_told_169 ?_
    refine j_iconst (pc := 172) C (v := 0) d_Model_told_172 (by decide) ?_
    refine j_lald (pc := 173) C 3 rfl (v := zL ve) (vin (by decide)) hs_.1 d_Model_told_173 ?_
    exact j_lret (pc := 174) C hr wz ⟨congrArg zL hvl, hvl ▸ hve⟩ [0, 1, 2, 3] rfl (by decide) (by decide) (by decide) d_Model_told_174
  · refine j_icmp_geF (pc := 11) C (tgt := 168) d_Model_told_11 (by decide) (show ¬ nI qb ≤ nI iz from nI_ge (by omega) (by omega)) ?_
    refine j_aload_n (pc := 14) C d_Model_told_14 rfl 1 rfl ?_
    refine j_get (pc := 15) C gf_Model_136 0 rfl rfl d_Model_told_15 ?_
    refine j_sipush (pc := 18) C (v := 1600) d_Model_told_18 (by decide) ?_
    refine j_iload (pc := 21) C d_Model_told_21 0 rfl ?_
    refine j_iadd (pc := 23) C (v := nI (1600 + iz)) d_Model_told_23 (nI_add _ _) ?_
    refine j_iald (pc := 24) C 2 rfl (v := nI (gt.cs.getD iz 0)) (vp_in_nI (by omega) (by decide)) (by rw [nI_clamp (by omega)]; exact (hs_codes.2 iz (by omega)).1) d_Model_told_24 ?_
    obtain ⟨hln, q0, hq, hr2⟩ := run_go hr_ (by omega) hbl
    have hql := run_len hr2
    have hrl := rv_len hv_
    obtain ⟨cc, hcc⟩ : ∃ cc, cc = gt.cs.getD iz 0 := ⟨_, rfl⟩
    rw [← hcc] at hq
    refine j_st (st' := [.int (nI cc)]) (by rw [← hcc]) ?_
    have hok := ev_ok hd hlq hw hq hv_
    rcases ty_tc hq with ⟨v, bv, rfl, rfl⟩ | ⟨rfl, rfl⟩ | ⟨rfl, rt, rfl, rfl⟩ | ⟨rfl, rfl⟩ | ⟨rfl, rfl⟩ | ⟨rfl, rfl⟩ | ⟨bc, rt, rfl, rfl⟩ | ⟨bc, rt, rfl, rfl⟩ | ⟨bc, rt, rfl, rfl⟩
    · rw [List.length_cons] at hql
      refine j_istore (pc := 25) C (lv' := [(6, .int (nI (1000 + v))), (5, .int (nI iz)), (0, .ref mo), (1, .int (nI qa)), (2, .int (nI qb)), (3, .int (nI dq)), (4, .int (nI wq))]) d_Model_told_25 (by decide) rfl ?_
      refine j_iload (pc := 27) C d_Model_told_27 0 rfl ?_
      refine j_sipush (pc := 29) C (v := 1000) d_Model_told_29 (by decide) ?_
      refine j_icmp_ltF (pc := 32) C (tgt := 49) d_Model_told_32 (by decide) (show ¬ nI (1000 + v) < nI 1000 from nI_nlt (by omega) (by omega)) ?_
      refine j_aload_n (pc := 35) C d_Model_told_35 rfl 2 rfl ?_
      refine j_iload (pc := 36) C d_Model_told_36 0 rfl ?_
      refine j_sipush (pc := 38) C (v := 1000) d_Model_told_38 (by decide) ?_
      refine j_isub (pc := 41) C (v := nI ((1000 + v) - 1000)) d_Model_told_41 (pk_sub (a := (1000 + v)) (b := 1000) (by omega)) ?_
      refine j_i2l (pc := 42) C (v := zL (((((1000 + v) - 1000) : Nat)) : Int)) d_Model_told_42 (nI_zL (n := ((1000 + v) - 1000)) (by omega)) ?_
      refine j_callVv (pc := 43) C (c_mputs l D y mo ma t1 i2 i3 i4 i5 i6 i7 i8 i42 i49 i51 i53 i54 i59 pz i64 i66 t67 i76 i78 wz (((((1000 + v) - 1000) : Nat)) : Int) vs hs_ hp_ (by omega)) kw_Model_394 kv_Model_puts 0 10 rfl rfl ⟨by decide, by decide⟩ ⟨by decide, by decide⟩ (wr := [(ma 45, .inl (y 0, 14, .inl g45)), (ma 50, .inl (y 0, 3200, .inl g50))]) [0, 3] [1, 2] rfl rfl (by decide) (by decide) (by decide) (As := [.long (zL (((((1000 + v) - 1000) : Nat)) : Int))]) (rest := []) rfl (nb rfl) rfl d_Model_told_43 (fun u78 hu79 => ?_)
      have xh80 := hu79
      refine j_ws (ws' := [(ma 45, .inl (y 0, 14, .inl g45)), (ma 50, .inl (y 0, 3200, .inl g50)), MB mo ma (nI t1) i2 i3 i4 i5 i6 i7 i8 i42 i49 i51 i53 i54 i59 (nI (pz + 1)) i64 i66 (nI t67) i76 i78, (ma 60, .inl (y 1, 1700, .inr (.inl u78)))]) rfl ?_
      refine j_goto (pc := 46) C (tgt := 162) d_Model_told_46 (by decide) ?_
      refine j_iinc (pc := 162) C (v := nI (iz + 1)) (lv' := [(5, .int (nI (iz + 1))), (6, .int (nI (1000 + v))), (0, .ref mo), (1, .int (nI qa)), (2, .int (nI qb)), (3, .int (nI dq)), (4, .int (nI wq))]) d_Model_told_162 1 rfl (nI_add _ _) (by decide) rfl ?_
      refine j_goto (pc := 165) C (tgt := 8) d_Model_told_165 (by decide) ?_
      refine j_sub (ws' := [MB mo ma (nI t1) i2 i3 i4 i5 i6 i7 i8 i42 i49 i51 i53 i54 i59 (nI (pz + 1)) i64 i66 (nI t67) i76 i78, (ma 45, .inl (y 0, 14, .inl g45)), (ma 50, .inl (y 0, 3200, .inl g50)), (ma 60, .inl (y 1, 1700, .inr (.inl u78)))]) [2, 0, 1, 3] rfl (by decide) ?_
      refine j_locs (lv' := [(5, .int (nI (iz + 1))), (0, .ref mo), (1, .int (nI qa)), (2, .int (nI qb)), (3, .int (nI dq)), (4, .int (nI wq))]) [0, 2, 3, 4, 5, 6] rfl ?_
      exact ih76 ((iz + 1), (pz + 1), u78, ((((1000 + v - 1000 : Nat)) : Int) :: vs), (false :: ts)) ⟨(show qa ≤ (iz + 1) by omega), (show (iz + 1) ≤ qb by omega), (show (pz + 1) = ((((1000 + v - 1000 : Nat)) : Int) :: vs).length by rw [List.length_cons]; omega), xh80, hr2, (by have e : evC dq (wq / gt.s 1) wq (1000 + v) vs = ((((1000 + v - 1000 : Nat)) : Int) :: vs) := if_pos (by omega); rw [← e]; exact hok), (evr_e he_ (by omega) hbl hcc (show ((((1000 + v - 1000 : Nat)) : Int) :: vs) = evC dq (wq / gt.s 1) wq (1000 + v) vs from (if_pos (by omega)).symm))⟩ (show qb - (iz + 1) < qb - iz by omega)
    · refine j_st (st' := [.int 17]) rfl ?_
      rw [List.length_cons] at hql
      refine j_istore (pc := 25) C (lv' := [(6, .int 17), (5, .int (nI iz)), (0, .ref mo), (1, .int (nI qa)), (2, .int (nI qb)), (3, .int (nI dq)), (4, .int (nI wq))]) d_Model_told_25 (by decide) rfl ?_
      refine j_iload (pc := 27) C d_Model_told_27 0 rfl ?_
      refine j_sipush (pc := 29) C (v := 1000) d_Model_told_29 (by decide) ?_
      refine j_icmp_ltT (pc := 32) C (tgt := 49) d_Model_told_32 (by decide) (by decide) ?_
      refine j_iload (pc := 49) C d_Model_told_49 0 rfl ?_
      refine j_bipush (pc := 51) C (v := 17) d_Model_told_51 (by decide) ?_
      refine j_icmp_neF (pc := 53) C (tgt := 64) d_Model_told_53 (by decide) (by decide) ?_
      refine j_aload_n (pc := 56) C d_Model_told_56 rfl 2 rfl ?_
      refine j_lconst (pc := 57) C (v := 1) d_Model_told_57 (by decide) ?_
      refine j_st (st' := [.long (zL 1), .ref mo]) rfl ?_
      refine j_callVv (pc := 58) C (c_mputs l D y mo ma t1 i2 i3 i4 i5 i6 i7 i8 i42 i49 i51 i53 i54 i59 pz i64 i66 t67 i76 i78 wz 1 vs hs_ hp_ (by omega)) kw_Model_394 kv_Model_puts 0 10 rfl rfl ⟨by decide, by decide⟩ ⟨by decide, by decide⟩ (wr := [(ma 45, .inl (y 0, 14, .inl g45)), (ma 50, .inl (y 0, 3200, .inl g50))]) [0, 3] [1, 2] rfl rfl (by decide) (by decide) (by decide) (As := [.long (zL 1)]) (rest := []) rfl (nb rfl) rfl d_Model_told_58 (fun u81 hu82 => ?_)
      have xh83 := hu82
      refine j_ws (ws' := [(ma 45, .inl (y 0, 14, .inl g45)), (ma 50, .inl (y 0, 3200, .inl g50)), MB mo ma (nI t1) i2 i3 i4 i5 i6 i7 i8 i42 i49 i51 i53 i54 i59 (nI (pz + 1)) i64 i66 (nI t67) i76 i78, (ma 60, .inl (y 1, 1700, .inr (.inl u81)))]) rfl ?_
      refine j_goto (pc := 61) C (tgt := 162) d_Model_told_61 (by decide) ?_
      refine j_iinc (pc := 162) C (v := nI (iz + 1)) (lv' := [(5, .int (nI (iz + 1))), (6, .int 17), (0, .ref mo), (1, .int (nI qa)), (2, .int (nI qb)), (3, .int (nI dq)), (4, .int (nI wq))]) d_Model_told_162 1 rfl (nI_add _ _) (by decide) rfl ?_
      refine j_goto (pc := 165) C (tgt := 8) d_Model_told_165 (by decide) ?_
      refine j_sub (ws' := [MB mo ma (nI t1) i2 i3 i4 i5 i6 i7 i8 i42 i49 i51 i53 i54 i59 (nI (pz + 1)) i64 i66 (nI t67) i76 i78, (ma 45, .inl (y 0, 14, .inl g45)), (ma 50, .inl (y 0, 3200, .inl g50)), (ma 60, .inl (y 1, 1700, .inr (.inl u81)))]) [2, 0, 1, 3] rfl (by decide) ?_
      refine j_locs (lv' := [(5, .int (nI (iz + 1))), (0, .ref mo), (1, .int (nI qa)), (2, .int (nI qb)), (3, .int (nI dq)), (4, .int (nI wq))]) [0, 2, 3, 4, 5, 6] rfl ?_
      exact ih76 ((iz + 1), (pz + 1), u81, (1 :: vs), (true :: ts)) ⟨(show qa ≤ (iz + 1) by omega), (show (iz + 1) ≤ qb by omega), (show (pz + 1) = (1 :: vs).length by rw [List.length_cons]; omega), xh83, hr2, hok, (evr_e he_ (by omega) hbl hcc rfl)⟩ (show qb - (iz + 1) < qb - iz by omega)
    · refine j_st (st' := [.int 16]) rfl ?_
      obtain ⟨a, rs, rfl, ha, hvr⟩ := rv_1 hv_
      simp only [List.length_cons] at hp_ hrl hln
      refine j_istore (pc := 25) C (lv' := [(6, .int 16), (5, .int (nI iz)), (0, .ref mo), (1, .int (nI qa)), (2, .int (nI qb)), (3, .int (nI dq)), (4, .int (nI wq))]) d_Model_told_25 (by decide) rfl ?_
      refine j_iload (pc := 27) C d_Model_told_27 0 rfl ?_
      refine j_sipush (pc := 29) C (v := 1000) d_Model_told_29 (by decide) ?_
      refine j_icmp_ltT (pc := 32) C (tgt := 49) d_Model_told_32 (by decide) (by decide) ?_
      refine j_iload (pc := 49) C d_Model_told_49 0 rfl ?_
      refine j_bipush (pc := 51) C (v := 17) d_Model_told_51 (by decide) ?_
      refine j_icmp_neT (pc := 53) C (tgt := 64) d_Model_told_53 (by decide) (by decide) ?_
      refine j_iload (pc := 64) C d_Model_told_64 0 rfl ?_
      refine j_bipush (pc := 66) C (v := 16) d_Model_told_66 (by decide) ?_
      refine j_icmp_neF (pc := 68) C (tgt := 98) d_Model_told_68 (by decide) (by decide) ?_
      refine j_aload_n (pc := 71) C d_Model_told_71 rfl 2 rfl ?_
      refine j_get (pc := 72) C gf_Model_155 0 rfl rfl d_Model_told_72 ?_
      refine j_aload_n (pc := 75) C d_Model_told_75 rfl 2 rfl ?_
      refine j_get (pc := 76) C gf_Model_387 0 rfl rfl d_Model_told_76 ?_
      refine j_iconst (pc := 79) C (v := 1) d_Model_told_79 (by decide) ?_
      refine j_isub (pc := 80) C (v := nI (pz - 1)) d_Model_told_80 (pk_sub (a := pz) (b := 1) (by omega)) ?_
      refine j_lconst (pc := 81) C (v := 1) d_Model_told_81 (by decide) ?_
      refine j_aload_n (pc := 82) C d_Model_told_82 rfl 2 rfl ?_
      refine j_get (pc := 83) C gf_Model_155 0 rfl rfl d_Model_told_83 ?_
      refine j_aload_n (pc := 86) C d_Model_told_86 rfl 2 rfl ?_
      refine j_get (pc := 87) C gf_Model_387 0 rfl rfl d_Model_told_87 ?_
      refine j_iconst (pc := 90) C (v := 1) d_Model_told_90 (by decide) ?_
      refine j_isub (pc := 91) C (v := nI (pz - 1)) d_Model_told_91 (pk_sub (a := pz) (b := 1) (by omega)) ?_
      refine j_lald (pc := 92) C 3 rfl (v := zL a) (vp_in_nI (by omega) (by decide)) (by rw [nI_clamp (by omega), show (pz - 1) = rs.length by omega]; exact hs_.1) d_Model_told_92 ?_
      refine j_lsub (pc := 93) C (v := zL (1 - a)) d_Model_told_93 (zL_sub 1 a) ?_
      refine j_last (pc := 94) C 3 rfl (ws' := [MB mo ma (nI t1) i2 i3 i4 i5 i6 i7 i8 i42 i49 i51 i53 i54 i59 (nI pz) i64 i66 (nI t67) i76 i78, (ma 45, .inl (y 0, 14, .inl g45)), (ma 50, .inl (y 0, 3200, .inl g50)), (ma 60, .inl (y 1, 1700, .inr (.inl (vp_updL wz (pz - 1) (zL (1 - a))))))]) (vp_in_nI (by omega) (by decide)) (by rw [nI_clamp (by omega)]; rfl) d_Model_told_94 ?_
      refine j_goto (pc := 95) C (tgt := 162) d_Model_told_95 (by decide) ?_
      refine j_iinc (pc := 162) C (v := nI (iz + 1)) (lv' := [(5, .int (nI (iz + 1))), (6, .int 16), (0, .ref mo), (1, .int (nI qa)), (2, .int (nI qb)), (3, .int (nI dq)), (4, .int (nI wq))]) d_Model_told_162 1 rfl (nI_add _ _) (by decide) rfl ?_
      refine j_goto (pc := 165) C (tgt := 8) d_Model_told_165 (by decide) ?_
      refine j_locs (lv' := [(5, .int (nI (iz + 1))), (0, .ref mo), (1, .int (nI qa)), (2, .int (nI qb)), (3, .int (nI dq)), (4, .int (nI wq))]) [0, 2, 3, 4, 5, 6] rfl ?_
      exact ih76 ((iz + 1), pz, (vp_updL wz (pz - 1) (zL (1 - a))), ((1 - a) :: rs), (true :: rt)) ⟨(show qa ≤ (iz + 1) by omega), (show (iz + 1) ≤ qb by omega), (show pz = ((1 - a) :: rs).length by rw [List.length_cons]; omega), (stl_push (v := 1 - a) hs_.2 (by omega)), hr2, hok, (evr_e he_ (by omega) hbl hcc rfl)⟩ (show qb - (iz + 1) < qb - iz by omega)
    · refine j_st (st' := [.int 7]) rfl ?_
      rw [List.length_cons] at hql
      refine j_istore (pc := 25) C (lv' := [(6, .int 7), (5, .int (nI iz)), (0, .ref mo), (1, .int (nI qa)), (2, .int (nI qb)), (3, .int (nI dq)), (4, .int (nI wq))]) d_Model_told_25 (by decide) rfl ?_
      refine j_iload (pc := 27) C d_Model_told_27 0 rfl ?_
      refine j_sipush (pc := 29) C (v := 1000) d_Model_told_29 (by decide) ?_
      refine j_icmp_ltT (pc := 32) C (tgt := 49) d_Model_told_32 (by decide) (by decide) ?_
      refine j_iload (pc := 49) C d_Model_told_49 0 rfl ?_
      refine j_bipush (pc := 51) C (v := 17) d_Model_told_51 (by decide) ?_
      refine j_icmp_neT (pc := 53) C (tgt := 64) d_Model_told_53 (by decide) (by decide) ?_
      refine j_iload (pc := 64) C d_Model_told_64 0 rfl ?_
      refine j_bipush (pc := 66) C (v := 16) d_Model_told_66 (by decide) ?_
      refine j_icmp_neT (pc := 68) C (tgt := 98) d_Model_told_68 (by decide) (by decide) ?_
      refine j_iload (pc := 98) C d_Model_told_98 0 rfl ?_
      refine j_i2l (pc := 100) C (v := 7) d_Model_told_100 (by decide) ?_
      refine j_ldc2 (pc := 101) C (v := 7) (mt_7 (List.mem_of_getElem? (i := 148) rfl) rfl) d_Model_told_101 ?_
      refine j_ldc2 (pc := 104) C (v := 9) (mt_7 (List.mem_of_getElem? (i := 149) rfl) rfl) d_Model_told_104 ?_
      refine j_callSi (pc := 107) C (c_misIn79_7 l D y ) kw_Model_240 ks_Model_isIn ⟨by decide, by decide⟩ ⟨by decide, by decide⟩ (wr := [MB mo ma (nI t1) i2 i3 i4 i5 i6 i7 i8 i42 i49 i51 i53 i54 i59 (nI pz) i64 i66 (nI t67) i76 i78, (ma 45, .inl (y 0, 14, .inl g45)), (ma 50, .inl (y 0, 3200, .inl g50)), (ma 60, .inl (y 1, 1700, .inr (.inl wz)))]) [] [0, 1, 2, 3] rfl rfl (by decide) (by decide) (by decide) (As := [.long 7, .long 7, .long 9]) (rest := []) rfl (nb rfl) rfl d_Model_told_107 (fun r84 _ hr84 => ?_)
      obtain rfl := hr84
      refine j_ws (ws' := [MB mo ma (nI t1) i2 i3 i4 i5 i6 i7 i8 i42 i49 i51 i53 i54 i59 (nI pz) i64 i66 (nI t67) i76 i78, (ma 45, .inl (y 0, 14, .inl g45)), (ma 50, .inl (y 0, 3200, .inl g50)), (ma 60, .inl (y 1, 1700, .inr (.inl wz)))]) rfl ?_
      refine j_if_eqF (pc := 110) C (tgt := 156) d_Model_told_110 (by decide) (by decide) ?_
      refine j_aload_n (pc := 113) C d_Model_told_113 rfl 2 rfl ?_
      refine j_iload (pc := 114) C d_Model_told_114 0 rfl ?_
      refine j_bipush (pc := 116) C (v := 7) d_Model_told_116 (by decide) ?_
      refine j_icmp_neF (pc := 118) C (tgt := 126) d_Model_told_118 (by decide) (by decide) ?_
      refine j_iload_n (pc := 121) C d_Model_told_121 rfl 5 rfl ?_
      refine j_i2l (pc := 122) C (v := zL (((dq : Nat)) : Int)) d_Model_told_122 (nI_zL (n := dq) (by omega)) ?_
      refine j_goto (pc := 123) C (tgt := 150) d_Model_told_123 (by decide) ?_
      refine j_callVv (pc := 150) C (c_mputs l D y mo ma t1 i2 i3 i4 i5 i6 i7 i8 i42 i49 i51 i53 i54 i59 pz i64 i66 t67 i76 i78 wz (((dq : Nat)) : Int) vs hs_ hp_ (by omega)) kw_Model_394 kv_Model_puts 0 10 rfl rfl ⟨by decide, by decide⟩ ⟨by decide, by decide⟩ (wr := [(ma 45, .inl (y 0, 14, .inl g45)), (ma 50, .inl (y 0, 3200, .inl g50))]) [0, 3] [1, 2] rfl rfl (by decide) (by decide) (by decide) (As := [.long (zL (((dq : Nat)) : Int))]) (rest := []) rfl (nb rfl) rfl d_Model_told_150 (fun u85 hu86 => ?_)
      have xh87 := hu86
      refine j_ws (ws' := [(ma 45, .inl (y 0, 14, .inl g45)), (ma 50, .inl (y 0, 3200, .inl g50)), MB mo ma (nI t1) i2 i3 i4 i5 i6 i7 i8 i42 i49 i51 i53 i54 i59 (nI (pz + 1)) i64 i66 (nI t67) i76 i78, (ma 60, .inl (y 1, 1700, .inr (.inl u85)))]) rfl ?_
      refine j_goto (pc := 153) C (tgt := 162) d_Model_told_153 (by decide) ?_
      refine j_iinc (pc := 162) C (v := nI (iz + 1)) (lv' := [(5, .int (nI (iz + 1))), (6, .int 7), (0, .ref mo), (1, .int (nI qa)), (2, .int (nI qb)), (3, .int (nI dq)), (4, .int (nI wq))]) d_Model_told_162 1 rfl (nI_add _ _) (by decide) rfl ?_
      refine j_goto (pc := 165) C (tgt := 8) d_Model_told_165 (by decide) ?_
      refine j_sub (ws' := [MB mo ma (nI t1) i2 i3 i4 i5 i6 i7 i8 i42 i49 i51 i53 i54 i59 (nI (pz + 1)) i64 i66 (nI t67) i76 i78, (ma 45, .inl (y 0, 14, .inl g45)), (ma 50, .inl (y 0, 3200, .inl g50)), (ma 60, .inl (y 1, 1700, .inr (.inl u85)))]) [2, 0, 1, 3] rfl (by decide) ?_
      refine j_locs (lv' := [(5, .int (nI (iz + 1))), (0, .ref mo), (1, .int (nI qa)), (2, .int (nI qb)), (3, .int (nI dq)), (4, .int (nI wq))]) [0, 2, 3, 4, 5, 6] rfl ?_
      exact ih76 ((iz + 1), (pz + 1), u85, (((dq : Nat) : Int) :: vs), (false :: ts)) ⟨(show qa ≤ (iz + 1) by omega), (show (iz + 1) ≤ qb by omega), (show (pz + 1) = (((dq : Nat) : Int) :: vs).length by rw [List.length_cons]; omega), xh87, hr2, hok, (evr_e he_ (by omega) hbl hcc rfl)⟩ (show qb - (iz + 1) < qb - iz by omega)
    · refine j_st (st' := [.int 8]) rfl ?_
      rw [List.length_cons] at hql
      refine j_istore (pc := 25) C (lv' := [(6, .int 8), (5, .int (nI iz)), (0, .ref mo), (1, .int (nI qa)), (2, .int (nI qb)), (3, .int (nI dq)), (4, .int (nI wq))]) d_Model_told_25 (by decide) rfl ?_
      refine j_iload (pc := 27) C d_Model_told_27 0 rfl ?_
      refine j_sipush (pc := 29) C (v := 1000) d_Model_told_29 (by decide) ?_
      refine j_icmp_ltT (pc := 32) C (tgt := 49) d_Model_told_32 (by decide) (by decide) ?_
      refine j_iload (pc := 49) C d_Model_told_49 0 rfl ?_
      refine j_bipush (pc := 51) C (v := 17) d_Model_told_51 (by decide) ?_
      refine j_icmp_neT (pc := 53) C (tgt := 64) d_Model_told_53 (by decide) (by decide) ?_
      refine j_iload (pc := 64) C d_Model_told_64 0 rfl ?_
      refine j_bipush (pc := 66) C (v := 16) d_Model_told_66 (by decide) ?_
      refine j_icmp_neT (pc := 68) C (tgt := 98) d_Model_told_68 (by decide) (by decide) ?_
      refine j_iload (pc := 98) C d_Model_told_98 0 rfl ?_
      refine j_i2l (pc := 100) C (v := 8) d_Model_told_100 (by decide) ?_
      refine j_ldc2 (pc := 101) C (v := 7) (mt_7 (List.mem_of_getElem? (i := 148) rfl) rfl) d_Model_told_101 ?_
      refine j_ldc2 (pc := 104) C (v := 9) (mt_7 (List.mem_of_getElem? (i := 149) rfl) rfl) d_Model_told_104 ?_
      refine j_callSi (pc := 107) C (c_misIn79_8 l D y ) kw_Model_240 ks_Model_isIn ⟨by decide, by decide⟩ ⟨by decide, by decide⟩ (wr := [MB mo ma (nI t1) i2 i3 i4 i5 i6 i7 i8 i42 i49 i51 i53 i54 i59 (nI pz) i64 i66 (nI t67) i76 i78, (ma 45, .inl (y 0, 14, .inl g45)), (ma 50, .inl (y 0, 3200, .inl g50)), (ma 60, .inl (y 1, 1700, .inr (.inl wz)))]) [] [0, 1, 2, 3] rfl rfl (by decide) (by decide) (by decide) (As := [.long 8, .long 7, .long 9]) (rest := []) rfl (nb rfl) rfl d_Model_told_107 (fun r88 _ hr88 => ?_)
      obtain rfl := hr88
      refine j_ws (ws' := [MB mo ma (nI t1) i2 i3 i4 i5 i6 i7 i8 i42 i49 i51 i53 i54 i59 (nI pz) i64 i66 (nI t67) i76 i78, (ma 45, .inl (y 0, 14, .inl g45)), (ma 50, .inl (y 0, 3200, .inl g50)), (ma 60, .inl (y 1, 1700, .inr (.inl wz)))]) rfl ?_
      refine j_if_eqF (pc := 110) C (tgt := 156) d_Model_told_110 (by decide) (by decide) ?_
      refine j_aload_n (pc := 113) C d_Model_told_113 rfl 2 rfl ?_
      refine j_iload (pc := 114) C d_Model_told_114 0 rfl ?_
      refine j_bipush (pc := 116) C (v := 7) d_Model_told_116 (by decide) ?_
      refine j_icmp_neT (pc := 118) C (tgt := 126) d_Model_told_118 (by decide) (by decide) ?_
      refine j_iload (pc := 126) C d_Model_told_126 0 rfl ?_
      refine j_bipush (pc := 128) C (v := 8) d_Model_told_128 (by decide) ?_
      refine j_icmp_neF (pc := 130) C (tgt := 147) d_Model_told_130 (by decide) (by decide) ?_
      refine j_iload (pc := 133) C d_Model_told_133 6 rfl ?_
      refine j_aload_n (pc := 135) C d_Model_told_135 rfl 2 rfl ?_
      refine j_get (pc := 136) C gf_Model_124 0 rfl rfl d_Model_told_136 ?_
      refine j_bipush (pc := 139) C (v := 7) d_Model_told_139 (by decide) ?_
      refine j_iald (pc := 141) C 1 rfl (v := nI (gt.s 1)) (vin (by decide)) (hs_lake.1) d_Model_told_141 ?_
      refine j_idiv (pc := 142) C (v := nI (wq / (gt.s 1))) d_Model_told_142 (nI_ne0 (by omega) (by omega)) (pk_div (by omega) (by omega) (by omega)) ?_
      refine j_i2l (pc := 143) C (v := zL ((((wq / (gt.s 1)) : Nat)) : Int)) d_Model_told_143 (nI_zL (n := (wq / (gt.s 1))) (by omega)) ?_
      refine j_goto (pc := 144) C (tgt := 150) d_Model_told_144 (by decide) ?_
      refine j_callVv (pc := 150) C (c_mputs l D y mo ma t1 i2 i3 i4 i5 i6 i7 i8 i42 i49 i51 i53 i54 i59 pz i64 i66 t67 i76 i78 wz ((((wq / (gt.s 1)) : Nat)) : Int) vs hs_ hp_ (by omega)) kw_Model_394 kv_Model_puts 0 10 rfl rfl ⟨by decide, by decide⟩ ⟨by decide, by decide⟩ (wr := [(ma 45, .inl (y 0, 14, .inl g45)), (ma 50, .inl (y 0, 3200, .inl g50))]) [0, 3] [1, 2] rfl rfl (by decide) (by decide) (by decide) (As := [.long (zL ((((wq / (gt.s 1)) : Nat)) : Int))]) (rest := []) rfl (nb rfl) rfl d_Model_told_150 (fun u89 hu90 => ?_)
      have xh91 := hu90
      refine j_ws (ws' := [(ma 45, .inl (y 0, 14, .inl g45)), (ma 50, .inl (y 0, 3200, .inl g50)), MB mo ma (nI t1) i2 i3 i4 i5 i6 i7 i8 i42 i49 i51 i53 i54 i59 (nI (pz + 1)) i64 i66 (nI t67) i76 i78, (ma 60, .inl (y 1, 1700, .inr (.inl u89)))]) rfl ?_
      refine j_goto (pc := 153) C (tgt := 162) d_Model_told_153 (by decide) ?_
      refine j_iinc (pc := 162) C (v := nI (iz + 1)) (lv' := [(5, .int (nI (iz + 1))), (6, .int 8), (0, .ref mo), (1, .int (nI qa)), (2, .int (nI qb)), (3, .int (nI dq)), (4, .int (nI wq))]) d_Model_told_162 1 rfl (nI_add _ _) (by decide) rfl ?_
      refine j_goto (pc := 165) C (tgt := 8) d_Model_told_165 (by decide) ?_
      refine j_sub (ws' := [MB mo ma (nI t1) i2 i3 i4 i5 i6 i7 i8 i42 i49 i51 i53 i54 i59 (nI (pz + 1)) i64 i66 (nI t67) i76 i78, (ma 45, .inl (y 0, 14, .inl g45)), (ma 50, .inl (y 0, 3200, .inl g50)), (ma 60, .inl (y 1, 1700, .inr (.inl u89)))]) [2, 0, 1, 3] rfl (by decide) ?_
      refine j_locs (lv' := [(5, .int (nI (iz + 1))), (0, .ref mo), (1, .int (nI qa)), (2, .int (nI qb)), (3, .int (nI dq)), (4, .int (nI wq))]) [0, 2, 3, 4, 5, 6] rfl ?_
      exact ih76 ((iz + 1), (pz + 1), u89, ((((wq / gt.s 1) : Nat) : Int) :: vs), (false :: ts)) ⟨(show qa ≤ (iz + 1) by omega), (show (iz + 1) ≤ qb by omega), (show (pz + 1) = ((((wq / gt.s 1) : Nat) : Int) :: vs).length by rw [List.length_cons]; omega), xh91, hr2, hok, (evr_e he_ (by omega) hbl hcc rfl)⟩ (show qb - (iz + 1) < qb - iz by omega)
    · refine j_st (st' := [.int 9]) rfl ?_
      rw [List.length_cons] at hql
      refine j_istore (pc := 25) C (lv' := [(6, .int 9), (5, .int (nI iz)), (0, .ref mo), (1, .int (nI qa)), (2, .int (nI qb)), (3, .int (nI dq)), (4, .int (nI wq))]) d_Model_told_25 (by decide) rfl ?_
      refine j_iload (pc := 27) C d_Model_told_27 0 rfl ?_
      refine j_sipush (pc := 29) C (v := 1000) d_Model_told_29 (by decide) ?_
      refine j_icmp_ltT (pc := 32) C (tgt := 49) d_Model_told_32 (by decide) (by decide) ?_
      refine j_iload (pc := 49) C d_Model_told_49 0 rfl ?_
      refine j_bipush (pc := 51) C (v := 17) d_Model_told_51 (by decide) ?_
      refine j_icmp_neT (pc := 53) C (tgt := 64) d_Model_told_53 (by decide) (by decide) ?_
      refine j_iload (pc := 64) C d_Model_told_64 0 rfl ?_
      refine j_bipush (pc := 66) C (v := 16) d_Model_told_66 (by decide) ?_
      refine j_icmp_neT (pc := 68) C (tgt := 98) d_Model_told_68 (by decide) (by decide) ?_
      refine j_iload (pc := 98) C d_Model_told_98 0 rfl ?_
      refine j_i2l (pc := 100) C (v := 9) d_Model_told_100 (by decide) ?_
      refine j_ldc2 (pc := 101) C (v := 7) (mt_7 (List.mem_of_getElem? (i := 148) rfl) rfl) d_Model_told_101 ?_
      refine j_ldc2 (pc := 104) C (v := 9) (mt_7 (List.mem_of_getElem? (i := 149) rfl) rfl) d_Model_told_104 ?_
      refine j_callSi (pc := 107) C (c_misIn79_9 l D y ) kw_Model_240 ks_Model_isIn ⟨by decide, by decide⟩ ⟨by decide, by decide⟩ (wr := [MB mo ma (nI t1) i2 i3 i4 i5 i6 i7 i8 i42 i49 i51 i53 i54 i59 (nI pz) i64 i66 (nI t67) i76 i78, (ma 45, .inl (y 0, 14, .inl g45)), (ma 50, .inl (y 0, 3200, .inl g50)), (ma 60, .inl (y 1, 1700, .inr (.inl wz)))]) [] [0, 1, 2, 3] rfl rfl (by decide) (by decide) (by decide) (As := [.long 9, .long 7, .long 9]) (rest := []) rfl (nb rfl) rfl d_Model_told_107 (fun r92 _ hr92 => ?_)
      obtain rfl := hr92
      refine j_ws (ws' := [MB mo ma (nI t1) i2 i3 i4 i5 i6 i7 i8 i42 i49 i51 i53 i54 i59 (nI pz) i64 i66 (nI t67) i76 i78, (ma 45, .inl (y 0, 14, .inl g45)), (ma 50, .inl (y 0, 3200, .inl g50)), (ma 60, .inl (y 1, 1700, .inr (.inl wz)))]) rfl ?_
      refine j_if_eqF (pc := 110) C (tgt := 156) d_Model_told_110 (by decide) (by decide) ?_
      refine j_aload_n (pc := 113) C d_Model_told_113 rfl 2 rfl ?_
      refine j_iload (pc := 114) C d_Model_told_114 0 rfl ?_
      refine j_bipush (pc := 116) C (v := 7) d_Model_told_116 (by decide) ?_
      refine j_icmp_neT (pc := 118) C (tgt := 126) d_Model_told_118 (by decide) (by decide) ?_
      refine j_iload (pc := 126) C d_Model_told_126 0 rfl ?_
      refine j_bipush (pc := 128) C (v := 8) d_Model_told_128 (by decide) ?_
      refine j_icmp_neT (pc := 130) C (tgt := 147) d_Model_told_130 (by decide) (by decide) ?_
      refine j_iload (pc := 147) C d_Model_told_147 6 rfl ?_
      refine j_i2l (pc := 149) C (v := zL (((wq : Nat)) : Int)) d_Model_told_149 (nI_zL (n := wq) (by omega)) ?_
      refine j_callVv (pc := 150) C (c_mputs l D y mo ma t1 i2 i3 i4 i5 i6 i7 i8 i42 i49 i51 i53 i54 i59 pz i64 i66 t67 i76 i78 wz (((wq : Nat)) : Int) vs hs_ hp_ (by omega)) kw_Model_394 kv_Model_puts 0 10 rfl rfl ⟨by decide, by decide⟩ ⟨by decide, by decide⟩ (wr := [(ma 45, .inl (y 0, 14, .inl g45)), (ma 50, .inl (y 0, 3200, .inl g50))]) [0, 3] [1, 2] rfl rfl (by decide) (by decide) (by decide) (As := [.long (zL (((wq : Nat)) : Int))]) (rest := []) rfl (nb rfl) rfl d_Model_told_150 (fun u93 hu94 => ?_)
      have xh95 := hu94
      refine j_ws (ws' := [(ma 45, .inl (y 0, 14, .inl g45)), (ma 50, .inl (y 0, 3200, .inl g50)), MB mo ma (nI t1) i2 i3 i4 i5 i6 i7 i8 i42 i49 i51 i53 i54 i59 (nI (pz + 1)) i64 i66 (nI t67) i76 i78, (ma 60, .inl (y 1, 1700, .inr (.inl u93)))]) rfl ?_
      refine j_goto (pc := 153) C (tgt := 162) d_Model_told_153 (by decide) ?_
      refine j_iinc (pc := 162) C (v := nI (iz + 1)) (lv' := [(5, .int (nI (iz + 1))), (6, .int 9), (0, .ref mo), (1, .int (nI qa)), (2, .int (nI qb)), (3, .int (nI dq)), (4, .int (nI wq))]) d_Model_told_162 1 rfl (nI_add _ _) (by decide) rfl ?_
      refine j_goto (pc := 165) C (tgt := 8) d_Model_told_165 (by decide) ?_
      refine j_sub (ws' := [MB mo ma (nI t1) i2 i3 i4 i5 i6 i7 i8 i42 i49 i51 i53 i54 i59 (nI (pz + 1)) i64 i66 (nI t67) i76 i78, (ma 45, .inl (y 0, 14, .inl g45)), (ma 50, .inl (y 0, 3200, .inl g50)), (ma 60, .inl (y 1, 1700, .inr (.inl u93)))]) [2, 0, 1, 3] rfl (by decide) ?_
      refine j_locs (lv' := [(5, .int (nI (iz + 1))), (0, .ref mo), (1, .int (nI qa)), (2, .int (nI qb)), (3, .int (nI dq)), (4, .int (nI wq))]) [0, 2, 3, 4, 5, 6] rfl ?_
      exact ih76 ((iz + 1), (pz + 1), u93, (((wq : Nat) : Int) :: vs), (false :: ts)) ⟨(show qa ≤ (iz + 1) by omega), (show (iz + 1) ≤ qb by omega), (show (pz + 1) = (((wq : Nat) : Int) :: vs).length by rw [List.length_cons]; omega), xh95, hr2, hok, (evr_e he_ (by omega) hbl hcc rfl)⟩ (show qb - (iz + 1) < qb - iz by omega)
    · have bcs : cc = 1 ∨ cc = 2 ∨ cc = 3 ∨ cc = 4 ∨ cc = 5 ∨ cc = 6 := by omega
      rcases bcs with rfl | rfl | rfl | rfl | rfl | rfl
      · refine j_st (st' := [.int 1]) rfl ?_
        obtain ⟨b, rb, rfl, hbv, hvr⟩ := rv_1 hv_
        obtain ⟨a, rs, rfl, hav, hvs⟩ := rv_1 hvr
        simp only [List.length_cons] at hp_ hrl hln
        obtain ⟨a1, a2, _⟩ := id hav
        obtain ⟨b1_, b2_, _⟩ := id hbv
        have xh96 : STL wz (b :: a :: rs) := hs_
        refine j_istore (pc := 25) C (lv' := [(6, .int 1), (5, .int (nI iz)), (0, .ref mo), (1, .int (nI qa)), (2, .int (nI qb)), (3, .int (nI dq)), (4, .int (nI wq))]) d_Model_told_25 (by decide) rfl ?_
        refine j_iload (pc := 27) C d_Model_told_27 0 rfl ?_
        refine j_sipush (pc := 29) C (v := 1000) d_Model_told_29 (by decide) ?_
        refine j_icmp_ltT (pc := 32) C (tgt := 49) d_Model_told_32 (by decide) (by decide) ?_
        refine j_iload (pc := 49) C d_Model_told_49 0 rfl ?_
        refine j_bipush (pc := 51) C (v := 17) d_Model_told_51 (by decide) ?_
        refine j_icmp_neT (pc := 53) C (tgt := 64) d_Model_told_53 (by decide) (by decide) ?_
        refine j_iload (pc := 64) C d_Model_told_64 0 rfl ?_
        refine j_bipush (pc := 66) C (v := 16) d_Model_told_66 (by decide) ?_
        refine j_icmp_neT (pc := 68) C (tgt := 98) d_Model_told_68 (by decide) (by decide) ?_
        refine j_iload (pc := 98) C d_Model_told_98 0 rfl ?_
        refine j_i2l (pc := 100) C (v := 1) d_Model_told_100 (by decide) ?_
        refine j_ldc2 (pc := 101) C (v := 7) (mt_7 (List.mem_of_getElem? (i := 148) rfl) rfl) d_Model_told_101 ?_
        refine j_ldc2 (pc := 104) C (v := 9) (mt_7 (List.mem_of_getElem? (i := 149) rfl) rfl) d_Model_told_104 ?_
        refine j_callSi (pc := 107) C (c_misIn79_1 l D y ) kw_Model_240 ks_Model_isIn ⟨by decide, by decide⟩ ⟨by decide, by decide⟩ (wr := [MB mo ma (nI t1) i2 i3 i4 i5 i6 i7 i8 i42 i49 i51 i53 i54 i59 (nI pz) i64 i66 (nI t67) i76 i78, (ma 45, .inl (y 0, 14, .inl g45)), (ma 50, .inl (y 0, 3200, .inl g50)), (ma 60, .inl (y 1, 1700, .inr (.inl wz)))]) [] [0, 1, 2, 3] rfl rfl (by decide) (by decide) (by decide) (As := [.long 1, .long 7, .long 9]) (rest := []) rfl (nb rfl) rfl d_Model_told_107 (fun r97 _ hr97 => ?_)
        obtain rfl := hr97
        refine j_ws (ws' := [MB mo ma (nI t1) i2 i3 i4 i5 i6 i7 i8 i42 i49 i51 i53 i54 i59 (nI pz) i64 i66 (nI t67) i76 i78, (ma 45, .inl (y 0, 14, .inl g45)), (ma 50, .inl (y 0, 3200, .inl g50)), (ma 60, .inl (y 1, 1700, .inr (.inl wz)))]) rfl ?_
        refine j_if_eqT (pc := 110) C (tgt := 156) d_Model_told_110 (by decide) (by decide) ?_
        refine j_aload_n (pc := 156) C d_Model_told_156 rfl 2 rfl ?_
        refine j_iload (pc := 157) C d_Model_told_157 0 rfl ?_
        refine j_callVv (pc := 159) C (c_mjoins_1 l D y mo ma t1 i2 i3 i4 i5 i6 i7 i8 i42 i49 i51 i53 i54 i59 pz i64 i66 t67 i76 i78 wz ( a ) (b ) ( rs) (by omega) (by omega) (by omega) (by omega) xh96 (by omega) (by omega)) kw_Model_406 kv_Model_joins 0 10 rfl rfl ⟨by decide, by decide⟩ ⟨by decide, by decide⟩ (wr := [(ma 45, .inl (y 0, 14, .inl g45)), (ma 50, .inl (y 0, 3200, .inl g50))]) [0, 3] [1, 2] rfl rfl (by decide) (by decide) (by decide) (As := [.int 1]) (rest := []) rfl (nb rfl) rfl d_Model_told_159 (fun u98 hu99 => ?_)
        have xh100 := hu99
        refine j_ws (ws' := [(ma 45, .inl (y 0, 14, .inl g45)), (ma 50, .inl (y 0, 3200, .inl g50)), MB mo ma (nI t1) i2 i3 i4 i5 i6 i7 i8 i42 i49 i51 i53 i54 i59 (nI (pz - 1)) i64 i66 (nI t67) i76 i78, (ma 60, .inl (y 1, 1700, .inr (.inl u98)))]) rfl ?_
        refine j_iinc (pc := 162) C (v := nI (iz + 1)) (lv' := [(5, .int (nI (iz + 1))), (6, .int 1), (0, .ref mo), (1, .int (nI qa)), (2, .int (nI qb)), (3, .int (nI dq)), (4, .int (nI wq))]) d_Model_told_162 1 rfl (nI_add _ _) (by decide) rfl ?_
        refine j_goto (pc := 165) C (tgt := 8) d_Model_told_165 (by decide) ?_
        refine j_sub (ws' := [MB mo ma (nI t1) i2 i3 i4 i5 i6 i7 i8 i42 i49 i51 i53 i54 i59 (nI (pz - 1)) i64 i66 (nI t67) i76 i78, (ma 45, .inl (y 0, 14, .inl g45)), (ma 50, .inl (y 0, 3200, .inl g50)), (ma 60, .inl (y 1, 1700, .inr (.inl u98)))]) [2, 0, 1, 3] rfl (by decide) ?_
        refine j_locs (lv' := [(5, .int (nI (iz + 1))), (0, .ref mo), (1, .int (nI qa)), (2, .int (nI qb)), (3, .int (nI dq)), (4, .int (nI wq))]) [0, 2, 3, 4, 5, 6] rfl ?_
        exact ih76 ((iz + 1), (pz - 1), u98, (opE 1 a b :: rs), (false :: rt)) ⟨(show qa ≤ (iz + 1) by omega), (show (iz + 1) ≤ qb by omega), (show (pz - 1) = (opE 1 a b :: rs).length by rw [List.length_cons]; omega), xh100, hr2, (show RV (false :: rt) (opE 1 a b :: rs) from hok), (evr_e he_ (by omega) hbl hcc (show (opE 1 a b :: rs) = evC dq (wq / gt.s 1) wq 1 (b :: a :: rs) from rfl))⟩ (show qb - (iz + 1) < qb - iz by omega)
      · refine j_st (st' := [.int 2]) rfl ?_
        obtain ⟨b, rb, rfl, hbv, hvr⟩ := rv_1 hv_
        obtain ⟨a, rs, rfl, hav, hvs⟩ := rv_1 hvr
        simp only [List.length_cons] at hp_ hrl hln
        obtain ⟨a1, a2, _⟩ := id hav
        obtain ⟨b1_, b2_, _⟩ := id hbv
        have xh101 : STL wz (b :: a :: rs) := hs_
        refine j_istore (pc := 25) C (lv' := [(6, .int 2), (5, .int (nI iz)), (0, .ref mo), (1, .int (nI qa)), (2, .int (nI qb)), (3, .int (nI dq)), (4, .int (nI wq))]) d_Model_told_25 (by decide) rfl ?_
        refine j_iload (pc := 27) C d_Model_told_27 0 rfl ?_
        refine j_sipush (pc := 29) C (v := 1000) d_Model_told_29 (by decide) ?_
        refine j_icmp_ltT (pc := 32) C (tgt := 49) d_Model_told_32 (by decide) (by decide) ?_
        refine j_iload (pc := 49) C d_Model_told_49 0 rfl ?_
        refine j_bipush (pc := 51) C (v := 17) d_Model_told_51 (by decide) ?_
        refine j_icmp_neT (pc := 53) C (tgt := 64) d_Model_told_53 (by decide) (by decide) ?_
        refine j_iload (pc := 64) C d_Model_told_64 0 rfl ?_
        refine j_bipush (pc := 66) C (v := 16) d_Model_told_66 (by decide) ?_
        refine j_icmp_neT (pc := 68) C (tgt := 98) d_Model_told_68 (by decide) (by decide) ?_
        refine j_iload (pc := 98) C d_Model_told_98 0 rfl ?_
        refine j_i2l (pc := 100) C (v := 2) d_Model_told_100 (by decide) ?_
        refine j_ldc2 (pc := 101) C (v := 7) (mt_7 (List.mem_of_getElem? (i := 148) rfl) rfl) d_Model_told_101 ?_
        refine j_ldc2 (pc := 104) C (v := 9) (mt_7 (List.mem_of_getElem? (i := 149) rfl) rfl) d_Model_told_104 ?_
        refine j_callSi (pc := 107) C (c_misIn79_2 l D y ) kw_Model_240 ks_Model_isIn ⟨by decide, by decide⟩ ⟨by decide, by decide⟩ (wr := [MB mo ma (nI t1) i2 i3 i4 i5 i6 i7 i8 i42 i49 i51 i53 i54 i59 (nI pz) i64 i66 (nI t67) i76 i78, (ma 45, .inl (y 0, 14, .inl g45)), (ma 50, .inl (y 0, 3200, .inl g50)), (ma 60, .inl (y 1, 1700, .inr (.inl wz)))]) [] [0, 1, 2, 3] rfl rfl (by decide) (by decide) (by decide) (As := [.long 2, .long 7, .long 9]) (rest := []) rfl (nb rfl) rfl d_Model_told_107 (fun r102 _ hr102 => ?_)
        obtain rfl := hr102
        refine j_ws (ws' := [MB mo ma (nI t1) i2 i3 i4 i5 i6 i7 i8 i42 i49 i51 i53 i54 i59 (nI pz) i64 i66 (nI t67) i76 i78, (ma 45, .inl (y 0, 14, .inl g45)), (ma 50, .inl (y 0, 3200, .inl g50)), (ma 60, .inl (y 1, 1700, .inr (.inl wz)))]) rfl ?_
        refine j_if_eqT (pc := 110) C (tgt := 156) d_Model_told_110 (by decide) (by decide) ?_
        refine j_aload_n (pc := 156) C d_Model_told_156 rfl 2 rfl ?_
        refine j_iload (pc := 157) C d_Model_told_157 0 rfl ?_
        refine j_callVv (pc := 159) C (c_mjoins_2 l D y mo ma t1 i2 i3 i4 i5 i6 i7 i8 i42 i49 i51 i53 i54 i59 pz i64 i66 t67 i76 i78 wz ( a ) (b ) ( rs) (by omega) (by omega) (by omega) (by omega) xh101 (by omega) (by omega)) kw_Model_406 kv_Model_joins 0 10 rfl rfl ⟨by decide, by decide⟩ ⟨by decide, by decide⟩ (wr := [(ma 45, .inl (y 0, 14, .inl g45)), (ma 50, .inl (y 0, 3200, .inl g50))]) [0, 3] [1, 2] rfl rfl (by decide) (by decide) (by decide) (As := [.int 2]) (rest := []) rfl (nb rfl) rfl d_Model_told_159 (fun u103 hu104 => ?_)
        have xh105 := hu104
        refine j_ws (ws' := [(ma 45, .inl (y 0, 14, .inl g45)), (ma 50, .inl (y 0, 3200, .inl g50)), MB mo ma (nI t1) i2 i3 i4 i5 i6 i7 i8 i42 i49 i51 i53 i54 i59 (nI (pz - 1)) i64 i66 (nI t67) i76 i78, (ma 60, .inl (y 1, 1700, .inr (.inl u103)))]) rfl ?_
        refine j_iinc (pc := 162) C (v := nI (iz + 1)) (lv' := [(5, .int (nI (iz + 1))), (6, .int 2), (0, .ref mo), (1, .int (nI qa)), (2, .int (nI qb)), (3, .int (nI dq)), (4, .int (nI wq))]) d_Model_told_162 1 rfl (nI_add _ _) (by decide) rfl ?_
        refine j_goto (pc := 165) C (tgt := 8) d_Model_told_165 (by decide) ?_
        refine j_sub (ws' := [MB mo ma (nI t1) i2 i3 i4 i5 i6 i7 i8 i42 i49 i51 i53 i54 i59 (nI (pz - 1)) i64 i66 (nI t67) i76 i78, (ma 45, .inl (y 0, 14, .inl g45)), (ma 50, .inl (y 0, 3200, .inl g50)), (ma 60, .inl (y 1, 1700, .inr (.inl u103)))]) [2, 0, 1, 3] rfl (by decide) ?_
        refine j_locs (lv' := [(5, .int (nI (iz + 1))), (0, .ref mo), (1, .int (nI qa)), (2, .int (nI qb)), (3, .int (nI dq)), (4, .int (nI wq))]) [0, 2, 3, 4, 5, 6] rfl ?_
        exact ih76 ((iz + 1), (pz - 1), u103, (opE 2 a b :: rs), (false :: rt)) ⟨(show qa ≤ (iz + 1) by omega), (show (iz + 1) ≤ qb by omega), (show (pz - 1) = (opE 2 a b :: rs).length by rw [List.length_cons]; omega), xh105, hr2, (show RV (false :: rt) (opE 2 a b :: rs) from hok), (evr_e he_ (by omega) hbl hcc (show (opE 2 a b :: rs) = evC dq (wq / gt.s 1) wq 2 (b :: a :: rs) from rfl))⟩ (show qb - (iz + 1) < qb - iz by omega)
      · refine j_st (st' := [.int 3]) rfl ?_
        obtain ⟨b, rb, rfl, hbv, hvr⟩ := rv_1 hv_
        obtain ⟨a, rs, rfl, hav, hvs⟩ := rv_1 hvr
        simp only [List.length_cons] at hp_ hrl hln
        obtain ⟨a1, a2, _⟩ := id hav
        obtain ⟨b1_, b2_, _⟩ := id hbv
        have xh106 : STL wz (b :: a :: rs) := hs_
        refine j_istore (pc := 25) C (lv' := [(6, .int 3), (5, .int (nI iz)), (0, .ref mo), (1, .int (nI qa)), (2, .int (nI qb)), (3, .int (nI dq)), (4, .int (nI wq))]) d_Model_told_25 (by decide) rfl ?_
        refine j_iload (pc := 27) C d_Model_told_27 0 rfl ?_
        refine j_sipush (pc := 29) C (v := 1000) d_Model_told_29 (by decide) ?_
        refine j_icmp_ltT (pc := 32) C (tgt := 49) d_Model_told_32 (by decide) (by decide) ?_
        refine j_iload (pc := 49) C d_Model_told_49 0 rfl ?_
        refine j_bipush (pc := 51) C (v := 17) d_Model_told_51 (by decide) ?_
        refine j_icmp_neT (pc := 53) C (tgt := 64) d_Model_told_53 (by decide) (by decide) ?_
        refine j_iload (pc := 64) C d_Model_told_64 0 rfl ?_
        refine j_bipush (pc := 66) C (v := 16) d_Model_told_66 (by decide) ?_
        refine j_icmp_neT (pc := 68) C (tgt := 98) d_Model_told_68 (by decide) (by decide) ?_
        refine j_iload (pc := 98) C d_Model_told_98 0 rfl ?_
        refine j_i2l (pc := 100) C (v := 3) d_Model_told_100 (by decide) ?_
        refine j_ldc2 (pc := 101) C (v := 7) (mt_7 (List.mem_of_getElem? (i := 148) rfl) rfl) d_Model_told_101 ?_
        refine j_ldc2 (pc := 104) C (v := 9) (mt_7 (List.mem_of_getElem? (i := 149) rfl) rfl) d_Model_told_104 ?_
        refine j_callSi (pc := 107) C (c_misIn79_3 l D y ) kw_Model_240 ks_Model_isIn ⟨by decide, by decide⟩ ⟨by decide, by decide⟩ (wr := [MB mo ma (nI t1) i2 i3 i4 i5 i6 i7 i8 i42 i49 i51 i53 i54 i59 (nI pz) i64 i66 (nI t67) i76 i78, (ma 45, .inl (y 0, 14, .inl g45)), (ma 50, .inl (y 0, 3200, .inl g50)), (ma 60, .inl (y 1, 1700, .inr (.inl wz)))]) [] [0, 1, 2, 3] rfl rfl (by decide) (by decide) (by decide) (As := [.long 3, .long 7, .long 9]) (rest := []) rfl (nb rfl) rfl d_Model_told_107 (fun r107 _ hr107 => ?_)
        obtain rfl := hr107
        refine j_ws (ws' := [MB mo ma (nI t1) i2 i3 i4 i5 i6 i7 i8 i42 i49 i51 i53 i54 i59 (nI pz) i64 i66 (nI t67) i76 i78, (ma 45, .inl (y 0, 14, .inl g45)), (ma 50, .inl (y 0, 3200, .inl g50)), (ma 60, .inl (y 1, 1700, .inr (.inl wz)))]) rfl ?_
        refine j_if_eqT (pc := 110) C (tgt := 156) d_Model_told_110 (by decide) (by decide) ?_
        refine j_aload_n (pc := 156) C d_Model_told_156 rfl 2 rfl ?_
        refine j_iload (pc := 157) C d_Model_told_157 0 rfl ?_
        refine j_callVv (pc := 159) C (c_mjoins_3 l D y mo ma t1 i2 i3 i4 i5 i6 i7 i8 i42 i49 i51 i53 i54 i59 pz i64 i66 t67 i76 i78 wz ( a ) (b ) ( rs) (by omega) (by omega) (by omega) (by omega) xh106 (by omega) (by omega)) kw_Model_406 kv_Model_joins 0 10 rfl rfl ⟨by decide, by decide⟩ ⟨by decide, by decide⟩ (wr := [(ma 45, .inl (y 0, 14, .inl g45)), (ma 50, .inl (y 0, 3200, .inl g50))]) [0, 3] [1, 2] rfl rfl (by decide) (by decide) (by decide) (As := [.int 3]) (rest := []) rfl (nb rfl) rfl d_Model_told_159 (fun u108 hu109 => ?_)
        have xh110 := hu109
        refine j_ws (ws' := [(ma 45, .inl (y 0, 14, .inl g45)), (ma 50, .inl (y 0, 3200, .inl g50)), MB mo ma (nI t1) i2 i3 i4 i5 i6 i7 i8 i42 i49 i51 i53 i54 i59 (nI (pz - 1)) i64 i66 (nI t67) i76 i78, (ma 60, .inl (y 1, 1700, .inr (.inl u108)))]) rfl ?_
        refine j_iinc (pc := 162) C (v := nI (iz + 1)) (lv' := [(5, .int (nI (iz + 1))), (6, .int 3), (0, .ref mo), (1, .int (nI qa)), (2, .int (nI qb)), (3, .int (nI dq)), (4, .int (nI wq))]) d_Model_told_162 1 rfl (nI_add _ _) (by decide) rfl ?_
        refine j_goto (pc := 165) C (tgt := 8) d_Model_told_165 (by decide) ?_
        refine j_sub (ws' := [MB mo ma (nI t1) i2 i3 i4 i5 i6 i7 i8 i42 i49 i51 i53 i54 i59 (nI (pz - 1)) i64 i66 (nI t67) i76 i78, (ma 45, .inl (y 0, 14, .inl g45)), (ma 50, .inl (y 0, 3200, .inl g50)), (ma 60, .inl (y 1, 1700, .inr (.inl u108)))]) [2, 0, 1, 3] rfl (by decide) ?_
        refine j_locs (lv' := [(5, .int (nI (iz + 1))), (0, .ref mo), (1, .int (nI qa)), (2, .int (nI qb)), (3, .int (nI dq)), (4, .int (nI wq))]) [0, 2, 3, 4, 5, 6] rfl ?_
        exact ih76 ((iz + 1), (pz - 1), u108, (opE 3 a b :: rs), (false :: rt)) ⟨(show qa ≤ (iz + 1) by omega), (show (iz + 1) ≤ qb by omega), (show (pz - 1) = (opE 3 a b :: rs).length by rw [List.length_cons]; omega), xh110, hr2, (show RV (false :: rt) (opE 3 a b :: rs) from hok), (evr_e he_ (by omega) hbl hcc (show (opE 3 a b :: rs) = evC dq (wq / gt.s 1) wq 3 (b :: a :: rs) from rfl))⟩ (show qb - (iz + 1) < qb - iz by omega)
      · refine j_st (st' := [.int 4]) rfl ?_
        obtain ⟨b, rb, rfl, hbv, hvr⟩ := rv_1 hv_
        obtain ⟨a, rs, rfl, hav, hvs⟩ := rv_1 hvr
        simp only [List.length_cons] at hp_ hrl hln
        obtain ⟨a1, a2, _⟩ := id hav
        obtain ⟨b1_, b2_, _⟩ := id hbv
        have xh111 : STL wz (b :: a :: rs) := hs_
        refine j_istore (pc := 25) C (lv' := [(6, .int 4), (5, .int (nI iz)), (0, .ref mo), (1, .int (nI qa)), (2, .int (nI qb)), (3, .int (nI dq)), (4, .int (nI wq))]) d_Model_told_25 (by decide) rfl ?_
        refine j_iload (pc := 27) C d_Model_told_27 0 rfl ?_
        refine j_sipush (pc := 29) C (v := 1000) d_Model_told_29 (by decide) ?_
        refine j_icmp_ltT (pc := 32) C (tgt := 49) d_Model_told_32 (by decide) (by decide) ?_
        refine j_iload (pc := 49) C d_Model_told_49 0 rfl ?_
        refine j_bipush (pc := 51) C (v := 17) d_Model_told_51 (by decide) ?_
        refine j_icmp_neT (pc := 53) C (tgt := 64) d_Model_told_53 (by decide) (by decide) ?_
        refine j_iload (pc := 64) C d_Model_told_64 0 rfl ?_
        refine j_bipush (pc := 66) C (v := 16) d_Model_told_66 (by decide) ?_
        refine j_icmp_neT (pc := 68) C (tgt := 98) d_Model_told_68 (by decide) (by decide) ?_
        refine j_iload (pc := 98) C d_Model_told_98 0 rfl ?_
        refine j_i2l (pc := 100) C (v := 4) d_Model_told_100 (by decide) ?_
        refine j_ldc2 (pc := 101) C (v := 7) (mt_7 (List.mem_of_getElem? (i := 148) rfl) rfl) d_Model_told_101 ?_
        refine j_ldc2 (pc := 104) C (v := 9) (mt_7 (List.mem_of_getElem? (i := 149) rfl) rfl) d_Model_told_104 ?_
        refine j_callSi (pc := 107) C (c_misIn79_4 l D y ) kw_Model_240 ks_Model_isIn ⟨by decide, by decide⟩ ⟨by decide, by decide⟩ (wr := [MB mo ma (nI t1) i2 i3 i4 i5 i6 i7 i8 i42 i49 i51 i53 i54 i59 (nI pz) i64 i66 (nI t67) i76 i78, (ma 45, .inl (y 0, 14, .inl g45)), (ma 50, .inl (y 0, 3200, .inl g50)), (ma 60, .inl (y 1, 1700, .inr (.inl wz)))]) [] [0, 1, 2, 3] rfl rfl (by decide) (by decide) (by decide) (As := [.long 4, .long 7, .long 9]) (rest := []) rfl (nb rfl) rfl d_Model_told_107 (fun r112 _ hr112 => ?_)
        obtain rfl := hr112
        refine j_ws (ws' := [MB mo ma (nI t1) i2 i3 i4 i5 i6 i7 i8 i42 i49 i51 i53 i54 i59 (nI pz) i64 i66 (nI t67) i76 i78, (ma 45, .inl (y 0, 14, .inl g45)), (ma 50, .inl (y 0, 3200, .inl g50)), (ma 60, .inl (y 1, 1700, .inr (.inl wz)))]) rfl ?_
        refine j_if_eqT (pc := 110) C (tgt := 156) d_Model_told_110 (by decide) (by decide) ?_
        refine j_aload_n (pc := 156) C d_Model_told_156 rfl 2 rfl ?_
        refine j_iload (pc := 157) C d_Model_told_157 0 rfl ?_
        refine j_callVv (pc := 159) C (c_mjoins_4 l D y mo ma t1 i2 i3 i4 i5 i6 i7 i8 i42 i49 i51 i53 i54 i59 pz i64 i66 t67 i76 i78 wz ( a ) (b ) ( rs) (by omega) (by omega) (by omega) (by omega) xh111 (by omega) (by omega)) kw_Model_406 kv_Model_joins 0 10 rfl rfl ⟨by decide, by decide⟩ ⟨by decide, by decide⟩ (wr := [(ma 45, .inl (y 0, 14, .inl g45)), (ma 50, .inl (y 0, 3200, .inl g50))]) [0, 3] [1, 2] rfl rfl (by decide) (by decide) (by decide) (As := [.int 4]) (rest := []) rfl (nb rfl) rfl d_Model_told_159 (fun u113 hu114 => ?_)
        have xh115 := hu114
        refine j_ws (ws' := [(ma 45, .inl (y 0, 14, .inl g45)), (ma 50, .inl (y 0, 3200, .inl g50)), MB mo ma (nI t1) i2 i3 i4 i5 i6 i7 i8 i42 i49 i51 i53 i54 i59 (nI (pz - 1)) i64 i66 (nI t67) i76 i78, (ma 60, .inl (y 1, 1700, .inr (.inl u113)))]) rfl ?_
        refine j_iinc (pc := 162) C (v := nI (iz + 1)) (lv' := [(5, .int (nI (iz + 1))), (6, .int 4), (0, .ref mo), (1, .int (nI qa)), (2, .int (nI qb)), (3, .int (nI dq)), (4, .int (nI wq))]) d_Model_told_162 1 rfl (nI_add _ _) (by decide) rfl ?_
        refine j_goto (pc := 165) C (tgt := 8) d_Model_told_165 (by decide) ?_
        refine j_sub (ws' := [MB mo ma (nI t1) i2 i3 i4 i5 i6 i7 i8 i42 i49 i51 i53 i54 i59 (nI (pz - 1)) i64 i66 (nI t67) i76 i78, (ma 45, .inl (y 0, 14, .inl g45)), (ma 50, .inl (y 0, 3200, .inl g50)), (ma 60, .inl (y 1, 1700, .inr (.inl u113)))]) [2, 0, 1, 3] rfl (by decide) ?_
        refine j_locs (lv' := [(5, .int (nI (iz + 1))), (0, .ref mo), (1, .int (nI qa)), (2, .int (nI qb)), (3, .int (nI dq)), (4, .int (nI wq))]) [0, 2, 3, 4, 5, 6] rfl ?_
        exact ih76 ((iz + 1), (pz - 1), u113, (opE 4 a b :: rs), (false :: rt)) ⟨(show qa ≤ (iz + 1) by omega), (show (iz + 1) ≤ qb by omega), (show (pz - 1) = (opE 4 a b :: rs).length by rw [List.length_cons]; omega), xh115, hr2, (show RV (false :: rt) (opE 4 a b :: rs) from hok), (evr_e he_ (by omega) hbl hcc (show (opE 4 a b :: rs) = evC dq (wq / gt.s 1) wq 4 (b :: a :: rs) from rfl))⟩ (show qb - (iz + 1) < qb - iz by omega)
      · refine j_st (st' := [.int 5]) rfl ?_
        obtain ⟨b, rb, rfl, hbv, hvr⟩ := rv_1 hv_
        obtain ⟨a, rs, rfl, hav, hvs⟩ := rv_1 hvr
        simp only [List.length_cons] at hp_ hrl hln
        obtain ⟨a1, a2, _⟩ := id hav
        obtain ⟨b1_, b2_, _⟩ := id hbv
        have xh116 : STL wz (b :: a :: rs) := hs_
        refine j_istore (pc := 25) C (lv' := [(6, .int 5), (5, .int (nI iz)), (0, .ref mo), (1, .int (nI qa)), (2, .int (nI qb)), (3, .int (nI dq)), (4, .int (nI wq))]) d_Model_told_25 (by decide) rfl ?_
        refine j_iload (pc := 27) C d_Model_told_27 0 rfl ?_
        refine j_sipush (pc := 29) C (v := 1000) d_Model_told_29 (by decide) ?_
        refine j_icmp_ltT (pc := 32) C (tgt := 49) d_Model_told_32 (by decide) (by decide) ?_
        refine j_iload (pc := 49) C d_Model_told_49 0 rfl ?_
        refine j_bipush (pc := 51) C (v := 17) d_Model_told_51 (by decide) ?_
        refine j_icmp_neT (pc := 53) C (tgt := 64) d_Model_told_53 (by decide) (by decide) ?_
        refine j_iload (pc := 64) C d_Model_told_64 0 rfl ?_
        refine j_bipush (pc := 66) C (v := 16) d_Model_told_66 (by decide) ?_
        refine j_icmp_neT (pc := 68) C (tgt := 98) d_Model_told_68 (by decide) (by decide) ?_
        refine j_iload (pc := 98) C d_Model_told_98 0 rfl ?_
        refine j_i2l (pc := 100) C (v := 5) d_Model_told_100 (by decide) ?_
        refine j_ldc2 (pc := 101) C (v := 7) (mt_7 (List.mem_of_getElem? (i := 148) rfl) rfl) d_Model_told_101 ?_
        refine j_ldc2 (pc := 104) C (v := 9) (mt_7 (List.mem_of_getElem? (i := 149) rfl) rfl) d_Model_told_104 ?_
        refine j_callSi (pc := 107) C (c_misIn79_5 l D y ) kw_Model_240 ks_Model_isIn ⟨by decide, by decide⟩ ⟨by decide, by decide⟩ (wr := [MB mo ma (nI t1) i2 i3 i4 i5 i6 i7 i8 i42 i49 i51 i53 i54 i59 (nI pz) i64 i66 (nI t67) i76 i78, (ma 45, .inl (y 0, 14, .inl g45)), (ma 50, .inl (y 0, 3200, .inl g50)), (ma 60, .inl (y 1, 1700, .inr (.inl wz)))]) [] [0, 1, 2, 3] rfl rfl (by decide) (by decide) (by decide) (As := [.long 5, .long 7, .long 9]) (rest := []) rfl (nb rfl) rfl d_Model_told_107 (fun r117 _ hr117 => ?_)
        obtain rfl := hr117
        refine j_ws (ws' := [MB mo ma (nI t1) i2 i3 i4 i5 i6 i7 i8 i42 i49 i51 i53 i54 i59 (nI pz) i64 i66 (nI t67) i76 i78, (ma 45, .inl (y 0, 14, .inl g45)), (ma 50, .inl (y 0, 3200, .inl g50)), (ma 60, .inl (y 1, 1700, .inr (.inl wz)))]) rfl ?_
        refine j_if_eqT (pc := 110) C (tgt := 156) d_Model_told_110 (by decide) (by decide) ?_
        refine j_aload_n (pc := 156) C d_Model_told_156 rfl 2 rfl ?_
        refine j_iload (pc := 157) C d_Model_told_157 0 rfl ?_
        refine j_callVv (pc := 159) C (c_mjoins_5 l D y mo ma t1 i2 i3 i4 i5 i6 i7 i8 i42 i49 i51 i53 i54 i59 pz i64 i66 t67 i76 i78 wz ( a ) (b ) ( rs) (by omega) (by omega) (by omega) (by omega) xh116 (by omega) (by omega)) kw_Model_406 kv_Model_joins 0 10 rfl rfl ⟨by decide, by decide⟩ ⟨by decide, by decide⟩ (wr := [(ma 45, .inl (y 0, 14, .inl g45)), (ma 50, .inl (y 0, 3200, .inl g50))]) [0, 3] [1, 2] rfl rfl (by decide) (by decide) (by decide) (As := [.int 5]) (rest := []) rfl (nb rfl) rfl d_Model_told_159 (fun u118 hu119 => ?_)
        have xh120 := hu119
        refine j_ws (ws' := [(ma 45, .inl (y 0, 14, .inl g45)), (ma 50, .inl (y 0, 3200, .inl g50)), MB mo ma (nI t1) i2 i3 i4 i5 i6 i7 i8 i42 i49 i51 i53 i54 i59 (nI (pz - 1)) i64 i66 (nI t67) i76 i78, (ma 60, .inl (y 1, 1700, .inr (.inl u118)))]) rfl ?_
        refine j_iinc (pc := 162) C (v := nI (iz + 1)) (lv' := [(5, .int (nI (iz + 1))), (6, .int 5), (0, .ref mo), (1, .int (nI qa)), (2, .int (nI qb)), (3, .int (nI dq)), (4, .int (nI wq))]) d_Model_told_162 1 rfl (nI_add _ _) (by decide) rfl ?_
        refine j_goto (pc := 165) C (tgt := 8) d_Model_told_165 (by decide) ?_
        refine j_sub (ws' := [MB mo ma (nI t1) i2 i3 i4 i5 i6 i7 i8 i42 i49 i51 i53 i54 i59 (nI (pz - 1)) i64 i66 (nI t67) i76 i78, (ma 45, .inl (y 0, 14, .inl g45)), (ma 50, .inl (y 0, 3200, .inl g50)), (ma 60, .inl (y 1, 1700, .inr (.inl u118)))]) [2, 0, 1, 3] rfl (by decide) ?_
        refine j_locs (lv' := [(5, .int (nI (iz + 1))), (0, .ref mo), (1, .int (nI qa)), (2, .int (nI qb)), (3, .int (nI dq)), (4, .int (nI wq))]) [0, 2, 3, 4, 5, 6] rfl ?_
        exact ih76 ((iz + 1), (pz - 1), u118, (opE 5 a b :: rs), (false :: rt)) ⟨(show qa ≤ (iz + 1) by omega), (show (iz + 1) ≤ qb by omega), (show (pz - 1) = (opE 5 a b :: rs).length by rw [List.length_cons]; omega), xh120, hr2, (show RV (false :: rt) (opE 5 a b :: rs) from hok), (evr_e he_ (by omega) hbl hcc (show (opE 5 a b :: rs) = evC dq (wq / gt.s 1) wq 5 (b :: a :: rs) from rfl))⟩ (show qb - (iz + 1) < qb - iz by omega)
      · refine j_st (st' := [.int 6]) rfl ?_
        obtain ⟨b, rb, rfl, hbv, hvr⟩ := rv_1 hv_
        obtain ⟨a, rs, rfl, hav, hvs⟩ := rv_1 hvr
        simp only [List.length_cons] at hp_ hrl hln
        obtain ⟨a1, a2, _⟩ := id hav
        obtain ⟨b1_, b2_, _⟩ := id hbv
        have xh121 : STL wz (b :: a :: rs) := hs_
        refine j_istore (pc := 25) C (lv' := [(6, .int 6), (5, .int (nI iz)), (0, .ref mo), (1, .int (nI qa)), (2, .int (nI qb)), (3, .int (nI dq)), (4, .int (nI wq))]) d_Model_told_25 (by decide) rfl ?_
        refine j_iload (pc := 27) C d_Model_told_27 0 rfl ?_
        refine j_sipush (pc := 29) C (v := 1000) d_Model_told_29 (by decide) ?_
        refine j_icmp_ltT (pc := 32) C (tgt := 49) d_Model_told_32 (by decide) (by decide) ?_
        refine j_iload (pc := 49) C d_Model_told_49 0 rfl ?_
        refine j_bipush (pc := 51) C (v := 17) d_Model_told_51 (by decide) ?_
        refine j_icmp_neT (pc := 53) C (tgt := 64) d_Model_told_53 (by decide) (by decide) ?_
        refine j_iload (pc := 64) C d_Model_told_64 0 rfl ?_
        refine j_bipush (pc := 66) C (v := 16) d_Model_told_66 (by decide) ?_
        refine j_icmp_neT (pc := 68) C (tgt := 98) d_Model_told_68 (by decide) (by decide) ?_
        refine j_iload (pc := 98) C d_Model_told_98 0 rfl ?_
        refine j_i2l (pc := 100) C (v := 6) d_Model_told_100 (by decide) ?_
        refine j_ldc2 (pc := 101) C (v := 7) (mt_7 (List.mem_of_getElem? (i := 148) rfl) rfl) d_Model_told_101 ?_
        refine j_ldc2 (pc := 104) C (v := 9) (mt_7 (List.mem_of_getElem? (i := 149) rfl) rfl) d_Model_told_104 ?_
        refine j_callSi (pc := 107) C (c_misIn79_6 l D y ) kw_Model_240 ks_Model_isIn ⟨by decide, by decide⟩ ⟨by decide, by decide⟩ (wr := [MB mo ma (nI t1) i2 i3 i4 i5 i6 i7 i8 i42 i49 i51 i53 i54 i59 (nI pz) i64 i66 (nI t67) i76 i78, (ma 45, .inl (y 0, 14, .inl g45)), (ma 50, .inl (y 0, 3200, .inl g50)), (ma 60, .inl (y 1, 1700, .inr (.inl wz)))]) [] [0, 1, 2, 3] rfl rfl (by decide) (by decide) (by decide) (As := [.long 6, .long 7, .long 9]) (rest := []) rfl (nb rfl) rfl d_Model_told_107 (fun r122 _ hr122 => ?_)
        obtain rfl := hr122
        refine j_ws (ws' := [MB mo ma (nI t1) i2 i3 i4 i5 i6 i7 i8 i42 i49 i51 i53 i54 i59 (nI pz) i64 i66 (nI t67) i76 i78, (ma 45, .inl (y 0, 14, .inl g45)), (ma 50, .inl (y 0, 3200, .inl g50)), (ma 60, .inl (y 1, 1700, .inr (.inl wz)))]) rfl ?_
        refine j_if_eqT (pc := 110) C (tgt := 156) d_Model_told_110 (by decide) (by decide) ?_
        refine j_aload_n (pc := 156) C d_Model_told_156 rfl 2 rfl ?_
        refine j_iload (pc := 157) C d_Model_told_157 0 rfl ?_
        refine j_callVv (pc := 159) C (c_mjoins_6 l D y mo ma t1 i2 i3 i4 i5 i6 i7 i8 i42 i49 i51 i53 i54 i59 pz i64 i66 t67 i76 i78 wz ( a ) (b ) ( rs) (by omega) (by omega) (by omega) (by omega) xh121 (by omega) (by omega)) kw_Model_406 kv_Model_joins 0 10 rfl rfl ⟨by decide, by decide⟩ ⟨by decide, by decide⟩ (wr := [(ma 45, .inl (y 0, 14, .inl g45)), (ma 50, .inl (y 0, 3200, .inl g50))]) [0, 3] [1, 2] rfl rfl (by decide) (by decide) (by decide) (As := [.int 6]) (rest := []) rfl (nb rfl) rfl d_Model_told_159 (fun u123 hu124 => ?_)
        have xh125 := hu124
        refine j_ws (ws' := [(ma 45, .inl (y 0, 14, .inl g45)), (ma 50, .inl (y 0, 3200, .inl g50)), MB mo ma (nI t1) i2 i3 i4 i5 i6 i7 i8 i42 i49 i51 i53 i54 i59 (nI (pz - 1)) i64 i66 (nI t67) i76 i78, (ma 60, .inl (y 1, 1700, .inr (.inl u123)))]) rfl ?_
        refine j_iinc (pc := 162) C (v := nI (iz + 1)) (lv' := [(5, .int (nI (iz + 1))), (6, .int 6), (0, .ref mo), (1, .int (nI qa)), (2, .int (nI qb)), (3, .int (nI dq)), (4, .int (nI wq))]) d_Model_told_162 1 rfl (nI_add _ _) (by decide) rfl ?_
        refine j_goto (pc := 165) C (tgt := 8) d_Model_told_165 (by decide) ?_
        refine j_sub (ws' := [MB mo ma (nI t1) i2 i3 i4 i5 i6 i7 i8 i42 i49 i51 i53 i54 i59 (nI (pz - 1)) i64 i66 (nI t67) i76 i78, (ma 45, .inl (y 0, 14, .inl g45)), (ma 50, .inl (y 0, 3200, .inl g50)), (ma 60, .inl (y 1, 1700, .inr (.inl u123)))]) [2, 0, 1, 3] rfl (by decide) ?_
        refine j_locs (lv' := [(5, .int (nI (iz + 1))), (0, .ref mo), (1, .int (nI qa)), (2, .int (nI qb)), (3, .int (nI dq)), (4, .int (nI wq))]) [0, 2, 3, 4, 5, 6] rfl ?_
        exact ih76 ((iz + 1), (pz - 1), u123, (opE 6 a b :: rs), (false :: rt)) ⟨(show qa ≤ (iz + 1) by omega), (show (iz + 1) ≤ qb by omega), (show (pz - 1) = (opE 6 a b :: rs).length by rw [List.length_cons]; omega), xh125, hr2, (show RV (false :: rt) (opE 6 a b :: rs) from hok), (evr_e he_ (by omega) hbl hcc (show (opE 6 a b :: rs) = evC dq (wq / gt.s 1) wq 6 (b :: a :: rs) from rfl))⟩ (show qb - (iz + 1) < qb - iz by omega)
    · have bcs : cc = 11 ∨ cc = 12 ∨ cc = 13 := by omega
      rcases bcs with rfl | rfl | rfl
      · refine j_st (st' := [.int 11]) rfl ?_
        obtain ⟨b, rb, rfl, hbv, hvr⟩ := rv_1 hv_
        obtain ⟨a, rs, rfl, hav, hvs⟩ := rv_1 hvr
        simp only [List.length_cons] at hp_ hrl hln
        obtain ⟨a1, a2, _⟩ := id hav
        obtain ⟨b1_, b2_, _⟩ := id hbv
        have xh126 : STL wz (b :: a :: rs) := hs_
        refine j_istore (pc := 25) C (lv' := [(6, .int 11), (5, .int (nI iz)), (0, .ref mo), (1, .int (nI qa)), (2, .int (nI qb)), (3, .int (nI dq)), (4, .int (nI wq))]) d_Model_told_25 (by decide) rfl ?_
        refine j_iload (pc := 27) C d_Model_told_27 0 rfl ?_
        refine j_sipush (pc := 29) C (v := 1000) d_Model_told_29 (by decide) ?_
        refine j_icmp_ltT (pc := 32) C (tgt := 49) d_Model_told_32 (by decide) (by decide) ?_
        refine j_iload (pc := 49) C d_Model_told_49 0 rfl ?_
        refine j_bipush (pc := 51) C (v := 17) d_Model_told_51 (by decide) ?_
        refine j_icmp_neT (pc := 53) C (tgt := 64) d_Model_told_53 (by decide) (by decide) ?_
        refine j_iload (pc := 64) C d_Model_told_64 0 rfl ?_
        refine j_bipush (pc := 66) C (v := 16) d_Model_told_66 (by decide) ?_
        refine j_icmp_neT (pc := 68) C (tgt := 98) d_Model_told_68 (by decide) (by decide) ?_
        refine j_iload (pc := 98) C d_Model_told_98 0 rfl ?_
        refine j_i2l (pc := 100) C (v := 11) d_Model_told_100 (by decide) ?_
        refine j_ldc2 (pc := 101) C (v := 7) (mt_7 (List.mem_of_getElem? (i := 148) rfl) rfl) d_Model_told_101 ?_
        refine j_ldc2 (pc := 104) C (v := 9) (mt_7 (List.mem_of_getElem? (i := 149) rfl) rfl) d_Model_told_104 ?_
        refine j_callSi (pc := 107) C (c_misIn79_11 l D y ) kw_Model_240 ks_Model_isIn ⟨by decide, by decide⟩ ⟨by decide, by decide⟩ (wr := [MB mo ma (nI t1) i2 i3 i4 i5 i6 i7 i8 i42 i49 i51 i53 i54 i59 (nI pz) i64 i66 (nI t67) i76 i78, (ma 45, .inl (y 0, 14, .inl g45)), (ma 50, .inl (y 0, 3200, .inl g50)), (ma 60, .inl (y 1, 1700, .inr (.inl wz)))]) [] [0, 1, 2, 3] rfl rfl (by decide) (by decide) (by decide) (As := [.long 11, .long 7, .long 9]) (rest := []) rfl (nb rfl) rfl d_Model_told_107 (fun r127 _ hr127 => ?_)
        obtain rfl := hr127
        refine j_ws (ws' := [MB mo ma (nI t1) i2 i3 i4 i5 i6 i7 i8 i42 i49 i51 i53 i54 i59 (nI pz) i64 i66 (nI t67) i76 i78, (ma 45, .inl (y 0, 14, .inl g45)), (ma 50, .inl (y 0, 3200, .inl g50)), (ma 60, .inl (y 1, 1700, .inr (.inl wz)))]) rfl ?_
        refine j_if_eqT (pc := 110) C (tgt := 156) d_Model_told_110 (by decide) (by decide) ?_
        refine j_aload_n (pc := 156) C d_Model_told_156 rfl 2 rfl ?_
        refine j_iload (pc := 157) C d_Model_told_157 0 rfl ?_
        refine j_callVv (pc := 159) C (c_mjoins_11 l D y mo ma t1 i2 i3 i4 i5 i6 i7 i8 i42 i49 i51 i53 i54 i59 pz i64 i66 t67 i76 i78 wz ( a ) (b ) ( rs) (by omega) (by omega) (by omega) (by omega) xh126 (by omega) (by omega)) kw_Model_406 kv_Model_joins 0 10 rfl rfl ⟨by decide, by decide⟩ ⟨by decide, by decide⟩ (wr := [(ma 45, .inl (y 0, 14, .inl g45)), (ma 50, .inl (y 0, 3200, .inl g50))]) [0, 3] [1, 2] rfl rfl (by decide) (by decide) (by decide) (As := [.int 11]) (rest := []) rfl (nb rfl) rfl d_Model_told_159 (fun u128 hu129 => ?_)
        have xh130 := hu129
        refine j_ws (ws' := [(ma 45, .inl (y 0, 14, .inl g45)), (ma 50, .inl (y 0, 3200, .inl g50)), MB mo ma (nI t1) i2 i3 i4 i5 i6 i7 i8 i42 i49 i51 i53 i54 i59 (nI (pz - 1)) i64 i66 (nI t67) i76 i78, (ma 60, .inl (y 1, 1700, .inr (.inl u128)))]) rfl ?_
        refine j_iinc (pc := 162) C (v := nI (iz + 1)) (lv' := [(5, .int (nI (iz + 1))), (6, .int 11), (0, .ref mo), (1, .int (nI qa)), (2, .int (nI qb)), (3, .int (nI dq)), (4, .int (nI wq))]) d_Model_told_162 1 rfl (nI_add _ _) (by decide) rfl ?_
        refine j_goto (pc := 165) C (tgt := 8) d_Model_told_165 (by decide) ?_
        refine j_sub (ws' := [MB mo ma (nI t1) i2 i3 i4 i5 i6 i7 i8 i42 i49 i51 i53 i54 i59 (nI (pz - 1)) i64 i66 (nI t67) i76 i78, (ma 45, .inl (y 0, 14, .inl g45)), (ma 50, .inl (y 0, 3200, .inl g50)), (ma 60, .inl (y 1, 1700, .inr (.inl u128)))]) [2, 0, 1, 3] rfl (by decide) ?_
        refine j_locs (lv' := [(5, .int (nI (iz + 1))), (0, .ref mo), (1, .int (nI qa)), (2, .int (nI qb)), (3, .int (nI dq)), (4, .int (nI wq))]) [0, 2, 3, 4, 5, 6] rfl ?_
        exact ih76 ((iz + 1), (pz - 1), u128, (opE 11 a b :: rs), (true :: rt)) ⟨(show qa ≤ (iz + 1) by omega), (show (iz + 1) ≤ qb by omega), (show (pz - 1) = (opE 11 a b :: rs).length by rw [List.length_cons]; omega), xh130, hr2, (show RV (true :: rt) (opE 11 a b :: rs) from hok), (evr_e he_ (by omega) hbl hcc (show (opE 11 a b :: rs) = evC dq (wq / gt.s 1) wq 11 (b :: a :: rs) from rfl))⟩ (show qb - (iz + 1) < qb - iz by omega)
      · refine j_st (st' := [.int 12]) rfl ?_
        obtain ⟨b, rb, rfl, hbv, hvr⟩ := rv_1 hv_
        obtain ⟨a, rs, rfl, hav, hvs⟩ := rv_1 hvr
        simp only [List.length_cons] at hp_ hrl hln
        obtain ⟨a1, a2, _⟩ := id hav
        obtain ⟨b1_, b2_, _⟩ := id hbv
        have xh131 : STL wz (b :: a :: rs) := hs_
        refine j_istore (pc := 25) C (lv' := [(6, .int 12), (5, .int (nI iz)), (0, .ref mo), (1, .int (nI qa)), (2, .int (nI qb)), (3, .int (nI dq)), (4, .int (nI wq))]) d_Model_told_25 (by decide) rfl ?_
        refine j_iload (pc := 27) C d_Model_told_27 0 rfl ?_
        refine j_sipush (pc := 29) C (v := 1000) d_Model_told_29 (by decide) ?_
        refine j_icmp_ltT (pc := 32) C (tgt := 49) d_Model_told_32 (by decide) (by decide) ?_
        refine j_iload (pc := 49) C d_Model_told_49 0 rfl ?_
        refine j_bipush (pc := 51) C (v := 17) d_Model_told_51 (by decide) ?_
        refine j_icmp_neT (pc := 53) C (tgt := 64) d_Model_told_53 (by decide) (by decide) ?_
        refine j_iload (pc := 64) C d_Model_told_64 0 rfl ?_
        refine j_bipush (pc := 66) C (v := 16) d_Model_told_66 (by decide) ?_
        refine j_icmp_neT (pc := 68) C (tgt := 98) d_Model_told_68 (by decide) (by decide) ?_
        refine j_iload (pc := 98) C d_Model_told_98 0 rfl ?_
        refine j_i2l (pc := 100) C (v := 12) d_Model_told_100 (by decide) ?_
        refine j_ldc2 (pc := 101) C (v := 7) (mt_7 (List.mem_of_getElem? (i := 148) rfl) rfl) d_Model_told_101 ?_
        refine j_ldc2 (pc := 104) C (v := 9) (mt_7 (List.mem_of_getElem? (i := 149) rfl) rfl) d_Model_told_104 ?_
        refine j_callSi (pc := 107) C (c_misIn79_12 l D y ) kw_Model_240 ks_Model_isIn ⟨by decide, by decide⟩ ⟨by decide, by decide⟩ (wr := [MB mo ma (nI t1) i2 i3 i4 i5 i6 i7 i8 i42 i49 i51 i53 i54 i59 (nI pz) i64 i66 (nI t67) i76 i78, (ma 45, .inl (y 0, 14, .inl g45)), (ma 50, .inl (y 0, 3200, .inl g50)), (ma 60, .inl (y 1, 1700, .inr (.inl wz)))]) [] [0, 1, 2, 3] rfl rfl (by decide) (by decide) (by decide) (As := [.long 12, .long 7, .long 9]) (rest := []) rfl (nb rfl) rfl d_Model_told_107 (fun r132 _ hr132 => ?_)
        obtain rfl := hr132
        refine j_ws (ws' := [MB mo ma (nI t1) i2 i3 i4 i5 i6 i7 i8 i42 i49 i51 i53 i54 i59 (nI pz) i64 i66 (nI t67) i76 i78, (ma 45, .inl (y 0, 14, .inl g45)), (ma 50, .inl (y 0, 3200, .inl g50)), (ma 60, .inl (y 1, 1700, .inr (.inl wz)))]) rfl ?_
        refine j_if_eqT (pc := 110) C (tgt := 156) d_Model_told_110 (by decide) (by decide) ?_
        refine j_aload_n (pc := 156) C d_Model_told_156 rfl 2 rfl ?_
        refine j_iload (pc := 157) C d_Model_told_157 0 rfl ?_
        refine j_callVv (pc := 159) C (c_mjoins_12 l D y mo ma t1 i2 i3 i4 i5 i6 i7 i8 i42 i49 i51 i53 i54 i59 pz i64 i66 t67 i76 i78 wz ( a ) (b ) ( rs) (by omega) (by omega) (by omega) (by omega) xh131 (by omega) (by omega)) kw_Model_406 kv_Model_joins 0 10 rfl rfl ⟨by decide, by decide⟩ ⟨by decide, by decide⟩ (wr := [(ma 45, .inl (y 0, 14, .inl g45)), (ma 50, .inl (y 0, 3200, .inl g50))]) [0, 3] [1, 2] rfl rfl (by decide) (by decide) (by decide) (As := [.int 12]) (rest := []) rfl (nb rfl) rfl d_Model_told_159 (fun u133 hu134 => ?_)
        have xh135 := hu134
        refine j_ws (ws' := [(ma 45, .inl (y 0, 14, .inl g45)), (ma 50, .inl (y 0, 3200, .inl g50)), MB mo ma (nI t1) i2 i3 i4 i5 i6 i7 i8 i42 i49 i51 i53 i54 i59 (nI (pz - 1)) i64 i66 (nI t67) i76 i78, (ma 60, .inl (y 1, 1700, .inr (.inl u133)))]) rfl ?_
        refine j_iinc (pc := 162) C (v := nI (iz + 1)) (lv' := [(5, .int (nI (iz + 1))), (6, .int 12), (0, .ref mo), (1, .int (nI qa)), (2, .int (nI qb)), (3, .int (nI dq)), (4, .int (nI wq))]) d_Model_told_162 1 rfl (nI_add _ _) (by decide) rfl ?_
        refine j_goto (pc := 165) C (tgt := 8) d_Model_told_165 (by decide) ?_
        refine j_sub (ws' := [MB mo ma (nI t1) i2 i3 i4 i5 i6 i7 i8 i42 i49 i51 i53 i54 i59 (nI (pz - 1)) i64 i66 (nI t67) i76 i78, (ma 45, .inl (y 0, 14, .inl g45)), (ma 50, .inl (y 0, 3200, .inl g50)), (ma 60, .inl (y 1, 1700, .inr (.inl u133)))]) [2, 0, 1, 3] rfl (by decide) ?_
        refine j_locs (lv' := [(5, .int (nI (iz + 1))), (0, .ref mo), (1, .int (nI qa)), (2, .int (nI qb)), (3, .int (nI dq)), (4, .int (nI wq))]) [0, 2, 3, 4, 5, 6] rfl ?_
        exact ih76 ((iz + 1), (pz - 1), u133, (opE 12 a b :: rs), (true :: rt)) ⟨(show qa ≤ (iz + 1) by omega), (show (iz + 1) ≤ qb by omega), (show (pz - 1) = (opE 12 a b :: rs).length by rw [List.length_cons]; omega), xh135, hr2, (show RV (true :: rt) (opE 12 a b :: rs) from hok), (evr_e he_ (by omega) hbl hcc (show (opE 12 a b :: rs) = evC dq (wq / gt.s 1) wq 12 (b :: a :: rs) from rfl))⟩ (show qb - (iz + 1) < qb - iz by omega)
      · refine j_st (st' := [.int 13]) rfl ?_
        obtain ⟨b, rb, rfl, hbv, hvr⟩ := rv_1 hv_
        obtain ⟨a, rs, rfl, hav, hvs⟩ := rv_1 hvr
        simp only [List.length_cons] at hp_ hrl hln
        obtain ⟨a1, a2, _⟩ := id hav
        obtain ⟨b1_, b2_, _⟩ := id hbv
        have xh136 : STL wz (b :: a :: rs) := hs_
        refine j_istore (pc := 25) C (lv' := [(6, .int 13), (5, .int (nI iz)), (0, .ref mo), (1, .int (nI qa)), (2, .int (nI qb)), (3, .int (nI dq)), (4, .int (nI wq))]) d_Model_told_25 (by decide) rfl ?_
        refine j_iload (pc := 27) C d_Model_told_27 0 rfl ?_
        refine j_sipush (pc := 29) C (v := 1000) d_Model_told_29 (by decide) ?_
        refine j_icmp_ltT (pc := 32) C (tgt := 49) d_Model_told_32 (by decide) (by decide) ?_
        refine j_iload (pc := 49) C d_Model_told_49 0 rfl ?_
        refine j_bipush (pc := 51) C (v := 17) d_Model_told_51 (by decide) ?_
        refine j_icmp_neT (pc := 53) C (tgt := 64) d_Model_told_53 (by decide) (by decide) ?_
        refine j_iload (pc := 64) C d_Model_told_64 0 rfl ?_
        refine j_bipush (pc := 66) C (v := 16) d_Model_told_66 (by decide) ?_
        refine j_icmp_neT (pc := 68) C (tgt := 98) d_Model_told_68 (by decide) (by decide) ?_
        refine j_iload (pc := 98) C d_Model_told_98 0 rfl ?_
        refine j_i2l (pc := 100) C (v := 13) d_Model_told_100 (by decide) ?_
        refine j_ldc2 (pc := 101) C (v := 7) (mt_7 (List.mem_of_getElem? (i := 148) rfl) rfl) d_Model_told_101 ?_
        refine j_ldc2 (pc := 104) C (v := 9) (mt_7 (List.mem_of_getElem? (i := 149) rfl) rfl) d_Model_told_104 ?_
        refine j_callSi (pc := 107) C (c_misIn79_13 l D y ) kw_Model_240 ks_Model_isIn ⟨by decide, by decide⟩ ⟨by decide, by decide⟩ (wr := [MB mo ma (nI t1) i2 i3 i4 i5 i6 i7 i8 i42 i49 i51 i53 i54 i59 (nI pz) i64 i66 (nI t67) i76 i78, (ma 45, .inl (y 0, 14, .inl g45)), (ma 50, .inl (y 0, 3200, .inl g50)), (ma 60, .inl (y 1, 1700, .inr (.inl wz)))]) [] [0, 1, 2, 3] rfl rfl (by decide) (by decide) (by decide) (As := [.long 13, .long 7, .long 9]) (rest := []) rfl (nb rfl) rfl d_Model_told_107 (fun r137 _ hr137 => ?_)
        obtain rfl := hr137
        refine j_ws (ws' := [MB mo ma (nI t1) i2 i3 i4 i5 i6 i7 i8 i42 i49 i51 i53 i54 i59 (nI pz) i64 i66 (nI t67) i76 i78, (ma 45, .inl (y 0, 14, .inl g45)), (ma 50, .inl (y 0, 3200, .inl g50)), (ma 60, .inl (y 1, 1700, .inr (.inl wz)))]) rfl ?_
        refine j_if_eqT (pc := 110) C (tgt := 156) d_Model_told_110 (by decide) (by decide) ?_
        refine j_aload_n (pc := 156) C d_Model_told_156 rfl 2 rfl ?_
        refine j_iload (pc := 157) C d_Model_told_157 0 rfl ?_
        refine j_callVv (pc := 159) C (c_mjoins_13 l D y mo ma t1 i2 i3 i4 i5 i6 i7 i8 i42 i49 i51 i53 i54 i59 pz i64 i66 t67 i76 i78 wz ( a ) (b ) ( rs) (by omega) (by omega) (by omega) (by omega) xh136 (by omega) (by omega)) kw_Model_406 kv_Model_joins 0 10 rfl rfl ⟨by decide, by decide⟩ ⟨by decide, by decide⟩ (wr := [(ma 45, .inl (y 0, 14, .inl g45)), (ma 50, .inl (y 0, 3200, .inl g50))]) [0, 3] [1, 2] rfl rfl (by decide) (by decide) (by decide) (As := [.int 13]) (rest := []) rfl (nb rfl) rfl d_Model_told_159 (fun u138 hu139 => ?_)
        have xh140 := hu139
        refine j_ws (ws' := [(ma 45, .inl (y 0, 14, .inl g45)), (ma 50, .inl (y 0, 3200, .inl g50)), MB mo ma (nI t1) i2 i3 i4 i5 i6 i7 i8 i42 i49 i51 i53 i54 i59 (nI (pz - 1)) i64 i66 (nI t67) i76 i78, (ma 60, .inl (y 1, 1700, .inr (.inl u138)))]) rfl ?_
        refine j_iinc (pc := 162) C (v := nI (iz + 1)) (lv' := [(5, .int (nI (iz + 1))), (6, .int 13), (0, .ref mo), (1, .int (nI qa)), (2, .int (nI qb)), (3, .int (nI dq)), (4, .int (nI wq))]) d_Model_told_162 1 rfl (nI_add _ _) (by decide) rfl ?_
        refine j_goto (pc := 165) C (tgt := 8) d_Model_told_165 (by decide) ?_
        refine j_sub (ws' := [MB mo ma (nI t1) i2 i3 i4 i5 i6 i7 i8 i42 i49 i51 i53 i54 i59 (nI (pz - 1)) i64 i66 (nI t67) i76 i78, (ma 45, .inl (y 0, 14, .inl g45)), (ma 50, .inl (y 0, 3200, .inl g50)), (ma 60, .inl (y 1, 1700, .inr (.inl u138)))]) [2, 0, 1, 3] rfl (by decide) ?_
        refine j_locs (lv' := [(5, .int (nI (iz + 1))), (0, .ref mo), (1, .int (nI qa)), (2, .int (nI qb)), (3, .int (nI dq)), (4, .int (nI wq))]) [0, 2, 3, 4, 5, 6] rfl ?_
        exact ih76 ((iz + 1), (pz - 1), u138, (opE 13 a b :: rs), (true :: rt)) ⟨(show qa ≤ (iz + 1) by omega), (show (iz + 1) ≤ qb by omega), (show (pz - 1) = (opE 13 a b :: rs).length by rw [List.length_cons]; omega), xh140, hr2, (show RV (true :: rt) (opE 13 a b :: rs) from hok), (evr_e he_ (by omega) hbl hcc (show (opE 13 a b :: rs) = evC dq (wq / gt.s 1) wq 13 (b :: a :: rs) from rfl))⟩ (show qb - (iz + 1) < qb - iz by omega)
    · have bcs : cc = 14 ∨ cc = 15 := by omega
      rcases bcs with rfl | rfl
      · refine j_st (st' := [.int 14]) rfl ?_
        obtain ⟨b, rb, rfl, hbv, hvr⟩ := rv_1 hv_
        obtain ⟨a, rs, rfl, hav, hvs⟩ := rv_1 hvr
        simp only [List.length_cons] at hp_ hrl hln
        obtain ⟨a1, a2, _⟩ := id hav
        obtain ⟨b1_, b2_, _⟩ := id hbv
        have xh141 : STL wz (b :: a :: rs) := hs_
        refine j_istore (pc := 25) C (lv' := [(6, .int 14), (5, .int (nI iz)), (0, .ref mo), (1, .int (nI qa)), (2, .int (nI qb)), (3, .int (nI dq)), (4, .int (nI wq))]) d_Model_told_25 (by decide) rfl ?_
        refine j_iload (pc := 27) C d_Model_told_27 0 rfl ?_
        refine j_sipush (pc := 29) C (v := 1000) d_Model_told_29 (by decide) ?_
        refine j_icmp_ltT (pc := 32) C (tgt := 49) d_Model_told_32 (by decide) (by decide) ?_
        refine j_iload (pc := 49) C d_Model_told_49 0 rfl ?_
        refine j_bipush (pc := 51) C (v := 17) d_Model_told_51 (by decide) ?_
        refine j_icmp_neT (pc := 53) C (tgt := 64) d_Model_told_53 (by decide) (by decide) ?_
        refine j_iload (pc := 64) C d_Model_told_64 0 rfl ?_
        refine j_bipush (pc := 66) C (v := 16) d_Model_told_66 (by decide) ?_
        refine j_icmp_neT (pc := 68) C (tgt := 98) d_Model_told_68 (by decide) (by decide) ?_
        refine j_iload (pc := 98) C d_Model_told_98 0 rfl ?_
        refine j_i2l (pc := 100) C (v := 14) d_Model_told_100 (by decide) ?_
        refine j_ldc2 (pc := 101) C (v := 7) (mt_7 (List.mem_of_getElem? (i := 148) rfl) rfl) d_Model_told_101 ?_
        refine j_ldc2 (pc := 104) C (v := 9) (mt_7 (List.mem_of_getElem? (i := 149) rfl) rfl) d_Model_told_104 ?_
        refine j_callSi (pc := 107) C (c_misIn79_14 l D y ) kw_Model_240 ks_Model_isIn ⟨by decide, by decide⟩ ⟨by decide, by decide⟩ (wr := [MB mo ma (nI t1) i2 i3 i4 i5 i6 i7 i8 i42 i49 i51 i53 i54 i59 (nI pz) i64 i66 (nI t67) i76 i78, (ma 45, .inl (y 0, 14, .inl g45)), (ma 50, .inl (y 0, 3200, .inl g50)), (ma 60, .inl (y 1, 1700, .inr (.inl wz)))]) [] [0, 1, 2, 3] rfl rfl (by decide) (by decide) (by decide) (As := [.long 14, .long 7, .long 9]) (rest := []) rfl (nb rfl) rfl d_Model_told_107 (fun r142 _ hr142 => ?_)
        obtain rfl := hr142
        refine j_ws (ws' := [MB mo ma (nI t1) i2 i3 i4 i5 i6 i7 i8 i42 i49 i51 i53 i54 i59 (nI pz) i64 i66 (nI t67) i76 i78, (ma 45, .inl (y 0, 14, .inl g45)), (ma 50, .inl (y 0, 3200, .inl g50)), (ma 60, .inl (y 1, 1700, .inr (.inl wz)))]) rfl ?_
        refine j_if_eqT (pc := 110) C (tgt := 156) d_Model_told_110 (by decide) (by decide) ?_
        refine j_aload_n (pc := 156) C d_Model_told_156 rfl 2 rfl ?_
        refine j_iload (pc := 157) C d_Model_told_157 0 rfl ?_
        refine j_callVv (pc := 159) C (c_mjoins_14 l D y mo ma t1 i2 i3 i4 i5 i6 i7 i8 i42 i49 i51 i53 i54 i59 pz i64 i66 t67 i76 i78 wz ( a ) (b ) ( rs) hav hbv xh141 (by omega) (by omega)) kw_Model_406 kv_Model_joins 0 10 rfl rfl ⟨by decide, by decide⟩ ⟨by decide, by decide⟩ (wr := [(ma 45, .inl (y 0, 14, .inl g45)), (ma 50, .inl (y 0, 3200, .inl g50))]) [0, 3] [1, 2] rfl rfl (by decide) (by decide) (by decide) (As := [.int 14]) (rest := []) rfl (nb rfl) rfl d_Model_told_159 (fun u143 hu144 => ?_)
        have xh145 := hu144
        refine j_ws (ws' := [(ma 45, .inl (y 0, 14, .inl g45)), (ma 50, .inl (y 0, 3200, .inl g50)), MB mo ma (nI t1) i2 i3 i4 i5 i6 i7 i8 i42 i49 i51 i53 i54 i59 (nI (pz - 1)) i64 i66 (nI t67) i76 i78, (ma 60, .inl (y 1, 1700, .inr (.inl u143)))]) rfl ?_
        refine j_iinc (pc := 162) C (v := nI (iz + 1)) (lv' := [(5, .int (nI (iz + 1))), (6, .int 14), (0, .ref mo), (1, .int (nI qa)), (2, .int (nI qb)), (3, .int (nI dq)), (4, .int (nI wq))]) d_Model_told_162 1 rfl (nI_add _ _) (by decide) rfl ?_
        refine j_goto (pc := 165) C (tgt := 8) d_Model_told_165 (by decide) ?_
        refine j_sub (ws' := [MB mo ma (nI t1) i2 i3 i4 i5 i6 i7 i8 i42 i49 i51 i53 i54 i59 (nI (pz - 1)) i64 i66 (nI t67) i76 i78, (ma 45, .inl (y 0, 14, .inl g45)), (ma 50, .inl (y 0, 3200, .inl g50)), (ma 60, .inl (y 1, 1700, .inr (.inl u143)))]) [2, 0, 1, 3] rfl (by decide) ?_
        refine j_locs (lv' := [(5, .int (nI (iz + 1))), (0, .ref mo), (1, .int (nI qa)), (2, .int (nI qb)), (3, .int (nI dq)), (4, .int (nI wq))]) [0, 2, 3, 4, 5, 6] rfl ?_
        exact ih76 ((iz + 1), (pz - 1), u143, (opE 14 a b :: rs), (true :: rt)) ⟨(show qa ≤ (iz + 1) by omega), (show (iz + 1) ≤ qb by omega), (show (pz - 1) = (opE 14 a b :: rs).length by rw [List.length_cons]; omega), xh145, hr2, (show RV (true :: rt) (opE 14 a b :: rs) from hok), (evr_e he_ (by omega) hbl hcc (show (opE 14 a b :: rs) = evC dq (wq / gt.s 1) wq 14 (b :: a :: rs) from rfl))⟩ (show qb - (iz + 1) < qb - iz by omega)
      · refine j_st (st' := [.int 15]) rfl ?_
        obtain ⟨b, rb, rfl, hbv, hvr⟩ := rv_1 hv_
        obtain ⟨a, rs, rfl, hav, hvs⟩ := rv_1 hvr
        simp only [List.length_cons] at hp_ hrl hln
        obtain ⟨a1, a2, _⟩ := id hav
        obtain ⟨b1_, b2_, _⟩ := id hbv
        have xh146 : STL wz (b :: a :: rs) := hs_
        refine j_istore (pc := 25) C (lv' := [(6, .int 15), (5, .int (nI iz)), (0, .ref mo), (1, .int (nI qa)), (2, .int (nI qb)), (3, .int (nI dq)), (4, .int (nI wq))]) d_Model_told_25 (by decide) rfl ?_
        refine j_iload (pc := 27) C d_Model_told_27 0 rfl ?_
        refine j_sipush (pc := 29) C (v := 1000) d_Model_told_29 (by decide) ?_
        refine j_icmp_ltT (pc := 32) C (tgt := 49) d_Model_told_32 (by decide) (by decide) ?_
        refine j_iload (pc := 49) C d_Model_told_49 0 rfl ?_
        refine j_bipush (pc := 51) C (v := 17) d_Model_told_51 (by decide) ?_
        refine j_icmp_neT (pc := 53) C (tgt := 64) d_Model_told_53 (by decide) (by decide) ?_
        refine j_iload (pc := 64) C d_Model_told_64 0 rfl ?_
        refine j_bipush (pc := 66) C (v := 16) d_Model_told_66 (by decide) ?_
        refine j_icmp_neT (pc := 68) C (tgt := 98) d_Model_told_68 (by decide) (by decide) ?_
        refine j_iload (pc := 98) C d_Model_told_98 0 rfl ?_
        refine j_i2l (pc := 100) C (v := 15) d_Model_told_100 (by decide) ?_
        refine j_ldc2 (pc := 101) C (v := 7) (mt_7 (List.mem_of_getElem? (i := 148) rfl) rfl) d_Model_told_101 ?_
        refine j_ldc2 (pc := 104) C (v := 9) (mt_7 (List.mem_of_getElem? (i := 149) rfl) rfl) d_Model_told_104 ?_
        refine j_callSi (pc := 107) C (c_misIn79_15 l D y ) kw_Model_240 ks_Model_isIn ⟨by decide, by decide⟩ ⟨by decide, by decide⟩ (wr := [MB mo ma (nI t1) i2 i3 i4 i5 i6 i7 i8 i42 i49 i51 i53 i54 i59 (nI pz) i64 i66 (nI t67) i76 i78, (ma 45, .inl (y 0, 14, .inl g45)), (ma 50, .inl (y 0, 3200, .inl g50)), (ma 60, .inl (y 1, 1700, .inr (.inl wz)))]) [] [0, 1, 2, 3] rfl rfl (by decide) (by decide) (by decide) (As := [.long 15, .long 7, .long 9]) (rest := []) rfl (nb rfl) rfl d_Model_told_107 (fun r147 _ hr147 => ?_)
        obtain rfl := hr147
        refine j_ws (ws' := [MB mo ma (nI t1) i2 i3 i4 i5 i6 i7 i8 i42 i49 i51 i53 i54 i59 (nI pz) i64 i66 (nI t67) i76 i78, (ma 45, .inl (y 0, 14, .inl g45)), (ma 50, .inl (y 0, 3200, .inl g50)), (ma 60, .inl (y 1, 1700, .inr (.inl wz)))]) rfl ?_
        refine j_if_eqT (pc := 110) C (tgt := 156) d_Model_told_110 (by decide) (by decide) ?_
        refine j_aload_n (pc := 156) C d_Model_told_156 rfl 2 rfl ?_
        refine j_iload (pc := 157) C d_Model_told_157 0 rfl ?_
        refine j_callVv (pc := 159) C (c_mjoins_15 l D y mo ma t1 i2 i3 i4 i5 i6 i7 i8 i42 i49 i51 i53 i54 i59 pz i64 i66 t67 i76 i78 wz ( a ) (b ) ( rs) hav hbv xh146 (by omega) (by omega)) kw_Model_406 kv_Model_joins 0 10 rfl rfl ⟨by decide, by decide⟩ ⟨by decide, by decide⟩ (wr := [(ma 45, .inl (y 0, 14, .inl g45)), (ma 50, .inl (y 0, 3200, .inl g50))]) [0, 3] [1, 2] rfl rfl (by decide) (by decide) (by decide) (As := [.int 15]) (rest := []) rfl (nb rfl) rfl d_Model_told_159 (fun u148 hu149 => ?_)
        have xh150 := hu149
        refine j_ws (ws' := [(ma 45, .inl (y 0, 14, .inl g45)), (ma 50, .inl (y 0, 3200, .inl g50)), MB mo ma (nI t1) i2 i3 i4 i5 i6 i7 i8 i42 i49 i51 i53 i54 i59 (nI (pz - 1)) i64 i66 (nI t67) i76 i78, (ma 60, .inl (y 1, 1700, .inr (.inl u148)))]) rfl ?_
        refine j_iinc (pc := 162) C (v := nI (iz + 1)) (lv' := [(5, .int (nI (iz + 1))), (6, .int 15), (0, .ref mo), (1, .int (nI qa)), (2, .int (nI qb)), (3, .int (nI dq)), (4, .int (nI wq))]) d_Model_told_162 1 rfl (nI_add _ _) (by decide) rfl ?_
        refine j_goto (pc := 165) C (tgt := 8) d_Model_told_165 (by decide) ?_
        refine j_sub (ws' := [MB mo ma (nI t1) i2 i3 i4 i5 i6 i7 i8 i42 i49 i51 i53 i54 i59 (nI (pz - 1)) i64 i66 (nI t67) i76 i78, (ma 45, .inl (y 0, 14, .inl g45)), (ma 50, .inl (y 0, 3200, .inl g50)), (ma 60, .inl (y 1, 1700, .inr (.inl u148)))]) [2, 0, 1, 3] rfl (by decide) ?_
        refine j_locs (lv' := [(5, .int (nI (iz + 1))), (0, .ref mo), (1, .int (nI qa)), (2, .int (nI qb)), (3, .int (nI dq)), (4, .int (nI wq))]) [0, 2, 3, 4, 5, 6] rfl ?_
        exact ih76 ((iz + 1), (pz - 1), u148, (opE 15 a b :: rs), (true :: rt)) ⟨(show qa ≤ (iz + 1) by omega), (show (iz + 1) ≤ qb by omega), (show (pz - 1) = (opE 15 a b :: rs).length by rw [List.length_cons]; omega), xh150, hr2, (show RV (true :: rt) (opE 15 a b :: rs) from hok), (evr_e he_ (by omega) hbl hcc (show (opE 15 a b :: rs) = evC dq (wq / gt.s 1) wq 15 (b :: a :: rs) from rfl))⟩ (show qb - (iz + 1) < qb - iz by omega)
set_option maxHeartbeats 4000000 in
set_option maxRecDepth 100000 in
theorem c_mweather (l : Launch) (D : va_G) (y : Nat → ClassId) (mo : Nat) (ma : Nat → Nat) (t1 : Nat) (i2 : Int32) (i3 : Int32) (i4 : Int32) (i5 : Int32) (i6 : Int32) (i7 : Int32) (i8 : Int32) (i42 : Int32) (i49 : Int32) (i51 : Int32) (i53 : Int32) (i54 : Int32) (i59 : Int32) (i61 : Int32) (i64 : Int32) (i66 : Int32) (t67 : Nat) (i76 : Int64) (i78 : Int32) (g43 : Nat → Int32) (g45 : Nat → Int32) (g50 : Nat → Int32) (g55 : Nat → Int32) (g56 : Nat → Int32) (g57 : Nat → Int32) (g58 : Nat → Int32) (g60 : Nat → Int64) (dq : Nat) (wq : Nat) (kq : Nat) (gt : LA_) (hto : TOQ gt) (hd : dq ≤ 100000) (hw : wq ≤ 100000) (hk : kq ≤ 1) (hs_many : MC gt (fun j => g43 (4 + j))) (hs_lake : LR gt (fun j => g45 (7 + j))) (hs_codes : CD gt.cs (fun j => g50 (1600 + j)) gt.cs.length) (hs_rules : SLR gt g55 g56 g57 g58) : CT l D y ⟨"NineBoardsModel", "weatherOf", "(IIZ)I"⟩ prog_13_method_52_code 7 (some .int) ({ frames := 3, cells := 0, slots := 0, locals := 76 } : Room) [.ref mo, .int (nI dq), .int (nI wq), .int (nI kq)] [MB mo ma (nI t1) i2 i3 i4 i5 i6 i7 i8 i42 i49 i51 i53 i54 i59 i61 i64 i66 (nI t67) i76 i78, (ma 43, .inl (y 0, 8, .inl g43)), (ma 45, .inl (y 0, 14, .inl g45)), (ma 50, .inl (y 0, 3200, .inl g50)), (ma 55, .inl (y 2, 16, .inl g55)), (ma 56, .inl (y 0, 16, .inl g56)), (ma 57, .inl (y 0, 16, .inl g57)), (ma 58, .inl (y 0, 16, .inl g58)), (ma 60, .inl (y 1, 1700, .inr (.inl g60)))] (QI D [MB mo ma (nI t1) i2 i3 i4 i5 i6 i7 i8 i42 i49 i51 i53 i54 i59 i61 i64 i66 (nI t67) i76 i78, (ma 43, .inl (y 0, 8, .inl g43)), (ma 45, .inl (y 0, 14, .inl g45)), (ma 50, .inl (y 0, 3200, .inl g50)), (ma 55, .inl (y 2, 16, .inl g55)), (ma 56, .inl (y 0, 16, .inl g56)), (ma 57, .inl (y 0, 16, .inl g57)), (ma 58, .inl (y 0, 16, .inl g58)), (ma 60, .inl (y 1, 1700, .inr (.inl g60)))] (fun (r : Int32) (u : Int32 × (Nat → Int64)) => r = nI (amF gt kq dq wq)) (fun u => [MB mo ma (nI t1) i2 i3 i4 i5 i6 i7 i8 i42 i49 i51 i53 i54 i59 u.1 i64 i66 (nI t67) i76 i78, (ma 43, .inl (y 0, 8, .inl g43)), (ma 45, .inl (y 0, 14, .inl g45)), (ma 50, .inl (y 0, 3200, .inl g50)), (ma 55, .inl (y 2, 16, .inl g55)), (ma 56, .inl (y 0, 16, .inl g56)), (ma 57, .inl (y 0, 16, .inl g57)), (ma 58, .inl (y 0, 16, .inl g58)), (ma 60, .inl (y 1, 1700, .inr (.inl u.2)))])) := by
  refine CT.of (by decide) (nb rfl) ?_
  intro p e s m args below meth c C hr
  refine j_lv (lv' := [(0, .ref mo), (1, .int (nI dq)), (2, .int (nI wq)), (3, .int (nI kq))]) rfl ?_
  obtain ⟨_, _, _, _, b9, b4, b10, b11⟩ := id hs_many
  obtain ⟨b1, b1x, b2, b2x, b3, b5, b6, b7, b8⟩ := to_n hto
  refine j_bipush (pc := 0) C (v := 8) d_Model_weatherOf_0 (by decide) ?_
  refine j_istore (pc := 2) C (lv' := [(4, .int 8), (0, .ref mo), (1, .int (nI dq)), (2, .int (nI wq)), (3, .int (nI kq))]) d_Model_weatherOf_2 (by decide) rfl ?_
  refine j_loop (α := Nat × Int32 × (Nat → Int64)) (fun a => 8 + gt.s 11 - a.1) (fun a => (8 ≤ a.1) ∧ (a.1 ≤ 8 + gt.s 11) ∧ (amN dq (wq / gt.s 1) wq gt kq (gt.s 11 - (a.1 - 8)) (a.1 - 8) = amF gt kq dq wq)) (fun a => [MB mo ma (nI t1) i2 i3 i4 i5 i6 i7 i8 i42 i49 i51 i53 i54 i59 a.2.1 i64 i66 (nI t67) i76 i78, (ma 43, .inl (y 0, 8, .inl g43)), (ma 45, .inl (y 0, 14, .inl g45)), (ma 50, .inl (y 0, 3200, .inl g50)), (ma 55, .inl (y 2, 16, .inl g55)), (ma 56, .inl (y 0, 16, .inl g56)), (ma 57, .inl (y 0, 16, .inl g57)), (ma 58, .inl (y 0, 16, .inl g58)), (ma 60, .inl (y 1, 1700, .inr (.inl a.2.2)))]) (fun a => [(4, .int (nI a.1)), (0, .ref mo), (1, .int (nI dq)), (2, .int (nI wq)), (3, .int (nI kq))]) (8, i61, g60) rfl rfl ⟨(show 8 ≤ 8 by omega), (show 8 ≤ 8 + gt.s 11 by omega), (show amN dq (wq / gt.s 1) wq gt kq (gt.s 11 - (8 - 8)) (8 - 8) = amF gt kq dq wq from rfl)⟩ ?_
  rintro ⟨iz, z15, z16⟩ hP31 ih32
  obtain ⟨h8__, hi__, ha__⟩ := hP31
  have h8_ : 8 ≤ iz := h8__
  have hi_ : iz ≤ 8 + gt.s 11 := hi__
  have ha_ : amN dq (wq / gt.s 1) wq gt kq (gt.s 11 - (iz - 8)) (iz - 8) = amF gt kq dq wq := ha__
  refine j_ws (ws' := [MB mo ma (nI t1) i2 i3 i4 i5 i6 i7 i8 i42 i49 i51 i53 i54 i59 z15 i64 i66 (nI t67) i76 i78, (ma 43, .inl (y 0, 8, .inl g43)), (ma 45, .inl (y 0, 14, .inl g45)), (ma 50, .inl (y 0, 3200, .inl g50)), (ma 55, .inl (y 2, 16, .inl g55)), (ma 56, .inl (y 0, 16, .inl g56)), (ma 57, .inl (y 0, 16, .inl g57)), (ma 58, .inl (y 0, 16, .inl g58)), (ma 60, .inl (y 1, 1700, .inr (.inl z16)))]) rfl ?_
  refine j_lv (lv' := [(4, .int (nI iz)), (0, .ref mo), (1, .int (nI dq)), (2, .int (nI wq)), (3, .int (nI kq))]) rfl ?_
  refine j_iload (pc := 4) C d_Model_weatherOf_4 0 rfl ?_
  refine j_bipush (pc := 6) C (v := 8) d_Model_weatherOf_6 (by decide) ?_
  refine j_aload_n (pc := 8) C d_Model_weatherOf_8 rfl 1 rfl ?_
  refine j_get (pc := 9) C gf_Model_117 0 rfl rfl d_Model_weatherOf_9 ?_
  refine j_bipush (pc := 12) C (v := 7) d_Model_weatherOf_12 (by decide) ?_
  refine j_iald (pc := 14) C 1 rfl (v := nI (gt.s 11)) (vin (by decide)) (hs_many.2.2.2.1) d_Model_weatherOf_14 ?_
  refine j_iadd (pc := 15) C (v := nI (8 + (gt.s 11))) d_Model_weatherOf_15 (nI_add _ _) ?_
  by_cases c33 : (8 + (gt.s 11)) ≤ iz
  · refine j_icmp_geT (pc := 16) C (tgt := 116) d_Model_weatherOf_16 (by decide) (show nI (8 + (gt.s 11)) ≤ nI iz from nI_le (by omega) (by omega)) ?_
    refine j_iconst (pc := 116) C (v := 0) d_Model_weatherOf_116 (by decide) ?_
    exact j_iret (pc := 117) C hr rfl (z15, z16) (congrArg nI (am_no (by rw [show iz - 8 = gt.s 11 by omega] at ha_; exact ha_))) [0, 1, 2, 3, 4, 5, 6, 7, 8] rfl (by decide) (by decide) (by decide) d_Model_weatherOf_117
  · refine j_icmp_geF (pc := 16) C (tgt := 116) d_Model_weatherOf_16 (by decide) (show ¬ nI (8 + (gt.s 11)) ≤ nI iz from nI_ge (by omega) (by omega)) ?_
    have hkb := to_k hto (iz - 8) (by omega)
    obtain ⟨r1, r2, r3, r4, r5⟩ := to_w hto (iz - 8) (by omega)
    obtain ⟨k1, k2, k3, k4⟩ := sl_k hs_rules h8_ (by omega) hkb
    refine j_aload_n (pc := 19) C d_Model_weatherOf_19 rfl 1 rfl ?_
    refine j_get (pc := 20) C gf_Model_142 0 rfl rfl d_Model_weatherOf_20 ?_
    refine j_iload (pc := 23) C d_Model_weatherOf_23 0 rfl ?_
    refine j_zald (pc := 25) C 4 rfl (v := nI (gt.r 16 (iz - 8))) (vp_in_nI (by omega) (by decide)) (by rw [nI_clamp (by omega)]; exact k1) d_Model_weatherOf_25 ?_
    refine j_iload_n (pc := 26) C d_Model_weatherOf_26 rfl 4 rfl ?_
    by_cases c34 : ¬ (gt.r 16 (iz - 8)) = kq
    · refine j_icmp_neT (pc := 27) C (tgt := 110) d_Model_weatherOf_27 (by decide) (show ¬ nI (gt.r 16 (iz - 8)) = nI kq from fun e => absurd ((nI_eq (by omega) (by omega)).mp e) (by omega)) ?_
      refine j_iinc (pc := 110) C (v := nI (iz + 1)) (lv' := [(4, .int (nI (iz + 1))), (0, .ref mo), (1, .int (nI dq)), (2, .int (nI wq)), (3, .int (nI kq))]) d_Model_weatherOf_110 0 rfl (nI_add _ _) (by decide) rfl ?_
      refine j_goto (pc := 113) C (tgt := 4) d_Model_weatherOf_113 (by decide) ?_
      exact ih32 ((iz + 1), z15, z16) ⟨(show 8 ≤ (iz + 1) by omega), (show (iz + 1) ≤ 8 + gt.s 11 by omega), (am_g8 ha_ (by omega) (by omega) (fun q => absurd q.1 (by omega)))⟩ (show 8 + gt.s 11 - (iz + 1) < 8 + gt.s 11 - iz by omega)
    · refine j_icmp_neF (pc := 27) C (tgt := 110) d_Model_weatherOf_27 (by decide) (show nI (gt.r 16 (iz - 8)) = nI kq from (nI_eq (by omega) (by omega)).mpr (by omega)) ?_
      refine j_aload_n (pc := 30) C d_Model_weatherOf_30 rfl 1 rfl ?_
      refine j_aload_n (pc := 31) C d_Model_weatherOf_31 rfl 1 rfl ?_
      refine j_get (pc := 32) C gf_Model_149 0 rfl rfl d_Model_weatherOf_32 ?_
      refine j_iload (pc := 35) C d_Model_weatherOf_35 0 rfl ?_
      refine j_iald (pc := 37) C 6 rfl (v := nI (gt.r 18 (iz - 8))) (vp_in_nI (by omega) (by decide)) (by rw [nI_clamp (by omega)]; exact k3) d_Model_weatherOf_37 ?_
      refine j_aload_n (pc := 38) C d_Model_weatherOf_38 rfl 1 rfl ?_
      refine j_get (pc := 39) C gf_Model_152 0 rfl rfl d_Model_weatherOf_39 ?_
      refine j_iload (pc := 42) C d_Model_weatherOf_42 0 rfl ?_
      refine j_iald (pc := 44) C 7 rfl (v := nI (gt.r 19 (iz - 8))) (vp_in_nI (by omega) (by decide)) (by rw [nI_clamp (by omega)]; exact k4) d_Model_weatherOf_44 ?_
      refine j_iload_n (pc := 45) C d_Model_weatherOf_45 rfl 2 rfl ?_
      refine j_iload_n (pc := 46) C d_Model_weatherOf_46 rfl 3 rfl ?_
      refine j_callVl (pc := 47) C (c_mtold l D y mo ma t1 i2 i3 i4 i5 i6 i7 i8 i42 i49 i51 i53 i54 i59 z15 i64 i66 t67 i76 i78 g45 g50 z16 (gt.r 18 (iz - 8)) (gt.r 19 (iz - 8)) dq wq gt true hto (by omega) (by omega) r5 hd hw hs_lake hs_codes) kw_Model_409 kv_Model_told 0 10 rfl rfl ⟨by decide, by decide⟩ ⟨by decide, by decide⟩ (wr := [(ma 43, .inl (y 0, 8, .inl g43)), (ma 55, .inl (y 2, 16, .inl g55)), (ma 56, .inl (y 0, 16, .inl g56)), (ma 57, .inl (y 0, 16, .inl g57)), (ma 58, .inl (y 0, 16, .inl g58))]) [0, 2, 3, 8] [1, 4, 5, 6, 7] rfl rfl (by decide +kernel) (by decide +kernel) (by decide +kernel) (As := [.int (nI (gt.r 18 (iz - 8))), .int (nI (gt.r 19 (iz - 8))), .int (nI dq), .int (nI wq)]) (rest := []) rfl (nb rfl) rfl d_Model_weatherOf_47 (fun r35 u36 hr35 => ?_)
      obtain ⟨rfl, xh37⟩ := hr35
      refine j_ws (ws' := [(ma 43, .inl (y 0, 8, .inl g43)), (ma 55, .inl (y 2, 16, .inl g55)), (ma 56, .inl (y 0, 16, .inl g56)), (ma 57, .inl (y 0, 16, .inl g57)), (ma 58, .inl (y 0, 16, .inl g58)), MB mo ma (nI t1) i2 i3 i4 i5 i6 i7 i8 i42 i49 i51 i53 i54 i59 (nI 1) i64 i66 (nI t67) i76 i78, (ma 45, .inl (y 0, 14, .inl g45)), (ma 50, .inl (y 0, 3200, .inl g50)), (ma 60, .inl (y 1, 1700, .inr (.inl u36)))]) rfl ?_
      obtain ⟨vt1, vt2, vt3⟩ := id xh37
      have vt3 := vt3 rfl
      refine j_lconst (pc := 50) C (v := 1) d_Model_weatherOf_50 (by decide) ?_
      refine j_lcmp (pc := 51) C (v := lg_cmp (zL (vlE dq (wq / gt.s 1) wq gt.cs (gt.r 18 (iz - 8)) (gt.r 19 (iz - 8)))) (zL 1)) d_Model_weatherOf_51 rfl ?_
      by_cases c39 : (vlE dq (wq / gt.s 1) wq gt.cs (gt.r 18 (iz - 8)) (gt.r 19 (iz - 8))) = 1
      · refine j_if_eqT (pc := 52) C (tgt := 58) d_Model_weatherOf_52 (by decide) ((zc_eq (a := (vlE dq (wq / gt.s 1) wq gt.cs (gt.r 18 (iz - 8)) (gt.r 19 (iz - 8)))) (b := 1) (by omega) (by omega) (by omega) (by omega)).mpr c39) ?_
        refine j_aload_n (pc := 58) C d_Model_weatherOf_58 rfl 1 rfl ?_
        refine j_aload_n (pc := 59) C d_Model_weatherOf_59 rfl 1 rfl ?_
        refine j_get (pc := 60) C gf_Model_146 5 rfl rfl d_Model_weatherOf_60 ?_
        refine j_iload (pc := 63) C d_Model_weatherOf_63 0 rfl ?_
        refine j_iald (pc := 65) C 2 rfl (v := nI (gt.r 17 (iz - 8))) (vp_in_nI (by omega) (by decide)) (by rw [nI_clamp (by omega)]; exact k2) d_Model_weatherOf_65 ?_
        refine j_aload_n (pc := 66) C d_Model_weatherOf_66 rfl 1 rfl ?_
        refine j_get (pc := 67) C gf_Model_149 5 rfl rfl d_Model_weatherOf_67 ?_
        refine j_iload (pc := 70) C d_Model_weatherOf_70 0 rfl ?_
        refine j_iald (pc := 72) C 3 rfl (v := nI (gt.r 18 (iz - 8))) (vp_in_nI (by omega) (by decide)) (by rw [nI_clamp (by omega)]; exact k3) d_Model_weatherOf_72 ?_
        refine j_iload_n (pc := 73) C d_Model_weatherOf_73 rfl 2 rfl ?_
        refine j_iload_n (pc := 74) C d_Model_weatherOf_74 rfl 3 rfl ?_
        refine j_callVl (pc := 75) C (c_mtold l D y mo ma t1 i2 i3 i4 i5 i6 i7 i8 i42 i49 i51 i53 i54 i59 (nI 1) i64 i66 t67 i76 i78 g45 g50 u36 (gt.r 17 (iz - 8)) (gt.r 18 (iz - 8)) dq wq gt false hto (by omega) (by omega) r4 hd hw hs_lake hs_codes) kw_Model_409 kv_Model_told 0 10 rfl rfl ⟨by decide, by decide⟩ ⟨by decide, by decide⟩ (wr := [(ma 43, .inl (y 0, 8, .inl g43)), (ma 55, .inl (y 2, 16, .inl g55)), (ma 56, .inl (y 0, 16, .inl g56)), (ma 57, .inl (y 0, 16, .inl g57)), (ma 58, .inl (y 0, 16, .inl g58))]) [5, 6, 7, 8] [0, 1, 2, 3, 4] rfl rfl (by decide +kernel) (by decide +kernel) (by decide +kernel) (As := [.int (nI (gt.r 17 (iz - 8))), .int (nI (gt.r 18 (iz - 8))), .int (nI dq), .int (nI wq)]) (rest := []) rfl (nb rfl) rfl d_Model_weatherOf_75 (fun r40 u41 hr40 => ?_)
        obtain ⟨rfl, xh42⟩ := hr40
        refine j_ws (ws' := [(ma 43, .inl (y 0, 8, .inl g43)), (ma 55, .inl (y 2, 16, .inl g55)), (ma 56, .inl (y 0, 16, .inl g56)), (ma 57, .inl (y 0, 16, .inl g57)), (ma 58, .inl (y 0, 16, .inl g58)), MB mo ma (nI t1) i2 i3 i4 i5 i6 i7 i8 i42 i49 i51 i53 i54 i59 (nI 1) i64 i66 (nI t67) i76 i78, (ma 45, .inl (y 0, 14, .inl g45)), (ma 50, .inl (y 0, 3200, .inl g50)), (ma 60, .inl (y 1, 1700, .inr (.inl u41)))]) rfl ?_
        refine j_lstore (pc := 78) C (lv' := [(5, .long (zL (vlE dq (wq / gt.s 1) wq gt.cs (gt.r 17 (iz - 8)) (gt.r 18 (iz - 8))))), (4, .int (nI iz)), (0, .ref mo), (1, .int (nI dq)), (2, .int (nI wq)), (3, .int (nI kq))]) d_Model_weatherOf_78 (by decide) rfl ?_
        obtain ⟨vs1, vs2, _⟩ := id xh42
        refine j_lload (pc := 80) C d_Model_weatherOf_80 0 rfl ?_
        refine j_lconst (pc := 82) C (v := 0) d_Model_weatherOf_82 (by decide) ?_
        refine j_lcmp (pc := 83) C (v := lg_cmp (zL (vlE dq (wq / gt.s 1) wq gt.cs (gt.r 17 (iz - 8)) (gt.r 18 (iz - 8)))) (zL 0)) d_Model_weatherOf_83 rfl ?_
        by_cases c44 : 0 ≤ (vlE dq (wq / gt.s 1) wq gt.cs (gt.r 17 (iz - 8)) (gt.r 18 (iz - 8)))
        · refine j_if_geT (pc := 84) C (tgt := 91) d_Model_weatherOf_84 (by decide) ((zc_ge (a := (vlE dq (wq / gt.s 1) wq gt.cs (gt.r 17 (iz - 8)) (gt.r 18 (iz - 8)))) (b := 0) (by omega) (by omega) (by omega) (by omega)).mpr c44) ?_
          refine j_lload (pc := 91) C d_Model_weatherOf_91 0 rfl ?_
          refine j_ldc2 (pc := 93) C (v := 9999) (mt_7 (List.mem_of_getElem? (i := 162) rfl) rfl) d_Model_weatherOf_93 ?_
          refine j_lcmp (pc := 96) C (v := lg_cmp (zL (vlE dq (wq / gt.s 1) wq gt.cs (gt.r 17 (iz - 8)) (gt.r 18 (iz - 8)))) (zL 9999)) d_Model_weatherOf_96 rfl ?_
          by_cases c46 : (vlE dq (wq / gt.s 1) wq gt.cs (gt.r 17 (iz - 8)) (gt.r 18 (iz - 8))) ≤ 9999
          · refine j_if_leT (pc := 97) C (tgt := 106) d_Model_weatherOf_97 (by decide) ((zc_le (a := (vlE dq (wq / gt.s 1) wq gt.cs (gt.r 17 (iz - 8)) (gt.r 18 (iz - 8)))) (b := 9999) (by omega) (by omega) (by omega) (by omega)).mpr c46) ?_
            refine j_lload (pc := 106) C d_Model_weatherOf_106 0 rfl ?_
            refine j_l2i (pc := 108) C (v := nI (cl9 ((vlE dq (wq / gt.s 1) wq gt.cs (gt.r 17 (iz - 8)) (gt.r 18 (iz - 8)))))) d_Model_weatherOf_108 (cl_i (by omega) (by omega)) ?_
            exact j_iret (pc := 109) C hr rfl (nI 1, u41) (congrArg nI (am_hit ha_ (by omega) ⟨by omega, by omega⟩)) [5, 0, 6, 7, 1, 2, 3, 4, 8] rfl (by decide) (by decide) (by decide) d_Model_weatherOf_109
          · refine j_if_leF (pc := 97) C (tgt := 106) d_Model_weatherOf_97 (by decide) (fun e => c46 ((zc_le (a := (vlE dq (wq / gt.s 1) wq gt.cs (gt.r 17 (iz - 8)) (gt.r 18 (iz - 8)))) (b := 9999) (by omega) (by omega) (by omega) (by omega)).mp e)) ?_
            refine j_sipush (pc := 100) C (v := 9999) d_Model_weatherOf_100 (by decide) ?_
            refine j_goto (pc := 103) C (tgt := 109) d_Model_weatherOf_103 (by decide) ?_
            exact j_iret (pc := 109) C hr rfl (nI 1, u41) (congrArg nI ((cl_9 (by omega)).symm.trans (am_hit ha_ (by omega) ⟨by omega, by omega⟩))) [5, 0, 6, 7, 1, 2, 3, 4, 8] rfl (by decide) (by decide) (by decide) d_Model_weatherOf_109
        · refine j_if_geF (pc := 84) C (tgt := 91) d_Model_weatherOf_84 (by decide) (fun e => c44 ((zc_ge (a := (vlE dq (wq / gt.s 1) wq gt.cs (gt.r 17 (iz - 8)) (gt.r 18 (iz - 8)))) (b := 0) (by omega) (by omega) (by omega) (by omega)).mp e)) ?_
          refine j_iconst (pc := 87) C (v := 0) d_Model_weatherOf_87 (by decide) ?_
          refine j_goto (pc := 88) C (tgt := 109) d_Model_weatherOf_88 (by decide) ?_
          exact j_iret (pc := 109) C hr rfl (nI 1, u41) (congrArg nI ((cl_0 (by omega)).symm.trans (am_hit ha_ (by omega) ⟨by omega, by omega⟩))) [5, 0, 6, 7, 1, 2, 3, 4, 8] rfl (by decide) (by decide) (by decide) d_Model_weatherOf_109
      · refine j_if_eqF (pc := 52) C (tgt := 58) d_Model_weatherOf_52 (by decide) (fun e => c39 ((zc_eq (a := (vlE dq (wq / gt.s 1) wq gt.cs (gt.r 18 (iz - 8)) (gt.r 19 (iz - 8)))) (b := 1) (by omega) (by omega) (by omega) (by omega)).mp e)) ?_
        refine j_goto (pc := 55) C (tgt := 110) d_Model_weatherOf_55 (by decide) ?_
        refine j_iinc (pc := 110) C (v := nI (iz + 1)) (lv' := [(4, .int (nI (iz + 1))), (0, .ref mo), (1, .int (nI dq)), (2, .int (nI wq)), (3, .int (nI kq))]) d_Model_weatherOf_110 0 rfl (nI_add _ _) (by decide) rfl ?_
        refine j_goto (pc := 113) C (tgt := 4) d_Model_weatherOf_113 (by decide) ?_
        refine j_sub (ws' := [MB mo ma (nI t1) i2 i3 i4 i5 i6 i7 i8 i42 i49 i51 i53 i54 i59 (nI 1) i64 i66 (nI t67) i76 i78, (ma 43, .inl (y 0, 8, .inl g43)), (ma 45, .inl (y 0, 14, .inl g45)), (ma 50, .inl (y 0, 3200, .inl g50)), (ma 55, .inl (y 2, 16, .inl g55)), (ma 56, .inl (y 0, 16, .inl g56)), (ma 57, .inl (y 0, 16, .inl g57)), (ma 58, .inl (y 0, 16, .inl g58)), (ma 60, .inl (y 1, 1700, .inr (.inl u36)))]) [5, 0, 6, 7, 1, 2, 3, 4, 8] rfl (by decide +kernel) ?_
        exact ih32 ((iz + 1), nI 1, u36) ⟨(show 8 ≤ (iz + 1) by omega), (show (iz + 1) ≤ 8 + gt.s 11 by omega), (am_g8 ha_ (by omega) (by omega) (fun q => absurd q.2 (by omega)))⟩ (show 8 + gt.s 11 - (iz + 1) < 8 + gt.s 11 - iz by omega)
