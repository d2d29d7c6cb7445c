theorem st_num {v : Int32} {n t : Nat} (h : stepC v n = some t) (a : 1000 ≤ v) : t = n + 1 := by
  unfold stepC at h
  rw [if_pos a] at h
  cases h
  rfl
theorem st_all {v : Int32} {n t : Nat} (h : stepC v n = some t) (a : ¬ 1000 ≤ v) (b : v = 17) : t = n + 1 := by
  unfold stepC at h
  rw [if_neg a, if_pos b] at h
  cases h
  rfl
theorem st_not {v : Int32} {n t : Nat} (h : stepC v n = some t) (a : ¬ 1000 ≤ v) (b : ¬ v = 17) (d : v = 16) : t = n ∧ 1 ≤ n := by
  unfold stepC at h
  rw [if_neg a, if_neg b, if_pos d] at h
  split at h
  · cases h
    exact ⟨rfl, by assumption⟩
  · cases h
theorem st_var {v : Int32} {n t : Nat} (h : stepC v n = some t) (a : ¬ 1000 ≤ v) (b : ¬ v = 17) (d : ¬ v = 16) (f : 7 ≤ v ∧ v ≤ 9) : t = n + 1 := by
  unfold stepC at h
  rw [if_neg a, if_neg b, if_neg d, if_pos f] at h
  cases h
  rfl
theorem st_join {v : Int32} {n t : Nat} (h : stepC v n = some t) (a : ¬ 1000 ≤ v) (b : ¬ v = 17) (d : ¬ v = 16) (f : ¬ (7 ≤ v ∧ v ≤ 9)) : t + 1 = n ∧ 2 ≤ n := by
  unfold stepC at h
  rw [if_neg a, if_neg b, if_neg d, if_neg f] at h
  split at h
  · cases h
    omega
  · cases h
theorem dp_next {f : Nat → Int32} {s n k t0 : Nat} (h : ∃ q, dp f s n = some q) (hk : k < n) (h0 : dp f s k = some t0) : ∃ t, stepC (f (s + k)) t0 = some t ∧ dp f s (k + 1) = some t := by
  obtain ⟨q, h⟩ := h
  obtain ⟨t, ht⟩ := dp_all h (k + 1) (by omega)
  obtain ⟨t1, h1, h2⟩ := dp_pre ht
  rw [h0] at h1
  cases h1
  exact ⟨t, h2, ht⟩
theorem dp_at {f : Nat → Int32} {a b k t0 : Nat} (h : ∃ q, dp f (1600 + a) (b - a) = some q) (ha : a ≤ k) (hk : k < b) (h0 : dp f (1600 + a) (k - a) = some t0) : ∃ t, stepC (f (1600 + k)) t0 = some t ∧ dp f (1600 + a) (k + 1 - a) = some t := by
  obtain ⟨t, h1, h2⟩ := dp_next h (k := k - a) (by omega) h0
  rw [show 1600 + a + (k - a) = 1600 + k by omega] at h1
  rw [show k - a + 1 = k + 1 - a by omega] at h2
  exact ⟨t, h1, h2⟩
theorem lc_ne {x : Int64} (h : ¬ lg_cmp x 0 = 0) : ¬ x = 0 := fun e => h (by rw [e]; decide)
set_option maxHeartbeats 4000000 in
set_option maxRecDepth 100000 in
theorem c_isIn_79 (l : Launch) (D : va_G) (y : Nat → ClassId) (v : Int32)  : CT l D y ⟨"NineBoardsModel", "isIn", "(JJJ)Z"⟩ prog_13_method_2_code 6 (some .boolean) ({ frames := 0, cells := 0, slots := 0, locals := 0 } : Room) [.long v.toInt64, .long 7, .long 9] [] (QI D [] (fun (r : Int32) (u : Unit) => ((r = 0 ∧ ¬ (7 ≤ v ∧ v ≤ 9)) ∨ (r = 1 ∧ (7 ≤ v ∧ v ≤ 9)))) (fun _ => [])) := by
  refine CT.of (by decide) (nb rfl) ?_
  intro p e s m args below meth c C hr
  refine j_lv (lv' := [(0, .long v.toInt64), (2, .long 7), (4, .long 9)]) rfl ?_
  refine j_lload_n (pc := 0) C d_Model_isIn_0 rfl 0 rfl ?_
  refine j_lload_n (pc := 1) C d_Model_isIn_1 rfl 1 rfl ?_
  refine j_lcmp (pc := 2) C (v := lg_cmp v.toInt64 7) d_Model_isIn_2 rfl ?_
  refine j_if_lt (pc := 3) C (tgt := 17) d_Model_isIn_3 (by decide) (fun c1 => ?_) (fun c1 => ?_)
  · refine j_iconst (pc := 17) C (v := 0) d_Model_isIn_17 (by decide) ?_
    exact j_iret (pc := 18) C hr (by decide) () (by simp only [lg_cmp_lt, lg_cmp_gt, Int64.lt_iff_toInt_lt, Int32.toInt_toInt64, (by decide : Int64.toInt 7 = 7), (by decide : Int64.toInt 9 = 9)] at c1; refine Or.inl ⟨rfl, ?_⟩; simp only [Int32.le_iff_toInt_le, (by decide : Int32.toInt 7 = 7), (by decide : Int32.toInt 9 = 9)]; omega) [] rfl (by decide) (by decide) (by decide) d_Model_isIn_18
  · refine j_lload_n (pc := 6) C d_Model_isIn_6 rfl 0 rfl ?_
    refine j_lload (pc := 7) C d_Model_isIn_7 2 rfl ?_
    refine j_lcmp (pc := 9) C (v := lg_cmp v.toInt64 9) d_Model_isIn_9 rfl ?_
    refine j_if_gt (pc := 10) C (tgt := 17) d_Model_isIn_10 (by decide) (fun c2 => ?_) (fun c2 => ?_)
    · refine j_iconst (pc := 17) C (v := 0) d_Model_isIn_17 (by decide) ?_
      exact j_iret (pc := 18) C hr (by decide) () (by simp only [lg_cmp_lt, lg_cmp_gt, Int64.lt_iff_toInt_lt, Int32.toInt_toInt64, (by decide : Int64.toInt 7 = 7), (by decide : Int64.toInt 9 = 9)] at c1 c2; refine Or.inl ⟨rfl, ?_⟩; simp only [Int32.le_iff_toInt_le, (by decide : Int32.toInt 7 = 7), (by decide : Int32.toInt 9 = 9)]; omega) [] rfl (by decide) (by decide) (by decide) d_Model_isIn_18
    · refine j_iconst (pc := 13) C (v := 1) d_Model_isIn_13 (by decide) ?_
      refine j_goto (pc := 14) C (tgt := 18) d_Model_isIn_14 (by decide) ?_
      exact j_iret (pc := 18) C hr (by decide) () (by simp only [lg_cmp_lt, lg_cmp_gt, Int64.lt_iff_toInt_lt, Int32.toInt_toInt64, (by decide : Int64.toInt 7 = 7), (by decide : Int64.toInt 9 = 9)] at c1 c2; refine Or.inr ⟨rfl, ?_⟩; simp only [Int32.le_iff_toInt_le, (by decide : Int32.toInt 7 = 7), (by decide : Int32.toInt 9 = 9)]; omega) [] rfl (by decide) (by decide) (by decide) d_Model_isIn_18
theorem d_Model_clip_0 : decode prog_13_method_47_code 0 = .ok (.lload_n 0, 1) := by decide +kernel
theorem d_Model_clip_1 : decode prog_13_method_47_code 1 = .ok (.ldc2_w 383, 3) := by decide +kernel
theorem d_Model_clip_4 : decode prog_13_method_47_code 4 = .ok (.lcmp, 1) := by decide +kernel
theorem d_Model_clip_5 : decode prog_13_method_47_code 5 = .ok (.ifCond .le 9, 3) := by decide +kernel
theorem d_Model_clip_14 : decode prog_13_method_47_code 14 = .ok (.lload_n 0, 1) := by decide +kernel
theorem d_Model_clip_15 : decode prog_13_method_47_code 15 = .ok (.ldc2_w 385, 3) := by decide +kernel
theorem d_Model_clip_18 : decode prog_13_method_47_code 18 = .ok (.lcmp, 1) := by decide +kernel
theorem d_Model_clip_19 : decode prog_13_method_47_code 19 = .ok (.ifCond .ge 9, 3) := by decide +kernel
theorem d_Model_clip_28 : decode prog_13_method_47_code 28 = .ok (.lload_n 0, 1) := by decide +kernel
theorem d_Model_clip_29 : decode prog_13_method_47_code 29 = .ok (.lreturn, 1) := by decide +kernel
theorem d_Model_clip_22 : decode prog_13_method_47_code 22 = .ok (.ldc2_w 385, 3) := by decide +kernel
theorem d_Model_clip_25 : decode prog_13_method_47_code 25 = .ok (.goto 4, 3) := by decide +kernel
theorem d_Model_clip_8 : decode prog_13_method_47_code 8 = .ok (.ldc2_w 383, 3) := by decide +kernel
theorem d_Model_clip_11 : decode prog_13_method_47_code 11 = .ok (.goto 18, 3) := by decide +kernel
set_option maxHeartbeats 4000000 in
set_option maxRecDepth 100000 in
theorem c_M_clip (l : Launch) (D : va_G) (y : Nat → ClassId) (va : Int64)  : CT l D y ⟨"NineBoardsModel", "clip", "(J)J"⟩ prog_13_method_47_code 2 (some .long) ({ frames := 0, cells := 0, slots := 0, locals := 0 } : Room) [.long va] [] (QL D [] (fun (r : Int64) (u : Unit) => True) (fun _ => [])) := by
  refine CT.of (by decide) (nb rfl) ?_
  intro p e s m args below meth c C hr
  refine j_lv (lv' := [(0, .long va)]) rfl ?_
  refine j_lload_n (pc := 0) C d_Model_clip_0 rfl 0 rfl ?_
  refine j_ldc2 (pc := 1) C (v := 1000000) (mt_7 (List.mem_of_getElem? (i := 157) rfl) rfl) d_Model_clip_1 ?_
  refine j_lcmp (pc := 4) C (v := lg_cmp va 1000000) d_Model_clip_4 rfl ?_
  refine j_if_le (pc := 5) C (tgt := 14) d_Model_clip_5 (by decide) (fun c1 => ?_) (fun c1 => ?_)
  · refine j_lload_n (pc := 14) C d_Model_clip_14 rfl 0 rfl ?_
    refine j_ldc2 (pc := 15) C (v := (-1000000)) (mt_7 (List.mem_of_getElem? (i := 158) rfl) rfl) d_Model_clip_15 ?_
    refine j_lcmp (pc := 18) C (v := lg_cmp va (-1000000)) d_Model_clip_18 rfl ?_
    refine j_if_ge (pc := 19) C (tgt := 28) d_Model_clip_19 (by decide) (fun c2 => ?_) (fun c2 => ?_)
    · refine j_lload_n (pc := 28) C d_Model_clip_28 rfl 0 rfl ?_
      exact j_lret (pc := 29) C hr () trivial [] rfl (by decide) (by decide) (by decide) d_Model_clip_29
    · refine j_ldc2 (pc := 22) C (v := (-1000000)) (mt_7 (List.mem_of_getElem? (i := 158) rfl) rfl) d_Model_clip_22 ?_
      refine j_goto (pc := 25) C (tgt := 29) d_Model_clip_25 (by decide) ?_
      exact j_lret (pc := 29) C hr () trivial [] rfl (by decide) (by decide) (by decide) d_Model_clip_29
  · refine j_ldc2 (pc := 8) C (v := 1000000) (mt_7 (List.mem_of_getElem? (i := 157) rfl) rfl) d_Model_clip_8 ?_
    refine j_goto (pc := 11) C (tgt := 29) d_Model_clip_11 (by decide) ?_
    exact j_lret (pc := 29) C hr () trivial [] rfl (by decide) (by decide) (by decide) d_Model_clip_29
theorem d_Model_floor_0 : decode prog_13_method_48_code 0 = .ok (.lload_n 2, 1) := by decide +kernel
theorem d_Model_floor_1 : decode prog_13_method_48_code 1 = .ok (.lconst 0, 1) := by decide +kernel
theorem d_Model_floor_2 : decode prog_13_method_48_code 2 = .ok (.lcmp, 1) := by decide +kernel
theorem d_Model_floor_3 : decode prog_13_method_48_code 3 = .ok (.ifCond .ne 5, 3) := by decide +kernel
theorem d_Model_floor_8 : decode prog_13_method_48_code 8 = .ok (.lload_n 0, 1) := by decide +kernel
theorem d_Model_floor_9 : decode prog_13_method_48_code 9 = .ok (.lload_n 2, 1) := by decide +kernel
theorem d_Model_floor_10 : decode prog_13_method_48_code 10 = .ok (.ldiv, 1) := by decide +kernel
theorem d_Model_floor_11 : decode prog_13_method_48_code 11 = .ok (.lstore 4, 2) := by decide +kernel
theorem d_Model_floor_13 : decode prog_13_method_48_code 13 = .ok (.lload_n 0, 1) := by decide +kernel
theorem d_Model_floor_14 : decode prog_13_method_48_code 14 = .ok (.lload_n 2, 1) := by decide +kernel
theorem d_Model_floor_15 : decode prog_13_method_48_code 15 = .ok (.lrem, 1) := by decide +kernel
theorem d_Model_floor_16 : decode prog_13_method_48_code 16 = .ok (.lconst 0, 1) := by decide +kernel
theorem d_Model_floor_17 : decode prog_13_method_48_code 17 = .ok (.lcmp, 1) := by decide +kernel
theorem d_Model_floor_18 : decode prog_13_method_48_code 18 = .ok (.ifCond .eq 35, 3) := by decide +kernel
theorem d_Model_floor_53 : decode prog_13_method_48_code 53 = .ok (.lload 4, 2) := by decide +kernel
theorem d_Model_floor_55 : decode prog_13_method_48_code 55 = .ok (.lreturn, 1) := by decide +kernel
theorem d_Model_floor_21 : decode prog_13_method_48_code 21 = .ok (.lload_n 0, 1) := by decide +kernel
theorem d_Model_floor_22 : decode prog_13_method_48_code 22 = .ok (.lconst 0, 1) := by decide +kernel
theorem d_Model_floor_23 : decode prog_13_method_48_code 23 = .ok (.lcmp, 1) := by decide +kernel
theorem d_Model_floor_24 : decode prog_13_method_48_code 24 = .ok (.ifCond .ge 7, 3) := by decide +kernel
theorem d_Model_floor_31 : decode prog_13_method_48_code 31 = .ok (.iconst 0, 1) := by decide +kernel
theorem d_Model_floor_32 : decode prog_13_method_48_code 32 = .ok (.lload_n 2, 1) := by decide +kernel
theorem d_Model_floor_33 : decode prog_13_method_48_code 33 = .ok (.lconst 0, 1) := by decide +kernel
theorem d_Model_floor_34 : decode prog_13_method_48_code 34 = .ok (.lcmp, 1) := by decide +kernel
theorem d_Model_floor_35 : decode prog_13_method_48_code 35 = .ok (.ifCond .ge 7, 3) := by decide +kernel
theorem d_Model_floor_42 : decode prog_13_method_48_code 42 = .ok (.iconst 0, 1) := by decide +kernel
theorem d_Model_floor_43 : decode prog_13_method_48_code 43 = .ok (.if_icmp .eq 10, 3) := by decide +kernel
theorem d_Model_floor_38 : decode prog_13_method_48_code 38 = .ok (.iconst 1, 1) := by decide +kernel
theorem d_Model_floor_39 : decode prog_13_method_48_code 39 = .ok (.goto 4, 3) := by decide +kernel
theorem d_Model_floor_46 : decode prog_13_method_48_code 46 = .ok (.lload 4, 2) := by decide +kernel
theorem d_Model_floor_48 : decode prog_13_method_48_code 48 = .ok (.lconst 1, 1) := by decide +kernel
theorem d_Model_floor_49 : decode prog_13_method_48_code 49 = .ok (.lsub, 1) := by decide +kernel
theorem d_Model_floor_50 : decode prog_13_method_48_code 50 = .ok (.goto 5, 3) := by decide +kernel
theorem d_Model_floor_27 : decode prog_13_method_48_code 27 = .ok (.iconst 1, 1) := by decide +kernel
theorem d_Model_floor_28 : decode prog_13_method_48_code 28 = .ok (.goto 4, 3) := by decide +kernel
theorem d_Model_floor_6 : decode prog_13_method_48_code 6 = .ok (.lconst 0, 1) := by decide +kernel
theorem d_Model_floor_7 : decode prog_13_method_48_code 7 = .ok (.lreturn, 1) := by decide +kernel
set_option maxHeartbeats 4000000 in
set_option maxRecDepth 100000 in
theorem c_M_floor (l : Launch) (D : va_G) (y : Nat → ClassId) (va : Int64) (vb : Int64)  : CT l D y ⟨"NineBoardsModel", "floor", "(JJ)J"⟩ prog_13_method_48_code 6 (some .long) ({ frames := 0, cells := 0, slots := 0, locals := 0 } : Room) [.long va, .long vb] [] (QL D [] (fun (r : Int64) (u : Unit) => True) (fun _ => [])) := by
  refine CT.of (by decide) (nb rfl) ?_
  intro p e s m args below meth c C hr
  refine j_lv (lv' := [(0, .long va), (2, .long vb)]) rfl ?_
  refine j_lload_n (pc := 0) C d_Model_floor_0 rfl 1 rfl ?_
  refine j_lconst (pc := 1) C (v := 0) d_Model_floor_1 (by decide) ?_
  refine j_lcmp (pc := 2) C (v := lg_cmp vb 0) d_Model_floor_2 rfl ?_
  refine j_if_ne (pc := 3) C (tgt := 8) d_Model_floor_3 (by decide) (fun c1 => ?_) (fun c1 => ?_)
  · refine j_lload_n (pc := 8) C d_Model_floor_8 rfl 0 rfl ?_
    refine j_lload_n (pc := 9) C d_Model_floor_9 rfl 1 rfl ?_
    refine j_ldiv (pc := 10) C (v := va / vb) d_Model_floor_10 (lc_ne c1) rfl ?_
    refine j_lstore (pc := 11) C (lv' := [(4, .long (va / vb)), (0, .long va), (2, .long vb)]) d_Model_floor_11 (by decide) rfl ?_
    refine j_lload_n (pc := 13) C d_Model_floor_13 rfl 1 rfl ?_
    refine j_lload_n (pc := 14) C d_Model_floor_14 rfl 2 rfl ?_
    refine j_lrem (pc := 15) C (v := va - va / vb * vb) d_Model_floor_15 (lc_ne c1) rfl ?_
    refine j_lconst (pc := 16) C (v := 0) d_Model_floor_16 (by decide) ?_
    refine j_lcmp (pc := 17) C (v := lg_cmp (va - va / vb * vb) 0) d_Model_floor_17 rfl ?_
    refine j_anyI (fun v2 => ?_)
    refine j_if_eq (pc := 18) C (tgt := 53) d_Model_floor_18 (by decide) (fun c3 => ?_) (fun c3 => ?_)
    · refine j_lload (pc := 53) C d_Model_floor_53 0 rfl ?_
      exact j_lret (pc := 55) C hr () trivial [] rfl (by decide) (by decide) (by decide) d_Model_floor_55
    · refine j_lload_n (pc := 21) C d_Model_floor_21 rfl 1 rfl ?_
      refine j_lconst (pc := 22) C (v := 0) d_Model_floor_22 (by decide) ?_
      refine j_lcmp (pc := 23) C (v := lg_cmp va 0) d_Model_floor_23 rfl ?_
      refine j_if_ge (pc := 24) C (tgt := 31) d_Model_floor_24 (by decide) (fun c4 => ?_) (fun c4 => ?_)
      · refine j_iconst (pc := 31) C (v := 0) d_Model_floor_31 (by decide) ?_
        refine j_lload_n (pc := 32) C d_Model_floor_32 rfl 2 rfl ?_
        refine j_lconst (pc := 33) C (v := 0) d_Model_floor_33 (by decide) ?_
        refine j_lcmp (pc := 34) C (v := lg_cmp vb 0) d_Model_floor_34 rfl ?_
        refine j_if_ge (pc := 35) C (tgt := 42) d_Model_floor_35 (by decide) (fun c5 => ?_) (fun c5 => ?_)
        · refine j_iconst (pc := 42) C (v := 0) d_Model_floor_42 (by decide) ?_
          refine j_icmp_eqT (pc := 43) C (tgt := 53) d_Model_floor_43 (by decide) (by decide) ?_
          refine j_lload (pc := 53) C d_Model_floor_53 0 rfl ?_
          exact j_lret (pc := 55) C hr () trivial [] rfl (by decide) (by decide) (by decide) d_Model_floor_55
        · refine j_iconst (pc := 38) C (v := 1) d_Model_floor_38 (by decide) ?_
          refine j_goto (pc := 39) C (tgt := 43) d_Model_floor_39 (by decide) ?_
          refine j_icmp_eqF (pc := 43) C (tgt := 53) d_Model_floor_43 (by decide) (by decide) ?_
          refine j_lload (pc := 46) C d_Model_floor_46 0 rfl ?_
          refine j_lconst (pc := 48) C (v := 1) d_Model_floor_48 (by decide) ?_
          refine j_lsub (pc := 49) C (v := (va / vb) - 1) d_Model_floor_49 rfl ?_
          refine j_goto (pc := 50) C (tgt := 55) d_Model_floor_50 (by decide) ?_
          exact j_lret (pc := 55) C hr () trivial [] rfl (by decide) (by decide) (by decide) d_Model_floor_55
      · refine j_iconst (pc := 27) C (v := 1) d_Model_floor_27 (by decide) ?_
        refine j_goto (pc := 28) C (tgt := 32) d_Model_floor_28 (by decide) ?_
        refine j_lload_n (pc := 32) C d_Model_floor_32 rfl 2 rfl ?_
        refine j_lconst (pc := 33) C (v := 0) d_Model_floor_33 (by decide) ?_
        refine j_lcmp (pc := 34) C (v := lg_cmp vb 0) d_Model_floor_34 rfl ?_
        refine j_if_ge (pc := 35) C (tgt := 42) d_Model_floor_35 (by decide) (fun c6 => ?_) (fun c6 => ?_)
        · refine j_iconst (pc := 42) C (v := 0) d_Model_floor_42 (by decide) ?_
          refine j_icmp_eqF (pc := 43) C (tgt := 53) d_Model_floor_43 (by decide) (by decide) ?_
          refine j_lload (pc := 46) C d_Model_floor_46 0 rfl ?_
          refine j_lconst (pc := 48) C (v := 1) d_Model_floor_48 (by decide) ?_
          refine j_lsub (pc := 49) C (v := (va / vb) - 1) d_Model_floor_49 rfl ?_
          refine j_goto (pc := 50) C (tgt := 55) d_Model_floor_50 (by decide) ?_
          exact j_lret (pc := 55) C hr () trivial [] rfl (by decide) (by decide) (by decide) d_Model_floor_55
        · refine j_iconst (pc := 38) C (v := 1) d_Model_floor_38 (by decide) ?_
          refine j_goto (pc := 39) C (tgt := 43) d_Model_floor_39 (by decide) ?_
          refine j_icmp_eqT (pc := 43) C (tgt := 53) d_Model_floor_43 (by decide) (by decide) ?_
          refine j_lload (pc := 53) C d_Model_floor_53 0 rfl ?_
          exact j_lret (pc := 55) C hr () trivial [] rfl (by decide) (by decide) (by decide) d_Model_floor_55
  · refine j_lconst (pc := 6) C (v := 0) d_Model_floor_6 (by decide) ?_
    exact j_lret (pc := 7) C hr () trivial [] rfl (by decide) (by decide) (by decide) d_Model_floor_7
theorem d_Model_puts_0 : decode prog_13_method_49_code 0 = .ok (.aload_n 0, 1) := by decide +kernel
theorem d_Model_puts_1 : decode prog_13_method_49_code 1 = .ok (.getfield 155, 3) := by decide +kernel
theorem gf_Model_155 : GF "NineBoardsModel" 155 10 60 := ⟨_, _, _, rfl, ci_Model, by decide, (mt_5 (List.mem_of_getElem? (i := 148) rfl) rfl)⟩
theorem d_Model_puts_4 : decode prog_13_method_49_code 4 = .ok (.aload_n 0, 1) := by decide +kernel
theorem d_Model_puts_5 : decode prog_13_method_49_code 5 = .ok (.getfield 387, 3) := by decide +kernel
theorem gf_Model_387 : GF "NineBoardsModel" 387 10 61 := ⟨_, _, _, rfl, ci_Model, by decide, (mt_5 (List.mem_of_getElem? (i := 149) rfl) rfl)⟩
theorem d_Model_puts_8 : decode prog_13_method_49_code 8 = .ok (.lload_n 1, 1) := by decide +kernel
theorem d_Model_puts_9 : decode prog_13_method_49_code 9 = .ok (.lastore, 1) := by decide +kernel
theorem d_Model_puts_10 : decode prog_13_method_49_code 10 = .ok (.aload_n 0, 1) := by decide +kernel
theorem d_Model_puts_11 : decode prog_13_method_49_code 11 = .ok (.dup, 1) := by decide +kernel
theorem d_Model_puts_12 : decode prog_13_method_49_code 12 = .ok (.getfield 387, 3) := by decide +kernel
theorem d_Model_puts_15 : decode prog_13_method_49_code 15 = .ok (.iconst 1, 1) := by decide +kernel
theorem d_Model_puts_16 : decode prog_13_method_49_code 16 = .ok (.iadd, 1) := by decide +kernel
theorem d_Model_puts_17 : decode prog_13_method_49_code 17 = .ok (.putfield 387, 3) := by decide +kernel
theorem pf_Model_387 : PF "NineBoardsModel" 387 10 61 (.int) false := ⟨_, _, _, ct_Model, rfl, ci_Model, by decide, (mt_5 (List.mem_of_getElem? (i := 149) rfl) rfl), cp_Model, cn_Model, rfl, by decide +kernel, (fun h => by cases h)⟩
theorem d_Model_puts_20 : decode prog_13_method_49_code 20 = .ok (.return_, 1) := by decide +kernel
set_option maxHeartbeats 4000000 in
set_option maxRecDepth 100000 in
theorem c_M_puts (l : Launch) (D : va_G) (y : Nat → ClassId) (mo : Nat) (ma : Nat → Nat) (t1 : Nat) (i2 : Int32) (i3 : Int32) (i4 : Int32) (i5 : Int32) (i6 : Int32) (i7 : Int32) (i8 : Int32) (i42 : Int32) (i49 : Int32) (i51 : Int32) (i53 : Int32) (i54 : Int32) (i59 : Int32) (t61 : Nat) (i64 : Int32) (i66 : Int32) (t67 : Nat) (i76 : Int64) (i78 : Int32) (g60 : Nat → Int64) (va : Int64) (hp : t61 < 1700) : CT l D y ⟨"NineBoardsModel", "puts", "(J)V"⟩ prog_13_method_49_code 3 none ({ frames := 0, cells := 0, slots := 0, locals := 0 } : Room) [.ref mo, .long va] [MB mo ma (nI t1) i2 i3 i4 i5 i6 i7 i8 i42 i49 i51 i53 i54 i59 (nI t61) i64 i66 (nI t67) i76 i78, (ma 60, .inl (y 1, 1700, .inr (.inl g60)))] (QV D [MB mo ma (nI t1) i2 i3 i4 i5 i6 i7 i8 i42 i49 i51 i53 i54 i59 (nI t61) i64 i66 (nI t67) i76 i78, (ma 60, .inl (y 1, 1700, .inr (.inl g60)))] (fun (u : Nat × (Nat → Int64)) => u.1 = t61 + 1) (fun u => [MB mo ma (nI t1) i2 i3 i4 i5 i6 i7 i8 i42 i49 i51 i53 i54 i59 (nI u.1) i64 i66 (nI t67) i76 i78, (ma 60, .inl (y 1, 1700, .inr (.inl u.2)))])) := by
  refine CT.of (by decide) (nb rfl) ?_
  intro p e s m args below meth c C hr
  refine j_lv (lv' := [(0, .ref mo), (1, .long va)]) rfl ?_
  refine j_aload_n (pc := 0) C d_Model_puts_0 rfl 0 rfl ?_
  refine j_get (pc := 1) C gf_Model_155 0 rfl rfl d_Model_puts_1 ?_
  refine j_aload_n (pc := 4) C d_Model_puts_4 rfl 0 rfl ?_
  refine j_get (pc := 5) C gf_Model_387 0 rfl rfl d_Model_puts_5 ?_
  refine j_lload_n (pc := 8) C d_Model_puts_8 rfl 1 rfl ?_
  refine j_last (pc := 9) C 1 rfl (ws' := [MB mo ma (nI t1) i2 i3 i4 i5 i6 i7 i8 i42 i49 i51 i53 i54 i59 (nI t61) i64 i66 (nI t67) i76 i78, (ma 60, .inl (y 1, 1700, .inr (.inl (vp_updL g60 t61 va))))]) (vp_in_nI (by omega) (by decide)) (by rw [nI_clamp (by omega)]; rfl) d_Model_puts_9 ?_
  refine j_anyW (fun f1 => [MB mo ma (nI t1) i2 i3 i4 i5 i6 i7 i8 i42 i49 i51 i53 i54 i59 (nI t61) i64 i66 (nI t67) i76 i78, (ma 60, .inl (y 1, 1700, .inr (.inl f1)))]) (vp_updL g60 t61 va) rfl (fun f1 => ?_)
  refine j_aload_n (pc := 10) C d_Model_puts_10 rfl 0 rfl ?_
  refine j_dup (pc := 11) C d_Model_puts_11 rfl ?_
  refine j_get (pc := 12) C gf_Model_387 0 rfl rfl d_Model_puts_12 ?_
  refine j_iconst (pc := 15) C (v := 1) d_Model_puts_15 (by decide) ?_
  refine j_iadd (pc := 16) C (v := nI (t61 + 1)) d_Model_puts_16 (nI_add _ _) ?_
  refine j_put (pc := 17) C pf_Model_387 0 (ws' := [MB mo ma (nI t1) i2 i3 i4 i5 i6 i7 i8 i42 i49 i51 i53 i54 i59 (nI (t61 + 1)) i64 i66 (nI t67) i76 i78, (ma 60, .inl (y 1, 1700, .inr (.inl f1)))]) rfl rfl rfl (nl rfl) rfl d_Model_puts_17 ?_
  exact j_vret (pc := 20) C hr ((t61 + 1), f1) (show t61 + 1 = t61 + 1 from rfl) [0, 1] rfl (by decide) (by decide) (by decide) d_Model_puts_20
theorem d_Model_joins_0 : decode prog_13_method_50_code 0 = .ok (.aload_n 0, 1) := by decide +kernel
theorem d_Model_joins_1 : decode prog_13_method_50_code 1 = .ok (.getfield 155, 3) := by decide +kernel
theorem d_Model_joins_4 : decode prog_13_method_50_code 4 = .ok (.aload_n 0, 1) := by decide +kernel
theorem d_Model_joins_5 : decode prog_13_method_50_code 5 = .ok (.getfield 387, 3) := by decide +kernel
theorem d_Model_joins_8 : decode prog_13_method_50_code 8 = .ok (.iconst 1, 1) := by decide +kernel
theorem d_Model_joins_9 : decode prog_13_method_50_code 9 = .ok (.isub, 1) := by decide +kernel
theorem d_Model_joins_10 : decode prog_13_method_50_code 10 = .ok (.laload, 1) := by decide +kernel
theorem d_Model_joins_11 : decode prog_13_method_50_code 11 = .ok (.lstore_n 2, 1) := by decide +kernel
theorem d_Model_joins_12 : decode prog_13_method_50_code 12 = .ok (.aload_n 0, 1) := by decide +kernel
theorem d_Model_joins_13 : decode prog_13_method_50_code 13 = .ok (.getfield 155, 3) := by decide +kernel
theorem d_Model_joins_16 : decode prog_13_method_50_code 16 = .ok (.aload_n 0, 1) := by decide +kernel
theorem d_Model_joins_17 : decode prog_13_method_50_code 17 = .ok (.getfield 387, 3) := by decide +kernel
theorem d_Model_joins_20 : decode prog_13_method_50_code 20 = .ok (.iconst 2, 1) := by decide +kernel
theorem d_Model_joins_21 : decode prog_13_method_50_code 21 = .ok (.isub, 1) := by decide +kernel
theorem d_Model_joins_22 : decode prog_13_method_50_code 22 = .ok (.laload, 1) := by decide +kernel
theorem d_Model_joins_23 : decode prog_13_method_50_code 23 = .ok (.lstore 4, 2) := by decide +kernel
theorem d_Model_joins_25 : decode prog_13_method_50_code 25 = .ok (.aload_n 0, 1) := by decide +kernel
theorem d_Model_joins_26 : decode prog_13_method_50_code 26 = .ok (.dup, 1) := by decide +kernel
theorem d_Model_joins_27 : decode prog_13_method_50_code 27 = .ok (.getfield 387, 3) := by decide +kernel
theorem d_Model_joins_30 : decode prog_13_method_50_code 30 = .ok (.iconst 2, 1) := by decide +kernel
theorem d_Model_joins_31 : decode prog_13_method_50_code 31 = .ok (.isub, 1) := by decide +kernel
theorem d_Model_joins_32 : decode prog_13_method_50_code 32 = .ok (.putfield 387, 3) := by decide +kernel
theorem d_Model_joins_35 : decode prog_13_method_50_code 35 = .ok (.iload_n 1, 1) := by decide +kernel
theorem d_Model_joins_36 : decode prog_13_method_50_code 36 = .ok (.tableswitch 235 1 14 #[72, 86, 100, 114, 127, 147, 235, 235, 235, 235, 167, 186, 205, 224], 72) := by decide +kernel
theorem d_Model_joins_108 : decode prog_13_method_50_code 108 = .ok (.aload_n 0, 1) := by decide +kernel
theorem d_Model_joins_109 : decode prog_13_method_50_code 109 = .ok (.lload 4, 2) := by decide +kernel
theorem d_Model_joins_111 : decode prog_13_method_50_code 111 = .ok (.lload_n 2, 1) := by decide +kernel
theorem d_Model_joins_112 : decode prog_13_method_50_code 112 = .ok (.ladd, 1) := by decide +kernel
theorem d_Model_joins_113 : decode prog_13_method_50_code 113 = .ok (.invokestatic 390, 3) := by decide +kernel
theorem kw_Model_390 : KW "NineBoardsModel" 390 ⟨"NineBoardsModel", "clip", "(J)J"⟩ prog_13_method_47_code 2 (some .long) 1 := ⟨(mt_7 (List.mem_of_getElem? (i := 154) rfl) rfl), (mt_1 (List.mem_of_getElem? (i := 16) rfl) rfl), (mt_7 (List.mem_of_getElem? (i := 156) rfl) rfl), by decide +kernel⟩
theorem ks_Model_clip : Cond.static ⟨"NineBoardsModel", "clip", "(J)J"⟩ ∈ TB := (mt_7 (List.mem_of_getElem? (i := 155) rfl) rfl)
theorem d_Model_joins_116 : decode prog_13_method_50_code 116 = .ok (.invokevirtual 394, 3) := by decide +kernel
theorem kw_Model_394 : KW "NineBoardsModel" 394 ⟨"NineBoardsModel", "puts", "(J)V"⟩ prog_13_method_49_code 3 none 1 := ⟨(mt_7 (List.mem_of_getElem? (i := 144) rfl) rfl), (mt_1 (List.mem_of_getElem? (i := 16) rfl) rfl), (mt_7 (List.mem_of_getElem? (i := 147) rfl) rfl), by decide +kernel⟩
theorem kv_Model_puts : Cond.instanceMethod ⟨"NineBoardsModel", "puts", "(J)V"⟩ ∈ TB ∧ Cond.selects "NineBoardsModel" ⟨"NineBoardsModel", "puts", "(J)V"⟩ ⟨"NineBoardsModel", "puts", "(J)V"⟩ ∈ TB := ⟨(mt_7 (List.mem_of_getElem? (i := 146) rfl) rfl), (ms_0 (List.mem_map.mpr ⟨(⟨"NineBoardsModel", "puts", "(J)V"⟩, 79), List.mem_of_getElem? (i := 107) (by decide +kernel), rfl⟩) rfl)⟩
theorem d_Model_joins_119 : decode prog_13_method_50_code 119 = .ok (.goto 170, 3) := by decide +kernel
theorem d_Model_joins_289 : decode prog_13_method_50_code 289 = .ok (.return_, 1) := by decide +kernel
theorem d_Model_joins_122 : decode prog_13_method_50_code 122 = .ok (.aload_n 0, 1) := by decide +kernel
theorem d_Model_joins_123 : decode prog_13_method_50_code 123 = .ok (.lload 4, 2) := by decide +kernel
theorem d_Model_joins_125 : decode prog_13_method_50_code 125 = .ok (.lload_n 2, 1) := by decide +kernel
theorem d_Model_joins_126 : decode prog_13_method_50_code 126 = .ok (.lsub, 1) := by decide +kernel
theorem d_Model_joins_127 : decode prog_13_method_50_code 127 = .ok (.invokestatic 390, 3) := by decide +kernel
theorem d_Model_joins_130 : decode prog_13_method_50_code 130 = .ok (.invokevirtual 394, 3) := by decide +kernel
theorem d_Model_joins_133 : decode prog_13_method_50_code 133 = .ok (.goto 156, 3) := by decide +kernel
theorem d_Model_joins_136 : decode prog_13_method_50_code 136 = .ok (.aload_n 0, 1) := by decide +kernel
theorem d_Model_joins_137 : decode prog_13_method_50_code 137 = .ok (.lload 4, 2) := by decide +kernel
theorem d_Model_joins_139 : decode prog_13_method_50_code 139 = .ok (.lload_n 2, 1) := by decide +kernel
theorem d_Model_joins_140 : decode prog_13_method_50_code 140 = .ok (.lmul, 1) := by decide +kernel
theorem d_Model_joins_141 : decode prog_13_method_50_code 141 = .ok (.invokestatic 390, 3) := by decide +kernel
theorem d_Model_joins_144 : decode prog_13_method_50_code 144 = .ok (.invokevirtual 394, 3) := by decide +kernel
theorem d_Model_joins_147 : decode prog_13_method_50_code 147 = .ok (.goto 142, 3) := by decide +kernel
theorem d_Model_joins_150 : decode prog_13_method_50_code 150 = .ok (.aload_n 0, 1) := by decide +kernel
theorem d_Model_joins_151 : decode prog_13_method_50_code 151 = .ok (.lload 4, 2) := by decide +kernel
theorem d_Model_joins_153 : decode prog_13_method_50_code 153 = .ok (.lload_n 2, 1) := by decide +kernel
theorem d_Model_joins_154 : decode prog_13_method_50_code 154 = .ok (.invokestatic 398, 3) := by decide +kernel
theorem kw_Model_398 : KW "NineBoardsModel" 398 ⟨"NineBoardsModel", "floor", "(JJ)J"⟩ prog_13_method_48_code 6 (some .long) 2 := ⟨(mt_7 (List.mem_of_getElem? (i := 159) rfl) rfl), (mt_1 (List.mem_of_getElem? (i := 16) rfl) rfl), (mt_7 (List.mem_of_getElem? (i := 161) rfl) rfl), by decide +kernel⟩
theorem ks_Model_floor : Cond.static ⟨"NineBoardsModel", "floor", "(JJ)J"⟩ ∈ TB := (mt_7 (List.mem_of_getElem? (i := 160) rfl) rfl)
theorem d_Model_joins_157 : decode prog_13_method_50_code 157 = .ok (.invokevirtual 394, 3) := by decide +kernel
theorem d_Model_joins_160 : decode prog_13_method_50_code 160 = .ok (.goto 129, 3) := by decide +kernel
theorem d_Model_joins_163 : decode prog_13_method_50_code 163 = .ok (.aload_n 0, 1) := by decide +kernel
theorem d_Model_joins_164 : decode prog_13_method_50_code 164 = .ok (.lload 4, 2) := by decide +kernel
theorem d_Model_joins_166 : decode prog_13_method_50_code 166 = .ok (.lload_n 2, 1) := by decide +kernel
theorem d_Model_joins_167 : decode prog_13_method_50_code 167 = .ok (.lcmp, 1) := by decide +kernel
theorem d_Model_joins_168 : decode prog_13_method_50_code 168 = .ok (.ifCond .ge 8, 3) := by decide +kernel
theorem d_Model_joins_176 : decode prog_13_method_50_code 176 = .ok (.lload_n 2, 1) := by decide +kernel
theorem d_Model_joins_177 : decode prog_13_method_50_code 177 = .ok (.invokevirtual 394, 3) := by decide +kernel
theorem d_Model_joins_180 : decode prog_13_method_50_code 180 = .ok (.goto 109, 3) := by decide +kernel
theorem d_Model_joins_171 : decode prog_13_method_50_code 171 = .ok (.lload 4, 2) := by decide +kernel
theorem d_Model_joins_173 : decode prog_13_method_50_code 173 = .ok (.goto 4, 3) := by decide +kernel
theorem d_Model_joins_183 : decode prog_13_method_50_code 183 = .ok (.aload_n 0, 1) := by decide +kernel
theorem d_Model_joins_184 : decode prog_13_method_50_code 184 = .ok (.lload 4, 2) := by decide +kernel
theorem d_Model_joins_186 : decode prog_13_method_50_code 186 = .ok (.lload_n 2, 1) := by decide +kernel
theorem d_Model_joins_187 : decode prog_13_method_50_code 187 = .ok (.lcmp, 1) := by decide +kernel
theorem d_Model_joins_188 : decode prog_13_method_50_code 188 = .ok (.ifCond .le 8, 3) := by decide +kernel
theorem d_Model_joins_196 : decode prog_13_method_50_code 196 = .ok (.lload_n 2, 1) := by decide +kernel
theorem d_Model_joins_197 : decode prog_13_method_50_code 197 = .ok (.invokevirtual 394, 3) := by decide +kernel
theorem d_Model_joins_200 : decode prog_13_method_50_code 200 = .ok (.goto 89, 3) := by decide +kernel
theorem d_Model_joins_191 : decode prog_13_method_50_code 191 = .ok (.lload 4, 2) := by decide +kernel
theorem d_Model_joins_193 : decode prog_13_method_50_code 193 = .ok (.goto 4, 3) := by decide +kernel
theorem d_Model_joins_271 : decode prog_13_method_50_code 271 = .ok (.aload_n 0, 1) := by decide +kernel
theorem d_Model_joins_272 : decode prog_13_method_50_code 272 = .ok (.lload 4, 2) := by decide +kernel
theorem d_Model_joins_274 : decode prog_13_method_50_code 274 = .ok (.lload_n 2, 1) := by decide +kernel
theorem d_Model_joins_275 : decode prog_13_method_50_code 275 = .ok (.ladd, 1) := by decide +kernel
theorem d_Model_joins_276 : decode prog_13_method_50_code 276 = .ok (.lconst 0, 1) := by decide +kernel
theorem d_Model_joins_277 : decode prog_13_method_50_code 277 = .ok (.lcmp, 1) := by decide +kernel
theorem d_Model_joins_278 : decode prog_13_method_50_code 278 = .ok (.ifCond .le 7, 3) := by decide +kernel
theorem d_Model_joins_285 : decode prog_13_method_50_code 285 = .ok (.lconst 0, 1) := by decide +kernel
theorem d_Model_joins_286 : decode prog_13_method_50_code 286 = .ok (.invokevirtual 394, 3) := by decide +kernel
theorem d_Model_joins_281 : decode prog_13_method_50_code 281 = .ok (.lconst 1, 1) := by decide +kernel
theorem d_Model_joins_282 : decode prog_13_method_50_code 282 = .ok (.goto 4, 3) := by decide +kernel
theorem d_Model_joins_203 : decode prog_13_method_50_code 203 = .ok (.aload_n 0, 1) := by decide +kernel
theorem d_Model_joins_204 : decode prog_13_method_50_code 204 = .ok (.lload 4, 2) := by decide +kernel
theorem d_Model_joins_206 : decode prog_13_method_50_code 206 = .ok (.lload_n 2, 1) := by decide +kernel
theorem d_Model_joins_207 : decode prog_13_method_50_code 207 = .ok (.lcmp, 1) := by decide +kernel
theorem d_Model_joins_208 : decode prog_13_method_50_code 208 = .ok (.ifCond .ge 7, 3) := by decide +kernel
theorem d_Model_joins_215 : decode prog_13_method_50_code 215 = .ok (.lconst 0, 1) := by decide +kernel
theorem d_Model_joins_216 : decode prog_13_method_50_code 216 = .ok (.invokevirtual 394, 3) := by decide +kernel
theorem d_Model_joins_219 : decode prog_13_method_50_code 219 = .ok (.goto 70, 3) := by decide +kernel
theorem d_Model_joins_211 : decode prog_13_method_50_code 211 = .ok (.lconst 1, 1) := by decide +kernel
theorem d_Model_joins_212 : decode prog_13_method_50_code 212 = .ok (.goto 4, 3) := by decide +kernel
theorem d_Model_joins_222 : decode prog_13_method_50_code 222 = .ok (.aload_n 0, 1) := by decide +kernel
theorem d_Model_joins_223 : decode prog_13_method_50_code 223 = .ok (.lload 4, 2) := by decide +kernel
theorem d_Model_joins_225 : decode prog_13_method_50_code 225 = .ok (.lload_n 2, 1) := by decide +kernel
theorem d_Model_joins_226 : decode prog_13_method_50_code 226 = .ok (.lcmp, 1) := by decide +kernel
theorem d_Model_joins_227 : decode prog_13_method_50_code 227 = .ok (.ifCond .le 7, 3) := by decide +kernel
theorem d_Model_joins_234 : decode prog_13_method_50_code 234 = .ok (.lconst 0, 1) := by decide +kernel
theorem d_Model_joins_235 : decode prog_13_method_50_code 235 = .ok (.invokevirtual 394, 3) := by decide +kernel
theorem d_Model_joins_238 : decode prog_13_method_50_code 238 = .ok (.goto 51, 3) := by decide +kernel
theorem d_Model_joins_230 : decode prog_13_method_50_code 230 = .ok (.lconst 1, 1) := by decide +kernel
theorem d_Model_joins_231 : decode prog_13_method_50_code 231 = .ok (.goto 4, 3) := by decide +kernel
theorem d_Model_joins_241 : decode prog_13_method_50_code 241 = .ok (.aload_n 0, 1) := by decide +kernel
theorem d_Model_joins_242 : decode prog_13_method_50_code 242 = .ok (.lload 4, 2) := by decide +kernel
theorem d_Model_joins_244 : decode prog_13_method_50_code 244 = .ok (.lload_n 2, 1) := by decide +kernel
theorem d_Model_joins_245 : decode prog_13_method_50_code 245 = .ok (.lcmp, 1) := by decide +kernel
theorem d_Model_joins_246 : decode prog_13_method_50_code 246 = .ok (.ifCond .ne 7, 3) := by decide +kernel
theorem d_Model_joins_253 : decode prog_13_method_50_code 253 = .ok (.lconst 0, 1) := by decide +kernel
theorem d_Model_joins_254 : decode prog_13_method_50_code 254 = .ok (.invokevirtual 394, 3) := by decide +kernel
theorem d_Model_joins_257 : decode prog_13_method_50_code 257 = .ok (.goto 32, 3) := by decide +kernel
theorem d_Model_joins_249 : decode prog_13_method_50_code 249 = .ok (.lconst 1, 1) := by decide +kernel
theorem d_Model_joins_250 : decode prog_13_method_50_code 250 = .ok (.goto 4, 3) := by decide +kernel
theorem d_Model_joins_260 : decode prog_13_method_50_code 260 = .ok (.aload_n 0, 1) := by decide +kernel
theorem d_Model_joins_261 : decode prog_13_method_50_code 261 = .ok (.lload 4, 2) := by decide +kernel
theorem d_Model_joins_263 : decode prog_13_method_50_code 263 = .ok (.lload_n 2, 1) := by decide +kernel
theorem d_Model_joins_264 : decode prog_13_method_50_code 264 = .ok (.lmul, 1) := by decide +kernel
theorem d_Model_joins_265 : decode prog_13_method_50_code 265 = .ok (.invokevirtual 394, 3) := by decide +kernel
theorem d_Model_joins_268 : decode prog_13_method_50_code 268 = .ok (.goto 21, 3) := by decide +kernel
theorem to_1_14 {x : Int32} (h0 : ¬ x = 1) (h1 : ¬ x = 2) (h2 : ¬ x = 3) (h3 : ¬ x = 4) (h4 : ¬ x = 5) (h5 : ¬ x = 6) (h6 : ¬ x = 7) (h7 : ¬ x = 8) (h8 : ¬ x = 9) (h9 : ¬ x = 10) (h10 : ¬ x = 11) (h11 : ¬ x = 12) (h12 : ¬ x = 13) (h13 : ¬ x = 14) : x.toInt < 1 ∨ 14 < x.toInt := by
  have g0 : x.toInt ≠ 1 := fun e => h0 (Int32.toInt_inj.mp (e.trans (by decide)))
  have g1 : x.toInt ≠ 2 := fun e => h1 (Int32.toInt_inj.mp (e.trans (by decide)))
  have g2 : x.toInt ≠ 3 := fun e => h2 (Int32.toInt_inj.mp (e.trans (by decide)))
  have g3 : x.toInt ≠ 4 := fun e => h3 (Int32.toInt_inj.mp (e.trans (by decide)))
  have g4 : x.toInt ≠ 5 := fun e => h4 (Int32.toInt_inj.mp (e.trans (by decide)))
  have g5 : x.toInt ≠ 6 := fun e => h5 (Int32.toInt_inj.mp (e.trans (by decide)))
  have g6 : x.toInt ≠ 7 := fun e => h6 (Int32.toInt_inj.mp (e.trans (by decide)))
  have g7 : x.toInt ≠ 8 := fun e => h7 (Int32.toInt_inj.mp (e.trans (by decide)))
  have g8 : x.toInt ≠ 9 := fun e => h8 (Int32.toInt_inj.mp (e.trans (by decide)))
  have g9 : x.toInt ≠ 10 := fun e => h9 (Int32.toInt_inj.mp (e.trans (by decide)))
  have g10 : x.toInt ≠ 11 := fun e => h10 (Int32.toInt_inj.mp (e.trans (by decide)))
  have g11 : x.toInt ≠ 12 := fun e => h11 (Int32.toInt_inj.mp (e.trans (by decide)))
  have g12 : x.toInt ≠ 13 := fun e => h12 (Int32.toInt_inj.mp (e.trans (by decide)))
  have g13 : x.toInt ≠ 14 := fun e => h13 (Int32.toInt_inj.mp (e.trans (by decide)))
  omega
set_option maxHeartbeats 4000000 in
set_option maxRecDepth 100000 in
theorem c_M_joins (l : Launch) (D : va_G) (y : Nat → ClassId) (mo : Nat) (ma : Nat → Nat) (t1 : Nat) (i2 : Int32) (i3 : Int32) (i4 : Int32) (i5 : Int32) (i6 : Int32) (i7 : Int32) (i8 : Int32) (i42 : Int32) (i49 : Int32) (i51 : Int32) (i53 : Int32) (i54 : Int32) (i59 : Int32) (t61 : Nat) (i64 : Int32) (i66 : Int32) (t67 : Nat) (i76 : Int64) (i78 : Int32) (g60 : Nat → Int64) (v : Int32) (hp : 2 ≤ t61) (hq : t61 ≤ 1700) : CT l D y ⟨"NineBoardsModel", "joins", "(I)V"⟩ prog_13_method_50_code 6 none ({ frames := 1, cells := 0, slots := 0, locals := 25 } : Room) [.ref mo, .int v] [MB mo ma (nI t1) i2 i3 i4 i5 i6 i7 i8 i42 i49 i51 i53 i54 i59 (nI t61) i64 i66 (nI t67) i76 i78, (ma 60, .inl (y 1, 1700, .inr (.inl g60)))] (QV D [MB mo ma (nI t1) i2 i3 i4 i5 i6 i7 i8 i42 i49 i51 i53 i54 i59 (nI t61) i64 i66 (nI t67) i76 i78, (ma 60, .inl (y 1, 1700, .inr (.inl g60)))] (fun (u : Nat × (Nat → Int64)) => u.1 + 1 = t61) (fun u => [MB mo ma (nI t1) i2 i3 i4 i5 i6 i7 i8 i42 i49 i51 i53 i54 i59 (nI u.1) i64 i66 (nI t67) i76 i78, (ma 60, .inl (y 1, 1700, .inr (.inl u.2)))])) := by
  refine CT.of (by decide) (nb rfl) ?_
  intro p e s m args below meth c C hr
  refine j_lv (lv' := [(0, .ref mo), (1, .int v)]) rfl ?_
  refine j_aload_n (pc := 0) C d_Model_joins_0 rfl 0 rfl ?_
  refine j_get (pc := 1) C gf_Model_155 0 rfl rfl d_Model_joins_1 ?_
  refine j_aload_n (pc := 4) C d_Model_joins_4 rfl 0 rfl ?_
  refine j_get (pc := 5) C gf_Model_387 0 rfl rfl d_Model_joins_5 ?_
  refine j_iconst (pc := 8) C (v := 1) d_Model_joins_8 (by decide) ?_
  refine j_isub (pc := 9) C (v := nI (t61 - 1)) d_Model_joins_9 (pk_sub (a := t61) (b := 1) (by omega)) ?_
  refine j_lald (pc := 10) C 1 rfl (v := g60 (t61 - 1)) (vp_in_nI (by omega) (by decide)) (by rw [nI_clamp (by omega)]) d_Model_joins_10 ?_
  refine j_lstore_n (pc := 11) C (lv' := [(2, .long (g60 (t61 - 1))), (0, .ref mo), (1, .int v)]) d_Model_joins_11 rfl (by decide) rfl ?_
  refine j_aload_n (pc := 12) C d_Model_joins_12 rfl 1 rfl ?_
  refine j_get (pc := 13) C gf_Model_155 0 rfl rfl d_Model_joins_13 ?_
  refine j_aload_n (pc := 16) C d_Model_joins_16 rfl 1 rfl ?_
  refine j_get (pc := 17) C gf_Model_387 0 rfl rfl d_Model_joins_17 ?_
  refine j_iconst (pc := 20) C (v := 2) d_Model_joins_20 (by decide) ?_
  refine j_isub (pc := 21) C (v := nI (t61 - 2)) d_Model_joins_21 (pk_sub (a := t61) (b := 2) (by omega)) ?_
  refine j_lald (pc := 22) C 1 rfl (v := g60 (t61 - 2)) (vp_in_nI (by omega) (by decide)) (by rw [nI_clamp (by omega)]) d_Model_joins_22 ?_
  refine j_lstore (pc := 23) C (lv' := [(4, .long (g60 (t61 - 2))), (2, .long (g60 (t61 - 1))), (0, .ref mo), (1, .int v)]) d_Model_joins_23 (by decide) rfl ?_
  refine j_aload_n (pc := 25) C d_Model_joins_25 rfl 2 rfl ?_
  refine j_dup (pc := 26) C d_Model_joins_26 rfl ?_
  refine j_get (pc := 27) C gf_Model_387 0 rfl rfl d_Model_joins_27 ?_
  refine j_iconst (pc := 30) C (v := 2) d_Model_joins_30 (by decide) ?_
  refine j_isub (pc := 31) C (v := nI (t61 - 2)) d_Model_joins_31 (pk_sub (a := t61) (b := 2) (by omega)) ?_
  refine j_put (pc := 32) C pf_Model_387 0 (ws' := [MB mo ma (nI t1) i2 i3 i4 i5 i6 i7 i8 i42 i49 i51 i53 i54 i59 (nI (t61 - 2)) i64 i66 (nI t67) i76 i78, (ma 60, .inl (y 1, 1700, .inr (.inl g60)))]) rfl rfl rfl (nl rfl) rfl d_Model_joins_32 ?_
  refine j_iload_n (pc := 35) C d_Model_joins_35 rfl 3 rfl ?_
  by_cases c1_0 : v = 1
  · refine j_tabIn (pc := 36) C (off := 72) (tgt := 108) d_Model_joins_36 (by rw [c1_0]; decide) (by rw [c1_0]; decide) (by rw [c1_0]; decide) (by decide) ?_
    refine j_aload_n (pc := 108) C d_Model_joins_108 rfl 2 rfl ?_
    refine j_lload (pc := 109) C d_Model_joins_109 0 rfl ?_
    refine j_lload_n (pc := 111) C d_Model_joins_111 rfl 1 rfl ?_
    refine j_ladd (pc := 112) C (v := (g60 (t61 - 2)) + (g60 (t61 - 1))) d_Model_joins_112 rfl ?_
    refine j_anyL (fun v2 => ?_)
    refine j_callSl (pc := 113) C (c_M_clip l D y v2) kw_Model_390 ks_Model_clip ⟨by decide, by decide⟩ ⟨by decide, by decide⟩ (wr := [MB mo ma (nI t1) i2 i3 i4 i5 i6 i7 i8 i42 i49 i51 i53 i54 i59 (nI (t61 - 2)) i64 i66 (nI t67) i76 i78, (ma 60, .inl (y 1, 1700, .inr (.inl g60)))]) [] [0, 1] rfl rfl (by decide) (by decide) (by decide) (As := [.long v2]) (rest := [.ref mo]) rfl (nb rfl) rfl d_Model_joins_113 (fun r3 _ hr3 => ?_)
    refine j_ws (ws' := [MB mo ma (nI t1) i2 i3 i4 i5 i6 i7 i8 i42 i49 i51 i53 i54 i59 (nI (t61 - 2)) i64 i66 (nI t67) i76 i78, (ma 60, .inl (y 1, 1700, .inr (.inl g60)))]) rfl ?_
    refine j_callVv (pc := 116) C (c_M_puts l D y mo ma t1 i2 i3 i4 i5 i6 i7 i8 i42 i49 i51 i53 i54 i59 (t61 - 2) i64 i66 t67 i76 i78 g60 r3 (by omega)) kw_Model_394 kv_Model_puts 0 10 rfl rfl ⟨by decide, by decide⟩ ⟨by decide, by decide⟩ (wr := []) [0, 1] [] rfl rfl (by decide) (by decide) (by decide) (As := [.long r3]) (rest := []) rfl (nb rfl) rfl d_Model_joins_116 (fun u4 hu5 => ?_)
    have xh6 := hu5
    refine j_ws (ws' := [MB mo ma (nI t1) i2 i3 i4 i5 i6 i7 i8 i42 i49 i51 i53 i54 i59 (nI u4.1) i64 i66 (nI t67) i76 i78, (ma 60, .inl (y 1, 1700, .inr (.inl u4.2)))]) rfl ?_
    refine j_goto (pc := 119) C (tgt := 289) d_Model_joins_119 (by decide) ?_
    exact j_vret (pc := 289) C hr (u4.1, u4.2) (show u4.1 + 1 = t61 by omega) [0, 1] rfl (by decide) (by decide) (by decide) d_Model_joins_289
  · by_cases c1_1 : v = 2
    · refine j_tabIn (pc := 36) C (off := 86) (tgt := 122) d_Model_joins_36 (by rw [c1_1]; decide) (by rw [c1_1]; decide) (by rw [c1_1]; decide) (by decide) ?_
      refine j_aload_n (pc := 122) C d_Model_joins_122 rfl 2 rfl ?_
      refine j_lload (pc := 123) C d_Model_joins_123 0 rfl ?_
      refine j_lload_n (pc := 125) C d_Model_joins_125 rfl 1 rfl ?_
      refine j_lsub (pc := 126) C (v := (g60 (t61 - 2)) - (g60 (t61 - 1))) d_Model_joins_126 rfl ?_
      refine j_anyL (fun v7 => ?_)
      refine j_callSl (pc := 127) C (c_M_clip l D y v7) kw_Model_390 ks_Model_clip ⟨by decide, by decide⟩ ⟨by decide, by decide⟩ (wr := [MB mo ma (nI t1) i2 i3 i4 i5 i6 i7 i8 i42 i49 i51 i53 i54 i59 (nI (t61 - 2)) i64 i66 (nI t67) i76 i78, (ma 60, .inl (y 1, 1700, .inr (.inl g60)))]) [] [0, 1] rfl rfl (by decide) (by decide) (by decide) (As := [.long v7]) (rest := [.ref mo]) rfl (nb rfl) rfl d_Model_joins_127 (fun r8 _ hr8 => ?_)
      refine j_ws (ws' := [MB mo ma (nI t1) i2 i3 i4 i5 i6 i7 i8 i42 i49 i51 i53 i54 i59 (nI (t61 - 2)) i64 i66 (nI t67) i76 i78, (ma 60, .inl (y 1, 1700, .inr (.inl g60)))]) rfl ?_
      refine j_callVv (pc := 130) C (c_M_puts l D y mo ma t1 i2 i3 i4 i5 i6 i7 i8 i42 i49 i51 i53 i54 i59 (t61 - 2) i64 i66 t67 i76 i78 g60 r8 (by omega)) kw_Model_394 kv_Model_puts 0 10 rfl rfl ⟨by decide, by decide⟩ ⟨by decide, by decide⟩ (wr := []) [0, 1] [] rfl rfl (by decide) (by decide) (by decide) (As := [.long r8]) (rest := []) rfl (nb rfl) rfl d_Model_joins_130 (fun u9 hu10 => ?_)
      have xh11 := hu10
      refine j_ws (ws' := [MB mo ma (nI t1) i2 i3 i4 i5 i6 i7 i8 i42 i49 i51 i53 i54 i59 (nI u9.1) i64 i66 (nI t67) i76 i78, (ma 60, .inl (y 1, 1700, .inr (.inl u9.2)))]) rfl ?_
      refine j_goto (pc := 133) C (tgt := 289) d_Model_joins_133 (by decide) ?_
      exact j_vret (pc := 289) C hr (u9.1, u9.2) (show u9.1 + 1 = t61 by omega) [0, 1] rfl (by decide) (by decide) (by decide) d_Model_joins_289
    · by_cases c1_2 : v = 3
      · refine j_tabIn (pc := 36) C (off := 100) (tgt := 136) d_Model_joins_36 (by rw [c1_2]; decide) (by rw [c1_2]; decide) (by rw [c1_2]; decide) (by decide) ?_
        refine j_aload_n (pc := 136) C d_Model_joins_136 rfl 2 rfl ?_
        refine j_lload (pc := 137) C d_Model_joins_137 0 rfl ?_
        refine j_lload_n (pc := 139) C d_Model_joins_139 rfl 1 rfl ?_
        refine j_lmul (pc := 140) C (v := (g60 (t61 - 2)) * (g60 (t61 - 1))) d_Model_joins_140 rfl ?_
        refine j_anyL (fun v12 => ?_)
        refine j_callSl (pc := 141) C (c_M_clip l D y v12) kw_Model_390 ks_Model_clip ⟨by decide, by decide⟩ ⟨by decide, by decide⟩ (wr := [MB mo ma (nI t1) i2 i3 i4 i5 i6 i7 i8 i42 i49 i51 i53 i54 i59 (nI (t61 - 2)) i64 i66 (nI t67) i76 i78, (ma 60, .inl (y 1, 1700, .inr (.inl g60)))]) [] [0, 1] rfl rfl (by decide) (by decide) (by decide) (As := [.long v12]) (rest := [.ref mo]) rfl (nb rfl) rfl d_Model_joins_141 (fun r13 _ hr13 => ?_)
        refine j_ws (ws' := [MB mo ma (nI t1) i2 i3 i4 i5 i6 i7 i8 i42 i49 i51 i53 i54 i59 (nI (t61 - 2)) i64 i66 (nI t67) i76 i78, (ma 60, .inl (y 1, 1700, .inr (.inl g60)))]) rfl ?_
        refine j_callVv (pc := 144) C (c_M_puts l D y mo ma t1 i2 i3 i4 i5 i6 i7 i8 i42 i49 i51 i53 i54 i59 (t61 - 2) i64 i66 t67 i76 i78 g60 r13 (by omega)) kw_Model_394 kv_Model_puts 0 10 rfl rfl ⟨by decide, by decide⟩ ⟨by decide, by decide⟩ (wr := []) [0, 1] [] rfl rfl (by decide) (by decide) (by decide) (As := [.long r13]) (rest := []) rfl (nb rfl) rfl d_Model_joins_144 (fun u14 hu15 => ?_)
        have xh16 := hu15
        refine j_ws (ws' := [MB mo ma (nI t1) i2 i3 i4 i5 i6 i7 i8 i42 i49 i51 i53 i54 i59 (nI u14.1) i64 i66 (nI t67) i76 i78, (ma 60, .inl (y 1, 1700, .inr (.inl u14.2)))]) rfl ?_
        refine j_goto (pc := 147) C (tgt := 289) d_Model_joins_147 (by decide) ?_
        exact j_vret (pc := 289) C hr (u14.1, u14.2) (show u14.1 + 1 = t61 by omega) [0, 1] rfl (by decide) (by decide) (by decide) d_Model_joins_289
      · by_cases c1_3 : v = 4
        · refine j_tabIn (pc := 36) C (off := 114) (tgt := 150) d_Model_joins_36 (by rw [c1_3]; decide) (by rw [c1_3]; decide) (by rw [c1_3]; decide) (by decide) ?_
          refine j_aload_n (pc := 150) C d_Model_joins_150 rfl 2 rfl ?_
          refine j_lload (pc := 151) C d_Model_joins_151 0 rfl ?_
          refine j_lload_n (pc := 153) C d_Model_joins_153 rfl 1 rfl ?_
          refine j_callSl (pc := 154) C (c_M_floor l D y (g60 (t61 - 2)) (g60 (t61 - 1))) kw_Model_398 ks_Model_floor ⟨by decide, by decide⟩ ⟨by decide, by decide⟩ (wr := [MB mo ma (nI t1) i2 i3 i4 i5 i6 i7 i8 i42 i49 i51 i53 i54 i59 (nI (t61 - 2)) i64 i66 (nI t67) i76 i78, (ma 60, .inl (y 1, 1700, .inr (.inl g60)))]) [] [0, 1] rfl rfl (by decide) (by decide) (by decide) (As := [.long (g60 (t61 - 2)), .long (g60 (t61 - 1))]) (rest := [.ref mo]) rfl (nb rfl) rfl d_Model_joins_154 (fun r17 _ hr17 => ?_)
          refine j_ws (ws' := [MB mo ma (nI t1) i2 i3 i4 i5 i6 i7 i8 i42 i49 i51 i53 i54 i59 (nI (t61 - 2)) i64 i66 (nI t67) i76 i78, (ma 60, .inl (y 1, 1700, .inr (.inl g60)))]) rfl ?_
          refine j_callVv (pc := 157) C (c_M_puts l D y mo ma t1 i2 i3 i4 i5 i6 i7 i8 i42 i49 i51 i53 i54 i59 (t61 - 2) i64 i66 t67 i76 i78 g60 r17 (by omega)) kw_Model_394 kv_Model_puts 0 10 rfl rfl ⟨by decide, by decide⟩ ⟨by decide, by decide⟩ (wr := []) [0, 1] [] rfl rfl (by decide) (by decide) (by decide) (As := [.long r17]) (rest := []) rfl (nb rfl) rfl d_Model_joins_157 (fun u18 hu19 => ?_)
          have xh20 := hu19
          refine j_ws (ws' := [MB mo ma (nI t1) i2 i3 i4 i5 i6 i7 i8 i42 i49 i51 i53 i54 i59 (nI u18.1) i64 i66 (nI t67) i76 i78, (ma 60, .inl (y 1, 1700, .inr (.inl u18.2)))]) rfl ?_
          refine j_goto (pc := 160) C (tgt := 289) d_Model_joins_160 (by decide) ?_
          exact j_vret (pc := 289) C hr (u18.1, u18.2) (show u18.1 + 1 = t61 by omega) [0, 1] rfl (by decide) (by decide) (by decide) d_Model_joins_289
        · by_cases c1_4 : v = 5
          · refine j_tabIn (pc := 36) C (off := 127) (tgt := 163) d_Model_joins_36 (by rw [c1_4]; decide) (by rw [c1_4]; decide) (by rw [c1_4]; decide) (by decide) ?_
            refine j_aload_n (pc := 163) C d_Model_joins_163 rfl 2 rfl ?_
            refine j_lload (pc := 164) C d_Model_joins_164 0 rfl ?_
            refine j_lload_n (pc := 166) C d_Model_joins_166 rfl 1 rfl ?_
            refine j_lcmp (pc := 167) C (v := lg_cmp (g60 (t61 - 2)) (g60 (t61 - 1))) d_Model_joins_167 rfl ?_
            refine j_anyI (fun v21 => ?_)
            refine j_if_ge (pc := 168) C (tgt := 176) d_Model_joins_168 (by decide) (fun c22 => ?_) (fun c22 => ?_)
            · refine j_lload_n (pc := 176) C d_Model_joins_176 rfl 1 rfl ?_
              refine j_callVv (pc := 177) C (c_M_puts l D y mo ma t1 i2 i3 i4 i5 i6 i7 i8 i42 i49 i51 i53 i54 i59 (t61 - 2) i64 i66 t67 i76 i78 g60 (g60 (t61 - 1)) (by omega)) kw_Model_394 kv_Model_puts 0 10 rfl rfl ⟨by decide, by decide⟩ ⟨by decide, by decide⟩ (wr := []) [0, 1] [] rfl rfl (by decide) (by decide) (by decide) (As := [.long (g60 (t61 - 1))]) (rest := []) rfl (nb rfl) rfl d_Model_joins_177 (fun u23 hu24 => ?_)
              have xh25 := hu24
              refine j_ws (ws' := [MB mo ma (nI t1) i2 i3 i4 i5 i6 i7 i8 i42 i49 i51 i53 i54 i59 (nI u23.1) i64 i66 (nI t67) i76 i78, (ma 60, .inl (y 1, 1700, .inr (.inl u23.2)))]) rfl ?_
              refine j_goto (pc := 180) C (tgt := 289) d_Model_joins_180 (by decide) ?_
              exact j_vret (pc := 289) C hr (u23.1, u23.2) (show u23.1 + 1 = t61 by omega) [0, 1] rfl (by decide) (by decide) (by decide) d_Model_joins_289
            · refine j_lload (pc := 171) C d_Model_joins_171 0 rfl ?_
              refine j_goto (pc := 173) C (tgt := 177) d_Model_joins_173 (by decide) ?_
              refine j_callVv (pc := 177) C (c_M_puts l D y mo ma t1 i2 i3 i4 i5 i6 i7 i8 i42 i49 i51 i53 i54 i59 (t61 - 2) i64 i66 t67 i76 i78 g60 (g60 (t61 - 2)) (by omega)) kw_Model_394 kv_Model_puts 0 10 rfl rfl ⟨by decide, by decide⟩ ⟨by decide, by decide⟩ (wr := []) [0, 1] [] rfl rfl (by decide) (by decide) (by decide) (As := [.long (g60 (t61 - 2))]) (rest := []) rfl (nb rfl) rfl d_Model_joins_177 (fun u26 hu27 => ?_)
              have xh28 := hu27
              refine j_ws (ws' := [MB mo ma (nI t1) i2 i3 i4 i5 i6 i7 i8 i42 i49 i51 i53 i54 i59 (nI u26.1) i64 i66 (nI t67) i76 i78, (ma 60, .inl (y 1, 1700, .inr (.inl u26.2)))]) rfl ?_
              refine j_goto (pc := 180) C (tgt := 289) d_Model_joins_180 (by decide) ?_
              exact j_vret (pc := 289) C hr (u26.1, u26.2) (show u26.1 + 1 = t61 by omega) [0, 1] rfl (by decide) (by decide) (by decide) d_Model_joins_289
          · by_cases c1_5 : v = 6
            · refine j_tabIn (pc := 36) C (off := 147) (tgt := 183) d_Model_joins_36 (by rw [c1_5]; decide) (by rw [c1_5]; decide) (by rw [c1_5]; decide) (by decide) ?_
              refine j_aload_n (pc := 183) C d_Model_joins_183 rfl 2 rfl ?_
              refine j_lload (pc := 184) C d_Model_joins_184 0 rfl ?_
              refine j_lload_n (pc := 186) C d_Model_joins_186 rfl 1 rfl ?_
              refine j_lcmp (pc := 187) C (v := lg_cmp (g60 (t61 - 2)) (g60 (t61 - 1))) d_Model_joins_187 rfl ?_
              refine j_anyI (fun v29 => ?_)
              refine j_if_le (pc := 188) C (tgt := 196) d_Model_joins_188 (by decide) (fun c30 => ?_) (fun c30 => ?_)
              · refine j_lload_n (pc := 196) C d_Model_joins_196 rfl 1 rfl ?_
                refine j_callVv (pc := 197) C (c_M_puts l D y mo ma t1 i2 i3 i4 i5 i6 i7 i8 i42 i49 i51 i53 i54 i59 (t61 - 2) i64 i66 t67 i76 i78 g60 (g60 (t61 - 1)) (by omega)) kw_Model_394 kv_Model_puts 0 10 rfl rfl ⟨by decide, by decide⟩ ⟨by decide, by decide⟩ (wr := []) [0, 1] [] rfl rfl (by decide) (by decide) (by decide) (As := [.long (g60 (t61 - 1))]) (rest := []) rfl (nb rfl) rfl d_Model_joins_197 (fun u31 hu32 => ?_)
                have xh33 := hu32
                refine j_ws (ws' := [MB mo ma (nI t1) i2 i3 i4 i5 i6 i7 i8 i42 i49 i51 i53 i54 i59 (nI u31.1) i64 i66 (nI t67) i76 i78, (ma 60, .inl (y 1, 1700, .inr (.inl u31.2)))]) rfl ?_
                refine j_goto (pc := 200) C (tgt := 289) d_Model_joins_200 (by decide) ?_
                exact j_vret (pc := 289) C hr (u31.1, u31.2) (show u31.1 + 1 = t61 by omega) [0, 1] rfl (by decide) (by decide) (by decide) d_Model_joins_289
              · refine j_lload (pc := 191) C d_Model_joins_191 0 rfl ?_
                refine j_goto (pc := 193) C (tgt := 197) d_Model_joins_193 (by decide) ?_
                refine j_callVv (pc := 197) C (c_M_puts l D y mo ma t1 i2 i3 i4 i5 i6 i7 i8 i42 i49 i51 i53 i54 i59 (t61 - 2) i64 i66 t67 i76 i78 g60 (g60 (t61 - 2)) (by omega)) kw_Model_394 kv_Model_puts 0 10 rfl rfl ⟨by decide, by decide⟩ ⟨by decide, by decide⟩ (wr := []) [0, 1] [] rfl rfl (by decide) (by decide) (by decide) (As := [.long (g60 (t61 - 2))]) (rest := []) rfl (nb rfl) rfl d_Model_joins_197 (fun u34 hu35 => ?_)
                have xh36 := hu35
                refine j_ws (ws' := [MB mo ma (nI t1) i2 i3 i4 i5 i6 i7 i8 i42 i49 i51 i53 i54 i59 (nI u34.1) i64 i66 (nI t67) i76 i78, (ma 60, .inl (y 1, 1700, .inr (.inl u34.2)))]) rfl ?_
                refine j_goto (pc := 200) C (tgt := 289) d_Model_joins_200 (by decide) ?_
                exact j_vret (pc := 289) C hr (u34.1, u34.2) (show u34.1 + 1 = t61 by omega) [0, 1] rfl (by decide) (by decide) (by decide) d_Model_joins_289
            · by_cases c1_6 : v = 7
              · refine j_tabIn (pc := 36) C (off := 235) (tgt := 271) d_Model_joins_36 (by rw [c1_6]; decide) (by rw [c1_6]; decide) (by rw [c1_6]; decide) (by decide) ?_
                refine j_aload_n (pc := 271) C d_Model_joins_271 rfl 2 rfl ?_
                refine j_lload (pc := 272) C d_Model_joins_272 0 rfl ?_
                refine j_lload_n (pc := 274) C d_Model_joins_274 rfl 1 rfl ?_
                refine j_ladd (pc := 275) C (v := (g60 (t61 - 2)) + (g60 (t61 - 1))) d_Model_joins_275 rfl ?_
                refine j_anyL (fun v37 => ?_)
                refine j_lconst (pc := 276) C (v := 0) d_Model_joins_276 (by decide) ?_
                refine j_lcmp (pc := 277) C (v := lg_cmp v37 0) d_Model_joins_277 rfl ?_
                refine j_if_le (pc := 278) C (tgt := 285) d_Model_joins_278 (by decide) (fun c38 => ?_) (fun c38 => ?_)
                · refine j_lconst (pc := 285) C (v := 0) d_Model_joins_285 (by decide) ?_
                  refine j_callVv (pc := 286) C (c_M_puts l D y mo ma t1 i2 i3 i4 i5 i6 i7 i8 i42 i49 i51 i53 i54 i59 (t61 - 2) i64 i66 t67 i76 i78 g60 0 (by omega)) kw_Model_394 kv_Model_puts 0 10 rfl rfl ⟨by decide, by decide⟩ ⟨by decide, by decide⟩ (wr := []) [0, 1] [] rfl rfl (by decide) (by decide) (by decide) (As := [.long 0]) (rest := []) rfl (nb rfl) rfl d_Model_joins_286 (fun u39 hu40 => ?_)
                  have xh41 := hu40
                  refine j_ws (ws' := [MB mo ma (nI t1) i2 i3 i4 i5 i6 i7 i8 i42 i49 i51 i53 i54 i59 (nI u39.1) i64 i66 (nI t67) i76 i78, (ma 60, .inl (y 1, 1700, .inr (.inl u39.2)))]) rfl ?_
                  exact j_vret (pc := 289) C hr (u39.1, u39.2) (show u39.1 + 1 = t61 by omega) [0, 1] rfl (by decide) (by decide) (by decide) d_Model_joins_289
                · refine j_lconst (pc := 281) C (v := 1) d_Model_joins_281 (by decide) ?_
                  refine j_goto (pc := 282) C (tgt := 286) d_Model_joins_282 (by decide) ?_
                  refine j_callVv (pc := 286) C (c_M_puts l D y mo ma t1 i2 i3 i4 i5 i6 i7 i8 i42 i49 i51 i53 i54 i59 (t61 - 2) i64 i66 t67 i76 i78 g60 1 (by omega)) kw_Model_394 kv_Model_puts 0 10 rfl rfl ⟨by decide, by decide⟩ ⟨by decide, by decide⟩ (wr := []) [0, 1] [] rfl rfl (by decide) (by decide) (by decide) (As := [.long 1]) (rest := []) rfl (nb rfl) rfl d_Model_joins_286 (fun u42 hu43 => ?_)
                  have xh44 := hu43
                  refine j_ws (ws' := [MB mo ma (nI t1) i2 i3 i4 i5 i6 i7 i8 i42 i49 i51 i53 i54 i59 (nI u42.1) i64 i66 (nI t67) i76 i78, (ma 60, .inl (y 1, 1700, .inr (.inl u42.2)))]) rfl ?_
                  exact j_vret (pc := 289) C hr (u42.1, u42.2) (show u42.1 + 1 = t61 by omega) [0, 1] rfl (by decide) (by decide) (by decide) d_Model_joins_289
              · by_cases c1_7 : v = 8
                · refine j_tabIn (pc := 36) C (off := 235) (tgt := 271) d_Model_joins_36 (by rw [c1_7]; decide) (by rw [c1_7]; decide) (by rw [c1_7]; decide) (by decide) ?_
                  refine j_aload_n (pc := 271) C d_Model_joins_271 rfl 2 rfl ?_
                  refine j_lload (pc := 272) C d_Model_joins_272 0 rfl ?_
                  refine j_lload_n (pc := 274) C d_Model_joins_274 rfl 1 rfl ?_
                  refine j_ladd (pc := 275) C (v := (g60 (t61 - 2)) + (g60 (t61 - 1))) d_Model_joins_275 rfl ?_
                  refine j_anyL (fun v45 => ?_)
                  refine j_lconst (pc := 276) C (v := 0) d_Model_joins_276 (by decide) ?_
                  refine j_lcmp (pc := 277) C (v := lg_cmp v45 0) d_Model_joins_277 rfl ?_
                  refine j_if_le (pc := 278) C (tgt := 285) d_Model_joins_278 (by decide) (fun c46 => ?_) (fun c46 => ?_)
                  · refine j_lconst (pc := 285) C (v := 0) d_Model_joins_285 (by decide) ?_
                    refine j_callVv (pc := 286) C (c_M_puts l D y mo ma t1 i2 i3 i4 i5 i6 i7 i8 i42 i49 i51 i53 i54 i59 (t61 - 2) i64 i66 t67 i76 i78 g60 0 (by omega)) kw_Model_394 kv_Model_puts 0 10 rfl rfl ⟨by decide, by decide⟩ ⟨by decide, by decide⟩ (wr := []) [0, 1] [] rfl rfl (by decide) (by decide) (by decide) (As := [.long 0]) (rest := []) rfl (nb rfl) rfl d_Model_joins_286 (fun u47 hu48 => ?_)
                    have xh49 := hu48
                    refine j_ws (ws' := [MB mo ma (nI t1) i2 i3 i4 i5 i6 i7 i8 i42 i49 i51 i53 i54 i59 (nI u47.1) i64 i66 (nI t67) i76 i78, (ma 60, .inl (y 1, 1700, .inr (.inl u47.2)))]) rfl ?_
                    exact j_vret (pc := 289) C hr (u47.1, u47.2) (show u47.1 + 1 = t61 by omega) [0, 1] rfl (by decide) (by decide) (by decide) d_Model_joins_289
                  · refine j_lconst (pc := 281) C (v := 1) d_Model_joins_281 (by decide) ?_
                    refine j_goto (pc := 282) C (tgt := 286) d_Model_joins_282 (by decide) ?_
                    refine j_callVv (pc := 286) C (c_M_puts l D y mo ma t1 i2 i3 i4 i5 i6 i7 i8 i42 i49 i51 i53 i54 i59 (t61 - 2) i64 i66 t67 i76 i78 g60 1 (by omega)) kw_Model_394 kv_Model_puts 0 10 rfl rfl ⟨by decide, by decide⟩ ⟨by decide, by decide⟩ (wr := []) [0, 1] [] rfl rfl (by decide) (by decide) (by decide) (As := [.long 1]) (rest := []) rfl (nb rfl) rfl d_Model_joins_286 (fun u50 hu51 => ?_)
                    have xh52 := hu51
                    refine j_ws (ws' := [MB mo ma (nI t1) i2 i3 i4 i5 i6 i7 i8 i42 i49 i51 i53 i54 i59 (nI u50.1) i64 i66 (nI t67) i76 i78, (ma 60, .inl (y 1, 1700, .inr (.inl u50.2)))]) rfl ?_
                    exact j_vret (pc := 289) C hr (u50.1, u50.2) (show u50.1 + 1 = t61 by omega) [0, 1] rfl (by decide) (by decide) (by decide) d_Model_joins_289
                · by_cases c1_8 : v = 9
                  · refine j_tabIn (pc := 36) C (off := 235) (tgt := 271) d_Model_joins_36 (by rw [c1_8]; decide) (by rw [c1_8]; decide) (by rw [c1_8]; decide) (by decide) ?_
                    refine j_aload_n (pc := 271) C d_Model_joins_271 rfl 2 rfl ?_
                    refine j_lload (pc := 272) C d_Model_joins_272 0 rfl ?_
                    refine j_lload_n (pc := 274) C d_Model_joins_274 rfl 1 rfl ?_
                    refine j_ladd (pc := 275) C (v := (g60 (t61 - 2)) + (g60 (t61 - 1))) d_Model_joins_275 rfl ?_
                    refine j_anyL (fun v53 => ?_)
                    refine j_lconst (pc := 276) C (v := 0) d_Model_joins_276 (by decide) ?_
                    refine j_lcmp (pc := 277) C (v := lg_cmp v53 0) d_Model_joins_277 rfl ?_
                    refine j_if_le (pc := 278) C (tgt := 285) d_Model_joins_278 (by decide) (fun c54 => ?_) (fun c54 => ?_)
                    · refine j_lconst (pc := 285) C (v := 0) d_Model_joins_285 (by decide) ?_
                      refine j_callVv (pc := 286) C (c_M_puts l D y mo ma t1 i2 i3 i4 i5 i6 i7 i8 i42 i49 i51 i53 i54 i59 (t61 - 2) i64 i66 t67 i76 i78 g60 0 (by omega)) kw_Model_394 kv_Model_puts 0 10 rfl rfl ⟨by decide, by decide⟩ ⟨by decide, by decide⟩ (wr := []) [0, 1] [] rfl rfl (by decide) (by decide) (by decide) (As := [.long 0]) (rest := []) rfl (nb rfl) rfl d_Model_joins_286 (fun u55 hu56 => ?_)
                      have xh57 := hu56
                      refine j_ws (ws' := [MB mo ma (nI t1) i2 i3 i4 i5 i6 i7 i8 i42 i49 i51 i53 i54 i59 (nI u55.1) i64 i66 (nI t67) i76 i78, (ma 60, .inl (y 1, 1700, .inr (.inl u55.2)))]) rfl ?_
                      exact j_vret (pc := 289) C hr (u55.1, u55.2) (show u55.1 + 1 = t61 by omega) [0, 1] rfl (by decide) (by decide) (by decide) d_Model_joins_289
                    · refine j_lconst (pc := 281) C (v := 1) d_Model_joins_281 (by decide) ?_
                      refine j_goto (pc := 282) C (tgt := 286) d_Model_joins_282 (by decide) ?_
                      refine j_callVv (pc := 286) C (c_M_puts l D y mo ma t1 i2 i3 i4 i5 i6 i7 i8 i42 i49 i51 i53 i54 i59 (t61 - 2) i64 i66 t67 i76 i78 g60 1 (by omega)) kw_Model_394 kv_Model_puts 0 10 rfl rfl ⟨by decide, by decide⟩ ⟨by decide, by decide⟩ (wr := []) [0, 1] [] rfl rfl (by decide) (by decide) (by decide) (As := [.long 1]) (rest := []) rfl (nb rfl) rfl d_Model_joins_286 (fun u58 hu59 => ?_)
                      have xh60 := hu59
                      refine j_ws (ws' := [MB mo ma (nI t1) i2 i3 i4 i5 i6 i7 i8 i42 i49 i51 i53 i54 i59 (nI u58.1) i64 i66 (nI t67) i76 i78, (ma 60, .inl (y 1, 1700, .inr (.inl u58.2)))]) rfl ?_
                      exact j_vret (pc := 289) C hr (u58.1, u58.2) (show u58.1 + 1 = t61 by omega) [0, 1] rfl (by decide) (by decide) (by decide) d_Model_joins_289
                  · by_cases c1_9 : v = 10
                    · refine j_tabIn (pc := 36) C (off := 235) (tgt := 271) d_Model_joins_36 (by rw [c1_9]; decide) (by rw [c1_9]; decide) (by rw [c1_9]; decide) (by decide) ?_
                      refine j_aload_n (pc := 271) C d_Model_joins_271 rfl 2 rfl ?_
                      refine j_lload (pc := 272) C d_Model_joins_272 0 rfl ?_
                      refine j_lload_n (pc := 274) C d_Model_joins_274 rfl 1 rfl ?_
                      refine j_ladd (pc := 275) C (v := (g60 (t61 - 2)) + (g60 (t61 - 1))) d_Model_joins_275 rfl ?_
                      refine j_anyL (fun v61 => ?_)
                      refine j_lconst (pc := 276) C (v := 0) d_Model_joins_276 (by decide) ?_
                      refine j_lcmp (pc := 277) C (v := lg_cmp v61 0) d_Model_joins_277 rfl ?_
                      refine j_if_le (pc := 278) C (tgt := 285) d_Model_joins_278 (by decide) (fun c62 => ?_) (fun c62 => ?_)
                      · refine j_lconst (pc := 285) C (v := 0) d_Model_joins_285 (by decide) ?_
                        refine j_callVv (pc := 286) C (c_M_puts l D y mo ma t1 i2 i3 i4 i5 i6 i7 i8 i42 i49 i51 i53 i54 i59 (t61 - 2) i64 i66 t67 i76 i78 g60 0 (by omega)) kw_Model_394 kv_Model_puts 0 10 rfl rfl ⟨by decide, by decide⟩ ⟨by decide, by decide⟩ (wr := []) [0, 1] [] rfl rfl (by decide) (by decide) (by decide) (As := [.long 0]) (rest := []) rfl (nb rfl) rfl d_Model_joins_286 (fun u63 hu64 => ?_)
                        have xh65 := hu64
                        refine j_ws (ws' := [MB mo ma (nI t1) i2 i3 i4 i5 i6 i7 i8 i42 i49 i51 i53 i54 i59 (nI u63.1) i64 i66 (nI t67) i76 i78, (ma 60, .inl (y 1, 1700, .inr (.inl u63.2)))]) rfl ?_
                        exact j_vret (pc := 289) C hr (u63.1, u63.2) (show u63.1 + 1 = t61 by omega) [0, 1] rfl (by decide) (by decide) (by decide) d_Model_joins_289
                      · refine j_lconst (pc := 281) C (v := 1) d_Model_joins_281 (by decide) ?_
                        refine j_goto (pc := 282) C (tgt := 286) d_Model_joins_282 (by decide) ?_
                        refine j_callVv (pc := 286) C (c_M_puts l D y mo ma t1 i2 i3 i4 i5 i6 i7 i8 i42 i49 i51 i53 i54 i59 (t61 - 2) i64 i66 t67 i76 i78 g60 1 (by omega)) kw_Model_394 kv_Model_puts 0 10 rfl rfl ⟨by decide, by decide⟩ ⟨by decide, by decide⟩ (wr := []) [0, 1] [] rfl rfl (by decide) (by decide) (by decide) (As := [.long 1]) (rest := []) rfl (nb rfl) rfl d_Model_joins_286 (fun u66 hu67 => ?_)
                        have xh68 := hu67
                        refine j_ws (ws' := [MB mo ma (nI t1) i2 i3 i4 i5 i6 i7 i8 i42 i49 i51 i53 i54 i59 (nI u66.1) i64 i66 (nI t67) i76 i78, (ma 60, .inl (y 1, 1700, .inr (.inl u66.2)))]) rfl ?_
                        exact j_vret (pc := 289) C hr (u66.1, u66.2) (show u66.1 + 1 = t61 by omega) [0, 1] rfl (by decide) (by decide) (by decide) d_Model_joins_289
                    · by_cases c1_10 : v = 11
                      · refine j_tabIn (pc := 36) C (off := 167) (tgt := 203) d_Model_joins_36 (by rw [c1_10]; decide) (by rw [c1_10]; decide) (by rw [c1_10]; decide) (by decide) ?_
                        refine j_aload_n (pc := 203) C d_Model_joins_203 rfl 2 rfl ?_
                        refine j_lload (pc := 204) C d_Model_joins_204 0 rfl ?_
                        refine j_lload_n (pc := 206) C d_Model_joins_206 rfl 1 rfl ?_
                        refine j_lcmp (pc := 207) C (v := lg_cmp (g60 (t61 - 2)) (g60 (t61 - 1))) d_Model_joins_207 rfl ?_
                        refine j_anyI (fun v69 => ?_)
                        refine j_if_ge (pc := 208) C (tgt := 215) d_Model_joins_208 (by decide) (fun c70 => ?_) (fun c70 => ?_)
                        · refine j_lconst (pc := 215) C (v := 0) d_Model_joins_215 (by decide) ?_
                          refine j_callVv (pc := 216) C (c_M_puts l D y mo ma t1 i2 i3 i4 i5 i6 i7 i8 i42 i49 i51 i53 i54 i59 (t61 - 2) i64 i66 t67 i76 i78 g60 0 (by omega)) kw_Model_394 kv_Model_puts 0 10 rfl rfl ⟨by decide, by decide⟩ ⟨by decide, by decide⟩ (wr := []) [0, 1] [] rfl rfl (by decide) (by decide) (by decide) (As := [.long 0]) (rest := []) rfl (nb rfl) rfl d_Model_joins_216 (fun u71 hu72 => ?_)
                          have xh73 := hu72
                          refine j_ws (ws' := [MB mo ma (nI t1) i2 i3 i4 i5 i6 i7 i8 i42 i49 i51 i53 i54 i59 (nI u71.1) i64 i66 (nI t67) i76 i78, (ma 60, .inl (y 1, 1700, .inr (.inl u71.2)))]) rfl ?_
                          refine j_goto (pc := 219) C (tgt := 289) d_Model_joins_219 (by decide) ?_
                          exact j_vret (pc := 289) C hr (u71.1, u71.2) (show u71.1 + 1 = t61 by omega) [0, 1] rfl (by decide) (by decide) (by decide) d_Model_joins_289
                        · refine j_lconst (pc := 211) C (v := 1) d_Model_joins_211 (by decide) ?_
                          refine j_goto (pc := 212) C (tgt := 216) d_Model_joins_212 (by decide) ?_
                          refine j_callVv (pc := 216) C (c_M_puts l D y mo ma t1 i2 i3 i4 i5 i6 i7 i8 i42 i49 i51 i53 i54 i59 (t61 - 2) i64 i66 t67 i76 i78 g60 1 (by omega)) kw_Model_394 kv_Model_puts 0 10 rfl rfl ⟨by decide, by decide⟩ ⟨by decide, by decide⟩ (wr := []) [0, 1] [] rfl rfl (by decide) (by decide) (by decide) (As := [.long 1]) (rest := []) rfl (nb rfl) rfl d_Model_joins_216 (fun u74 hu75 => ?_)
                          have xh76 := hu75
                          refine j_ws (ws' := [MB mo ma (nI t1) i2 i3 i4 i5 i6 i7 i8 i42 i49 i51 i53 i54 i59 (nI u74.1) i64 i66 (nI t67) i76 i78, (ma 60, .inl (y 1, 1700, .inr (.inl u74.2)))]) rfl ?_
                          refine j_goto (pc := 219) C (tgt := 289) d_Model_joins_219 (by decide) ?_
                          exact j_vret (pc := 289) C hr (u74.1, u74.2) (show u74.1 + 1 = t61 by omega) [0, 1] rfl (by decide) (by decide) (by decide) d_Model_joins_289
                      · by_cases c1_11 : v = 12
                        · refine j_tabIn (pc := 36) C (off := 186) (tgt := 222) d_Model_joins_36 (by rw [c1_11]; decide) (by rw [c1_11]; decide) (by rw [c1_11]; decide) (by decide) ?_
                          refine j_aload_n (pc := 222) C d_Model_joins_222 rfl 2 rfl ?_
                          refine j_lload (pc := 223) C d_Model_joins_223 0 rfl ?_
                          refine j_lload_n (pc := 225) C d_Model_joins_225 rfl 1 rfl ?_
                          refine j_lcmp (pc := 226) C (v := lg_cmp (g60 (t61 - 2)) (g60 (t61 - 1))) d_Model_joins_226 rfl ?_
                          refine j_anyI (fun v77 => ?_)
                          refine j_if_le (pc := 227) C (tgt := 234) d_Model_joins_227 (by decide) (fun c78 => ?_) (fun c78 => ?_)
                          · refine j_lconst (pc := 234) C (v := 0) d_Model_joins_234 (by decide) ?_
                            refine j_callVv (pc := 235) C (c_M_puts l D y mo ma t1 i2 i3 i4 i5 i6 i7 i8 i42 i49 i51 i53 i54 i59 (t61 - 2) i64 i66 t67 i76 i78 g60 0 (by omega)) kw_Model_394 kv_Model_puts 0 10 rfl rfl ⟨by decide, by decide⟩ ⟨by decide, by decide⟩ (wr := []) [0, 1] [] rfl rfl (by decide) (by decide) (by decide) (As := [.long 0]) (rest := []) rfl (nb rfl) rfl d_Model_joins_235 (fun u79 hu80 => ?_)
                            have xh81 := hu80
                            refine j_ws (ws' := [MB mo ma (nI t1) i2 i3 i4 i5 i6 i7 i8 i42 i49 i51 i53 i54 i59 (nI u79.1) i64 i66 (nI t67) i76 i78, (ma 60, .inl (y 1, 1700, .inr (.inl u79.2)))]) rfl ?_
                            refine j_goto (pc := 238) C (tgt := 289) d_Model_joins_238 (by decide) ?_
                            exact j_vret (pc := 289) C hr (u79.1, u79.2) (show u79.1 + 1 = t61 by omega) [0, 1] rfl (by decide) (by decide) (by decide) d_Model_joins_289
                          · refine j_lconst (pc := 230) C (v := 1) d_Model_joins_230 (by decide) ?_
                            refine j_goto (pc := 231) C (tgt := 235) d_Model_joins_231 (by decide) ?_
                            refine j_callVv (pc := 235) C (c_M_puts l D y mo ma t1 i2 i3 i4 i5 i6 i7 i8 i42 i49 i51 i53 i54 i59 (t61 - 2) i64 i66 t67 i76 i78 g60 1 (by omega)) kw_Model_394 kv_Model_puts 0 10 rfl rfl ⟨by decide, by decide⟩ ⟨by decide, by decide⟩ (wr := []) [0, 1] [] rfl rfl (by decide) (by decide) (by decide) (As := [.long 1]) (rest := []) rfl (nb rfl) rfl d_Model_joins_235 (fun u82 hu83 => ?_)
                            have xh84 := hu83
                            refine j_ws (ws' := [MB mo ma (nI t1) i2 i3 i4 i5 i6 i7 i8 i42 i49 i51 i53 i54 i59 (nI u82.1) i64 i66 (nI t67) i76 i78, (ma 60, .inl (y 1, 1700, .inr (.inl u82.2)))]) rfl ?_
                            refine j_goto (pc := 238) C (tgt := 289) d_Model_joins_238 (by decide) ?_
                            exact j_vret (pc := 289) C hr (u82.1, u82.2) (show u82.1 + 1 = t61 by omega) [0, 1] rfl (by decide) (by decide) (by decide) d_Model_joins_289
                        · by_cases c1_12 : v = 13
                          · refine j_tabIn (pc := 36) C (off := 205) (tgt := 241) d_Model_joins_36 (by rw [c1_12]; decide) (by rw [c1_12]; decide) (by rw [c1_12]; decide) (by decide) ?_
                            refine j_aload_n (pc := 241) C d_Model_joins_241 rfl 2 rfl ?_
                            refine j_lload (pc := 242) C d_Model_joins_242 0 rfl ?_
                            refine j_lload_n (pc := 244) C d_Model_joins_244 rfl 1 rfl ?_
                            refine j_lcmp (pc := 245) C (v := lg_cmp (g60 (t61 - 2)) (g60 (t61 - 1))) d_Model_joins_245 rfl ?_
                            refine j_anyI (fun v85 => ?_)
                            refine j_if_ne (pc := 246) C (tgt := 253) d_Model_joins_246 (by decide) (fun c86 => ?_) (fun c86 => ?_)
                            · refine j_lconst (pc := 253) C (v := 0) d_Model_joins_253 (by decide) ?_
                              refine j_callVv (pc := 254) C (c_M_puts l D y mo ma t1 i2 i3 i4 i5 i6 i7 i8 i42 i49 i51 i53 i54 i59 (t61 - 2) i64 i66 t67 i76 i78 g60 0 (by omega)) kw_Model_394 kv_Model_puts 0 10 rfl rfl ⟨by decide, by decide⟩ ⟨by decide, by decide⟩ (wr := []) [0, 1] [] rfl rfl (by decide) (by decide) (by decide) (As := [.long 0]) (rest := []) rfl (nb rfl) rfl d_Model_joins_254 (fun u87 hu88 => ?_)
                              have xh89 := hu88
                              refine j_ws (ws' := [MB mo ma (nI t1) i2 i3 i4 i5 i6 i7 i8 i42 i49 i51 i53 i54 i59 (nI u87.1) i64 i66 (nI t67) i76 i78, (ma 60, .inl (y 1, 1700, .inr (.inl u87.2)))]) rfl ?_
                              refine j_goto (pc := 257) C (tgt := 289) d_Model_joins_257 (by decide) ?_
                              exact j_vret (pc := 289) C hr (u87.1, u87.2) (show u87.1 + 1 = t61 by omega) [0, 1] rfl (by decide) (by decide) (by decide) d_Model_joins_289
                            · refine j_lconst (pc := 249) C (v := 1) d_Model_joins_249 (by decide) ?_
                              refine j_goto (pc := 250) C (tgt := 254) d_Model_joins_250 (by decide) ?_
                              refine j_callVv (pc := 254) C (c_M_puts l D y mo ma t1 i2 i3 i4 i5 i6 i7 i8 i42 i49 i51 i53 i54 i59 (t61 - 2) i64 i66 t67 i76 i78 g60 1 (by omega)) kw_Model_394 kv_Model_puts 0 10 rfl rfl ⟨by decide, by decide⟩ ⟨by decide, by decide⟩ (wr := []) [0, 1] [] rfl rfl (by decide) (by decide) (by decide) (As := [.long 1]) (rest := []) rfl (nb rfl) rfl d_Model_joins_254 (fun u90 hu91 => ?_)
                              have xh92 := hu91
                              refine j_ws (ws' := [MB mo ma (nI t1) i2 i3 i4 i5 i6 i7 i8 i42 i49 i51 i53 i54 i59 (nI u90.1) i64 i66 (nI t67) i76 i78, (ma 60, .inl (y 1, 1700, .inr (.inl u90.2)))]) rfl ?_
                              refine j_goto (pc := 257) C (tgt := 289) d_Model_joins_257 (by decide) ?_
                              exact j_vret (pc := 289) C hr (u90.1, u90.2) (show u90.1 + 1 = t61 by omega) [0, 1] rfl (by decide) (by decide) (by decide) d_Model_joins_289
                          · by_cases c1_13 : v = 14
                            · refine j_tabIn (pc := 36) C (off := 224) (tgt := 260) d_Model_joins_36 (by rw [c1_13]; decide) (by rw [c1_13]; decide) (by rw [c1_13]; decide) (by decide) ?_
                              refine j_aload_n (pc := 260) C d_Model_joins_260 rfl 2 rfl ?_
                              refine j_lload (pc := 261) C d_Model_joins_261 0 rfl ?_
                              refine j_lload_n (pc := 263) C d_Model_joins_263 rfl 1 rfl ?_
                              refine j_lmul (pc := 264) C (v := (g60 (t61 - 2)) * (g60 (t61 - 1))) d_Model_joins_264 rfl ?_
                              refine j_anyL (fun v93 => ?_)
                              refine j_callVv (pc := 265) C (c_M_puts l D y mo ma t1 i2 i3 i4 i5 i6 i7 i8 i42 i49 i51 i53 i54 i59 (t61 - 2) i64 i66 t67 i76 i78 g60 v93 (by omega)) kw_Model_394 kv_Model_puts 0 10 rfl rfl ⟨by decide, by decide⟩ ⟨by decide, by decide⟩ (wr := []) [0, 1] [] rfl rfl (by decide) (by decide) (by decide) (As := [.long v93]) (rest := []) rfl (nb rfl) rfl d_Model_joins_265 (fun u94 hu95 => ?_)
                              have xh96 := hu95
                              refine j_ws (ws' := [MB mo ma (nI t1) i2 i3 i4 i5 i6 i7 i8 i42 i49 i51 i53 i54 i59 (nI u94.1) i64 i66 (nI t67) i76 i78, (ma 60, .inl (y 1, 1700, .inr (.inl u94.2)))]) rfl ?_
                              refine j_goto (pc := 268) C (tgt := 289) d_Model_joins_268 (by decide) ?_
                              exact j_vret (pc := 289) C hr (u94.1, u94.2) (show u94.1 + 1 = t61 by omega) [0, 1] rfl (by decide) (by decide) (by decide) d_Model_joins_289
                            · refine j_tabOut (pc := 36) C (tgt := 271) d_Model_joins_36 (by exact to_1_14 c1_0 c1_1 c1_2 c1_3 c1_4 c1_5 c1_6 c1_7 c1_8 c1_9 c1_10 c1_11 c1_12 c1_13) (by decide) ?_
                              refine j_aload_n (pc := 271) C d_Model_joins_271 rfl 2 rfl ?_
                              refine j_lload (pc := 272) C d_Model_joins_272 0 rfl ?_
                              refine j_lload_n (pc := 274) C d_Model_joins_274 rfl 1 rfl ?_
                              refine j_ladd (pc := 275) C (v := (g60 (t61 - 2)) + (g60 (t61 - 1))) d_Model_joins_275 rfl ?_
                              refine j_anyL (fun v97 => ?_)
                              refine j_lconst (pc := 276) C (v := 0) d_Model_joins_276 (by decide) ?_
                              refine j_lcmp (pc := 277) C (v := lg_cmp v97 0) d_Model_joins_277 rfl ?_
                              refine j_if_le (pc := 278) C (tgt := 285) d_Model_joins_278 (by decide) (fun c98 => ?_) (fun c98 => ?_)
                              · refine j_lconst (pc := 285) C (v := 0) d_Model_joins_285 (by decide) ?_
                                refine j_callVv (pc := 286) C (c_M_puts l D y mo ma t1 i2 i3 i4 i5 i6 i7 i8 i42 i49 i51 i53 i54 i59 (t61 - 2) i64 i66 t67 i76 i78 g60 0 (by omega)) kw_Model_394 kv_Model_puts 0 10 rfl rfl ⟨by decide, by decide⟩ ⟨by decide, by decide⟩ (wr := []) [0, 1] [] rfl rfl (by decide) (by decide) (by decide) (As := [.long 0]) (rest := []) rfl (nb rfl) rfl d_Model_joins_286 (fun u99 hu100 => ?_)
                                have xh101 := hu100
                                refine j_ws (ws' := [MB mo ma (nI t1) i2 i3 i4 i5 i6 i7 i8 i42 i49 i51 i53 i54 i59 (nI u99.1) i64 i66 (nI t67) i76 i78, (ma 60, .inl (y 1, 1700, .inr (.inl u99.2)))]) rfl ?_
                                exact j_vret (pc := 289) C hr (u99.1, u99.2) (show u99.1 + 1 = t61 by omega) [0, 1] rfl (by decide) (by decide) (by decide) d_Model_joins_289
                              · refine j_lconst (pc := 281) C (v := 1) d_Model_joins_281 (by decide) ?_
                                refine j_goto (pc := 282) C (tgt := 286) d_Model_joins_282 (by decide) ?_
                                refine j_callVv (pc := 286) C (c_M_puts l D y mo ma t1 i2 i3 i4 i5 i6 i7 i8 i42 i49 i51 i53 i54 i59 (t61 - 2) i64 i66 t67 i76 i78 g60 1 (by omega)) kw_Model_394 kv_Model_puts 0 10 rfl rfl ⟨by decide, by decide⟩ ⟨by decide, by decide⟩ (wr := []) [0, 1] [] rfl rfl (by decide) (by decide) (by decide) (As := [.long 1]) (rest := []) rfl (nb rfl) rfl d_Model_joins_286 (fun u102 hu103 => ?_)
                                have xh104 := hu103
                                refine j_ws (ws' := [MB mo ma (nI t1) i2 i3 i4 i5 i6 i7 i8 i42 i49 i51 i53 i54 i59 (nI u102.1) i64 i66 (nI t67) i76 i78, (ma 60, .inl (y 1, 1700, .inr (.inl u102.2)))]) rfl ?_
                                exact j_vret (pc := 289) C hr (u102.1, u102.2) (show u102.1 + 1 = t61 by omega) [0, 1] rfl (by decide) (by decide) (by decide) d_Model_joins_289
theorem d_Model_told_0 : decode prog_13_method_51_code 0 = .ok (.aload_n 0, 1) := by decide +kernel
theorem d_Model_told_1 : decode prog_13_method_51_code 1 = .ok (.iconst 0, 1) := by decide +kernel
theorem d_Model_told_2 : decode prog_13_method_51_code 2 = .ok (.putfield 387, 3) := by decide +kernel
theorem d_Model_told_5 : decode prog_13_method_51_code 5 = .ok (.iload_n 1, 1) := by decide +kernel
theorem d_Model_told_6 : decode prog_13_method_51_code 6 = .ok (.istore 5, 2) := by decide +kernel
theorem d_Model_told_8 : decode prog_13_method_51_code 8 = .ok (.iload 5, 2) := by decide +kernel
theorem d_Model_told_10 : decode prog_13_method_51_code 10 = .ok (.iload_n 2, 1) := by decide +kernel
theorem d_Model_told_11 : decode prog_13_method_51_code 11 = .ok (.if_icmp .ge 157, 3) := by decide +kernel
theorem d_Model_told_168 : decode prog_13_method_51_code 168 = .ok (.aload_n 0, 1) := by decide +kernel
theorem d_Model_told_169 : decode prog_13_method_51_code 169 = .ok (.getfield 155, 3) := by decide +kernel
theorem d_Model_told_172 : decode prog_13_method_51_code 172 = .ok (.iconst 0, 1) := by decide +kernel
theorem d_Model_told_173 : decode prog_13_method_51_code 173 = .ok (.laload, 1) := by decide +kernel
theorem d_Model_told_174 : decode prog_13_method_51_code 174 = .ok (.lreturn, 1) := by decide +kernel
theorem d_Model_told_14 : decode prog_13_method_51_code 14 = .ok (.aload_n 0, 1) := by decide +kernel
theorem d_Model_told_15 : decode prog_13_method_51_code 15 = .ok (.getfield 136, 3) := by decide +kernel
theorem gf_Model_136 : GF "NineBoardsModel" 136 10 50 := ⟨_, _, _, rfl, ci_Model, by decide, (mt_5 (List.mem_of_getElem? (i := 138) rfl) rfl)⟩
theorem d_Model_told_18 : decode prog_13_method_51_code 18 = .ok (.sipush 1600, 3) := by decide +kernel
theorem d_Model_told_21 : decode prog_13_method_51_code 21 = .ok (.iload 5, 2) := by decide +kernel
theorem d_Model_told_23 : decode prog_13_method_51_code 23 = .ok (.iadd, 1) := by decide +kernel
theorem d_Model_told_24 : decode prog_13_method_51_code 24 = .ok (.iaload, 1) := by decide +kernel
theorem d_Model_told_25 : decode prog_13_method_51_code 25 = .ok (.istore 6, 2) := by decide +kernel
theorem d_Model_told_27 : decode prog_13_method_51_code 27 = .ok (.iload 6, 2) := by decide +kernel
theorem d_Model_told_29 : decode prog_13_method_51_code 29 = .ok (.sipush 1000, 3) := by decide +kernel
theorem d_Model_told_32 : decode prog_13_method_51_code 32 = .ok (.if_icmp .lt 17, 3) := by decide +kernel
theorem d_Model_told_49 : decode prog_13_method_51_code 49 = .ok (.iload 6, 2) := by decide +kernel
theorem d_Model_told_51 : decode prog_13_method_51_code 51 = .ok (.bipush 17, 2) := by decide +kernel
theorem d_Model_told_53 : decode prog_13_method_51_code 53 = .ok (.if_icmp .ne 11, 3) := by decide +kernel
theorem d_Model_told_64 : decode prog_13_method_51_code 64 = .ok (.iload 6, 2) := by decide +kernel
theorem d_Model_told_66 : decode prog_13_method_51_code 66 = .ok (.bipush 16, 2) := by decide +kernel
theorem d_Model_told_68 : decode prog_13_method_51_code 68 = .ok (.if_icmp .ne 30, 3) := by decide +kernel
theorem d_Model_told_98 : decode prog_13_method_51_code 98 = .ok (.iload 6, 2) := by decide +kernel
theorem d_Model_told_100 : decode prog_13_method_51_code 100 = .ok (.i2l, 1) := by decide +kernel
theorem d_Model_told_101 : decode prog_13_method_51_code 101 = .ok (.ldc2_w 402, 3) := by decide +kernel
theorem d_Model_told_104 : decode prog_13_method_51_code 104 = .ok (.ldc2_w 404, 3) := by decide +kernel
theorem d_Model_told_107 : decode prog_13_method_51_code 107 = .ok (.invokestatic 240, 3) := by decide +kernel
theorem d_Model_told_110 : decode prog_13_method_51_code 110 = .ok (.ifCond .eq 46, 3) := by decide +kernel
theorem d_Model_told_156 : decode prog_13_method_51_code 156 = .ok (.aload_n 0, 1) := by decide +kernel
theorem d_Model_told_157 : decode prog_13_method_51_code 157 = .ok (.iload 6, 2) := by decide +kernel
theorem d_Model_told_159 : decode prog_13_method_51_code 159 = .ok (.invokevirtual 406, 3) := by decide +kernel
theorem kw_Model_406 : KW "NineBoardsModel" 406 ⟨"NineBoardsModel", "joins", "(I)V"⟩ prog_13_method_50_code 6 none 1 := ⟨(mt_7 (List.mem_of_getElem? (i := 150) rfl) rfl), (mt_1 (List.mem_of_getElem? (i := 16) rfl) rfl), (mt_7 (List.mem_of_getElem? (i := 153) rfl) rfl), by decide +kernel⟩
theorem kv_Model_joins : Cond.instanceMethod ⟨"NineBoardsModel", "joins", "(I)V"⟩ ∈ TB ∧ Cond.selects "NineBoardsModel" ⟨"NineBoardsModel", "joins", "(I)V"⟩ ⟨"NineBoardsModel", "joins", "(I)V"⟩ ∈ TB := ⟨(mt_7 (List.mem_of_getElem? (i := 152) rfl) rfl), (ms_0 (List.mem_map.mpr ⟨(⟨"NineBoardsModel", "joins", "(I)V"⟩, 79), List.mem_of_getElem? (i := 108) (by decide +kernel), rfl⟩) rfl)⟩
theorem d_Model_told_162 : decode prog_13_method_51_code 162 = .ok (.iinc 5 1, 3) := by decide +kernel
theorem d_Model_told_165 : decode prog_13_method_51_code 165 = .ok (.goto (-157), 3) := by decide +kernel
theorem d_Model_told_113 : decode prog_13_method_51_code 113 = .ok (.aload_n 0, 1) := by decide +kernel
theorem d_Model_told_114 : decode prog_13_method_51_code 114 = .ok (.iload 6, 2) := by decide +kernel
theorem d_Model_told_116 : decode prog_13_method_51_code 116 = .ok (.bipush 7, 2) := by decide +kernel
theorem d_Model_told_118 : decode prog_13_method_51_code 118 = .ok (.if_icmp .ne 8, 3) := by decide +kernel
theorem d_Model_told_126 : decode prog_13_method_51_code 126 = .ok (.iload 6, 2) := by decide +kernel
theorem d_Model_told_128 : decode prog_13_method_51_code 128 = .ok (.bipush 8, 2) := by decide +kernel
theorem d_Model_told_130 : decode prog_13_method_51_code 130 = .ok (.if_icmp .ne 17, 3) := by decide +kernel
theorem d_Model_told_147 : decode prog_13_method_51_code 147 = .ok (.iload 4, 2) := by decide +kernel
theorem d_Model_told_149 : decode prog_13_method_51_code 149 = .ok (.i2l, 1) := by decide +kernel
theorem d_Model_told_150 : decode prog_13_method_51_code 150 = .ok (.invokevirtual 394, 3) := by decide +kernel
theorem d_Model_told_153 : decode prog_13_method_51_code 153 = .ok (.goto 9, 3) := by decide +kernel
theorem d_Model_told_133 : decode prog_13_method_51_code 133 = .ok (.iload 4, 2) := by decide +kernel
theorem d_Model_told_135 : decode prog_13_method_51_code 135 = .ok (.aload_n 0, 1) := by decide +kernel
theorem d_Model_told_136 : decode prog_13_method_51_code 136 = .ok (.getfield 124, 3) := by decide +kernel
theorem d_Model_told_139 : decode prog_13_method_51_code 139 = .ok (.bipush 7, 2) := by decide +kernel
theorem d_Model_told_141 : decode prog_13_method_51_code 141 = .ok (.iaload, 1) := by decide +kernel
theorem d_Model_told_142 : decode prog_13_method_51_code 142 = .ok (.idiv, 1) := by decide +kernel
theorem d_Model_told_143 : decode prog_13_method_51_code 143 = .ok (.i2l, 1) := by decide +kernel
theorem d_Model_told_144 : decode prog_13_method_51_code 144 = .ok (.goto 6, 3) := by decide +kernel
theorem d_Model_told_121 : decode prog_13_method_51_code 121 = .ok (.iload_n 3, 1) := by decide +kernel
theorem d_Model_told_122 : decode prog_13_method_51_code 122 = .ok (.i2l, 1) := by decide +kernel
theorem d_Model_told_123 : decode prog_13_method_51_code 123 = .ok (.goto 27, 3) := by decide +kernel
theorem d_Model_told_71 : decode prog_13_method_51_code 71 = .ok (.aload_n 0, 1) := by decide +kernel
theorem d_Model_told_72 : decode prog_13_method_51_code 72 = .ok (.getfield 155, 3) := by decide +kernel
theorem d_Model_told_75 : decode prog_13_method_51_code 75 = .ok (.aload_n 0, 1) := by decide +kernel
theorem d_Model_told_76 : decode prog_13_method_51_code 76 = .ok (.getfield 387, 3) := by decide +kernel
theorem d_Model_told_79 : decode prog_13_method_51_code 79 = .ok (.iconst 1, 1) := by decide +kernel
theorem d_Model_told_80 : decode prog_13_method_51_code 80 = .ok (.isub, 1) := by decide +kernel
theorem d_Model_told_81 : decode prog_13_method_51_code 81 = .ok (.lconst 1, 1) := by decide +kernel
theorem d_Model_told_82 : decode prog_13_method_51_code 82 = .ok (.aload_n 0, 1) := by decide +kernel
theorem d_Model_told_83 : decode prog_13_method_51_code 83 = .ok (.getfield 155, 3) := by decide +kernel
theorem d_Model_told_86 : decode prog_13_method_51_code 86 = .ok (.aload_n 0, 1) := by decide +kernel
theorem d_Model_told_87 : decode prog_13_method_51_code 87 = .ok (.getfield 387, 3) := by decide +kernel
theorem d_Model_told_90 : decode prog_13_method_51_code 90 = .ok (.iconst 1, 1) := by decide +kernel
theorem d_Model_told_91 : decode prog_13_method_51_code 91 = .ok (.isub, 1) := by decide +kernel
theorem d_Model_told_92 : decode prog_13_method_51_code 92 = .ok (.laload, 1) := by decide +kernel
theorem d_Model_told_93 : decode prog_13_method_51_code 93 = .ok (.lsub, 1) := by decide +kernel
theorem d_Model_told_94 : decode prog_13_method_51_code 94 = .ok (.lastore, 1) := by decide +kernel
theorem d_Model_told_95 : decode prog_13_method_51_code 95 = .ok (.goto 67, 3) := by decide +kernel
theorem d_Model_told_56 : decode prog_13_method_51_code 56 = .ok (.aload_n 0, 1) := by decide +kernel
theorem d_Model_told_57 : decode prog_13_method_51_code 57 = .ok (.lconst 1, 1) := by decide +kernel
theorem d_Model_told_58 : decode prog_13_method_51_code 58 = .ok (.invokevirtual 394, 3) := by decide +kernel
theorem d_Model_told_61 : decode prog_13_method_51_code 61 = .ok (.goto 101, 3) := by decide +kernel
theorem d_Model_told_35 : decode prog_13_method_51_code 35 = .ok (.aload_n 0, 1) := by decide +kernel
theorem d_Model_told_36 : decode prog_13_method_51_code 36 = .ok (.iload 6, 2) := by decide +kernel
theorem d_Model_told_38 : decode prog_13_method_51_code 38 = .ok (.sipush 1000, 3) := by decide +kernel
theorem d_Model_told_41 : decode prog_13_method_51_code 41 = .ok (.isub, 1) := by decide +kernel
theorem d_Model_told_42 : decode prog_13_method_51_code 42 = .ok (.i2l, 1) := by decide +kernel
theorem d_Model_told_43 : decode prog_13_method_51_code 43 = .ok (.invokevirtual 394, 3) := by decide +kernel
theorem d_Model_told_46 : decode prog_13_method_51_code 46 = .ok (.goto 116, 3) := by decide +kernel
set_option maxHeartbeats 4000000 in
set_option maxRecDepth 100000 in
theorem c_M_told (l : Launch) (D : va_G) (y : Nat → ClassId) (mo : Nat) (ma : Nat → Nat) (t1 : Nat) (i2 : Int32) (i3 : Int32) (i4 : Int32) (i5 : Int32) (i6 : Int32) (i7 : Int32) (i8 : Int32) (i42 : Int32) (i49 : Int32) (i51 : Int32) (i53 : Int32) (i54 : Int32) (i59 : Int32) (i61 : Int32) (i64 : Int32) (i66 : Int32) (t67 : Nat) (i76 : Int64) (i78 : Int32) (g45 : Nat → Int32) (g50 : Nat → Int32) (g60 : Nat → Int64) (ja : Nat) (jb : Nat) (v3 : Int32) (v4 : Int32) (hab : ja ≤ jb) (hb : jb ≤ 1600) (hw : (∃ q, dp g50 (1600 + ja) (jb - ja) = some q)) (hL : ¬ g45 7 = 0) : CT l D y ⟨"NineBoardsModel", "told", "(IIII)J"⟩ prog_13_method_51_code 7 (some .long) ({ frames := 2, cells := 0, slots := 0, locals := 50 } : Room) [.ref mo, .int (nI ja), .int (nI jb), .int v3, .int v4] [MB mo ma (nI t1) i2 i3 i4 i5 i6 i7 i8 i42 i49 i51 i53 i54 i59 i61 i64 i66 (nI t67) i76 i78, (ma 45, .inl (y 0, 14, .inl g45)), (ma 50, .inl (y 0, 3200, .inl g50)), (ma 60, .inl (y 1, 1700, .inr (.inl g60)))] (QL D [MB mo ma (nI t1) i2 i3 i4 i5 i6 i7 i8 i42 i49 i51 i53 i54 i59 i61 i64 i66 (nI t67) i76 i78, (ma 45, .inl (y 0, 14, .inl g45)), (ma 50, .inl (y 0, 3200, .inl g50)), (ma 60, .inl (y 1, 1700, .inr (.inl g60)))] (fun (r : Int64) (u : Int32 × (Nat → Int64)) => True) (fun u => [MB mo ma (nI t1) i2 i3 i4 i5 i6 i7 i8 i42 i49 i51 i53 i54 i59 u.1 i64 i66 (nI t67) i76 i78, (ma 45, .inl (y 0, 14, .inl g45)), (ma 50, .inl (y 0, 3200, .inl g50)), (ma 60, .inl (y 1, 1700, .inr (.inl u.2)))])) := by
  refine CT.of (by decide) (nb rfl) ?_
  intro p e s m args below meth c C hr
  refine j_lv (lv' := [(0, .ref mo), (1, .int (nI ja)), (2, .int (nI jb)), (3, .int v3), (4, .int v4)]) rfl ?_
  refine j_aload_n (pc := 0) C d_Model_told_0 rfl 0 rfl ?_
  refine j_iconst (pc := 1) C (v := 0) d_Model_told_1 (by decide) ?_
  refine j_put (pc := 2) C pf_Model_387 0 (ws' := [MB mo ma (nI t1) i2 i3 i4 i5 i6 i7 i8 i42 i49 i51 i53 i54 i59 0 i64 i66 (nI t67) i76 i78, (ma 45, .inl (y 0, 14, .inl g45)), (ma 50, .inl (y 0, 3200, .inl g50)), (ma 60, .inl (y 1, 1700, .inr (.inl g60)))]) rfl rfl rfl (nl rfl) rfl d_Model_told_2 ?_
  refine j_iload_n (pc := 5) C d_Model_told_5 rfl 1 rfl ?_
  refine j_istore (pc := 6) C (lv' := [(5, .int (nI ja)), (0, .ref mo), (1, .int (nI ja)), (2, .int (nI jb)), (3, .int v3), (4, .int v4)]) d_Model_told_6 (by decide) rfl ?_
  refine j_loop (α := Nat × Nat × (Nat → Int64)) (fun a => jb - a.1) (fun a => (ja ≤ a.1) ∧ (a.1 ≤ jb) ∧ (dp g50 (1600 + ja) (a.1 - ja) = some a.2.1)) (fun a => [MB mo ma (nI t1) i2 i3 i4 i5 i6 i7 i8 i42 i49 i51 i53 i54 i59 (nI a.2.1) i64 i66 (nI t67) i76 i78, (ma 45, .inl (y 0, 14, .inl g45)), (ma 50, .inl (y 0, 3200, .inl g50)), (ma 60, .inl (y 1, 1700, .inr (.inl a.2.2)))]) (fun a => [(5, .int (nI a.1)), (0, .ref mo), (1, .int (nI ja)), (2, .int (nI jb)), (3, .int v3), (4, .int v4)]) (ja, 0, g60) rfl rfl ⟨(show ja ≤ ja by omega), hab, (by rw [Nat.sub_self]; rfl)⟩ ?_
  rintro ⟨iz, pz, z30⟩ hP60 ih61
  obtain ⟨hl__, hi__, hd__⟩ := hP60
  have hl_ : ja ≤ iz := hl__
  have hi_ : iz ≤ jb := hi__
  have hd_ : dp g50 (1600 + ja) (iz - ja) = some pz := hd__
  refine j_ws (ws' := [MB mo ma (nI t1) i2 i3 i4 i5 i6 i7 i8 i42 i49 i51 i53 i54 i59 (nI pz) i64 i66 (nI t67) i76 i78, (ma 45, .inl (y 0, 14, .inl g45)), (ma 50, .inl (y 0, 3200, .inl g50)), (ma 60, .inl (y 1, 1700, .inr (.inl z30)))]) rfl ?_
  refine j_lv (lv' := [(5, .int (nI iz)), (0, .ref mo), (1, .int (nI ja)), (2, .int (nI jb)), (3, .int v3), (4, .int v4)]) rfl ?_
  refine j_iload (pc := 8) C d_Model_told_8 0 rfl ?_
  refine j_iload_n (pc := 10) C d_Model_told_10 rfl 3 rfl ?_
  by_cases c62 : jb ≤ iz
  · refine j_icmp_geT (pc := 11) C (tgt := 168) d_Model_told_11 (by decide) (show nI jb ≤ nI iz from nI_le (by omega) (by omega)) ?_
    refine j_aload_n (pc := 168) C d_Model_told_168 rfl 1 rfl ?_
    refine j_get (pc := 169) C gf_Model_155 0 rfl rfl d_Model_told_169 ?_
    refine j_iconst (pc := 172) C (v := 0) d_Model_told_172 (by decide) ?_
    refine j_lald (pc := 173) C 3 rfl (v := z30 0) (vin (by decide)) rfl d_Model_told_173 ?_
    exact j_lret (pc := 174) C hr (nI pz, z30) trivial [0, 1, 2, 3] rfl (by decide) (by decide) (by decide) d_Model_told_174
  · refine j_icmp_geF (pc := 11) C (tgt := 168) d_Model_told_11 (by decide) (show ¬ nI jb ≤ nI iz from nI_ge (by omega) (by omega)) ?_
    obtain ⟨tz, hz1, hz2⟩ := dp_at hw hl_ (by omega) hd_
    have hz4 := dp_le hd_
    refine j_aload_n (pc := 14) C d_Model_told_14 rfl 1 rfl ?_
    refine j_get (pc := 15) C gf_Model_136 0 rfl rfl d_Model_told_15 ?_
    refine j_sipush (pc := 18) C (v := 1600) d_Model_told_18 (by decide) ?_
    refine j_iload (pc := 21) C d_Model_told_21 0 rfl ?_
    refine j_iadd (pc := 23) C (v := nI (1600 + iz)) d_Model_told_23 (nI_add _ _) ?_
    refine j_iald (pc := 24) C 2 rfl (v := g50 (1600 + iz)) (vp_in_nI (by omega) (by decide)) (by rw [nI_clamp (by omega)]) d_Model_told_24 ?_
    refine j_istore (pc := 25) C (lv' := [(6, .int (g50 (1600 + iz))), (5, .int (nI iz)), (0, .ref mo), (1, .int (nI ja)), (2, .int (nI jb)), (3, .int v3), (4, .int v4)]) d_Model_told_25 (by decide) rfl ?_
    refine j_iload (pc := 27) C d_Model_told_27 0 rfl ?_
    refine j_sipush (pc := 29) C (v := 1000) d_Model_told_29 (by decide) ?_
    refine j_icmp_lt (pc := 32) C (tgt := 49) d_Model_told_32 (by decide) (fun c63 => ?_) (fun c63 => ?_)
    · refine j_iload (pc := 49) C d_Model_told_49 0 rfl ?_
      refine j_bipush (pc := 51) C (v := 17) d_Model_told_51 (by decide) ?_
      refine j_icmp_ne (pc := 53) C (tgt := 64) d_Model_told_53 (by decide) (fun c64 => ?_) (fun c64 => ?_)
      · refine j_iload (pc := 64) C d_Model_told_64 0 rfl ?_
        refine j_bipush (pc := 66) C (v := 16) d_Model_told_66 (by decide) ?_
        refine j_icmp_ne (pc := 68) C (tgt := 98) d_Model_told_68 (by decide) (fun c65 => ?_) (fun c65 => ?_)
        · refine j_iload (pc := 98) C d_Model_told_98 0 rfl ?_
          refine j_i2l (pc := 100) C (v := (g50 (1600 + iz)).toInt64) d_Model_told_100 rfl ?_
          refine j_ldc2 (pc := 101) C (v := 7) (mt_7 (List.mem_of_getElem? (i := 148) rfl) rfl) d_Model_told_101 ?_
          refine j_ldc2 (pc := 104) C (v := 9) (mt_7 (List.mem_of_getElem? (i := 149) rfl) rfl) d_Model_told_104 ?_
          refine j_callSi (pc := 107) C (c_isIn_79 l D y (g50 (1600 + iz))) kw_Model_240 ks_Model_isIn ⟨by decide, by decide⟩ ⟨by decide, by decide⟩ (wr := [MB mo ma (nI t1) i2 i3 i4 i5 i6 i7 i8 i42 i49 i51 i53 i54 i59 (nI pz) i64 i66 (nI t67) i76 i78, (ma 45, .inl (y 0, 14, .inl g45)), (ma 50, .inl (y 0, 3200, .inl g50)), (ma 60, .inl (y 1, 1700, .inr (.inl z30)))]) [] [0, 1, 2, 3] rfl rfl (by decide) (by decide) (by decide) (As := [.long ((g50 (1600 + iz)).toInt64), .long 7, .long 9]) (rest := []) rfl (nb rfl) rfl d_Model_told_107 (fun r66 _ hr66 => ?_)
          refine j_ws (ws' := [MB mo ma (nI t1) i2 i3 i4 i5 i6 i7 i8 i42 i49 i51 i53 i54 i59 (nI pz) i64 i66 (nI t67) i76 i78, (ma 45, .inl (y 0, 14, .inl g45)), (ma 50, .inl (y 0, 3200, .inl g50)), (ma 60, .inl (y 1, 1700, .inr (.inl z30)))]) rfl ?_
          rcases hr66 with ⟨rfl, xh68⟩ | ⟨rfl, xh69⟩
          · refine j_if_eqT (pc := 110) C (tgt := 156) d_Model_told_110 (by decide) (by decide) ?_
            have hz3 := st_join hz1 (Int32.not_le.mpr c63) c64 c65 xh68
            refine j_aload_n (pc := 156) C d_Model_told_156 rfl 2 rfl ?_
            refine j_iload (pc := 157) C d_Model_told_157 0 rfl ?_
            refine j_callVv (pc := 159) C (c_M_joins l D y mo ma t1 i2 i3 i4 i5 i6 i7 i8 i42 i49 i51 i53 i54 i59 pz i64 i66 t67 i76 i78 z30 (g50 (1600 + iz)) (by omega) (by omega)) kw_Model_406 kv_Model_joins 0 10 rfl rfl ⟨by decide, by decide⟩ ⟨by decide, by decide⟩ (wr := [(ma 45, .inl (y 0, 14, .inl g45)), (ma 50, .inl (y 0, 3200, .inl g50))]) [0, 3] [1, 2] rfl rfl (by decide) (by decide) (by decide) (As := [.int (g50 (1600 + iz))]) (rest := []) rfl (nb rfl) rfl d_Model_told_159 (fun u70 hu71 => ?_)
            have xh72 := hu71
            refine j_ws (ws' := [(ma 45, .inl (y 0, 14, .inl g45)), (ma 50, .inl (y 0, 3200, .inl g50)), MB mo ma (nI t1) i2 i3 i4 i5 i6 i7 i8 i42 i49 i51 i53 i54 i59 (nI u70.1) i64 i66 (nI t67) i76 i78, (ma 60, .inl (y 1, 1700, .inr (.inl u70.2)))]) rfl ?_
            refine j_iinc (pc := 162) C (v := nI (iz + 1)) (lv' := [(5, .int (nI (iz + 1))), (6, .int (g50 (1600 + iz))), (0, .ref mo), (1, .int (nI ja)), (2, .int (nI jb)), (3, .int v3), (4, .int v4)]) d_Model_told_162 1 rfl (nI_add _ _) (by decide) rfl ?_
            refine j_goto (pc := 165) C (tgt := 8) d_Model_told_165 (by decide) ?_
            refine j_sub (ws' := [MB mo ma (nI t1) i2 i3 i4 i5 i6 i7 i8 i42 i49 i51 i53 i54 i59 (nI u70.1) i64 i66 (nI t67) i76 i78, (ma 45, .inl (y 0, 14, .inl g45)), (ma 50, .inl (y 0, 3200, .inl g50)), (ma 60, .inl (y 1, 1700, .inr (.inl u70.2)))]) [2, 0, 1, 3] rfl (by decide) ?_
            refine j_locs (lv' := [(5, .int (nI (iz + 1))), (0, .ref mo), (1, .int (nI ja)), (2, .int (nI jb)), (3, .int v3), (4, .int v4)]) [0, 2, 3, 4, 5, 6] rfl ?_
            exact ih61 ((iz + 1), u70.1, u70.2) ⟨(show ja ≤ (iz + 1) by omega), (show (iz + 1) ≤ jb by omega), (show dp g50 (1600 + ja) ((iz + 1) - ja) = some u70.1 from hz2.trans (congrArg some (by omega)))⟩ (show jb - (iz + 1) < jb - iz by omega)
          · refine j_if_eqF (pc := 110) C (tgt := 156) d_Model_told_110 (by decide) (by decide) ?_
            have hz3 := st_var hz1 (Int32.not_le.mpr c63) c64 c65 xh69
            refine j_aload_n (pc := 113) C d_Model_told_113 rfl 2 rfl ?_
            refine j_iload (pc := 114) C d_Model_told_114 0 rfl ?_
            refine j_bipush (pc := 116) C (v := 7) d_Model_told_116 (by decide) ?_
            refine j_icmp_ne (pc := 118) C (tgt := 126) d_Model_told_118 (by decide) (fun c73 => ?_) (fun c73 => ?_)
            · refine j_iload (pc := 126) C d_Model_told_126 0 rfl ?_
              refine j_bipush (pc := 128) C (v := 8) d_Model_told_128 (by decide) ?_
              refine j_icmp_ne (pc := 130) C (tgt := 147) d_Model_told_130 (by decide) (fun c74 => ?_) (fun c74 => ?_)
              · refine j_iload (pc := 147) C d_Model_told_147 6 rfl ?_
                refine j_i2l (pc := 149) C (v := v4.toInt64) d_Model_told_149 rfl ?_
                refine j_callVv (pc := 150) C (c_M_puts l D y mo ma t1 i2 i3 i4 i5 i6 i7 i8 i42 i49 i51 i53 i54 i59 pz i64 i66 t67 i76 i78 z30 v4.toInt64 (by omega)) kw_Model_394 kv_Model_puts 0 10 rfl rfl ⟨by decide, by decide⟩ ⟨by decide, by decide⟩ (wr := [(ma 45, .inl (y 0, 14, .inl g45)), (ma 50, .inl (y 0, 3200, .inl g50))]) [0, 3] [1, 2] rfl rfl (by decide) (by decide) (by decide) (As := [.long v4.toInt64]) (rest := []) rfl (nb rfl) rfl d_Model_told_150 (fun u75 hu76 => ?_)
                have xh77 := hu76
                refine j_ws (ws' := [(ma 45, .inl (y 0, 14, .inl g45)), (ma 50, .inl (y 0, 3200, .inl g50)), MB mo ma (nI t1) i2 i3 i4 i5 i6 i7 i8 i42 i49 i51 i53 i54 i59 (nI u75.1) i64 i66 (nI t67) i76 i78, (ma 60, .inl (y 1, 1700, .inr (.inl u75.2)))]) rfl ?_
                refine j_goto (pc := 153) C (tgt := 162) d_Model_told_153 (by decide) ?_
                refine j_iinc (pc := 162) C (v := nI (iz + 1)) (lv' := [(5, .int (nI (iz + 1))), (6, .int (g50 (1600 + iz))), (0, .ref mo), (1, .int (nI ja)), (2, .int (nI jb)), (3, .int v3), (4, .int v4)]) d_Model_told_162 1 rfl (nI_add _ _) (by decide) rfl ?_
                refine j_goto (pc := 165) C (tgt := 8) d_Model_told_165 (by decide) ?_
                refine j_sub (ws' := [MB mo ma (nI t1) i2 i3 i4 i5 i6 i7 i8 i42 i49 i51 i53 i54 i59 (nI u75.1) i64 i66 (nI t67) i76 i78, (ma 45, .inl (y 0, 14, .inl g45)), (ma 50, .inl (y 0, 3200, .inl g50)), (ma 60, .inl (y 1, 1700, .inr (.inl u75.2)))]) [2, 0, 1, 3] rfl (by decide) ?_
                refine j_locs (lv' := [(5, .int (nI (iz + 1))), (0, .ref mo), (1, .int (nI ja)), (2, .int (nI jb)), (3, .int v3), (4, .int v4)]) [0, 2, 3, 4, 5, 6] rfl ?_
                exact ih61 ((iz + 1), u75.1, u75.2) ⟨(show ja ≤ (iz + 1) by omega), (show (iz + 1) ≤ jb by omega), (show dp g50 (1600 + ja) ((iz + 1) - ja) = some u75.1 from hz2.trans (congrArg some (by omega)))⟩ (show jb - (iz + 1) < jb - iz by omega)
              · refine j_iload (pc := 133) C d_Model_told_133 6 rfl ?_
                refine j_aload_n (pc := 135) C d_Model_told_135 rfl 2 rfl ?_
                refine j_get (pc := 136) C gf_Model_124 0 rfl rfl d_Model_told_136 ?_
                refine j_bipush (pc := 139) C (v := 7) d_Model_told_139 (by decide) ?_
                refine j_iald (pc := 141) C 1 rfl (v := g45 7) (vin (by decide)) rfl d_Model_told_141 ?_
                refine j_idiv (pc := 142) C (v := v4 / (g45 7)) d_Model_told_142 hL rfl ?_
                refine j_i2l (pc := 143) C (v := (v4 / (g45 7)).toInt64) d_Model_told_143 rfl ?_
                refine j_goto (pc := 144) C (tgt := 150) d_Model_told_144 (by decide) ?_
                refine j_callVv (pc := 150) C (c_M_puts l D y mo ma t1 i2 i3 i4 i5 i6 i7 i8 i42 i49 i51 i53 i54 i59 pz i64 i66 t67 i76 i78 z30 ((v4 / (g45 7)).toInt64) (by omega)) kw_Model_394 kv_Model_puts 0 10 rfl rfl ⟨by decide, by decide⟩ ⟨by decide, by decide⟩ (wr := [(ma 45, .inl (y 0, 14, .inl g45)), (ma 50, .inl (y 0, 3200, .inl g50))]) [0, 3] [1, 2] rfl rfl (by decide) (by decide) (by decide) (As := [.long ((v4 / (g45 7)).toInt64)]) (rest := []) rfl (nb rfl) rfl d_Model_told_150 (fun u78 hu79 => ?_)
                have xh80 := hu79
                refine j_ws (ws' := [(ma 45, .inl (y 0, 14, .inl g45)), (ma 50, .inl (y 0, 3200, .inl g50)), MB mo ma (nI t1) i2 i3 i4 i5 i6 i7 i8 i42 i49 i51 i53 i54 i59 (nI u78.1) i64 i66 (nI t67) i76 i78, (ma 60, .inl (y 1, 1700, .inr (.inl u78.2)))]) rfl ?_
                refine j_goto (pc := 153) C (tgt := 162) d_Model_told_153 (by decide) ?_
                refine j_iinc (pc := 162) C (v := nI (iz + 1)) (lv' := [(5, .int (nI (iz + 1))), (6, .int (g50 (1600 + iz))), (0, .ref mo), (1, .int (nI ja)), (2, .int (nI jb)), (3, .int v3), (4, .int v4)]) d_Model_told_162 1 rfl (nI_add _ _) (by decide) rfl ?_
                refine j_goto (pc := 165) C (tgt := 8) d_Model_told_165 (by decide) ?_
                refine j_sub (ws' := [MB mo ma (nI t1) i2 i3 i4 i5 i6 i7 i8 i42 i49 i51 i53 i54 i59 (nI u78.1) i64 i66 (nI t67) i76 i78, (ma 45, .inl (y 0, 14, .inl g45)), (ma 50, .inl (y 0, 3200, .inl g50)), (ma 60, .inl (y 1, 1700, .inr (.inl u78.2)))]) [2, 0, 1, 3] rfl (by decide) ?_
                refine j_locs (lv' := [(5, .int (nI (iz + 1))), (0, .ref mo), (1, .int (nI ja)), (2, .int (nI jb)), (3, .int v3), (4, .int v4)]) [0, 2, 3, 4, 5, 6] rfl ?_
                exact ih61 ((iz + 1), u78.1, u78.2) ⟨(show ja ≤ (iz + 1) by omega), (show (iz + 1) ≤ jb by omega), (show dp g50 (1600 + ja) ((iz + 1) - ja) = some u78.1 from hz2.trans (congrArg some (by omega)))⟩ (show jb - (iz + 1) < jb - iz by omega)
            · refine j_iload_n (pc := 121) C d_Model_told_121 rfl 5 rfl ?_
              refine j_i2l (pc := 122) C (v := v3.toInt64) d_Model_told_122 rfl ?_
              refine j_goto (pc := 123) C (tgt := 150) d_Model_told_123 (by decide) ?_
              refine j_callVv (pc := 150) C (c_M_puts l D y mo ma t1 i2 i3 i4 i5 i6 i7 i8 i42 i49 i51 i53 i54 i59 pz i64 i66 t67 i76 i78 z30 v3.toInt64 (by omega)) kw_Model_394 kv_Model_puts 0 10 rfl rfl ⟨by decide, by decide⟩ ⟨by decide, by decide⟩ (wr := [(ma 45, .inl (y 0, 14, .inl g45)), (ma 50, .inl (y 0, 3200, .inl g50))]) [0, 3] [1, 2] rfl rfl (by decide) (by decide) (by decide) (As := [.long v3.toInt64]) (rest := []) rfl (nb rfl) rfl d_Model_told_150 (fun u81 hu82 => ?_)
              have xh83 := hu82
              refine j_ws (ws' := [(ma 45, .inl (y 0, 14, .inl g45)), (ma 50, .inl (y 0, 3200, .inl g50)), MB mo ma (nI t1) i2 i3 i4 i5 i6 i7 i8 i42 i49 i51 i53 i54 i59 (nI u81.1) i64 i66 (nI t67) i76 i78, (ma 60, .inl (y 1, 1700, .inr (.inl u81.2)))]) rfl ?_
              refine j_goto (pc := 153) C (tgt := 162) d_Model_told_153 (by decide) ?_
              refine j_iinc (pc := 162) C (v := nI (iz + 1)) (lv' := [(5, .int (nI (iz + 1))), (6, .int (g50 (1600 + iz))), (0, .ref mo), (1, .int (nI ja)), (2, .int (nI jb)), (3, .int v3), (4, .int v4)]) d_Model_told_162 1 rfl (nI_add _ _) (by decide) rfl ?_
              refine j_goto (pc := 165) C (tgt := 8) d_Model_told_165 (by decide) ?_
              refine j_sub (ws' := [MB mo ma (nI t1) i2 i3 i4 i5 i6 i7 i8 i42 i49 i51 i53 i54 i59 (nI u81.1) i64 i66 (nI t67) i76 i78, (ma 45, .inl (y 0, 14, .inl g45)), (ma 50, .inl (y 0, 3200, .inl g50)), (ma 60, .inl (y 1, 1700, .inr (.inl u81.2)))]) [2, 0, 1, 3] rfl (by decide) ?_
              refine j_locs (lv' := [(5, .int (nI (iz + 1))), (0, .ref mo), (1, .int (nI ja)), (2, .int (nI jb)), (3, .int v3), (4, .int v4)]) [0, 2, 3, 4, 5, 6] rfl ?_
              exact ih61 ((iz + 1), u81.1, u81.2) ⟨(show ja ≤ (iz + 1) by omega), (show (iz + 1) ≤ jb by omega), (show dp g50 (1600 + ja) ((iz + 1) - ja) = some u81.1 from hz2.trans (congrArg some (by omega)))⟩ (show jb - (iz + 1) < jb - iz by omega)
        · have hz3 := st_not hz1 (Int32.not_le.mpr c63) c64 c65
          refine j_aload_n (pc := 71) C d_Model_told_71 rfl 2 rfl ?_
          refine j_get (pc := 72) C gf_Model_155 0 rfl rfl d_Model_told_72 ?_
          refine j_aload_n (pc := 75) C d_Model_told_75 rfl 2 rfl ?_
          refine j_get (pc := 76) C gf_Model_387 0 rfl rfl d_Model_told_76 ?_
          refine j_iconst (pc := 79) C (v := 1) d_Model_told_79 (by decide) ?_
          refine j_isub (pc := 80) C (v := nI (pz - 1)) d_Model_told_80 (pk_sub (a := pz) (b := 1) (by omega)) ?_
          refine j_lconst (pc := 81) C (v := 1) d_Model_told_81 (by decide) ?_
          refine j_aload_n (pc := 82) C d_Model_told_82 rfl 2 rfl ?_
          refine j_get (pc := 83) C gf_Model_155 0 rfl rfl d_Model_told_83 ?_
          refine j_aload_n (pc := 86) C d_Model_told_86 rfl 2 rfl ?_
          refine j_get (pc := 87) C gf_Model_387 0 rfl rfl d_Model_told_87 ?_
          refine j_iconst (pc := 90) C (v := 1) d_Model_told_90 (by decide) ?_
          refine j_isub (pc := 91) C (v := nI (pz - 1)) d_Model_told_91 (pk_sub (a := pz) (b := 1) (by omega)) ?_
          refine j_lald (pc := 92) C 3 rfl (v := z30 (pz - 1)) (vp_in_nI (by omega) (by decide)) (by rw [nI_clamp (by omega)]) d_Model_told_92 ?_
          refine j_lsub (pc := 93) C (v := 1 - (z30 (pz - 1))) d_Model_told_93 rfl ?_
          refine j_last (pc := 94) C 3 rfl (ws' := [MB mo ma (nI t1) i2 i3 i4 i5 i6 i7 i8 i42 i49 i51 i53 i54 i59 (nI pz) i64 i66 (nI t67) i76 i78, (ma 45, .inl (y 0, 14, .inl g45)), (ma 50, .inl (y 0, 3200, .inl g50)), (ma 60, .inl (y 1, 1700, .inr (.inl (vp_updL z30 (pz - 1) (1 - (z30 (pz - 1)))))))]) (vp_in_nI (by omega) (by decide)) (by rw [nI_clamp (by omega)]; rfl) d_Model_told_94 ?_
          refine j_anyW (fun f84 => [MB mo ma (nI t1) i2 i3 i4 i5 i6 i7 i8 i42 i49 i51 i53 i54 i59 (nI pz) i64 i66 (nI t67) i76 i78, (ma 45, .inl (y 0, 14, .inl g45)), (ma 50, .inl (y 0, 3200, .inl g50)), (ma 60, .inl (y 1, 1700, .inr (.inl f84)))]) (vp_updL z30 (pz - 1) (1 - (z30 (pz - 1)))) rfl (fun f84 => ?_)
          refine j_goto (pc := 95) C (tgt := 162) d_Model_told_95 (by decide) ?_
          refine j_iinc (pc := 162) C (v := nI (iz + 1)) (lv' := [(5, .int (nI (iz + 1))), (6, .int (g50 (1600 + iz))), (0, .ref mo), (1, .int (nI ja)), (2, .int (nI jb)), (3, .int v3), (4, .int v4)]) d_Model_told_162 1 rfl (nI_add _ _) (by decide) rfl ?_
          refine j_goto (pc := 165) C (tgt := 8) d_Model_told_165 (by decide) ?_
          refine j_locs (lv' := [(5, .int (nI (iz + 1))), (0, .ref mo), (1, .int (nI ja)), (2, .int (nI jb)), (3, .int v3), (4, .int v4)]) [0, 2, 3, 4, 5, 6] rfl ?_
          exact ih61 ((iz + 1), pz, f84) ⟨(show ja ≤ (iz + 1) by omega), (show (iz + 1) ≤ jb by omega), (show dp g50 (1600 + ja) ((iz + 1) - ja) = some pz from hz2.trans (congrArg some (by omega)))⟩ (show jb - (iz + 1) < jb - iz by omega)
      · have hz3 := st_all hz1 (Int32.not_le.mpr c63) c64
        refine j_aload_n (pc := 56) C d_Model_told_56 rfl 2 rfl ?_
        refine j_lconst (pc := 57) C (v := 1) d_Model_told_57 (by decide) ?_
        refine j_callVv (pc := 58) C (c_M_puts l D y mo ma t1 i2 i3 i4 i5 i6 i7 i8 i42 i49 i51 i53 i54 i59 pz i64 i66 t67 i76 i78 z30 1 (by omega)) kw_Model_394 kv_Model_puts 0 10 rfl rfl ⟨by decide, by decide⟩ ⟨by decide, by decide⟩ (wr := [(ma 45, .inl (y 0, 14, .inl g45)), (ma 50, .inl (y 0, 3200, .inl g50))]) [0, 3] [1, 2] rfl rfl (by decide) (by decide) (by decide) (As := [.long 1]) (rest := []) rfl (nb rfl) rfl d_Model_told_58 (fun u85 hu86 => ?_)
        have xh87 := hu86
        refine j_ws (ws' := [(ma 45, .inl (y 0, 14, .inl g45)), (ma 50, .inl (y 0, 3200, .inl g50)), MB mo ma (nI t1) i2 i3 i4 i5 i6 i7 i8 i42 i49 i51 i53 i54 i59 (nI u85.1) i64 i66 (nI t67) i76 i78, (ma 60, .inl (y 1, 1700, .inr (.inl u85.2)))]) rfl ?_
        refine j_goto (pc := 61) C (tgt := 162) d_Model_told_61 (by decide) ?_
        refine j_iinc (pc := 162) C (v := nI (iz + 1)) (lv' := [(5, .int (nI (iz + 1))), (6, .int (g50 (1600 + iz))), (0, .ref mo), (1, .int (nI ja)), (2, .int (nI jb)), (3, .int v3), (4, .int v4)]) d_Model_told_162 1 rfl (nI_add _ _) (by decide) rfl ?_
        refine j_goto (pc := 165) C (tgt := 8) d_Model_told_165 (by decide) ?_
        refine j_sub (ws' := [MB mo ma (nI t1) i2 i3 i4 i5 i6 i7 i8 i42 i49 i51 i53 i54 i59 (nI u85.1) i64 i66 (nI t67) i76 i78, (ma 45, .inl (y 0, 14, .inl g45)), (ma 50, .inl (y 0, 3200, .inl g50)), (ma 60, .inl (y 1, 1700, .inr (.inl u85.2)))]) [2, 0, 1, 3] rfl (by decide) ?_
        refine j_locs (lv' := [(5, .int (nI (iz + 1))), (0, .ref mo), (1, .int (nI ja)), (2, .int (nI jb)), (3, .int v3), (4, .int v4)]) [0, 2, 3, 4, 5, 6] rfl ?_
        exact ih61 ((iz + 1), u85.1, u85.2) ⟨(show ja ≤ (iz + 1) by omega), (show (iz + 1) ≤ jb by omega), (show dp g50 (1600 + ja) ((iz + 1) - ja) = some u85.1 from hz2.trans (congrArg some (by omega)))⟩ (show jb - (iz + 1) < jb - iz by omega)
    · have hz3 := st_num hz1 (Int32.not_lt.mp c63)
      refine j_aload_n (pc := 35) C d_Model_told_35 rfl 2 rfl ?_
      refine j_iload (pc := 36) C d_Model_told_36 0 rfl ?_
      refine j_sipush (pc := 38) C (v := 1000) d_Model_told_38 (by decide) ?_
      refine j_isub (pc := 41) C (v := (g50 (1600 + iz)) - 1000) d_Model_told_41 rfl ?_
      refine j_i2l (pc := 42) C (v := ((g50 (1600 + iz)) - 1000).toInt64) d_Model_told_42 rfl ?_
      refine j_callVv (pc := 43) C (c_M_puts l D y mo ma t1 i2 i3 i4 i5 i6 i7 i8 i42 i49 i51 i53 i54 i59 pz i64 i66 t67 i76 i78 z30 (((g50 (1600 + iz)) - 1000).toInt64) (by omega)) kw_Model_394 kv_Model_puts 0 10 rfl rfl ⟨by decide, by decide⟩ ⟨by decide, by decide⟩ (wr := [(ma 45, .inl (y 0, 14, .inl g45)), (ma 50, .inl (y 0, 3200, .inl g50))]) [0, 3] [1, 2] rfl rfl (by decide) (by decide) (by decide) (As := [.long (((g50 (1600 + iz)) - 1000).toInt64)]) (rest := []) rfl (nb rfl) rfl d_Model_told_43 (fun u88 hu89 => ?_)
      have xh90 := hu89
      refine j_ws (ws' := [(ma 45, .inl (y 0, 14, .inl g45)), (ma 50, .inl (y 0, 3200, .inl g50)), MB mo ma (nI t1) i2 i3 i4 i5 i6 i7 i8 i42 i49 i51 i53 i54 i59 (nI u88.1) i64 i66 (nI t67) i76 i78, (ma 60, .inl (y 1, 1700, .inr (.inl u88.2)))]) rfl ?_
      refine j_goto (pc := 46) C (tgt := 162) d_Model_told_46 (by decide) ?_
      refine j_iinc (pc := 162) C (v := nI (iz + 1)) (lv' := [(5, .int (nI (iz + 1))), (6, .int (g50 (1600 + iz))), (0, .ref mo), (1, .int (nI ja)), (2, .int (nI jb)), (3, .int v3), (4, .int v4)]) d_Model_told_162 1 rfl (nI_add _ _) (by decide) rfl ?_
      refine j_goto (pc := 165) C (tgt := 8) d_Model_told_165 (by decide) ?_
      refine j_sub (ws' := [MB mo ma (nI t1) i2 i3 i4 i5 i6 i7 i8 i42 i49 i51 i53 i54 i59 (nI u88.1) i64 i66 (nI t67) i76 i78, (ma 45, .inl (y 0, 14, .inl g45)), (ma 50, .inl (y 0, 3200, .inl g50)), (ma 60, .inl (y 1, 1700, .inr (.inl u88.2)))]) [2, 0, 1, 3] rfl (by decide) ?_
      refine j_locs (lv' := [(5, .int (nI (iz + 1))), (0, .ref mo), (1, .int (nI ja)), (2, .int (nI jb)), (3, .int v3), (4, .int v4)]) [0, 2, 3, 4, 5, 6] rfl ?_
      exact ih61 ((iz + 1), u88.1, u88.2) ⟨(show ja ≤ (iz + 1) by omega), (show (iz + 1) ≤ jb by omega), (show dp g50 (1600 + ja) ((iz + 1) - ja) = some u88.1 from hz2.trans (congrArg some (by omega)))⟩ (show jb - (iz + 1) < jb - iz by omega)
theorem d_Model_weatherOf_0 : decode prog_13_method_52_code 0 = .ok (.bipush 8, 2) := by decide +kernel
theorem d_Model_weatherOf_2 : decode prog_13_method_52_code 2 = .ok (.istore 4, 2) := by decide +kernel
theorem d_Model_weatherOf_4 : decode prog_13_method_52_code 4 = .ok (.iload 4, 2) := by decide +kernel
theorem d_Model_weatherOf_6 : decode prog_13_method_52_code 6 = .ok (.bipush 8, 2) := by decide +kernel
theorem d_Model_weatherOf_8 : decode prog_13_method_52_code 8 = .ok (.aload_n 0, 1) := by decide +kernel
theorem d_Model_weatherOf_9 : decode prog_13_method_52_code 9 = .ok (.getfield 117, 3) := by decide +kernel
theorem d_Model_weatherOf_12 : decode prog_13_method_52_code 12 = .ok (.bipush 7, 2) := by decide +kernel
theorem d_Model_weatherOf_14 : decode prog_13_method_52_code 14 = .ok (.iaload, 1) := by decide +kernel
theorem d_Model_weatherOf_15 : decode prog_13_method_52_code 15 = .ok (.iadd, 1) := by decide +kernel
theorem d_Model_weatherOf_16 : decode prog_13_method_52_code 16 = .ok (.if_icmp .ge 100, 3) := by decide +kernel
theorem d_Model_weatherOf_116 : decode prog_13_method_52_code 116 = .ok (.iconst 0, 1) := by decide +kernel
theorem d_Model_weatherOf_117 : decode prog_13_method_52_code 117 = .ok (.ireturn, 1) := by decide +kernel
theorem d_Model_weatherOf_19 : decode prog_13_method_52_code 19 = .ok (.aload_n 0, 1) := by decide +kernel
theorem d_Model_weatherOf_20 : decode prog_13_method_52_code 20 = .ok (.getfield 142, 3) := by decide +kernel
theorem gf_Model_142 : GF "NineBoardsModel" 142 10 55 := ⟨_, _, _, rfl, ci_Model, by decide, (mt_5 (List.mem_of_getElem? (i := 143) rfl) rfl)⟩
theorem d_Model_weatherOf_23 : decode prog_13_method_52_code 23 = .ok (.iload 4, 2) := by decide +kernel
theorem d_Model_weatherOf_25 : decode prog_13_method_52_code 25 = .ok (.baload, 1) := by decide +kernel
theorem d_Model_weatherOf_26 : decode prog_13_method_52_code 26 = .ok (.iload_n 3, 1) := by decide +kernel
theorem d_Model_weatherOf_27 : decode prog_13_method_52_code 27 = .ok (.if_icmp .ne 83, 3) := by decide +kernel
theorem d_Model_weatherOf_110 : decode prog_13_method_52_code 110 = .ok (.iinc 4 1, 3) := by decide +kernel
theorem d_Model_weatherOf_113 : decode prog_13_method_52_code 113 = .ok (.goto (-109), 3) := by decide +kernel
theorem d_Model_weatherOf_30 : decode prog_13_method_52_code 30 = .ok (.aload_n 0, 1) := by decide +kernel
theorem d_Model_weatherOf_31 : decode prog_13_method_52_code 31 = .ok (.aload_n 0, 1) := by decide +kernel
theorem d_Model_weatherOf_32 : decode prog_13_method_52_code 32 = .ok (.getfield 149, 3) := by decide +kernel
theorem gf_Model_149 : GF "NineBoardsModel" 149 10 57 := ⟨_, _, _, rfl, ci_Model, by decide, (mt_5 (List.mem_of_getElem? (i := 145) rfl) rfl)⟩
theorem d_Model_weatherOf_35 : decode prog_13_method_52_code 35 = .ok (.iload 4, 2) := by decide +kernel
theorem d_Model_weatherOf_37 : decode prog_13_method_52_code 37 = .ok (.iaload, 1) := by decide +kernel
theorem d_Model_weatherOf_38 : decode prog_13_method_52_code 38 = .ok (.aload_n 0, 1) := by decide +kernel
theorem d_Model_weatherOf_39 : decode prog_13_method_52_code 39 = .ok (.getfield 152, 3) := by decide +kernel
theorem gf_Model_152 : GF "NineBoardsModel" 152 10 58 := ⟨_, _, _, rfl, ci_Model, by decide, (mt_5 (List.mem_of_getElem? (i := 146) rfl) rfl)⟩
theorem d_Model_weatherOf_42 : decode prog_13_method_52_code 42 = .ok (.iload 4, 2) := by decide +kernel
theorem d_Model_weatherOf_44 : decode prog_13_method_52_code 44 = .ok (.iaload, 1) := by decide +kernel
theorem d_Model_weatherOf_45 : decode prog_13_method_52_code 45 = .ok (.iload_n 1, 1) := by decide +kernel
theorem d_Model_weatherOf_46 : decode prog_13_method_52_code 46 = .ok (.iload_n 2, 1) := by decide +kernel
theorem d_Model_weatherOf_47 : decode prog_13_method_52_code 47 = .ok (.invokevirtual 409, 3) := by decide +kernel
theorem kw_Model_409 : KW "NineBoardsModel" 409 ⟨"NineBoardsModel", "told", "(IIII)J"⟩ prog_13_method_51_code 7 (some .long) 4 := ⟨(mt_7 (List.mem_of_getElem? (i := 140) rfl) rfl), (mt_1 (List.mem_of_getElem? (i := 16) rfl) rfl), (mt_7 (List.mem_of_getElem? (i := 143) rfl) rfl), by decide +kernel⟩
theorem kv_Model_told : Cond.instanceMethod ⟨"NineBoardsModel", "told", "(IIII)J"⟩ ∈ TB ∧ Cond.selects "NineBoardsModel" ⟨"NineBoardsModel", "told", "(IIII)J"⟩ ⟨"NineBoardsModel", "told", "(IIII)J"⟩ ∈ TB := ⟨(mt_7 (List.mem_of_getElem? (i := 142) rfl) rfl), (ms_0 (List.mem_map.mpr ⟨(⟨"NineBoardsModel", "told", "(IIII)J"⟩, 79), List.mem_of_getElem? (i := 106) (by decide +kernel), rfl⟩) rfl)⟩
theorem d_Model_weatherOf_50 : decode prog_13_method_52_code 50 = .ok (.lconst 1, 1) := by decide +kernel
theorem d_Model_weatherOf_51 : decode prog_13_method_52_code 51 = .ok (.lcmp, 1) := by decide +kernel
theorem d_Model_weatherOf_52 : decode prog_13_method_52_code 52 = .ok (.ifCond .eq 6, 3) := by decide +kernel
theorem d_Model_weatherOf_58 : decode prog_13_method_52_code 58 = .ok (.aload_n 0, 1) := by decide +kernel
theorem d_Model_weatherOf_59 : decode prog_13_method_52_code 59 = .ok (.aload_n 0, 1) := by decide +kernel
theorem d_Model_weatherOf_60 : decode prog_13_method_52_code 60 = .ok (.getfield 146, 3) := by decide +kernel
theorem gf_Model_146 : GF "NineBoardsModel" 146 10 56 := ⟨_, _, _, rfl, ci_Model, by decide, (mt_5 (List.mem_of_getElem? (i := 144) rfl) rfl)⟩
theorem d_Model_weatherOf_63 : decode prog_13_method_52_code 63 = .ok (.iload 4, 2) := by decide +kernel
theorem d_Model_weatherOf_65 : decode prog_13_method_52_code 65 = .ok (.iaload, 1) := by decide +kernel
theorem d_Model_weatherOf_66 : decode prog_13_method_52_code 66 = .ok (.aload_n 0, 1) := by decide +kernel
theorem d_Model_weatherOf_67 : decode prog_13_method_52_code 67 = .ok (.getfield 149, 3) := by decide +kernel
theorem d_Model_weatherOf_70 : decode prog_13_method_52_code 70 = .ok (.iload 4, 2) := by decide +kernel
theorem d_Model_weatherOf_72 : decode prog_13_method_52_code 72 = .ok (.iaload, 1) := by decide +kernel
theorem d_Model_weatherOf_73 : decode prog_13_method_52_code 73 = .ok (.iload_n 1, 1) := by decide +kernel
theorem d_Model_weatherOf_74 : decode prog_13_method_52_code 74 = .ok (.iload_n 2, 1) := by decide +kernel
theorem d_Model_weatherOf_75 : decode prog_13_method_52_code 75 = .ok (.invokevirtual 409, 3) := by decide +kernel
theorem d_Model_weatherOf_78 : decode prog_13_method_52_code 78 = .ok (.lstore 5, 2) := by decide +kernel
theorem d_Model_weatherOf_80 : decode prog_13_method_52_code 80 = .ok (.lload 5, 2) := by decide +kernel
theorem d_Model_weatherOf_82 : decode prog_13_method_52_code 82 = .ok (.lconst 0, 1) := by decide +kernel
theorem d_Model_weatherOf_83 : decode prog_13_method_52_code 83 = .ok (.lcmp, 1) := by decide +kernel
theorem d_Model_weatherOf_84 : decode prog_13_method_52_code 84 = .ok (.ifCond .ge 7, 3) := by decide +kernel
theorem d_Model_weatherOf_91 : decode prog_13_method_52_code 91 = .ok (.lload 5, 2) := by decide +kernel
theorem d_Model_weatherOf_93 : decode prog_13_method_52_code 93 = .ok (.ldc2_w 413, 3) := by decide +kernel
theorem d_Model_weatherOf_96 : decode prog_13_method_52_code 96 = .ok (.lcmp, 1) := by decide +kernel
theorem d_Model_weatherOf_97 : decode prog_13_method_52_code 97 = .ok (.ifCond .le 9, 3) := by decide +kernel
theorem d_Model_weatherOf_106 : decode prog_13_method_52_code 106 = .ok (.lload 5, 2) := by decide +kernel
theorem d_Model_weatherOf_108 : decode prog_13_method_52_code 108 = .ok (.l2i, 1) := by decide +kernel
theorem d_Model_weatherOf_109 : decode prog_13_method_52_code 109 = .ok (.ireturn, 1) := by decide +kernel
theorem d_Model_weatherOf_100 : decode prog_13_method_52_code 100 = .ok (.sipush 9999, 3) := by decide +kernel
theorem d_Model_weatherOf_103 : decode prog_13_method_52_code 103 = .ok (.goto 6, 3) := by decide +kernel
theorem d_Model_weatherOf_87 : decode prog_13_method_52_code 87 = .ok (.iconst 0, 1) := by decide +kernel
theorem d_Model_weatherOf_88 : decode prog_13_method_52_code 88 = .ok (.goto 21, 3) := by decide +kernel
theorem d_Model_weatherOf_55 : decode prog_13_method_52_code 55 = .ok (.goto 55, 3) := by decide +kernel
set_option maxHeartbeats 4000000 in
set_option maxRecDepth 100000 in
theorem c_M_weatherOf (l : Launch) (D : va_G) (y : Nat → ClassId) (mo : Nat) (ma : Nat → Nat) (t1 : Nat) (i2 : Int32) (i3 : Int32) (i4 : Int32) (i5 : Int32) (i6 : Int32) (i7 : Int32) (i8 : Int32) (i42 : Int32) (i49 : Int32) (i51 : Int32) (i53 : Int32) (i54 : Int32) (i59 : Int32) (i61 : Int32) (i64 : Int32) (i66 : Int32) (t67 : Nat) (i76 : Int64) (i78 : Int32) (g43 : Nat → Int32) (g45 : Nat → Int32) (g50 : Nat → Int32) (g55 : Nat → Int32) (g56 : Nat → Int32) (g57 : Nat → Int32) (g58 : Nat → Int32) (g60 : Nat → Int64) (v1 : Int32) (v2 : Int32) (v3 : Int32) (c3 : Nat) (hc3 : g43 7 = nI c3) (bc3 : c3 ≤ 8) (hL : ¬ g45 7 = 0) (hC : ∀ k, 8 ≤ k → k < 8 + c3 → ∃ a b c, g56 k = nI a ∧ g57 k = nI b ∧ g58 k = nI c ∧ a ≤ b ∧ b ≤ c ∧ c ≤ 1600 ∧ (∃ q, dp g50 (1600 + a) (b - a) = some q) ∧ (∃ q, dp g50 (1600 + b) (c - b) = some q)) : CT l D y ⟨"NineBoardsModel", "weatherOf", "(IIZ)I"⟩ prog_13_method_52_code 7 (some .int) ({ frames := 3, cells := 0, slots := 0, locals := 76 } : Room) [.ref mo, .int v1, .int v2, .int v3] [MB mo ma (nI t1) i2 i3 i4 i5 i6 i7 i8 i42 i49 i51 i53 i54 i59 i61 i64 i66 (nI t67) i76 i78, (ma 43, .inl (y 0, 8, .inl g43)), (ma 45, .inl (y 0, 14, .inl g45)), (ma 50, .inl (y 0, 3200, .inl g50)), (ma 55, .inl (y 2, 16, .inl g55)), (ma 56, .inl (y 0, 16, .inl g56)), (ma 57, .inl (y 0, 16, .inl g57)), (ma 58, .inl (y 0, 16, .inl g58)), (ma 60, .inl (y 1, 1700, .inr (.inl g60)))] (QI D [MB mo ma (nI t1) i2 i3 i4 i5 i6 i7 i8 i42 i49 i51 i53 i54 i59 i61 i64 i66 (nI t67) i76 i78, (ma 43, .inl (y 0, 8, .inl g43)), (ma 45, .inl (y 0, 14, .inl g45)), (ma 50, .inl (y 0, 3200, .inl g50)), (ma 55, .inl (y 2, 16, .inl g55)), (ma 56, .inl (y 0, 16, .inl g56)), (ma 57, .inl (y 0, 16, .inl g57)), (ma 58, .inl (y 0, 16, .inl g58)), (ma 60, .inl (y 1, 1700, .inr (.inl g60)))] (fun (r : Int32) (u : Int32 × (Nat → Int64)) => True) (fun u => [MB mo ma (nI t1) i2 i3 i4 i5 i6 i7 i8 i42 i49 i51 i53 i54 i59 u.1 i64 i66 (nI t67) i76 i78, (ma 43, .inl (y 0, 8, .inl g43)), (ma 45, .inl (y 0, 14, .inl g45)), (ma 50, .inl (y 0, 3200, .inl g50)), (ma 55, .inl (y 2, 16, .inl g55)), (ma 56, .inl (y 0, 16, .inl g56)), (ma 57, .inl (y 0, 16, .inl g57)), (ma 58, .inl (y 0, 16, .inl g58)), (ma 60, .inl (y 1, 1700, .inr (.inl u.2)))])) := by
  refine CT.of (by decide) (nb rfl) ?_
  intro p e s m args below meth c C hr
  refine j_lv (lv' := [(0, .ref mo), (1, .int v1), (2, .int v2), (3, .int v3)]) rfl ?_
  refine j_bipush (pc := 0) C (v := 8) d_Model_weatherOf_0 (by decide) ?_
  refine j_istore (pc := 2) C (lv' := [(4, .int 8), (0, .ref mo), (1, .int v1), (2, .int v2), (3, .int v3)]) d_Model_weatherOf_2 (by decide) rfl ?_
  refine j_loop (α := Nat × Int32 × (Nat → Int64)) (fun a => 8 + c3 - a.1) (fun a => (8 ≤ a.1) ∧ (a.1 ≤ 8 + c3)) (fun a => [MB mo ma (nI t1) i2 i3 i4 i5 i6 i7 i8 i42 i49 i51 i53 i54 i59 a.2.1 i64 i66 (nI t67) i76 i78, (ma 43, .inl (y 0, 8, .inl g43)), (ma 45, .inl (y 0, 14, .inl g45)), (ma 50, .inl (y 0, 3200, .inl g50)), (ma 55, .inl (y 2, 16, .inl g55)), (ma 56, .inl (y 0, 16, .inl g56)), (ma 57, .inl (y 0, 16, .inl g57)), (ma 58, .inl (y 0, 16, .inl g58)), (ma 60, .inl (y 1, 1700, .inr (.inl a.2.2)))]) (fun a => [(4, .int (nI a.1)), (0, .ref mo), (1, .int v1), (2, .int v2), (3, .int v3)]) (8, i61, g60) rfl rfl ⟨(show 8 ≤ 8 by omega), (show 8 ≤ 8 + c3 by omega)⟩ ?_
  rintro ⟨iz, z10, z11⟩ hP21 ih22
  obtain ⟨hl__, hi__⟩ := hP21
  have hl_ : 8 ≤ iz := hl__
  have hi_ : iz ≤ 8 + c3 := hi__
  refine j_ws (ws' := [MB mo ma (nI t1) i2 i3 i4 i5 i6 i7 i8 i42 i49 i51 i53 i54 i59 z10 i64 i66 (nI t67) i76 i78, (ma 43, .inl (y 0, 8, .inl g43)), (ma 45, .inl (y 0, 14, .inl g45)), (ma 50, .inl (y 0, 3200, .inl g50)), (ma 55, .inl (y 2, 16, .inl g55)), (ma 56, .inl (y 0, 16, .inl g56)), (ma 57, .inl (y 0, 16, .inl g57)), (ma 58, .inl (y 0, 16, .inl g58)), (ma 60, .inl (y 1, 1700, .inr (.inl z11)))]) rfl ?_
  refine j_lv (lv' := [(4, .int (nI iz)), (0, .ref mo), (1, .int v1), (2, .int v2), (3, .int v3)]) rfl ?_
  refine j_iload (pc := 4) C d_Model_weatherOf_4 0 rfl ?_
  refine j_bipush (pc := 6) C (v := 8) d_Model_weatherOf_6 (by decide) ?_
  refine j_aload_n (pc := 8) C d_Model_weatherOf_8 rfl 1 rfl ?_
  refine j_get (pc := 9) C gf_Model_117 0 rfl rfl d_Model_weatherOf_9 ?_
  refine j_bipush (pc := 12) C (v := 7) d_Model_weatherOf_12 (by decide) ?_
  refine j_iald (pc := 14) C 1 rfl (v := nI c3) (vin (by decide)) (by exact hc3) d_Model_weatherOf_14 ?_
  refine j_iadd (pc := 15) C (v := nI (8 + c3)) d_Model_weatherOf_15 (nI_add _ _) ?_
  by_cases c23 : (8 + c3) ≤ iz
  · refine j_icmp_geT (pc := 16) C (tgt := 116) d_Model_weatherOf_16 (by decide) (show nI (8 + c3) ≤ nI iz from nI_le (by omega) (by omega)) ?_
    refine j_iconst (pc := 116) C (v := 0) d_Model_weatherOf_116 (by decide) ?_
    exact j_iret (pc := 117) C hr rfl (z10, z11) trivial [0, 1, 2, 3, 4, 5, 6, 7, 8] rfl (by decide) (by decide) (by decide) d_Model_weatherOf_117
  · refine j_icmp_geF (pc := 16) C (tgt := 116) d_Model_weatherOf_16 (by decide) (show ¬ nI (8 + c3) ≤ nI iz from nI_ge (by omega) (by omega)) ?_
    obtain ⟨ja, jb, jc, e56, e57, e58, hab, hbc, hcc, hw1, hw2⟩ := hC iz (by omega) (by omega)
    refine j_aload_n (pc := 19) C d_Model_weatherOf_19 rfl 1 rfl ?_
    refine j_get (pc := 20) C gf_Model_142 0 rfl rfl d_Model_weatherOf_20 ?_
    refine j_iload (pc := 23) C d_Model_weatherOf_23 0 rfl ?_
    refine j_zald (pc := 25) C 4 rfl (v := g55 iz) (vp_in_nI (by omega) (by decide)) (by rw [nI_clamp (by omega)]) d_Model_weatherOf_25 ?_
    refine j_iload_n (pc := 26) C d_Model_weatherOf_26 rfl 4 rfl ?_
    refine j_icmp_ne (pc := 27) C (tgt := 110) d_Model_weatherOf_27 (by decide) (fun c24 => ?_) (fun c24 => ?_)
    · refine j_iinc (pc := 110) C (v := nI (iz + 1)) (lv' := [(4, .int (nI (iz + 1))), (0, .ref mo), (1, .int v1), (2, .int v2), (3, .int v3)]) d_Model_weatherOf_110 0 rfl (nI_add _ _) (by decide) rfl ?_
      refine j_goto (pc := 113) C (tgt := 4) d_Model_weatherOf_113 (by decide) ?_
      exact ih22 ((iz + 1), z10, z11) ⟨(show 8 ≤ (iz + 1) by omega), (show (iz + 1) ≤ 8 + c3 by omega)⟩ (show 8 + c3 - (iz + 1) < 8 + c3 - iz by omega)
    · refine j_aload_n (pc := 30) C d_Model_weatherOf_30 rfl 1 rfl ?_
      refine j_aload_n (pc := 31) C d_Model_weatherOf_31 rfl 1 rfl ?_
      refine j_get (pc := 32) C gf_Model_149 0 rfl rfl d_Model_weatherOf_32 ?_
      refine j_iload (pc := 35) C d_Model_weatherOf_35 0 rfl ?_
      refine j_iald (pc := 37) C 6 rfl (v := nI jb) (vp_in_nI (by omega) (by decide)) (by rw [nI_clamp (by omega)]; exact e57) d_Model_weatherOf_37 ?_
      refine j_aload_n (pc := 38) C d_Model_weatherOf_38 rfl 1 rfl ?_
      refine j_get (pc := 39) C gf_Model_152 0 rfl rfl d_Model_weatherOf_39 ?_
      refine j_iload (pc := 42) C d_Model_weatherOf_42 0 rfl ?_
      refine j_iald (pc := 44) C 7 rfl (v := nI jc) (vp_in_nI (by omega) (by decide)) (by rw [nI_clamp (by omega)]; exact e58) d_Model_weatherOf_44 ?_
      refine j_iload_n (pc := 45) C d_Model_weatherOf_45 rfl 2 rfl ?_
      refine j_iload_n (pc := 46) C d_Model_weatherOf_46 rfl 3 rfl ?_
      refine j_callVl (pc := 47) C (c_M_told l D y mo ma t1 i2 i3 i4 i5 i6 i7 i8 i42 i49 i51 i53 i54 i59 z10 i64 i66 t67 i76 i78 g45 g50 z11 jb jc v1 v2 (by omega) (by omega) hw2 hL) kw_Model_409 kv_Model_told 0 10 rfl rfl ⟨by decide, by decide⟩ ⟨by decide, by decide⟩ (wr := [(ma 43, .inl (y 0, 8, .inl g43)), (ma 55, .inl (y 2, 16, .inl g55)), (ma 56, .inl (y 0, 16, .inl g56)), (ma 57, .inl (y 0, 16, .inl g57)), (ma 58, .inl (y 0, 16, .inl g58))]) [0, 2, 3, 8] [1, 4, 5, 6, 7] rfl rfl (by decide +kernel) (by decide +kernel) (by decide +kernel) (As := [.int (nI jb), .int (nI jc), .int v1, .int v2]) (rest := []) rfl (nb rfl) rfl d_Model_weatherOf_47 (fun r25 u26 hr25 => ?_)
      refine j_ws (ws' := [(ma 43, .inl (y 0, 8, .inl g43)), (ma 55, .inl (y 2, 16, .inl g55)), (ma 56, .inl (y 0, 16, .inl g56)), (ma 57, .inl (y 0, 16, .inl g57)), (ma 58, .inl (y 0, 16, .inl g58)), MB mo ma (nI t1) i2 i3 i4 i5 i6 i7 i8 i42 i49 i51 i53 i54 i59 u26.1 i64 i66 (nI t67) i76 i78, (ma 45, .inl (y 0, 14, .inl g45)), (ma 50, .inl (y 0, 3200, .inl g50)), (ma 60, .inl (y 1, 1700, .inr (.inl u26.2)))]) rfl ?_
      refine j_lconst (pc := 50) C (v := 1) d_Model_weatherOf_50 (by decide) ?_
      refine j_lcmp (pc := 51) C (v := lg_cmp r25 1) d_Model_weatherOf_51 rfl ?_
      refine j_if_eq (pc := 52) C (tgt := 58) d_Model_weatherOf_52 (by decide) (fun c27 => ?_) (fun c27 => ?_)
      · refine j_aload_n (pc := 58) C d_Model_weatherOf_58 rfl 1 rfl ?_
        refine j_aload_n (pc := 59) C d_Model_weatherOf_59 rfl 1 rfl ?_
        refine j_get (pc := 60) C gf_Model_146 5 rfl rfl d_Model_weatherOf_60 ?_
        refine j_iload (pc := 63) C d_Model_weatherOf_63 0 rfl ?_
        refine j_iald (pc := 65) C 2 rfl (v := nI ja) (vp_in_nI (by omega) (by decide)) (by rw [nI_clamp (by omega)]; exact e56) d_Model_weatherOf_65 ?_
        refine j_aload_n (pc := 66) C d_Model_weatherOf_66 rfl 1 rfl ?_
        refine j_get (pc := 67) C gf_Model_149 5 rfl rfl d_Model_weatherOf_67 ?_
        refine j_iload (pc := 70) C d_Model_weatherOf_70 0 rfl ?_
        refine j_iald (pc := 72) C 3 rfl (v := nI jb) (vp_in_nI (by omega) (by decide)) (by rw [nI_clamp (by omega)]; exact e57) d_Model_weatherOf_72 ?_
        refine j_iload_n (pc := 73) C d_Model_weatherOf_73 rfl 2 rfl ?_
        refine j_iload_n (pc := 74) C d_Model_weatherOf_74 rfl 3 rfl ?_
        refine j_callVl (pc := 75) C (c_M_told l D y mo ma t1 i2 i3 i4 i5 i6 i7 i8 i42 i49 i51 i53 i54 i59 u26.1 i64 i66 t67 i76 i78 g45 g50 u26.2 ja jb v1 v2 (by omega) (by omega) hw1 hL) kw_Model_409 kv_Model_told 0 10 rfl rfl ⟨by decide, by decide⟩ ⟨by decide, by decide⟩ (wr := [(ma 43, .inl (y 0, 8, .inl g43)), (ma 55, .inl (y 2, 16, .inl g55)), (ma 56, .inl (y 0, 16, .inl g56)), (ma 57, .inl (y 0, 16, .inl g57)), (ma 58, .inl (y 0, 16, .inl g58))]) [5, 6, 7, 8] [0, 1, 2, 3, 4] rfl rfl (by decide +kernel) (by decide +kernel) (by decide +kernel) (As := [.int (nI ja), .int (nI jb), .int v1, .int v2]) (rest := []) rfl (nb rfl) rfl d_Model_weatherOf_75 (fun r28 u29 hr28 => ?_)
        refine j_ws (ws' := [(ma 43, .inl (y 0, 8, .inl g43)), (ma 55, .inl (y 2, 16, .inl g55)), (ma 56, .inl (y 0, 16, .inl g56)), (ma 57, .inl (y 0, 16, .inl g57)), (ma 58, .inl (y 0, 16, .inl g58)), MB mo ma (nI t1) i2 i3 i4 i5 i6 i7 i8 i42 i49 i51 i53 i54 i59 u29.1 i64 i66 (nI t67) i76 i78, (ma 45, .inl (y 0, 14, .inl g45)), (ma 50, .inl (y 0, 3200, .inl g50)), (ma 60, .inl (y 1, 1700, .inr (.inl u29.2)))]) rfl ?_
        refine j_lstore (pc := 78) C (lv' := [(5, .long r28), (4, .int (nI iz)), (0, .ref mo), (1, .int v1), (2, .int v2), (3, .int v3)]) d_Model_weatherOf_78 (by decide) rfl ?_
        refine j_lload (pc := 80) C d_Model_weatherOf_80 0 rfl ?_
        refine j_lconst (pc := 82) C (v := 0) d_Model_weatherOf_82 (by decide) ?_
        refine j_lcmp (pc := 83) C (v := lg_cmp r28 0) d_Model_weatherOf_83 rfl ?_
        refine j_if_ge (pc := 84) C (tgt := 91) d_Model_weatherOf_84 (by decide) (fun c30 => ?_) (fun c30 => ?_)
        · refine j_lload (pc := 91) C d_Model_weatherOf_91 0 rfl ?_
          refine j_ldc2 (pc := 93) C (v := 9999) (mt_7 (List.mem_of_getElem? (i := 162) rfl) rfl) d_Model_weatherOf_93 ?_
          refine j_lcmp (pc := 96) C (v := lg_cmp r28 9999) d_Model_weatherOf_96 rfl ?_
          refine j_if_le (pc := 97) C (tgt := 106) d_Model_weatherOf_97 (by decide) (fun c31 => ?_) (fun c31 => ?_)
          · refine j_lload (pc := 106) C d_Model_weatherOf_106 0 rfl ?_
            refine j_l2i (pc := 108) C (v := r28.toInt32) d_Model_weatherOf_108 rfl ?_
            exact j_iret (pc := 109) C hr rfl (u29.1, u29.2) trivial [5, 0, 6, 7, 1, 2, 3, 4, 8] rfl (by decide) (by decide) (by decide) d_Model_weatherOf_109
          · refine j_sipush (pc := 100) C (v := 9999) d_Model_weatherOf_100 (by decide) ?_
            refine j_goto (pc := 103) C (tgt := 109) d_Model_weatherOf_103 (by decide) ?_
            exact j_iret (pc := 109) C hr rfl (u29.1, u29.2) trivial [5, 0, 6, 7, 1, 2, 3, 4, 8] rfl (by decide) (by decide) (by decide) d_Model_weatherOf_109
        · refine j_iconst (pc := 87) C (v := 0) d_Model_weatherOf_87 (by decide) ?_
          refine j_goto (pc := 88) C (tgt := 109) d_Model_weatherOf_88 (by decide) ?_
          exact j_iret (pc := 109) C hr rfl (u29.1, u29.2) trivial [5, 0, 6, 7, 1, 2, 3, 4, 8] rfl (by decide) (by decide) (by decide) d_Model_weatherOf_109
      · refine j_goto (pc := 55) C (tgt := 110) d_Model_weatherOf_55 (by decide) ?_
        refine j_iinc (pc := 110) C (v := nI (iz + 1)) (lv' := [(4, .int (nI (iz + 1))), (0, .ref mo), (1, .int v1), (2, .int v2), (3, .int v3)]) d_Model_weatherOf_110 0 rfl (nI_add _ _) (by decide) rfl ?_
        refine j_goto (pc := 113) C (tgt := 4) d_Model_weatherOf_113 (by decide) ?_
        refine j_sub (ws' := [MB mo ma (nI t1) i2 i3 i4 i5 i6 i7 i8 i42 i49 i51 i53 i54 i59 u26.1 i64 i66 (nI t67) i76 i78, (ma 43, .inl (y 0, 8, .inl g43)), (ma 45, .inl (y 0, 14, .inl g45)), (ma 50, .inl (y 0, 3200, .inl g50)), (ma 55, .inl (y 2, 16, .inl g55)), (ma 56, .inl (y 0, 16, .inl g56)), (ma 57, .inl (y 0, 16, .inl g57)), (ma 58, .inl (y 0, 16, .inl g58)), (ma 60, .inl (y 1, 1700, .inr (.inl u26.2)))]) [5, 0, 6, 7, 1, 2, 3, 4, 8] rfl (by decide +kernel) ?_
        exact ih22 ((iz + 1), u26.1, u26.2) ⟨(show 8 ≤ (iz + 1) by omega), (show (iz + 1) ≤ 8 + c3 by omega)⟩ (show 8 + c3 - (iz + 1) < 8 + c3 - iz by omega)
