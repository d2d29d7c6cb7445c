theorem gt_ix0 {G : Nat → Int32} {j : Nat} : G (54 + 6 * j) = (fun q => G (54 + q)) (6 * j) := congrArg G (by omega)
theorem gt_ix1 {G : Nat → Int32} {j : Nat} : G (54 + 6 * j + 1) = (fun q => G (54 + q)) (6 * j + 1) := congrArg G (by omega)
theorem gt_ix2 {G : Nat → Int32} {j : Nat} : G (54 + 6 * j + 2) = (fun q => G (54 + q)) (6 * j + 2) := congrArg G (by omega)
theorem gt_ix3 {G : Nat → Int32} {j : Nat} : G (54 + 6 * j + 3) = (fun q => G (54 + q)) (6 * j + 3) := congrArg G (by omega)
theorem gt_ix4 {G : Nat → Int32} {j : Nat} : G (54 + 6 * j + 4) = (fun q => G (54 + q)) (6 * j + 4) := congrArg G (by omega)
theorem gt_ix5 {G : Nat → Int32} {j : Nat} : G (54 + 6 * j + 5) = (fun q => G (54 + q)) (6 * j + 5) := congrArg G (by omega)
theorem th_ix0 {G : Nat → Int32} {j : Nat} : G (112 + 7 * j) = (fun q => G (112 + q)) (7 * j) := congrArg G (by omega)
theorem th_ix1 {G : Nat → Int32} {j : Nat} : G (112 + 7 * j + 1) = (fun q => G (112 + q)) (7 * j + 1) := congrArg G (by omega)
theorem th_ix2 {G : Nat → Int32} {j : Nat} : G (112 + 7 * j + 2) = (fun q => G (112 + q)) (7 * j + 2) := congrArg G (by omega)
theorem th_ix3 {G : Nat → Int32} {j : Nat} : G (112 + 7 * j + 3) = (fun q => G (112 + q)) (7 * j + 3) := congrArg G (by omega)
theorem th_ix4 {G : Nat → Int32} {j : Nat} : G (112 + 7 * j + 4) = (fun q => G (112 + q)) (7 * j + 4) := congrArg G (by omega)
theorem th_ix5 {G : Nat → Int32} {j : Nat} : G (112 + 7 * j + 5) = (fun q => G (112 + q)) (7 * j + 5) := congrArg G (by omega)
theorem th_ix6 {G : Nat → Int32} {j : Nat} : G (112 + 7 * j + 6) = (fun q => G (112 + q)) (7 * j + 6) := congrArg G (by omega)
theorem zdivL {a b : Int} (h1 : -1000000 ≤ a) (h2 : a ≤ 1000000) (h3 : -1000000 ≤ b) (h4 : b ≤ 1000000) : zL a / zL b = zL (a.tdiv b) := by
  apply Int64.toInt_inj.mp
  have t := td_b (b := b) h1 h2
  rw [Int64.toInt_div, zL_b (by omega) (by omega), zL_b (by omega) (by omega), zL_b (by omega) (by omega)]
  exact Int.bmod_eq_of_le (by omega) (by omega)
theorem zremL {a b : Int} (h1 : -1000000 ≤ a) (h2 : a ≤ 1000000) (h3 : -1000000 ≤ b) (h4 : b ≤ 1000000) : zL a - zL a / zL b * zL b = zL (a.tmod b) := by
  rw [zdivL h1 h2 h3 h4, zL_mul, zL_sub]
  congr 1
  have e : b * a.tdiv b + a.tmod b = a := Int.mul_tdiv_add_tmod a b
  have e2 : a.tdiv b * b = b * a.tdiv b := Int.mul_comm _ _
  omega
theorem tm_b {a b : Int} (h1 : -1000000 ≤ a) (h2 : a ≤ 1000000) : -1000000 ≤ a.tmod b ∧ a.tmod b ≤ 1000000 := by
  have m : (a.tmod b).natAbs = a.natAbs % b.natAbs := Int.natAbs_tmod a b
  have m2 : a.natAbs % b.natAbs ≤ a.natAbs := Nat.mod_le _ _
  omega
theorem zL_n0 {v : Int} (h1 : -1000000 ≤ v) (h2 : v ≤ 1000000) (h : ¬ v = 0) : ¬ zL v = 0 := fun e => h (by
  have := congrArg Int64.toInt e
  rw [zL_b (by omega) (by omega)] at this
  exact this)
theorem fl_z {a b : Int} (h : b = 0) : flI a b = 0 := if_pos h
theorem fl_1 {a b : Int} (h : ¬ b = 0) (c : ¬ a.tmod b = 0 ∧ (a < 0 ↔ ¬ b < 0)) : flI a b = a.tdiv b - 1 := by
  unfold flI
  rw [if_neg h, if_pos c]
theorem fl_2 {a b : Int} (h : ¬ b = 0) (c : ¬ (¬ a.tmod b = 0 ∧ (a < 0 ↔ ¬ b < 0))) : flI a b = a.tdiv b := by
  unfold flI
  rw [if_neg h, if_neg c]
set_option maxHeartbeats 4000000 in
set_option maxRecDepth 100000 in
theorem c_mclip (l : Launch) (D : va_G) (y : Nat → ClassId) (v : Int) (hv1 : -10000000000000 ≤ v) (hv2 : v ≤ 10000000000000) : CT l D y ⟨"NineBoardsModel", "clip", "(J)J"⟩ prog_13_method_47_code 2 (some .long) ({ frames := 0, cells := 0, slots := 0, locals := 0 } : Room) [.long (zL v)] [] (QL D [] (fun (r : Int64) (u : Unit) => r = zL (clipI v)) (fun _ => [])) := by
  refine CT.of (by decide) (nb rfl) ?_
  intro p e s m args below meth c C hr
  refine j_lv (lv' := [(0, .long (zL v))]) rfl ?_
  refine j_lload_n (pc := 0) C d_Model_clip_0 rfl 0 rfl ?_
  refine j_ldc2 (pc := 1) C (v := 1000000) (mt_7 (List.mem_of_getElem? (i := 157) rfl) rfl) d_Model_clip_1 ?_
  refine j_lcmp (pc := 4) C (v := lg_cmp (zL v) (zL 1000000)) d_Model_clip_4 rfl ?_
  by_cases c2 : v ≤ 1000000
  · refine j_if_leT (pc := 5) C (tgt := 14) d_Model_clip_5 (by decide) ((zc_le (a := v) (b := 1000000) (by omega) (by omega) (by omega) (by omega)).mpr c2) ?_
    refine j_lload_n (pc := 14) C d_Model_clip_14 rfl 0 rfl ?_
    refine j_ldc2 (pc := 15) C (v := (-1000000)) (mt_7 (List.mem_of_getElem? (i := 158) rfl) rfl) d_Model_clip_15 ?_
    refine j_lcmp (pc := 18) C (v := lg_cmp (zL v) (zL (-1000000))) d_Model_clip_18 rfl ?_
    by_cases c4 : (-1000000) ≤ v
    · refine j_if_geT (pc := 19) C (tgt := 28) d_Model_clip_19 (by decide) ((zc_ge (a := v) (b := (-1000000)) (by omega) (by omega) (by omega) (by omega)).mpr c4) ?_
      refine j_lload_n (pc := 28) C d_Model_clip_28 rfl 0 rfl ?_
      exact j_lret (pc := 29) C hr () ((congrArg zL (show clipI v = v from (if_neg (by omega)).trans (if_neg (by omega)))).symm) [] rfl (by decide) (by decide) (by decide) d_Model_clip_29
    · refine j_if_geF (pc := 19) C (tgt := 28) d_Model_clip_19 (by decide) (fun e => c4 ((zc_ge (a := v) (b := (-1000000)) (by omega) (by omega) (by omega) (by omega)).mp e)) ?_
      refine j_ldc2 (pc := 22) C (v := (-1000000)) (mt_7 (List.mem_of_getElem? (i := 158) rfl) rfl) d_Model_clip_22 ?_
      refine j_goto (pc := 25) C (tgt := 29) d_Model_clip_25 (by decide) ?_
      exact j_lret (pc := 29) C hr () ((congrArg zL (show clipI v = -1000000 from (if_neg (by omega)).trans (if_pos (by omega)))).symm) [] rfl (by decide) (by decide) (by decide) d_Model_clip_29
  · refine j_if_leF (pc := 5) C (tgt := 14) d_Model_clip_5 (by decide) (fun e => c2 ((zc_le (a := v) (b := 1000000) (by omega) (by omega) (by omega) (by omega)).mp e)) ?_
    refine j_ldc2 (pc := 8) C (v := 1000000) (mt_7 (List.mem_of_getElem? (i := 157) rfl) rfl) d_Model_clip_8 ?_
    refine j_goto (pc := 11) C (tgt := 29) d_Model_clip_11 (by decide) ?_
    exact j_lret (pc := 29) C hr () ((congrArg zL (show clipI v = 1000000 from if_pos (by omega))).symm) [] rfl (by decide) (by decide) (by decide) d_Model_clip_29
set_option maxHeartbeats 4000000 in
set_option maxRecDepth 100000 in
theorem c_mfloor (l : Launch) (D : va_G) (y : Nat → ClassId) (a : Int) (b : Int) (h1 : -1000000 ≤ a) (h2 : a ≤ 1000000) (h3 : -1000000 ≤ b) (h4 : b ≤ 1000000) : CT l D y ⟨"NineBoardsModel", "floor", "(JJ)J"⟩ prog_13_method_48_code 6 (some .long) ({ frames := 0, cells := 0, slots := 0, locals := 0 } : Room) [.long (zL a), .long (zL b)] [] (QL D [] (fun (r : Int64) (u : Unit) => r = zL (flI a b)) (fun _ => [])) := by
  refine CT.of (by decide) (nb rfl) ?_
  intro p e s m args below meth c C hr
  refine j_lv (lv' := [(0, .long (zL a)), (2, .long (zL b))]) rfl ?_
  obtain ⟨tm1, tm2⟩ := tm_b (b := b) h1 h2
  refine j_lload_n (pc := 0) C d_Model_floor_0 rfl 1 rfl ?_
  refine j_lconst (pc := 1) C (v := 0) d_Model_floor_1 (by decide) ?_
  refine j_lcmp (pc := 2) C (v := lg_cmp (zL b) (zL 0)) d_Model_floor_2 rfl ?_
  by_cases c2 : ¬ b = 0
  · refine j_if_neT (pc := 3) C (tgt := 8) d_Model_floor_3 (by decide) (fun e => c2 ((zc_eq (a := b) (b := 0) (by omega) (by omega) (by omega) (by omega)).mp e)) ?_
    refine j_lload_n (pc := 8) C d_Model_floor_8 rfl 0 rfl ?_
    refine j_lload_n (pc := 9) C d_Model_floor_9 rfl 1 rfl ?_
    refine j_ldiv (pc := 10) C (v := zL (a.tdiv b)) d_Model_floor_10 (zL_n0 h3 h4 (by omega)) (zdivL h1 h2 h3 h4) ?_
    refine j_lstore (pc := 11) C (lv' := [(4, .long (zL (a.tdiv b))), (0, .long (zL a)), (2, .long (zL b))]) d_Model_floor_11 (by decide) rfl ?_
    refine j_lload_n (pc := 13) C d_Model_floor_13 rfl 1 rfl ?_
    refine j_lload_n (pc := 14) C d_Model_floor_14 rfl 2 rfl ?_
    refine j_lrem (pc := 15) C (v := zL (a.tmod b)) d_Model_floor_15 (zL_n0 h3 h4 (by omega)) (zremL h1 h2 h3 h4) ?_
    refine j_lconst (pc := 16) C (v := 0) d_Model_floor_16 (by decide) ?_
    refine j_lcmp (pc := 17) C (v := lg_cmp (zL (a.tmod b)) (zL 0)) d_Model_floor_17 rfl ?_
    by_cases c4 : (a.tmod b) = 0
    · refine j_if_eqT (pc := 18) C (tgt := 53) d_Model_floor_18 (by decide) ((zc_eq (a := (a.tmod b)) (b := 0) (by omega) (by omega) (by omega) (by omega)).mpr c4) ?_
      refine j_lload (pc := 53) C d_Model_floor_53 0 rfl ?_
      exact j_lret (pc := 55) C hr () (congrArg zL (fl_2 (by omega) (by omega)).symm) [] rfl (by decide) (by decide) (by decide) d_Model_floor_55
    · refine j_if_eqF (pc := 18) C (tgt := 53) d_Model_floor_18 (by decide) (fun e => c4 ((zc_eq (a := (a.tmod b)) (b := 0) (by omega) (by omega) (by omega) (by omega)).mp e)) ?_
      refine j_lload_n (pc := 21) C d_Model_floor_21 rfl 1 rfl ?_
      refine j_lconst (pc := 22) C (v := 0) d_Model_floor_22 (by decide) ?_
      refine j_lcmp (pc := 23) C (v := lg_cmp (zL a) (zL 0)) d_Model_floor_23 rfl ?_
      by_cases c6 : 0 ≤ a
      · refine j_if_geT (pc := 24) C (tgt := 31) d_Model_floor_24 (by decide) ((zc_ge (a := a) (b := 0) (by omega) (by omega) (by omega) (by omega)).mpr c6) ?_
        refine j_iconst (pc := 31) C (v := 0) d_Model_floor_31 (by decide) ?_
        refine j_lload_n (pc := 32) C d_Model_floor_32 rfl 2 rfl ?_
        refine j_lconst (pc := 33) C (v := 0) d_Model_floor_33 (by decide) ?_
        refine j_lcmp (pc := 34) C (v := lg_cmp (zL b) (zL 0)) d_Model_floor_34 rfl ?_
        by_cases c8 : 0 ≤ b
        · refine j_if_geT (pc := 35) C (tgt := 42) d_Model_floor_35 (by decide) ((zc_ge (a := b) (b := 0) (by omega) (by omega) (by omega) (by omega)).mpr c8) ?_
          refine j_iconst (pc := 42) C (v := 0) d_Model_floor_42 (by decide) ?_
          refine j_icmp_eqT (pc := 43) C (tgt := 53) d_Model_floor_43 (by decide) (by decide) ?_
          refine j_lload (pc := 53) C d_Model_floor_53 0 rfl ?_
          exact j_lret (pc := 55) C hr () (congrArg zL (fl_2 (by omega) (by omega)).symm) [] rfl (by decide) (by decide) (by decide) d_Model_floor_55
        · refine j_if_geF (pc := 35) C (tgt := 42) d_Model_floor_35 (by decide) (fun e => c8 ((zc_ge (a := b) (b := 0) (by omega) (by omega) (by omega) (by omega)).mp e)) ?_
          refine j_iconst (pc := 38) C (v := 1) d_Model_floor_38 (by decide) ?_
          refine j_goto (pc := 39) C (tgt := 43) d_Model_floor_39 (by decide) ?_
          refine j_icmp_eqF (pc := 43) C (tgt := 53) d_Model_floor_43 (by decide) (by decide) ?_
          refine j_lload (pc := 46) C d_Model_floor_46 0 rfl ?_
          refine j_lconst (pc := 48) C (v := 1) d_Model_floor_48 (by decide) ?_
          refine j_lsub (pc := 49) C (v := zL (a.tdiv b - 1)) d_Model_floor_49 (zL_sub _ 1) ?_
          refine j_goto (pc := 50) C (tgt := 55) d_Model_floor_50 (by decide) ?_
          exact j_lret (pc := 55) C hr () (congrArg zL (fl_1 (by omega) (by omega)).symm) [] rfl (by decide) (by decide) (by decide) d_Model_floor_55
      · refine j_if_geF (pc := 24) C (tgt := 31) d_Model_floor_24 (by decide) (fun e => c6 ((zc_ge (a := a) (b := 0) (by omega) (by omega) (by omega) (by omega)).mp e)) ?_
        refine j_iconst (pc := 27) C (v := 1) d_Model_floor_27 (by decide) ?_
        refine j_goto (pc := 28) C (tgt := 32) d_Model_floor_28 (by decide) ?_
        refine j_lload_n (pc := 32) C d_Model_floor_32 rfl 2 rfl ?_
        refine j_lconst (pc := 33) C (v := 0) d_Model_floor_33 (by decide) ?_
        refine j_lcmp (pc := 34) C (v := lg_cmp (zL b) (zL 0)) d_Model_floor_34 rfl ?_
        by_cases c10 : 0 ≤ b
        · refine j_if_geT (pc := 35) C (tgt := 42) d_Model_floor_35 (by decide) ((zc_ge (a := b) (b := 0) (by omega) (by omega) (by omega) (by omega)).mpr c10) ?_
          refine j_iconst (pc := 42) C (v := 0) d_Model_floor_42 (by decide) ?_
          refine j_icmp_eqF (pc := 43) C (tgt := 53) d_Model_floor_43 (by decide) (by decide) ?_
          refine j_lload (pc := 46) C d_Model_floor_46 0 rfl ?_
          refine j_lconst (pc := 48) C (v := 1) d_Model_floor_48 (by decide) ?_
          refine j_lsub (pc := 49) C (v := zL (a.tdiv b - 1)) d_Model_floor_49 (zL_sub _ 1) ?_
          refine j_goto (pc := 50) C (tgt := 55) d_Model_floor_50 (by decide) ?_
          exact j_lret (pc := 55) C hr () (congrArg zL (fl_1 (by omega) (by omega)).symm) [] rfl (by decide) (by decide) (by decide) d_Model_floor_55
        · refine j_if_geF (pc := 35) C (tgt := 42) d_Model_floor_35 (by decide) (fun e => c10 ((zc_ge (a := b) (b := 0) (by omega) (by omega) (by omega) (by omega)).mp e)) ?_
          refine j_iconst (pc := 38) C (v := 1) d_Model_floor_38 (by decide) ?_
          refine j_goto (pc := 39) C (tgt := 43) d_Model_floor_39 (by decide) ?_
          refine j_icmp_eqT (pc := 43) C (tgt := 53) d_Model_floor_43 (by decide) (by decide) ?_
          refine j_lload (pc := 53) C d_Model_floor_53 0 rfl ?_
          exact j_lret (pc := 55) C hr () (congrArg zL (fl_2 (by omega) (by omega)).symm) [] rfl (by decide) (by decide) (by decide) d_Model_floor_55
  · refine j_if_neF (pc := 3) C (tgt := 8) d_Model_floor_3 (by decide) ((zc_eq (a := b) (b := 0) (by omega) (by omega) (by omega) (by omega)).mpr (Classical.not_not.mp c2)) ?_
    refine j_lconst (pc := 6) C (v := 0) d_Model_floor_6 (by decide) ?_
    exact j_lret (pc := 7) C hr () (congrArg zL (fl_z (by omega)).symm) [] rfl (by decide) (by decide) (by decide) d_Model_floor_7
set_option maxHeartbeats 4000000 in
set_option maxRecDepth 100000 in
theorem c_mputs (l : Launch) (D : va_G) (y : Nat → ClassId) (mo : Nat) (ma : Nat → Nat) (t1 : Nat) (i2 : Int32) (i3 : Int32) (i4 : Int32) (i5 : Int32) (i6 : Int32) (i7 : Int32) (i8 : Int32) (i42 : Int32) (i49 : Int32) (i51 : Int32) (i53 : Int32) (i54 : Int32) (i59 : Int32) (t61 : Nat) (i64 : Int32) (i66 : Int32) (t67 : Nat) (i76 : Int64) (i78 : Int32) (g60 : Nat → Int64) (v : Int) (vs : List Int) (hst : STL g60 vs) (ht : t61 = vs.length) (hp : t61 < 1700) : CT l D y ⟨"NineBoardsModel", "puts", "(J)V"⟩ prog_13_method_49_code 3 none ({ frames := 0, cells := 0, slots := 0, locals := 0 } : Room) [.ref mo, .long (zL v)] [MB mo ma (nI t1) i2 i3 i4 i5 i6 i7 i8 i42 i49 i51 i53 i54 i59 (nI t61) i64 i66 (nI t67) i76 i78, (ma 60, .inl (y 1, 1700, .inr (.inl g60)))] (QV D [MB mo ma (nI t1) i2 i3 i4 i5 i6 i7 i8 i42 i49 i51 i53 i54 i59 (nI t61) i64 i66 (nI t67) i76 i78, (ma 60, .inl (y 1, 1700, .inr (.inl g60)))] (fun (u : Nat → Int64) => STL u (v :: vs)) (fun u => [MB mo ma (nI t1) i2 i3 i4 i5 i6 i7 i8 i42 i49 i51 i53 i54 i59 (nI (t61 + 1)) i64 i66 (nI t67) i76 i78, (ma 60, .inl (y 1, 1700, .inr (.inl u)))])) := by
  refine CT.of (by decide) (nb rfl) ?_
  intro p e s m args below meth c C hr
  refine j_lv (lv' := [(0, .ref mo), (1, .long (zL v))]) rfl ?_
  refine j_aload_n (pc := 0) C d_Model_puts_0 rfl 0 rfl ?_
  refine j_get (pc := 1) C gf_Model_155 0 rfl rfl d_Model_puts_1 ?_
  refine j_aload_n (pc := 4) C d_Model_puts_4 rfl 0 rfl ?_
  refine j_get (pc := 5) C gf_Model_387 0 rfl rfl d_Model_puts_5 ?_
  refine j_lload_n (pc := 8) C d_Model_puts_8 rfl 1 rfl ?_
  refine j_last (pc := 9) C 1 rfl (ws' := [MB mo ma (nI t1) i2 i3 i4 i5 i6 i7 i8 i42 i49 i51 i53 i54 i59 (nI t61) i64 i66 (nI t67) i76 i78, (ma 60, .inl (y 1, 1700, .inr (.inl (vp_updL g60 t61 (zL v)))))]) (vp_in_nI (by omega) (by decide)) (by rw [nI_clamp (by omega)]; rfl) d_Model_puts_9 ?_
  refine j_aload_n (pc := 10) C d_Model_puts_10 rfl 0 rfl ?_
  refine j_dup (pc := 11) C d_Model_puts_11 rfl ?_
  refine j_get (pc := 12) C gf_Model_387 0 rfl rfl d_Model_puts_12 ?_
  refine j_iconst (pc := 15) C (v := 1) d_Model_puts_15 (by decide) ?_
  refine j_iadd (pc := 16) C (v := nI (t61 + 1)) d_Model_puts_16 (nI_add _ _) ?_
  refine j_put (pc := 17) C pf_Model_387 0 (ws' := [MB mo ma (nI t1) i2 i3 i4 i5 i6 i7 i8 i42 i49 i51 i53 i54 i59 (nI (t61 + 1)) i64 i66 (nI t67) i76 i78, (ma 60, .inl (y 1, 1700, .inr (.inl (vp_updL g60 t61 (zL v)))))]) rfl rfl rfl (nl rfl) rfl d_Model_puts_17 ?_
  exact j_vret (pc := 20) C hr (vp_updL g60 t61 (zL v)) (stl_push hst ht) [0, 1] rfl (by decide) (by decide) (by decide) d_Model_puts_20
set_option maxHeartbeats 4000000 in
set_option maxRecDepth 100000 in
theorem c_mjoins_1 (l : Launch) (D : va_G) (y : Nat → ClassId) (mo : Nat) (ma : Nat → Nat) (t1 : Nat) (i2 : Int32) (i3 : Int32) (i4 : Int32) (i5 : Int32) (i6 : Int32) (i7 : Int32) (i8 : Int32) (i42 : Int32) (i49 : Int32) (i51 : Int32) (i53 : Int32) (i54 : Int32) (i59 : Int32) (t61 : Nat) (i64 : Int32) (i66 : Int32) (t67 : Nat) (i76 : Int64) (i78 : Int32) (g60 : Nat → Int64) (a : Int) (b : Int) (rs : List Int) (h1 : -1000000 ≤ a) (h2 : a ≤ 1000000) (h3 : -1000000 ≤ b) (h4 : b ≤ 1000000) (hst : STL g60 (b :: a :: rs)) (ht : t61 = rs.length + 2) (hp : t61 ≤ 1700) : CT l D y ⟨"NineBoardsModel", "joins", "(I)V"⟩ prog_13_method_50_code 6 none ({ frames := 1, cells := 0, slots := 0, locals := 22 } : Room) [.ref mo, .int 1] [MB mo ma (nI t1) i2 i3 i4 i5 i6 i7 i8 i42 i49 i51 i53 i54 i59 (nI t61) i64 i66 (nI t67) i76 i78, (ma 60, .inl (y 1, 1700, .inr (.inl g60)))] (QV D [MB mo ma (nI t1) i2 i3 i4 i5 i6 i7 i8 i42 i49 i51 i53 i54 i59 (nI t61) i64 i66 (nI t67) i76 i78, (ma 60, .inl (y 1, 1700, .inr (.inl g60)))] (fun (u : Nat → Int64) => STL u (opE 1 a b :: rs)) (fun u => [MB mo ma (nI t1) i2 i3 i4 i5 i6 i7 i8 i42 i49 i51 i53 i54 i59 (nI (t61 - 1)) i64 i66 (nI t67) i76 i78, (ma 60, .inl (y 1, 1700, .inr (.inl u)))])) := by
  refine CT.of (by decide) (nb rfl) ?_
  intro p e s m args below meth c C hr
  refine j_lv (lv' := [(0, .ref mo), (1, .int 1)]) rfl ?_
  refine j_aload_n (pc := 0) C d_Model_joins_0 rfl 0 rfl ?_
  refine j_get (pc := 1) C gf_Model_155 0 rfl rfl d_Model_joins_1 ?_
  refine j_aload_n (pc := 4) C d_Model_joins_4 rfl 0 rfl ?_
  refine j_get (pc := 5) C gf_Model_387 0 rfl rfl d_Model_joins_5 ?_
  refine j_iconst (pc := 8) C (v := 1) d_Model_joins_8 (by decide) ?_
  refine j_isub (pc := 9) C (v := nI (t61 - 1)) d_Model_joins_9 (pk_sub (a := t61) (b := 1) (by omega)) ?_
  refine j_lald (pc := 10) C 1 rfl (v := zL b) (vp_in_nI (by omega) (by decide)) (by rw [nI_clamp (by omega), show (t61 - 1) = (a :: rs).length by rw [List.length_cons]; omega]; exact hst.1) d_Model_joins_10 ?_
  refine j_lstore_n (pc := 11) C (lv' := [(2, .long (zL b)), (0, .ref mo), (1, .int 1)]) d_Model_joins_11 rfl (by decide) rfl ?_
  refine j_aload_n (pc := 12) C d_Model_joins_12 rfl 1 rfl ?_
  refine j_get (pc := 13) C gf_Model_155 0 rfl rfl d_Model_joins_13 ?_
  refine j_aload_n (pc := 16) C d_Model_joins_16 rfl 1 rfl ?_
  refine j_get (pc := 17) C gf_Model_387 0 rfl rfl d_Model_joins_17 ?_
  refine j_iconst (pc := 20) C (v := 2) d_Model_joins_20 (by decide) ?_
  refine j_isub (pc := 21) C (v := nI (t61 - 2)) d_Model_joins_21 (pk_sub (a := t61) (b := 2) (by omega)) ?_
  refine j_lald (pc := 22) C 1 rfl (v := zL a) (vp_in_nI (by omega) (by decide)) (by rw [nI_clamp (by omega), show (t61 - 2) = rs.length by omega]; exact hst.2.1) d_Model_joins_22 ?_
  refine j_lstore (pc := 23) C (lv' := [(4, .long (zL a)), (2, .long (zL b)), (0, .ref mo), (1, .int 1)]) d_Model_joins_23 (by decide) rfl ?_
  refine j_aload_n (pc := 25) C d_Model_joins_25 rfl 2 rfl ?_
  refine j_dup (pc := 26) C d_Model_joins_26 rfl ?_
  refine j_get (pc := 27) C gf_Model_387 0 rfl rfl d_Model_joins_27 ?_
  refine j_iconst (pc := 30) C (v := 2) d_Model_joins_30 (by decide) ?_
  refine j_isub (pc := 31) C (v := nI (t61 - 2)) d_Model_joins_31 (pk_sub (a := t61) (b := 2) (by omega)) ?_
  refine j_put (pc := 32) C pf_Model_387 0 (ws' := [MB mo ma (nI t1) i2 i3 i4 i5 i6 i7 i8 i42 i49 i51 i53 i54 i59 (nI (t61 - 2)) i64 i66 (nI t67) i76 i78, (ma 60, .inl (y 1, 1700, .inr (.inl g60)))]) rfl rfl rfl (nl rfl) rfl d_Model_joins_32 ?_
  have xh1 : STL g60 rs := hst.2.2
  have htr : t61 - 2 = rs.length := by omega
  refine j_iload_n (pc := 35) C d_Model_joins_35 rfl 3 rfl ?_
  refine j_tabIn (pc := 36) C (off := 72) (tgt := 108) d_Model_joins_36 (by decide) (by decide) (by decide) (by decide) ?_
  refine j_aload_n (pc := 108) C d_Model_joins_108 rfl 2 rfl ?_
  refine j_lload (pc := 109) C d_Model_joins_109 0 rfl ?_
  refine j_lload_n (pc := 111) C d_Model_joins_111 rfl 1 rfl ?_
  refine j_ladd (pc := 112) C (v := zL (a + b)) d_Model_joins_112 (zL_add _ _) ?_
  refine j_callSl (pc := 113) C (c_mclip l D y (a + b) (by omega) (by omega)) kw_Model_390 ks_Model_clip ⟨by decide, by decide⟩ ⟨by decide, by decide⟩ (wr := [MB mo ma (nI t1) i2 i3 i4 i5 i6 i7 i8 i42 i49 i51 i53 i54 i59 (nI (t61 - 2)) i64 i66 (nI t67) i76 i78, (ma 60, .inl (y 1, 1700, .inr (.inl g60)))]) [] [0, 1] rfl rfl (by decide) (by decide) (by decide) (As := [.long (zL (a + b))]) (rest := [.ref mo]) rfl (nb rfl) rfl d_Model_joins_113 (fun r2 _ hr2 => ?_)
  obtain rfl := hr2
  refine j_ws (ws' := [MB mo ma (nI t1) i2 i3 i4 i5 i6 i7 i8 i42 i49 i51 i53 i54 i59 (nI (t61 - 2)) i64 i66 (nI t67) i76 i78, (ma 60, .inl (y 1, 1700, .inr (.inl g60)))]) rfl ?_
  refine j_callVv (pc := 116) C (c_mputs l D y mo ma t1 i2 i3 i4 i5 i6 i7 i8 i42 i49 i51 i53 i54 i59 (t61 - 2) i64 i66 t67 i76 i78 g60 (clipI (a + b)) rs xh1 htr (by omega)) kw_Model_394 kv_Model_puts 0 10 rfl rfl ⟨by decide, by decide⟩ ⟨by decide, by decide⟩ (wr := []) [0, 1] [] rfl rfl (by decide) (by decide) (by decide) (As := [.long (zL (clipI (a + b)))]) (rest := []) rfl (nb rfl) rfl d_Model_joins_116 (fun u3 hu4 => ?_)
  have xh5 := hu4
  refine j_ws (ws' := [MB mo ma (nI t1) i2 i3 i4 i5 i6 i7 i8 i42 i49 i51 i53 i54 i59 (nI ((t61 - 2) + 1)) i64 i66 (nI t67) i76 i78, (ma 60, .inl (y 1, 1700, .inr (.inl u3)))]) rfl ?_
  refine j_goto (pc := 119) C (tgt := 289) d_Model_joins_119 (by decide) ?_
  refine j_ws (ws' := [MB mo ma (nI t1) i2 i3 i4 i5 i6 i7 i8 i42 i49 i51 i53 i54 i59 (nI (t61 - 1)) i64 i66 (nI t67) i76 i78, (ma 60, .inl (y 1, 1700, .inr (.inl u3)))]) (by rw [show nI ((t61 - 2) + 1) = nI (t61 - 1) from (congrArg nI (by omega))]) ?_
  exact j_vret (pc := 289) C hr u3 (by rw [op_c1]; exact xh5) [0, 1] rfl (by decide) (by decide) (by decide) d_Model_joins_289
set_option maxHeartbeats 4000000 in
set_option maxRecDepth 100000 in
theorem c_mjoins_2 (l : Launch) (D : va_G) (y : Nat → ClassId) (mo : Nat) (ma : Nat → Nat) (t1 : Nat) (i2 : Int32) (i3 : Int32) (i4 : Int32) (i5 : Int32) (i6 : Int32) (i7 : Int32) (i8 : Int32) (i42 : Int32) (i49 : Int32) (i51 : Int32) (i53 : Int32) (i54 : Int32) (i59 : Int32) (t61 : Nat) (i64 : Int32) (i66 : Int32) (t67 : Nat) (i76 : Int64) (i78 : Int32) (g60 : Nat → Int64) (a : Int) (b : Int) (rs : List Int) (h1 : -1000000 ≤ a) (h2 : a ≤ 1000000) (h3 : -1000000 ≤ b) (h4 : b ≤ 1000000) (hst : STL g60 (b :: a :: rs)) (ht : t61 = rs.length + 2) (hp : t61 ≤ 1700) : CT l D y ⟨"NineBoardsModel", "joins", "(I)V"⟩ prog_13_method_50_code 6 none ({ frames := 1, cells := 0, slots := 0, locals := 22 } : Room) [.ref mo, .int 2] [MB mo ma (nI t1) i2 i3 i4 i5 i6 i7 i8 i42 i49 i51 i53 i54 i59 (nI t61) i64 i66 (nI t67) i76 i78, (ma 60, .inl (y 1, 1700, .inr (.inl g60)))] (QV D [MB mo ma (nI t1) i2 i3 i4 i5 i6 i7 i8 i42 i49 i51 i53 i54 i59 (nI t61) i64 i66 (nI t67) i76 i78, (ma 60, .inl (y 1, 1700, .inr (.inl g60)))] (fun (u : Nat → Int64) => STL u (opE 2 a b :: rs)) (fun u => [MB mo ma (nI t1) i2 i3 i4 i5 i6 i7 i8 i42 i49 i51 i53 i54 i59 (nI (t61 - 1)) i64 i66 (nI t67) i76 i78, (ma 60, .inl (y 1, 1700, .inr (.inl u)))])) := by
  refine CT.of (by decide) (nb rfl) ?_
  intro p e s m args below meth c C hr
  refine j_lv (lv' := [(0, .ref mo), (1, .int 2)]) rfl ?_
  refine j_aload_n (pc := 0) C d_Model_joins_0 rfl 0 rfl ?_
  refine j_get (pc := 1) C gf_Model_155 0 rfl rfl d_Model_joins_1 ?_
  refine j_aload_n (pc := 4) C d_Model_joins_4 rfl 0 rfl ?_
  refine j_get (pc := 5) C gf_Model_387 0 rfl rfl d_Model_joins_5 ?_
  refine j_iconst (pc := 8) C (v := 1) d_Model_joins_8 (by decide) ?_
  refine j_isub (pc := 9) C (v := nI (t61 - 1)) d_Model_joins_9 (pk_sub (a := t61) (b := 1) (by omega)) ?_
  refine j_lald (pc := 10) C 1 rfl (v := zL b) (vp_in_nI (by omega) (by decide)) (by rw [nI_clamp (by omega), show (t61 - 1) = (a :: rs).length by rw [List.length_cons]; omega]; exact hst.1) d_Model_joins_10 ?_
  refine j_lstore_n (pc := 11) C (lv' := [(2, .long (zL b)), (0, .ref mo), (1, .int 2)]) d_Model_joins_11 rfl (by decide) rfl ?_
  refine j_aload_n (pc := 12) C d_Model_joins_12 rfl 1 rfl ?_
  refine j_get (pc := 13) C gf_Model_155 0 rfl rfl d_Model_joins_13 ?_
  refine j_aload_n (pc := 16) C d_Model_joins_16 rfl 1 rfl ?_
  refine j_get (pc := 17) C gf_Model_387 0 rfl rfl d_Model_joins_17 ?_
  refine j_iconst (pc := 20) C (v := 2) d_Model_joins_20 (by decide) ?_
  refine j_isub (pc := 21) C (v := nI (t61 - 2)) d_Model_joins_21 (pk_sub (a := t61) (b := 2) (by omega)) ?_
  refine j_lald (pc := 22) C 1 rfl (v := zL a) (vp_in_nI (by omega) (by decide)) (by rw [nI_clamp (by omega), show (t61 - 2) = rs.length by omega]; exact hst.2.1) d_Model_joins_22 ?_
  refine j_lstore (pc := 23) C (lv' := [(4, .long (zL a)), (2, .long (zL b)), (0, .ref mo), (1, .int 2)]) d_Model_joins_23 (by decide) rfl ?_
  refine j_aload_n (pc := 25) C d_Model_joins_25 rfl 2 rfl ?_
  refine j_dup (pc := 26) C d_Model_joins_26 rfl ?_
  refine j_get (pc := 27) C gf_Model_387 0 rfl rfl d_Model_joins_27 ?_
  refine j_iconst (pc := 30) C (v := 2) d_Model_joins_30 (by decide) ?_
  refine j_isub (pc := 31) C (v := nI (t61 - 2)) d_Model_joins_31 (pk_sub (a := t61) (b := 2) (by omega)) ?_
  refine j_put (pc := 32) C pf_Model_387 0 (ws' := [MB mo ma (nI t1) i2 i3 i4 i5 i6 i7 i8 i42 i49 i51 i53 i54 i59 (nI (t61 - 2)) i64 i66 (nI t67) i76 i78, (ma 60, .inl (y 1, 1700, .inr (.inl g60)))]) rfl rfl rfl (nl rfl) rfl d_Model_joins_32 ?_
  have xh1 : STL g60 rs := hst.2.2
  have htr : t61 - 2 = rs.length := by omega
  refine j_iload_n (pc := 35) C d_Model_joins_35 rfl 3 rfl ?_
  refine j_tabIn (pc := 36) C (off := 86) (tgt := 122) d_Model_joins_36 (by decide) (by decide) (by decide) (by decide) ?_
  refine j_aload_n (pc := 122) C d_Model_joins_122 rfl 2 rfl ?_
  refine j_lload (pc := 123) C d_Model_joins_123 0 rfl ?_
  refine j_lload_n (pc := 125) C d_Model_joins_125 rfl 1 rfl ?_
  refine j_lsub (pc := 126) C (v := zL (a - b)) d_Model_joins_126 (zL_sub _ _) ?_
  refine j_callSl (pc := 127) C (c_mclip l D y (a - b) (by omega) (by omega)) kw_Model_390 ks_Model_clip ⟨by decide, by decide⟩ ⟨by decide, by decide⟩ (wr := [MB mo ma (nI t1) i2 i3 i4 i5 i6 i7 i8 i42 i49 i51 i53 i54 i59 (nI (t61 - 2)) i64 i66 (nI t67) i76 i78, (ma 60, .inl (y 1, 1700, .inr (.inl g60)))]) [] [0, 1] rfl rfl (by decide) (by decide) (by decide) (As := [.long (zL (a - b))]) (rest := [.ref mo]) rfl (nb rfl) rfl d_Model_joins_127 (fun r2 _ hr2 => ?_)
  obtain rfl := hr2
  refine j_ws (ws' := [MB mo ma (nI t1) i2 i3 i4 i5 i6 i7 i8 i42 i49 i51 i53 i54 i59 (nI (t61 - 2)) i64 i66 (nI t67) i76 i78, (ma 60, .inl (y 1, 1700, .inr (.inl g60)))]) rfl ?_
  refine j_callVv (pc := 130) C (c_mputs l D y mo ma t1 i2 i3 i4 i5 i6 i7 i8 i42 i49 i51 i53 i54 i59 (t61 - 2) i64 i66 t67 i76 i78 g60 (clipI (a - b)) rs xh1 htr (by omega)) kw_Model_394 kv_Model_puts 0 10 rfl rfl ⟨by decide, by decide⟩ ⟨by decide, by decide⟩ (wr := []) [0, 1] [] rfl rfl (by decide) (by decide) (by decide) (As := [.long (zL (clipI (a - b)))]) (rest := []) rfl (nb rfl) rfl d_Model_joins_130 (fun u3 hu4 => ?_)
  have xh5 := hu4
  refine j_ws (ws' := [MB mo ma (nI t1) i2 i3 i4 i5 i6 i7 i8 i42 i49 i51 i53 i54 i59 (nI ((t61 - 2) + 1)) i64 i66 (nI t67) i76 i78, (ma 60, .inl (y 1, 1700, .inr (.inl u3)))]) rfl ?_
  refine j_goto (pc := 133) C (tgt := 289) d_Model_joins_133 (by decide) ?_
  refine j_ws (ws' := [MB mo ma (nI t1) i2 i3 i4 i5 i6 i7 i8 i42 i49 i51 i53 i54 i59 (nI (t61 - 1)) i64 i66 (nI t67) i76 i78, (ma 60, .inl (y 1, 1700, .inr (.inl u3)))]) (by rw [show nI ((t61 - 2) + 1) = nI (t61 - 1) from (congrArg nI (by omega))]) ?_
  exact j_vret (pc := 289) C hr u3 (by rw [op_c2]; exact xh5) [0, 1] rfl (by decide) (by decide) (by decide) d_Model_joins_289
set_option maxHeartbeats 4000000 in
set_option maxRecDepth 100000 in
theorem c_mjoins_3 (l : Launch) (D : va_G) (y : Nat → ClassId) (mo : Nat) (ma : Nat → Nat) (t1 : Nat) (i2 : Int32) (i3 : Int32) (i4 : Int32) (i5 : Int32) (i6 : Int32) (i7 : Int32) (i8 : Int32) (i42 : Int32) (i49 : Int32) (i51 : Int32) (i53 : Int32) (i54 : Int32) (i59 : Int32) (t61 : Nat) (i64 : Int32) (i66 : Int32) (t67 : Nat) (i76 : Int64) (i78 : Int32) (g60 : Nat → Int64) (a : Int) (b : Int) (rs : List Int) (h1 : -1000000 ≤ a) (h2 : a ≤ 1000000) (h3 : -1000000 ≤ b) (h4 : b ≤ 1000000) (hst : STL g60 (b :: a :: rs)) (ht : t61 = rs.length + 2) (hp : t61 ≤ 1700) : CT l D y ⟨"NineBoardsModel", "joins", "(I)V"⟩ prog_13_method_50_code 6 none ({ frames := 1, cells := 0, slots := 0, locals := 22 } : Room) [.ref mo, .int 3] [MB mo ma (nI t1) i2 i3 i4 i5 i6 i7 i8 i42 i49 i51 i53 i54 i59 (nI t61) i64 i66 (nI t67) i76 i78, (ma 60, .inl (y 1, 1700, .inr (.inl g60)))] (QV D [MB mo ma (nI t1) i2 i3 i4 i5 i6 i7 i8 i42 i49 i51 i53 i54 i59 (nI t61) i64 i66 (nI t67) i76 i78, (ma 60, .inl (y 1, 1700, .inr (.inl g60)))] (fun (u : Nat → Int64) => STL u (opE 3 a b :: rs)) (fun u => [MB mo ma (nI t1) i2 i3 i4 i5 i6 i7 i8 i42 i49 i51 i53 i54 i59 (nI (t61 - 1)) i64 i66 (nI t67) i76 i78, (ma 60, .inl (y 1, 1700, .inr (.inl u)))])) := by
  refine CT.of (by decide) (nb rfl) ?_
  intro p e s m args below meth c C hr
  refine j_lv (lv' := [(0, .ref mo), (1, .int 3)]) rfl ?_
  have hmm := mul_b h1 h2 h3 h4
  refine j_aload_n (pc := 0) C d_Model_joins_0 rfl 0 rfl ?_
  refine j_get (pc := 1) C gf_Model_155 0 rfl rfl d_Model_joins_1 ?_
  refine j_aload_n (pc := 4) C d_Model_joins_4 rfl 0 rfl ?_
  refine j_get (pc := 5) C gf_Model_387 0 rfl rfl d_Model_joins_5 ?_
  refine j_iconst (pc := 8) C (v := 1) d_Model_joins_8 (by decide) ?_
  refine j_isub (pc := 9) C (v := nI (t61 - 1)) d_Model_joins_9 (pk_sub (a := t61) (b := 1) (by omega)) ?_
  refine j_lald (pc := 10) C 1 rfl (v := zL b) (vp_in_nI (by omega) (by decide)) (by rw [nI_clamp (by omega), show (t61 - 1) = (a :: rs).length by rw [List.length_cons]; omega]; exact hst.1) d_Model_joins_10 ?_
  refine j_lstore_n (pc := 11) C (lv' := [(2, .long (zL b)), (0, .ref mo), (1, .int 3)]) d_Model_joins_11 rfl (by decide) rfl ?_
  refine j_aload_n (pc := 12) C d_Model_joins_12 rfl 1 rfl ?_
  refine j_get (pc := 13) C gf_Model_155 0 rfl rfl d_Model_joins_13 ?_
  refine j_aload_n (pc := 16) C d_Model_joins_16 rfl 1 rfl ?_
  refine j_get (pc := 17) C gf_Model_387 0 rfl rfl d_Model_joins_17 ?_
  refine j_iconst (pc := 20) C (v := 2) d_Model_joins_20 (by decide) ?_
  refine j_isub (pc := 21) C (v := nI (t61 - 2)) d_Model_joins_21 (pk_sub (a := t61) (b := 2) (by omega)) ?_
  refine j_lald (pc := 22) C 1 rfl (v := zL a) (vp_in_nI (by omega) (by decide)) (by rw [nI_clamp (by omega), show (t61 - 2) = rs.length by omega]; exact hst.2.1) d_Model_joins_22 ?_
  refine j_lstore (pc := 23) C (lv' := [(4, .long (zL a)), (2, .long (zL b)), (0, .ref mo), (1, .int 3)]) d_Model_joins_23 (by decide) rfl ?_
  refine j_aload_n (pc := 25) C d_Model_joins_25 rfl 2 rfl ?_
  refine j_dup (pc := 26) C d_Model_joins_26 rfl ?_
  refine j_get (pc := 27) C gf_Model_387 0 rfl rfl d_Model_joins_27 ?_
  refine j_iconst (pc := 30) C (v := 2) d_Model_joins_30 (by decide) ?_
  refine j_isub (pc := 31) C (v := nI (t61 - 2)) d_Model_joins_31 (pk_sub (a := t61) (b := 2) (by omega)) ?_
  refine j_put (pc := 32) C pf_Model_387 0 (ws' := [MB mo ma (nI t1) i2 i3 i4 i5 i6 i7 i8 i42 i49 i51 i53 i54 i59 (nI (t61 - 2)) i64 i66 (nI t67) i76 i78, (ma 60, .inl (y 1, 1700, .inr (.inl g60)))]) rfl rfl rfl (nl rfl) rfl d_Model_joins_32 ?_
  have xh1 : STL g60 rs := hst.2.2
  have htr : t61 - 2 = rs.length := by omega
  refine j_iload_n (pc := 35) C d_Model_joins_35 rfl 3 rfl ?_
  refine j_tabIn (pc := 36) C (off := 100) (tgt := 136) d_Model_joins_36 (by decide) (by decide) (by decide) (by decide) ?_
  refine j_aload_n (pc := 136) C d_Model_joins_136 rfl 2 rfl ?_
  refine j_lload (pc := 137) C d_Model_joins_137 0 rfl ?_
  refine j_lload_n (pc := 139) C d_Model_joins_139 rfl 1 rfl ?_
  refine j_lmul (pc := 140) C (v := zL (a * b)) d_Model_joins_140 (zL_mul _ _) ?_
  refine j_callSl (pc := 141) C (c_mclip l D y (a * b) (by omega) (by omega)) kw_Model_390 ks_Model_clip ⟨by decide, by decide⟩ ⟨by decide, by decide⟩ (wr := [MB mo ma (nI t1) i2 i3 i4 i5 i6 i7 i8 i42 i49 i51 i53 i54 i59 (nI (t61 - 2)) i64 i66 (nI t67) i76 i78, (ma 60, .inl (y 1, 1700, .inr (.inl g60)))]) [] [0, 1] rfl rfl (by decide) (by decide) (by decide) (As := [.long (zL (a * b))]) (rest := [.ref mo]) rfl (nb rfl) rfl d_Model_joins_141 (fun r2 _ hr2 => ?_)
  obtain rfl := hr2
  refine j_ws (ws' := [MB mo ma (nI t1) i2 i3 i4 i5 i6 i7 i8 i42 i49 i51 i53 i54 i59 (nI (t61 - 2)) i64 i66 (nI t67) i76 i78, (ma 60, .inl (y 1, 1700, .inr (.inl g60)))]) rfl ?_
  refine j_callVv (pc := 144) C (c_mputs l D y mo ma t1 i2 i3 i4 i5 i6 i7 i8 i42 i49 i51 i53 i54 i59 (t61 - 2) i64 i66 t67 i76 i78 g60 (clipI (a * b)) rs xh1 htr (by omega)) kw_Model_394 kv_Model_puts 0 10 rfl rfl ⟨by decide, by decide⟩ ⟨by decide, by decide⟩ (wr := []) [0, 1] [] rfl rfl (by decide) (by decide) (by decide) (As := [.long (zL (clipI (a * b)))]) (rest := []) rfl (nb rfl) rfl d_Model_joins_144 (fun u3 hu4 => ?_)
  have xh5 := hu4
  refine j_ws (ws' := [MB mo ma (nI t1) i2 i3 i4 i5 i6 i7 i8 i42 i49 i51 i53 i54 i59 (nI ((t61 - 2) + 1)) i64 i66 (nI t67) i76 i78, (ma 60, .inl (y 1, 1700, .inr (.inl u3)))]) rfl ?_
  refine j_goto (pc := 147) C (tgt := 289) d_Model_joins_147 (by decide) ?_
  refine j_ws (ws' := [MB mo ma (nI t1) i2 i3 i4 i5 i6 i7 i8 i42 i49 i51 i53 i54 i59 (nI (t61 - 1)) i64 i66 (nI t67) i76 i78, (ma 60, .inl (y 1, 1700, .inr (.inl u3)))]) (by rw [show nI ((t61 - 2) + 1) = nI (t61 - 1) from (congrArg nI (by omega))]) ?_
  exact j_vret (pc := 289) C hr u3 (by rw [op_c3]; exact xh5) [0, 1] rfl (by decide) (by decide) (by decide) d_Model_joins_289
set_option maxHeartbeats 4000000 in
set_option maxRecDepth 100000 in
theorem c_mjoins_4 (l : Launch) (D : va_G) (y : Nat → ClassId) (mo : Nat) (ma : Nat → Nat) (t1 : Nat) (i2 : Int32) (i3 : Int32) (i4 : Int32) (i5 : Int32) (i6 : Int32) (i7 : Int32) (i8 : Int32) (i42 : Int32) (i49 : Int32) (i51 : Int32) (i53 : Int32) (i54 : Int32) (i59 : Int32) (t61 : Nat) (i64 : Int32) (i66 : Int32) (t67 : Nat) (i76 : Int64) (i78 : Int32) (g60 : Nat → Int64) (a : Int) (b : Int) (rs : List Int) (h1 : -1000000 ≤ a) (h2 : a ≤ 1000000) (h3 : -1000000 ≤ b) (h4 : b ≤ 1000000) (hst : STL g60 (b :: a :: rs)) (ht : t61 = rs.length + 2) (hp : t61 ≤ 1700) : CT l D y ⟨"NineBoardsModel", "joins", "(I)V"⟩ prog_13_method_50_code 6 none ({ frames := 1, cells := 0, slots := 0, locals := 25 } : Room) [.ref mo, .int 4] [MB mo ma (nI t1) i2 i3 i4 i5 i6 i7 i8 i42 i49 i51 i53 i54 i59 (nI t61) i64 i66 (nI t67) i76 i78, (ma 60, .inl (y 1, 1700, .inr (.inl g60)))] (QV D [MB mo ma (nI t1) i2 i3 i4 i5 i6 i7 i8 i42 i49 i51 i53 i54 i59 (nI t61) i64 i66 (nI t67) i76 i78, (ma 60, .inl (y 1, 1700, .inr (.inl g60)))] (fun (u : Nat → Int64) => STL u (opE 4 a b :: rs)) (fun u => [MB mo ma (nI t1) i2 i3 i4 i5 i6 i7 i8 i42 i49 i51 i53 i54 i59 (nI (t61 - 1)) i64 i66 (nI t67) i76 i78, (ma 60, .inl (y 1, 1700, .inr (.inl u)))])) := by
  refine CT.of (by decide) (nb rfl) ?_
  intro p e s m args below meth c C hr
  refine j_lv (lv' := [(0, .ref mo), (1, .int 4)]) rfl ?_
  refine j_aload_n (pc := 0) C d_Model_joins_0 rfl 0 rfl ?_
  refine j_get (pc := 1) C gf_Model_155 0 rfl rfl d_Model_joins_1 ?_
  refine j_aload_n (pc := 4) C d_Model_joins_4 rfl 0 rfl ?_
  refine j_get (pc := 5) C gf_Model_387 0 rfl rfl d_Model_joins_5 ?_
  refine j_iconst (pc := 8) C (v := 1) d_Model_joins_8 (by decide) ?_
  refine j_isub (pc := 9) C (v := nI (t61 - 1)) d_Model_joins_9 (pk_sub (a := t61) (b := 1) (by omega)) ?_
  refine j_lald (pc := 10) C 1 rfl (v := zL b) (vp_in_nI (by omega) (by decide)) (by rw [nI_clamp (by omega), show (t61 - 1) = (a :: rs).length by rw [List.length_cons]; omega]; exact hst.1) d_Model_joins_10 ?_
  refine j_lstore_n (pc := 11) C (lv' := [(2, .long (zL b)), (0, .ref mo), (1, .int 4)]) d_Model_joins_11 rfl (by decide) rfl ?_
  refine j_aload_n (pc := 12) C d_Model_joins_12 rfl 1 rfl ?_
  refine j_get (pc := 13) C gf_Model_155 0 rfl rfl d_Model_joins_13 ?_
  refine j_aload_n (pc := 16) C d_Model_joins_16 rfl 1 rfl ?_
  refine j_get (pc := 17) C gf_Model_387 0 rfl rfl d_Model_joins_17 ?_
  refine j_iconst (pc := 20) C (v := 2) d_Model_joins_20 (by decide) ?_
  refine j_isub (pc := 21) C (v := nI (t61 - 2)) d_Model_joins_21 (pk_sub (a := t61) (b := 2) (by omega)) ?_
  refine j_lald (pc := 22) C 1 rfl (v := zL a) (vp_in_nI (by omega) (by decide)) (by rw [nI_clamp (by omega), show (t61 - 2) = rs.length by omega]; exact hst.2.1) d_Model_joins_22 ?_
  refine j_lstore (pc := 23) C (lv' := [(4, .long (zL a)), (2, .long (zL b)), (0, .ref mo), (1, .int 4)]) d_Model_joins_23 (by decide) rfl ?_
  refine j_aload_n (pc := 25) C d_Model_joins_25 rfl 2 rfl ?_
  refine j_dup (pc := 26) C d_Model_joins_26 rfl ?_
  refine j_get (pc := 27) C gf_Model_387 0 rfl rfl d_Model_joins_27 ?_
  refine j_iconst (pc := 30) C (v := 2) d_Model_joins_30 (by decide) ?_
  refine j_isub (pc := 31) C (v := nI (t61 - 2)) d_Model_joins_31 (pk_sub (a := t61) (b := 2) (by omega)) ?_
  refine j_put (pc := 32) C pf_Model_387 0 (ws' := [MB mo ma (nI t1) i2 i3 i4 i5 i6 i7 i8 i42 i49 i51 i53 i54 i59 (nI (t61 - 2)) i64 i66 (nI t67) i76 i78, (ma 60, .inl (y 1, 1700, .inr (.inl g60)))]) rfl rfl rfl (nl rfl) rfl d_Model_joins_32 ?_
  have xh1 : STL g60 rs := hst.2.2
  have htr : t61 - 2 = rs.length := by omega
  refine j_iload_n (pc := 35) C d_Model_joins_35 rfl 3 rfl ?_
  refine j_tabIn (pc := 36) C (off := 114) (tgt := 150) d_Model_joins_36 (by decide) (by decide) (by decide) (by decide) ?_
  refine j_aload_n (pc := 150) C d_Model_joins_150 rfl 2 rfl ?_
  refine j_lload (pc := 151) C d_Model_joins_151 0 rfl ?_
  refine j_lload_n (pc := 153) C d_Model_joins_153 rfl 1 rfl ?_
  refine j_callSl (pc := 154) C (c_mfloor l D y a b h1 h2 h3 h4) kw_Model_398 ks_Model_floor ⟨by decide, by decide⟩ ⟨by decide, by decide⟩ (wr := [MB mo ma (nI t1) i2 i3 i4 i5 i6 i7 i8 i42 i49 i51 i53 i54 i59 (nI (t61 - 2)) i64 i66 (nI t67) i76 i78, (ma 60, .inl (y 1, 1700, .inr (.inl g60)))]) [] [0, 1] rfl rfl (by decide) (by decide) (by decide) (As := [.long (zL a), .long (zL b)]) (rest := [.ref mo]) rfl (nb rfl) rfl d_Model_joins_154 (fun r2 _ hr2 => ?_)
  obtain rfl := hr2
  refine j_ws (ws' := [MB mo ma (nI t1) i2 i3 i4 i5 i6 i7 i8 i42 i49 i51 i53 i54 i59 (nI (t61 - 2)) i64 i66 (nI t67) i76 i78, (ma 60, .inl (y 1, 1700, .inr (.inl g60)))]) rfl ?_
  refine j_callVv (pc := 157) C (c_mputs l D y mo ma t1 i2 i3 i4 i5 i6 i7 i8 i42 i49 i51 i53 i54 i59 (t61 - 2) i64 i66 t67 i76 i78 g60 (flI a b) rs xh1 htr (by omega)) kw_Model_394 kv_Model_puts 0 10 rfl rfl ⟨by decide, by decide⟩ ⟨by decide, by decide⟩ (wr := []) [0, 1] [] rfl rfl (by decide) (by decide) (by decide) (As := [.long (zL (flI a b))]) (rest := []) rfl (nb rfl) rfl d_Model_joins_157 (fun u3 hu4 => ?_)
  have xh5 := hu4
  refine j_ws (ws' := [MB mo ma (nI t1) i2 i3 i4 i5 i6 i7 i8 i42 i49 i51 i53 i54 i59 (nI ((t61 - 2) + 1)) i64 i66 (nI t67) i76 i78, (ma 60, .inl (y 1, 1700, .inr (.inl u3)))]) rfl ?_
  refine j_goto (pc := 160) C (tgt := 289) d_Model_joins_160 (by decide) ?_
  refine j_ws (ws' := [MB mo ma (nI t1) i2 i3 i4 i5 i6 i7 i8 i42 i49 i51 i53 i54 i59 (nI (t61 - 1)) i64 i66 (nI t67) i76 i78, (ma 60, .inl (y 1, 1700, .inr (.inl u3)))]) (by rw [show nI ((t61 - 2) + 1) = nI (t61 - 1) from (congrArg nI (by omega))]) ?_
  exact j_vret (pc := 289) C hr u3 (by rw [op_c4]; exact xh5) [0, 1] rfl (by decide) (by decide) (by decide) d_Model_joins_289
set_option maxHeartbeats 4000000 in
set_option maxRecDepth 100000 in
theorem c_mjoins_5 (l : Launch) (D : va_G) (y : Nat → ClassId) (mo : Nat) (ma : Nat → Nat) (t1 : Nat) (i2 : Int32) (i3 : Int32) (i4 : Int32) (i5 : Int32) (i6 : Int32) (i7 : Int32) (i8 : Int32) (i42 : Int32) (i49 : Int32) (i51 : Int32) (i53 : Int32) (i54 : Int32) (i59 : Int32) (t61 : Nat) (i64 : Int32) (i66 : Int32) (t67 : Nat) (i76 : Int64) (i78 : Int32) (g60 : Nat → Int64) (a : Int) (b : Int) (rs : List Int) (h1 : -1000000 ≤ a) (h2 : a ≤ 1000000) (h3 : -1000000 ≤ b) (h4 : b ≤ 1000000) (hst : STL g60 (b :: a :: rs)) (ht : t61 = rs.length + 2) (hp : t61 ≤ 1700) : CT l D y ⟨"NineBoardsModel", "joins", "(I)V"⟩ prog_13_method_50_code 6 none ({ frames := 1, cells := 0, slots := 0, locals := 22 } : Room) [.ref mo, .int 5] [MB mo ma (nI t1) i2 i3 i4 i5 i6 i7 i8 i42 i49 i51 i53 i54 i59 (nI t61) i64 i66 (nI t67) i76 i78, (ma 60, .inl (y 1, 1700, .inr (.inl g60)))] (QV D [MB mo ma (nI t1) i2 i3 i4 i5 i6 i7 i8 i42 i49 i51 i53 i54 i59 (nI t61) i64 i66 (nI t67) i76 i78, (ma 60, .inl (y 1, 1700, .inr (.inl g60)))] (fun (u : Nat → Int64) => STL u (opE 5 a b :: rs)) (fun u => [MB mo ma (nI t1) i2 i3 i4 i5 i6 i7 i8 i42 i49 i51 i53 i54 i59 (nI (t61 - 1)) i64 i66 (nI t67) i76 i78, (ma 60, .inl (y 1, 1700, .inr (.inl u)))])) := by
  refine CT.of (by decide) (nb rfl) ?_
  intro p e s m args below meth c C hr
  refine j_lv (lv' := [(0, .ref mo), (1, .int 5)]) rfl ?_
  refine j_aload_n (pc := 0) C d_Model_joins_0 rfl 0 rfl ?_
  refine j_get (pc := 1) C gf_Model_155 0 rfl rfl d_Model_joins_1 ?_
  refine j_aload_n (pc := 4) C d_Model_joins_4 rfl 0 rfl ?_
  refine j_get (pc := 5) C gf_Model_387 0 rfl rfl d_Model_joins_5 ?_
  refine j_iconst (pc := 8) C (v := 1) d_Model_joins_8 (by decide) ?_
  refine j_isub (pc := 9) C (v := nI (t61 - 1)) d_Model_joins_9 (pk_sub (a := t61) (b := 1) (by omega)) ?_
  refine j_lald (pc := 10) C 1 rfl (v := zL b) (vp_in_nI (by omega) (by decide)) (by rw [nI_clamp (by omega), show (t61 - 1) = (a :: rs).length by rw [List.length_cons]; omega]; exact hst.1) d_Model_joins_10 ?_
  refine j_lstore_n (pc := 11) C (lv' := [(2, .long (zL b)), (0, .ref mo), (1, .int 5)]) d_Model_joins_11 rfl (by decide) rfl ?_
  refine j_aload_n (pc := 12) C d_Model_joins_12 rfl 1 rfl ?_
  refine j_get (pc := 13) C gf_Model_155 0 rfl rfl d_Model_joins_13 ?_
  refine j_aload_n (pc := 16) C d_Model_joins_16 rfl 1 rfl ?_
  refine j_get (pc := 17) C gf_Model_387 0 rfl rfl d_Model_joins_17 ?_
  refine j_iconst (pc := 20) C (v := 2) d_Model_joins_20 (by decide) ?_
  refine j_isub (pc := 21) C (v := nI (t61 - 2)) d_Model_joins_21 (pk_sub (a := t61) (b := 2) (by omega)) ?_
  refine j_lald (pc := 22) C 1 rfl (v := zL a) (vp_in_nI (by omega) (by decide)) (by rw [nI_clamp (by omega), show (t61 - 2) = rs.length by omega]; exact hst.2.1) d_Model_joins_22 ?_
  refine j_lstore (pc := 23) C (lv' := [(4, .long (zL a)), (2, .long (zL b)), (0, .ref mo), (1, .int 5)]) d_Model_joins_23 (by decide) rfl ?_
  refine j_aload_n (pc := 25) C d_Model_joins_25 rfl 2 rfl ?_
  refine j_dup (pc := 26) C d_Model_joins_26 rfl ?_
  refine j_get (pc := 27) C gf_Model_387 0 rfl rfl d_Model_joins_27 ?_
  refine j_iconst (pc := 30) C (v := 2) d_Model_joins_30 (by decide) ?_
  refine j_isub (pc := 31) C (v := nI (t61 - 2)) d_Model_joins_31 (pk_sub (a := t61) (b := 2) (by omega)) ?_
  refine j_put (pc := 32) C pf_Model_387 0 (ws' := [MB mo ma (nI t1) i2 i3 i4 i5 i6 i7 i8 i42 i49 i51 i53 i54 i59 (nI (t61 - 2)) i64 i66 (nI t67) i76 i78, (ma 60, .inl (y 1, 1700, .inr (.inl g60)))]) rfl rfl rfl (nl rfl) rfl d_Model_joins_32 ?_
  have xh1 : STL g60 rs := hst.2.2
  have htr : t61 - 2 = rs.length := by omega
  refine j_iload_n (pc := 35) C d_Model_joins_35 rfl 3 rfl ?_
  refine j_tabIn (pc := 36) C (off := 127) (tgt := 163) d_Model_joins_36 (by decide) (by decide) (by decide) (by decide) ?_
  refine j_aload_n (pc := 163) C d_Model_joins_163 rfl 2 rfl ?_
  refine j_lload (pc := 164) C d_Model_joins_164 0 rfl ?_
  refine j_lload_n (pc := 166) C d_Model_joins_166 rfl 1 rfl ?_
  refine j_lcmp (pc := 167) C (v := lg_cmp (zL a) (zL b)) d_Model_joins_167 rfl ?_
  by_cases c3 : b ≤ a
  · refine j_if_geT (pc := 168) C (tgt := 176) d_Model_joins_168 (by decide) ((zc_ge (a := a) (b := b) (by omega) (by omega) (by omega) (by omega)).mpr c3) ?_
    refine j_lload_n (pc := 176) C d_Model_joins_176 rfl 1 rfl ?_
    refine j_callVv (pc := 177) C (c_mputs l D y mo ma t1 i2 i3 i4 i5 i6 i7 i8 i42 i49 i51 i53 i54 i59 (t61 - 2) i64 i66 t67 i76 i78 g60 b rs xh1 htr (by omega)) kw_Model_394 kv_Model_puts 0 10 rfl rfl ⟨by decide, by decide⟩ ⟨by decide, by decide⟩ (wr := []) [0, 1] [] rfl rfl (by decide) (by decide) (by decide) (As := [.long (zL b)]) (rest := []) rfl (nb rfl) rfl d_Model_joins_177 (fun u4 hu5 => ?_)
    have xh6 := hu5
    refine j_ws (ws' := [MB mo ma (nI t1) i2 i3 i4 i5 i6 i7 i8 i42 i49 i51 i53 i54 i59 (nI ((t61 - 2) + 1)) i64 i66 (nI t67) i76 i78, (ma 60, .inl (y 1, 1700, .inr (.inl u4)))]) rfl ?_
    refine j_goto (pc := 180) C (tgt := 289) d_Model_joins_180 (by decide) ?_
    refine j_ws (ws' := [MB mo ma (nI t1) i2 i3 i4 i5 i6 i7 i8 i42 i49 i51 i53 i54 i59 (nI (t61 - 1)) i64 i66 (nI t67) i76 i78, (ma 60, .inl (y 1, 1700, .inr (.inl u4)))]) (by rw [show nI ((t61 - 2) + 1) = nI (t61 - 1) from (congrArg nI (by omega))]) ?_
    exact j_vret (pc := 289) C hr u4 (by rw [op_c5, if_neg (by omega)]; exact xh6) [0, 1] rfl (by decide) (by decide) (by decide) d_Model_joins_289
  · refine j_if_geF (pc := 168) C (tgt := 176) d_Model_joins_168 (by decide) (fun e => c3 ((zc_ge (a := a) (b := b) (by omega) (by omega) (by omega) (by omega)).mp e)) ?_
    refine j_lload (pc := 171) C d_Model_joins_171 0 rfl ?_
    refine j_goto (pc := 173) C (tgt := 177) d_Model_joins_173 (by decide) ?_
    refine j_callVv (pc := 177) C (c_mputs l D y mo ma t1 i2 i3 i4 i5 i6 i7 i8 i42 i49 i51 i53 i54 i59 (t61 - 2) i64 i66 t67 i76 i78 g60 a rs xh1 htr (by omega)) kw_Model_394 kv_Model_puts 0 10 rfl rfl ⟨by decide, by decide⟩ ⟨by decide, by decide⟩ (wr := []) [0, 1] [] rfl rfl (by decide) (by decide) (by decide) (As := [.long (zL a)]) (rest := []) rfl (nb rfl) rfl d_Model_joins_177 (fun u7 hu8 => ?_)
    have xh9 := hu8
    refine j_ws (ws' := [MB mo ma (nI t1) i2 i3 i4 i5 i6 i7 i8 i42 i49 i51 i53 i54 i59 (nI ((t61 - 2) + 1)) i64 i66 (nI t67) i76 i78, (ma 60, .inl (y 1, 1700, .inr (.inl u7)))]) rfl ?_
    refine j_goto (pc := 180) C (tgt := 289) d_Model_joins_180 (by decide) ?_
    refine j_ws (ws' := [MB mo ma (nI t1) i2 i3 i4 i5 i6 i7 i8 i42 i49 i51 i53 i54 i59 (nI (t61 - 1)) i64 i66 (nI t67) i76 i78, (ma 60, .inl (y 1, 1700, .inr (.inl u7)))]) (by rw [show nI ((t61 - 2) + 1) = nI (t61 - 1) from (congrArg nI (by omega))]) ?_
    exact j_vret (pc := 289) C hr u7 (by rw [op_c5, if_pos (by omega)]; exact xh9) [0, 1] rfl (by decide) (by decide) (by decide) d_Model_joins_289
set_option maxHeartbeats 4000000 in
set_option maxRecDepth 100000 in
theorem c_mjoins_6 (l : Launch) (D : va_G) (y : Nat → ClassId) (mo : Nat) (ma : Nat → Nat) (t1 : Nat) (i2 : Int32) (i3 : Int32) (i4 : Int32) (i5 : Int32) (i6 : Int32) (i7 : Int32) (i8 : Int32) (i42 : Int32) (i49 : Int32) (i51 : Int32) (i53 : Int32) (i54 : Int32) (i59 : Int32) (t61 : Nat) (i64 : Int32) (i66 : Int32) (t67 : Nat) (i76 : Int64) (i78 : Int32) (g60 : Nat → Int64) (a : Int) (b : Int) (rs : List Int) (h1 : -1000000 ≤ a) (h2 : a ≤ 1000000) (h3 : -1000000 ≤ b) (h4 : b ≤ 1000000) (hst : STL g60 (b :: a :: rs)) (ht : t61 = rs.length + 2) (hp : t61 ≤ 1700) : CT l D y ⟨"NineBoardsModel", "joins", "(I)V"⟩ prog_13_method_50_code 6 none ({ frames := 1, cells := 0, slots := 0, locals := 22 } : Room) [.ref mo, .int 6] [MB mo ma (nI t1) i2 i3 i4 i5 i6 i7 i8 i42 i49 i51 i53 i54 i59 (nI t61) i64 i66 (nI t67) i76 i78, (ma 60, .inl (y 1, 1700, .inr (.inl g60)))] (QV D [MB mo ma (nI t1) i2 i3 i4 i5 i6 i7 i8 i42 i49 i51 i53 i54 i59 (nI t61) i64 i66 (nI t67) i76 i78, (ma 60, .inl (y 1, 1700, .inr (.inl g60)))] (fun (u : Nat → Int64) => STL u (opE 6 a b :: rs)) (fun u => [MB mo ma (nI t1) i2 i3 i4 i5 i6 i7 i8 i42 i49 i51 i53 i54 i59 (nI (t61 - 1)) i64 i66 (nI t67) i76 i78, (ma 60, .inl (y 1, 1700, .inr (.inl u)))])) := by
  refine CT.of (by decide) (nb rfl) ?_
  intro p e s m args below meth c C hr
  refine j_lv (lv' := [(0, .ref mo), (1, .int 6)]) rfl ?_
  refine j_aload_n (pc := 0) C d_Model_joins_0 rfl 0 rfl ?_
  refine j_get (pc := 1) C gf_Model_155 0 rfl rfl d_Model_joins_1 ?_
  refine j_aload_n (pc := 4) C d_Model_joins_4 rfl 0 rfl ?_
  refine j_get (pc := 5) C gf_Model_387 0 rfl rfl d_Model_joins_5 ?_
  refine j_iconst (pc := 8) C (v := 1) d_Model_joins_8 (by decide) ?_
  refine j_isub (pc := 9) C (v := nI (t61 - 1)) d_Model_joins_9 (pk_sub (a := t61) (b := 1) (by omega)) ?_
  refine j_lald (pc := 10) C 1 rfl (v := zL b) (vp_in_nI (by omega) (by decide)) (by rw [nI_clamp (by omega), show (t61 - 1) = (a :: rs).length by rw [List.length_cons]; omega]; exact hst.1) d_Model_joins_10 ?_
  refine j_lstore_n (pc := 11) C (lv' := [(2, .long (zL b)), (0, .ref mo), (1, .int 6)]) d_Model_joins_11 rfl (by decide) rfl ?_
  refine j_aload_n (pc := 12) C d_Model_joins_12 rfl 1 rfl ?_
  refine j_get (pc := 13) C gf_Model_155 0 rfl rfl d_Model_joins_13 ?_
  refine j_aload_n (pc := 16) C d_Model_joins_16 rfl 1 rfl ?_
  refine j_get (pc := 17) C gf_Model_387 0 rfl rfl d_Model_joins_17 ?_
  refine j_iconst (pc := 20) C (v := 2) d_Model_joins_20 (by decide) ?_
  refine j_isub (pc := 21) C (v := nI (t61 - 2)) d_Model_joins_21 (pk_sub (a := t61) (b := 2) (by omega)) ?_
  refine j_lald (pc := 22) C 1 rfl (v := zL a) (vp_in_nI (by omega) (by decide)) (by rw [nI_clamp (by omega), show (t61 - 2) = rs.length by omega]; exact hst.2.1) d_Model_joins_22 ?_
  refine j_lstore (pc := 23) C (lv' := [(4, .long (zL a)), (2, .long (zL b)), (0, .ref mo), (1, .int 6)]) d_Model_joins_23 (by decide) rfl ?_
  refine j_aload_n (pc := 25) C d_Model_joins_25 rfl 2 rfl ?_
  refine j_dup (pc := 26) C d_Model_joins_26 rfl ?_
  refine j_get (pc := 27) C gf_Model_387 0 rfl rfl d_Model_joins_27 ?_
  refine j_iconst (pc := 30) C (v := 2) d_Model_joins_30 (by decide) ?_
  refine j_isub (pc := 31) C (v := nI (t61 - 2)) d_Model_joins_31 (pk_sub (a := t61) (b := 2) (by omega)) ?_
  refine j_put (pc := 32) C pf_Model_387 0 (ws' := [MB mo ma (nI t1) i2 i3 i4 i5 i6 i7 i8 i42 i49 i51 i53 i54 i59 (nI (t61 - 2)) i64 i66 (nI t67) i76 i78, (ma 60, .inl (y 1, 1700, .inr (.inl g60)))]) rfl rfl rfl (nl rfl) rfl d_Model_joins_32 ?_
  have xh1 : STL g60 rs := hst.2.2
  have htr : t61 - 2 = rs.length := by omega
  refine j_iload_n (pc := 35) C d_Model_joins_35 rfl 3 rfl ?_
  refine j_tabIn (pc := 36) C (off := 147) (tgt := 183) d_Model_joins_36 (by decide) (by decide) (by decide) (by decide) ?_
  refine j_aload_n (pc := 183) C d_Model_joins_183 rfl 2 rfl ?_
  refine j_lload (pc := 184) C d_Model_joins_184 0 rfl ?_
  refine j_lload_n (pc := 186) C d_Model_joins_186 rfl 1 rfl ?_
  refine j_lcmp (pc := 187) C (v := lg_cmp (zL a) (zL b)) d_Model_joins_187 rfl ?_
  by_cases c3 : a ≤ b
  · refine j_if_leT (pc := 188) C (tgt := 196) d_Model_joins_188 (by decide) ((zc_le (a := a) (b := b) (by omega) (by omega) (by omega) (by omega)).mpr c3) ?_
    refine j_lload_n (pc := 196) C d_Model_joins_196 rfl 1 rfl ?_
    refine j_callVv (pc := 197) C (c_mputs l D y mo ma t1 i2 i3 i4 i5 i6 i7 i8 i42 i49 i51 i53 i54 i59 (t61 - 2) i64 i66 t67 i76 i78 g60 b rs xh1 htr (by omega)) kw_Model_394 kv_Model_puts 0 10 rfl rfl ⟨by decide, by decide⟩ ⟨by decide, by decide⟩ (wr := []) [0, 1] [] rfl rfl (by decide) (by decide) (by decide) (As := [.long (zL b)]) (rest := []) rfl (nb rfl) rfl d_Model_joins_197 (fun u4 hu5 => ?_)
    have xh6 := hu5
    refine j_ws (ws' := [MB mo ma (nI t1) i2 i3 i4 i5 i6 i7 i8 i42 i49 i51 i53 i54 i59 (nI ((t61 - 2) + 1)) i64 i66 (nI t67) i76 i78, (ma 60, .inl (y 1, 1700, .inr (.inl u4)))]) rfl ?_
    refine j_goto (pc := 200) C (tgt := 289) d_Model_joins_200 (by decide) ?_
    refine j_ws (ws' := [MB mo ma (nI t1) i2 i3 i4 i5 i6 i7 i8 i42 i49 i51 i53 i54 i59 (nI (t61 - 1)) i64 i66 (nI t67) i76 i78, (ma 60, .inl (y 1, 1700, .inr (.inl u4)))]) (by rw [show nI ((t61 - 2) + 1) = nI (t61 - 1) from (congrArg nI (by omega))]) ?_
    exact j_vret (pc := 289) C hr u4 (by rw [op_c6, if_neg (by omega)]; exact xh6) [0, 1] rfl (by decide) (by decide) (by decide) d_Model_joins_289
  · refine j_if_leF (pc := 188) C (tgt := 196) d_Model_joins_188 (by decide) (fun e => c3 ((zc_le (a := a) (b := b) (by omega) (by omega) (by omega) (by omega)).mp e)) ?_
    refine j_lload (pc := 191) C d_Model_joins_191 0 rfl ?_
    refine j_goto (pc := 193) C (tgt := 197) d_Model_joins_193 (by decide) ?_
    refine j_callVv (pc := 197) C (c_mputs l D y mo ma t1 i2 i3 i4 i5 i6 i7 i8 i42 i49 i51 i53 i54 i59 (t61 - 2) i64 i66 t67 i76 i78 g60 a rs xh1 htr (by omega)) kw_Model_394 kv_Model_puts 0 10 rfl rfl ⟨by decide, by decide⟩ ⟨by decide, by decide⟩ (wr := []) [0, 1] [] rfl rfl (by decide) (by decide) (by decide) (As := [.long (zL a)]) (rest := []) rfl (nb rfl) rfl d_Model_joins_197 (fun u7 hu8 => ?_)
    have xh9 := hu8
    refine j_ws (ws' := [MB mo ma (nI t1) i2 i3 i4 i5 i6 i7 i8 i42 i49 i51 i53 i54 i59 (nI ((t61 - 2) + 1)) i64 i66 (nI t67) i76 i78, (ma 60, .inl (y 1, 1700, .inr (.inl u7)))]) rfl ?_
    refine j_goto (pc := 200) C (tgt := 289) d_Model_joins_200 (by decide) ?_
    refine j_ws (ws' := [MB mo ma (nI t1) i2 i3 i4 i5 i6 i7 i8 i42 i49 i51 i53 i54 i59 (nI (t61 - 1)) i64 i66 (nI t67) i76 i78, (ma 60, .inl (y 1, 1700, .inr (.inl u7)))]) (by rw [show nI ((t61 - 2) + 1) = nI (t61 - 1) from (congrArg nI (by omega))]) ?_
    exact j_vret (pc := 289) C hr u7 (by rw [op_c6, if_pos (by omega)]; exact xh9) [0, 1] rfl (by decide) (by decide) (by decide) d_Model_joins_289
set_option maxHeartbeats 4000000 in
set_option maxRecDepth 100000 in
theorem c_mjoins_11 (l : Launch) (D : va_G) (y : Nat → ClassId) (mo : Nat) (ma : Nat → Nat) (t1 : Nat) (i2 : Int32) (i3 : Int32) (i4 : Int32) (i5 : Int32) (i6 : Int32) (i7 : Int32) (i8 : Int32) (i42 : Int32) (i49 : Int32) (i51 : Int32) (i53 : Int32) (i54 : Int32) (i59 : Int32) (t61 : Nat) (i64 : Int32) (i66 : Int32) (t67 : Nat) (i76 : Int64) (i78 : Int32) (g60 : Nat → Int64) (a : Int) (b : Int) (rs : List Int) (h1 : -1000000 ≤ a) (h2 : a ≤ 1000000) (h3 : -1000000 ≤ b) (h4 : b ≤ 1000000) (hst : STL g60 (b :: a :: rs)) (ht : t61 = rs.length + 2) (hp : t61 ≤ 1700) : CT l D y ⟨"NineBoardsModel", "joins", "(I)V"⟩ prog_13_method_50_code 6 none ({ frames := 1, cells := 0, slots := 0, locals := 22 } : Room) [.ref mo, .int 11] [MB mo ma (nI t1) i2 i3 i4 i5 i6 i7 i8 i42 i49 i51 i53 i54 i59 (nI t61) i64 i66 (nI t67) i76 i78, (ma 60, .inl (y 1, 1700, .inr (.inl g60)))] (QV D [MB mo ma (nI t1) i2 i3 i4 i5 i6 i7 i8 i42 i49 i51 i53 i54 i59 (nI t61) i64 i66 (nI t67) i76 i78, (ma 60, .inl (y 1, 1700, .inr (.inl g60)))] (fun (u : Nat → Int64) => STL u (opE 11 a b :: rs)) (fun u => [MB mo ma (nI t1) i2 i3 i4 i5 i6 i7 i8 i42 i49 i51 i53 i54 i59 (nI (t61 - 1)) i64 i66 (nI t67) i76 i78, (ma 60, .inl (y 1, 1700, .inr (.inl u)))])) := by
  refine CT.of (by decide) (nb rfl) ?_
  intro p e s m args below meth c C hr
  refine j_lv (lv' := [(0, .ref mo), (1, .int 11)]) rfl ?_
  refine j_aload_n (pc := 0) C d_Model_joins_0 rfl 0 rfl ?_
  refine j_get (pc := 1) C gf_Model_155 0 rfl rfl d_Model_joins_1 ?_
  refine j_aload_n (pc := 4) C d_Model_joins_4 rfl 0 rfl ?_
  refine j_get (pc := 5) C gf_Model_387 0 rfl rfl d_Model_joins_5 ?_
  refine j_iconst (pc := 8) C (v := 1) d_Model_joins_8 (by decide) ?_
  refine j_isub (pc := 9) C (v := nI (t61 - 1)) d_Model_joins_9 (pk_sub (a := t61) (b := 1) (by omega)) ?_
  refine j_lald (pc := 10) C 1 rfl (v := zL b) (vp_in_nI (by omega) (by decide)) (by rw [nI_clamp (by omega), show (t61 - 1) = (a :: rs).length by rw [List.length_cons]; omega]; exact hst.1) d_Model_joins_10 ?_
  refine j_lstore_n (pc := 11) C (lv' := [(2, .long (zL b)), (0, .ref mo), (1, .int 11)]) d_Model_joins_11 rfl (by decide) rfl ?_
  refine j_aload_n (pc := 12) C d_Model_joins_12 rfl 1 rfl ?_
  refine j_get (pc := 13) C gf_Model_155 0 rfl rfl d_Model_joins_13 ?_
  refine j_aload_n (pc := 16) C d_Model_joins_16 rfl 1 rfl ?_
  refine j_get (pc := 17) C gf_Model_387 0 rfl rfl d_Model_joins_17 ?_
  refine j_iconst (pc := 20) C (v := 2) d_Model_joins_20 (by decide) ?_
  refine j_isub (pc := 21) C (v := nI (t61 - 2)) d_Model_joins_21 (pk_sub (a := t61) (b := 2) (by omega)) ?_
  refine j_lald (pc := 22) C 1 rfl (v := zL a) (vp_in_nI (by omega) (by decide)) (by rw [nI_clamp (by omega), show (t61 - 2) = rs.length by omega]; exact hst.2.1) d_Model_joins_22 ?_
  refine j_lstore (pc := 23) C (lv' := [(4, .long (zL a)), (2, .long (zL b)), (0, .ref mo), (1, .int 11)]) d_Model_joins_23 (by decide) rfl ?_
  refine j_aload_n (pc := 25) C d_Model_joins_25 rfl 2 rfl ?_
  refine j_dup (pc := 26) C d_Model_joins_26 rfl ?_
  refine j_get (pc := 27) C gf_Model_387 0 rfl rfl d_Model_joins_27 ?_
  refine j_iconst (pc := 30) C (v := 2) d_Model_joins_30 (by decide) ?_
  refine j_isub (pc := 31) C (v := nI (t61 - 2)) d_Model_joins_31 (pk_sub (a := t61) (b := 2) (by omega)) ?_
  refine j_put (pc := 32) C pf_Model_387 0 (ws' := [MB mo ma (nI t1) i2 i3 i4 i5 i6 i7 i8 i42 i49 i51 i53 i54 i59 (nI (t61 - 2)) i64 i66 (nI t67) i76 i78, (ma 60, .inl (y 1, 1700, .inr (.inl g60)))]) rfl rfl rfl (nl rfl) rfl d_Model_joins_32 ?_
  have xh1 : STL g60 rs := hst.2.2
  have htr : t61 - 2 = rs.length := by omega
  refine j_iload_n (pc := 35) C d_Model_joins_35 rfl 3 rfl ?_
  refine j_tabIn (pc := 36) C (off := 167) (tgt := 203) d_Model_joins_36 (by decide) (by decide) (by decide) (by decide) ?_
  refine j_aload_n (pc := 203) C d_Model_joins_203 rfl 2 rfl ?_
  refine j_lload (pc := 204) C d_Model_joins_204 0 rfl ?_
  refine j_lload_n (pc := 206) C d_Model_joins_206 rfl 1 rfl ?_
  refine j_lcmp (pc := 207) C (v := lg_cmp (zL a) (zL b)) d_Model_joins_207 rfl ?_
  by_cases c3 : b ≤ a
  · refine j_if_geT (pc := 208) C (tgt := 215) d_Model_joins_208 (by decide) ((zc_ge (a := a) (b := b) (by omega) (by omega) (by omega) (by omega)).mpr c3) ?_
    refine j_lconst (pc := 215) C (v := 0) d_Model_joins_215 (by decide) ?_
    refine j_st (st' := [.long (zL 0), .ref mo]) rfl ?_
    refine j_callVv (pc := 216) C (c_mputs l D y mo ma t1 i2 i3 i4 i5 i6 i7 i8 i42 i49 i51 i53 i54 i59 (t61 - 2) i64 i66 t67 i76 i78 g60 0 rs xh1 htr (by omega)) kw_Model_394 kv_Model_puts 0 10 rfl rfl ⟨by decide, by decide⟩ ⟨by decide, by decide⟩ (wr := []) [0, 1] [] rfl rfl (by decide) (by decide) (by decide) (As := [.long (zL 0)]) (rest := []) rfl (nb rfl) rfl d_Model_joins_216 (fun u4 hu5 => ?_)
    have xh6 := hu5
    refine j_ws (ws' := [MB mo ma (nI t1) i2 i3 i4 i5 i6 i7 i8 i42 i49 i51 i53 i54 i59 (nI ((t61 - 2) + 1)) i64 i66 (nI t67) i76 i78, (ma 60, .inl (y 1, 1700, .inr (.inl u4)))]) rfl ?_
    refine j_goto (pc := 219) C (tgt := 289) d_Model_joins_219 (by decide) ?_
    refine j_ws (ws' := [MB mo ma (nI t1) i2 i3 i4 i5 i6 i7 i8 i42 i49 i51 i53 i54 i59 (nI (t61 - 1)) i64 i66 (nI t67) i76 i78, (ma 60, .inl (y 1, 1700, .inr (.inl u4)))]) (by rw [show nI ((t61 - 2) + 1) = nI (t61 - 1) from (congrArg nI (by omega))]) ?_
    exact j_vret (pc := 289) C hr u4 (by rw [op_c11, if_neg (by omega)]; exact xh6) [0, 1] rfl (by decide) (by decide) (by decide) d_Model_joins_289
  · refine j_if_geF (pc := 208) C (tgt := 215) d_Model_joins_208 (by decide) (fun e => c3 ((zc_ge (a := a) (b := b) (by omega) (by omega) (by omega) (by omega)).mp e)) ?_
    refine j_lconst (pc := 211) C (v := 1) d_Model_joins_211 (by decide) ?_
    refine j_goto (pc := 212) C (tgt := 216) d_Model_joins_212 (by decide) ?_
    refine j_st (st' := [.long (zL 1), .ref mo]) rfl ?_
    refine j_callVv (pc := 216) C (c_mputs l D y mo ma t1 i2 i3 i4 i5 i6 i7 i8 i42 i49 i51 i53 i54 i59 (t61 - 2) i64 i66 t67 i76 i78 g60 1 rs xh1 htr (by omega)) kw_Model_394 kv_Model_puts 0 10 rfl rfl ⟨by decide, by decide⟩ ⟨by decide, by decide⟩ (wr := []) [0, 1] [] rfl rfl (by decide) (by decide) (by decide) (As := [.long (zL 1)]) (rest := []) rfl (nb rfl) rfl d_Model_joins_216 (fun u7 hu8 => ?_)
    have xh9 := hu8
    refine j_ws (ws' := [MB mo ma (nI t1) i2 i3 i4 i5 i6 i7 i8 i42 i49 i51 i53 i54 i59 (nI ((t61 - 2) + 1)) i64 i66 (nI t67) i76 i78, (ma 60, .inl (y 1, 1700, .inr (.inl u7)))]) rfl ?_
    refine j_goto (pc := 219) C (tgt := 289) d_Model_joins_219 (by decide) ?_
    refine j_ws (ws' := [MB mo ma (nI t1) i2 i3 i4 i5 i6 i7 i8 i42 i49 i51 i53 i54 i59 (nI (t61 - 1)) i64 i66 (nI t67) i76 i78, (ma 60, .inl (y 1, 1700, .inr (.inl u7)))]) (by rw [show nI ((t61 - 2) + 1) = nI (t61 - 1) from (congrArg nI (by omega))]) ?_
    exact j_vret (pc := 289) C hr u7 (by rw [op_c11, if_pos (by omega)]; exact xh9) [0, 1] rfl (by decide) (by decide) (by decide) d_Model_joins_289
set_option maxHeartbeats 4000000 in
set_option maxRecDepth 100000 in
theorem c_mjoins_12 (l : Launch) (D : va_G) (y : Nat → ClassId) (mo : Nat) (ma : Nat → Nat) (t1 : Nat) (i2 : Int32) (i3 : Int32) (i4 : Int32) (i5 : Int32) (i6 : Int32) (i7 : Int32) (i8 : Int32) (i42 : Int32) (i49 : Int32) (i51 : Int32) (i53 : Int32) (i54 : Int32) (i59 : Int32) (t61 : Nat) (i64 : Int32) (i66 : Int32) (t67 : Nat) (i76 : Int64) (i78 : Int32) (g60 : Nat → Int64) (a : Int) (b : Int) (rs : List Int) (h1 : -1000000 ≤ a) (h2 : a ≤ 1000000) (h3 : -1000000 ≤ b) (h4 : b ≤ 1000000) (hst : STL g60 (b :: a :: rs)) (ht : t61 = rs.length + 2) (hp : t61 ≤ 1700) : CT l D y ⟨"NineBoardsModel", "joins", "(I)V"⟩ prog_13_method_50_code 6 none ({ frames := 1, cells := 0, slots := 0, locals := 22 } : Room) [.ref mo, .int 12] [MB mo ma (nI t1) i2 i3 i4 i5 i6 i7 i8 i42 i49 i51 i53 i54 i59 (nI t61) i64 i66 (nI t67) i76 i78, (ma 60, .inl (y 1, 1700, .inr (.inl g60)))] (QV D [MB mo ma (nI t1) i2 i3 i4 i5 i6 i7 i8 i42 i49 i51 i53 i54 i59 (nI t61) i64 i66 (nI t67) i76 i78, (ma 60, .inl (y 1, 1700, .inr (.inl g60)))] (fun (u : Nat → Int64) => STL u (opE 12 a b :: rs)) (fun u => [MB mo ma (nI t1) i2 i3 i4 i5 i6 i7 i8 i42 i49 i51 i53 i54 i59 (nI (t61 - 1)) i64 i66 (nI t67) i76 i78, (ma 60, .inl (y 1, 1700, .inr (.inl u)))])) := by
  refine CT.of (by decide) (nb rfl) ?_
  intro p e s m args below meth c C hr
  refine j_lv (lv' := [(0, .ref mo), (1, .int 12)]) rfl ?_
  refine j_aload_n (pc := 0) C d_Model_joins_0 rfl 0 rfl ?_
  refine j_get (pc := 1) C gf_Model_155 0 rfl rfl d_Model_joins_1 ?_
  refine j_aload_n (pc := 4) C d_Model_joins_4 rfl 0 rfl ?_
  refine j_get (pc := 5) C gf_Model_387 0 rfl rfl d_Model_joins_5 ?_
  refine j_iconst (pc := 8) C (v := 1) d_Model_joins_8 (by decide) ?_
  refine j_isub (pc := 9) C (v := nI (t61 - 1)) d_Model_joins_9 (pk_sub (a := t61) (b := 1) (by omega)) ?_
  refine j_lald (pc := 10) C 1 rfl (v := zL b) (vp_in_nI (by omega) (by decide)) (by rw [nI_clamp (by omega), show (t61 - 1) = (a :: rs).length by rw [List.length_cons]; omega]; exact hst.1) d_Model_joins_10 ?_
  refine j_lstore_n (pc := 11) C (lv' := [(2, .long (zL b)), (0, .ref mo), (1, .int 12)]) d_Model_joins_11 rfl (by decide) rfl ?_
  refine j_aload_n (pc := 12) C d_Model_joins_12 rfl 1 rfl ?_
  refine j_get (pc := 13) C gf_Model_155 0 rfl rfl d_Model_joins_13 ?_
  refine j_aload_n (pc := 16) C d_Model_joins_16 rfl 1 rfl ?_
  refine j_get (pc := 17) C gf_Model_387 0 rfl rfl d_Model_joins_17 ?_
  refine j_iconst (pc := 20) C (v := 2) d_Model_joins_20 (by decide) ?_
  refine j_isub (pc := 21) C (v := nI (t61 - 2)) d_Model_joins_21 (pk_sub (a := t61) (b := 2) (by omega)) ?_
  refine j_lald (pc := 22) C 1 rfl (v := zL a) (vp_in_nI (by omega) (by decide)) (by rw [nI_clamp (by omega), show (t61 - 2) = rs.length by omega]; exact hst.2.1) d_Model_joins_22 ?_
  refine j_lstore (pc := 23) C (lv' := [(4, .long (zL a)), (2, .long (zL b)), (0, .ref mo), (1, .int 12)]) d_Model_joins_23 (by decide) rfl ?_
  refine j_aload_n (pc := 25) C d_Model_joins_25 rfl 2 rfl ?_
  refine j_dup (pc := 26) C d_Model_joins_26 rfl ?_
  refine j_get (pc := 27) C gf_Model_387 0 rfl rfl d_Model_joins_27 ?_
  refine j_iconst (pc := 30) C (v := 2) d_Model_joins_30 (by decide) ?_
  refine j_isub (pc := 31) C (v := nI (t61 - 2)) d_Model_joins_31 (pk_sub (a := t61) (b := 2) (by omega)) ?_
  refine j_put (pc := 32) C pf_Model_387 0 (ws' := [MB mo ma (nI t1) i2 i3 i4 i5 i6 i7 i8 i42 i49 i51 i53 i54 i59 (nI (t61 - 2)) i64 i66 (nI t67) i76 i78, (ma 60, .inl (y 1, 1700, .inr (.inl g60)))]) rfl rfl rfl (nl rfl) rfl d_Model_joins_32 ?_
  have xh1 : STL g60 rs := hst.2.2
  have htr : t61 - 2 = rs.length := by omega
  refine j_iload_n (pc := 35) C d_Model_joins_35 rfl 3 rfl ?_
  refine j_tabIn (pc := 36) C (off := 186) (tgt := 222) d_Model_joins_36 (by decide) (by decide) (by decide) (by decide) ?_
  refine j_aload_n (pc := 222) C d_Model_joins_222 rfl 2 rfl ?_
  refine j_lload (pc := 223) C d_Model_joins_223 0 rfl ?_
  refine j_lload_n (pc := 225) C d_Model_joins_225 rfl 1 rfl ?_
  refine j_lcmp (pc := 226) C (v := lg_cmp (zL a) (zL b)) d_Model_joins_226 rfl ?_
  by_cases c3 : a ≤ b
  · refine j_if_leT (pc := 227) C (tgt := 234) d_Model_joins_227 (by decide) ((zc_le (a := a) (b := b) (by omega) (by omega) (by omega) (by omega)).mpr c3) ?_
    refine j_lconst (pc := 234) C (v := 0) d_Model_joins_234 (by decide) ?_
    refine j_st (st' := [.long (zL 0), .ref mo]) rfl ?_
    refine j_callVv (pc := 235) C (c_mputs l D y mo ma t1 i2 i3 i4 i5 i6 i7 i8 i42 i49 i51 i53 i54 i59 (t61 - 2) i64 i66 t67 i76 i78 g60 0 rs xh1 htr (by omega)) kw_Model_394 kv_Model_puts 0 10 rfl rfl ⟨by decide, by decide⟩ ⟨by decide, by decide⟩ (wr := []) [0, 1] [] rfl rfl (by decide) (by decide) (by decide) (As := [.long (zL 0)]) (rest := []) rfl (nb rfl) rfl d_Model_joins_235 (fun u4 hu5 => ?_)
    have xh6 := hu5
    refine j_ws (ws' := [MB mo ma (nI t1) i2 i3 i4 i5 i6 i7 i8 i42 i49 i51 i53 i54 i59 (nI ((t61 - 2) + 1)) i64 i66 (nI t67) i76 i78, (ma 60, .inl (y 1, 1700, .inr (.inl u4)))]) rfl ?_
    refine j_goto (pc := 238) C (tgt := 289) d_Model_joins_238 (by decide) ?_
    refine j_ws (ws' := [MB mo ma (nI t1) i2 i3 i4 i5 i6 i7 i8 i42 i49 i51 i53 i54 i59 (nI (t61 - 1)) i64 i66 (nI t67) i76 i78, (ma 60, .inl (y 1, 1700, .inr (.inl u4)))]) (by rw [show nI ((t61 - 2) + 1) = nI (t61 - 1) from (congrArg nI (by omega))]) ?_
    exact j_vret (pc := 289) C hr u4 (by rw [op_c12, if_neg (by omega)]; exact xh6) [0, 1] rfl (by decide) (by decide) (by decide) d_Model_joins_289
  · refine j_if_leF (pc := 227) C (tgt := 234) d_Model_joins_227 (by decide) (fun e => c3 ((zc_le (a := a) (b := b) (by omega) (by omega) (by omega) (by omega)).mp e)) ?_
    refine j_lconst (pc := 230) C (v := 1) d_Model_joins_230 (by decide) ?_
    refine j_goto (pc := 231) C (tgt := 235) d_Model_joins_231 (by decide) ?_
    refine j_st (st' := [.long (zL 1), .ref mo]) rfl ?_
    refine j_callVv (pc := 235) C (c_mputs l D y mo ma t1 i2 i3 i4 i5 i6 i7 i8 i42 i49 i51 i53 i54 i59 (t61 - 2) i64 i66 t67 i76 i78 g60 1 rs xh1 htr (by omega)) kw_Model_394 kv_Model_puts 0 10 rfl rfl ⟨by decide, by decide⟩ ⟨by decide, by decide⟩ (wr := []) [0, 1] [] rfl rfl (by decide) (by decide) (by decide) (As := [.long (zL 1)]) (rest := []) rfl (nb rfl) rfl d_Model_joins_235 (fun u7 hu8 => ?_)
    have xh9 := hu8
    refine j_ws (ws' := [MB mo ma (nI t1) i2 i3 i4 i5 i6 i7 i8 i42 i49 i51 i53 i54 i59 (nI ((t61 - 2) + 1)) i64 i66 (nI t67) i76 i78, (ma 60, .inl (y 1, 1700, .inr (.inl u7)))]) rfl ?_
    refine j_goto (pc := 238) C (tgt := 289) d_Model_joins_238 (by decide) ?_
    refine j_ws (ws' := [MB mo ma (nI t1) i2 i3 i4 i5 i6 i7 i8 i42 i49 i51 i53 i54 i59 (nI (t61 - 1)) i64 i66 (nI t67) i76 i78, (ma 60, .inl (y 1, 1700, .inr (.inl u7)))]) (by rw [show nI ((t61 - 2) + 1) = nI (t61 - 1) from (congrArg nI (by omega))]) ?_
    exact j_vret (pc := 289) C hr u7 (by rw [op_c12, if_pos (by omega)]; exact xh9) [0, 1] rfl (by decide) (by decide) (by decide) d_Model_joins_289
set_option maxHeartbeats 4000000 in
set_option maxRecDepth 100000 in
theorem c_mjoins_13 (l : Launch) (D : va_G) (y : Nat → ClassId) (mo : Nat) (ma : Nat → Nat) (t1 : Nat) (i2 : Int32) (i3 : Int32) (i4 : Int32) (i5 : Int32) (i6 : Int32) (i7 : Int32) (i8 : Int32) (i42 : Int32) (i49 : Int32) (i51 : Int32) (i53 : Int32) (i54 : Int32) (i59 : Int32) (t61 : Nat) (i64 : Int32) (i66 : Int32) (t67 : Nat) (i76 : Int64) (i78 : Int32) (g60 : Nat → Int64) (a : Int) (b : Int) (rs : List Int) (h1 : -1000000 ≤ a) (h2 : a ≤ 1000000) (h3 : -1000000 ≤ b) (h4 : b ≤ 1000000) (hst : STL g60 (b :: a :: rs)) (ht : t61 = rs.length + 2) (hp : t61 ≤ 1700) : CT l D y ⟨"NineBoardsModel", "joins", "(I)V"⟩ prog_13_method_50_code 6 none ({ frames := 1, cells := 0, slots := 0, locals := 22 } : Room) [.ref mo, .int 13] [MB mo ma (nI t1) i2 i3 i4 i5 i6 i7 i8 i42 i49 i51 i53 i54 i59 (nI t61) i64 i66 (nI t67) i76 i78, (ma 60, .inl (y 1, 1700, .inr (.inl g60)))] (QV D [MB mo ma (nI t1) i2 i3 i4 i5 i6 i7 i8 i42 i49 i51 i53 i54 i59 (nI t61) i64 i66 (nI t67) i76 i78, (ma 60, .inl (y 1, 1700, .inr (.inl g60)))] (fun (u : Nat → Int64) => STL u (opE 13 a b :: rs)) (fun u => [MB mo ma (nI t1) i2 i3 i4 i5 i6 i7 i8 i42 i49 i51 i53 i54 i59 (nI (t61 - 1)) i64 i66 (nI t67) i76 i78, (ma 60, .inl (y 1, 1700, .inr (.inl u)))])) := by
  refine CT.of (by decide) (nb rfl) ?_
  intro p e s m args below meth c C hr
  refine j_lv (lv' := [(0, .ref mo), (1, .int 13)]) rfl ?_
  refine j_aload_n (pc := 0) C d_Model_joins_0 rfl 0 rfl ?_
  refine j_get (pc := 1) C gf_Model_155 0 rfl rfl d_Model_joins_1 ?_
  refine j_aload_n (pc := 4) C d_Model_joins_4 rfl 0 rfl ?_
  refine j_get (pc := 5) C gf_Model_387 0 rfl rfl d_Model_joins_5 ?_
  refine j_iconst (pc := 8) C (v := 1) d_Model_joins_8 (by decide) ?_
  refine j_isub (pc := 9) C (v := nI (t61 - 1)) d_Model_joins_9 (pk_sub (a := t61) (b := 1) (by omega)) ?_
  refine j_lald (pc := 10) C 1 rfl (v := zL b) (vp_in_nI (by omega) (by decide)) (by rw [nI_clamp (by omega), show (t61 - 1) = (a :: rs).length by rw [List.length_cons]; omega]; exact hst.1) d_Model_joins_10 ?_
  refine j_lstore_n (pc := 11) C (lv' := [(2, .long (zL b)), (0, .ref mo), (1, .int 13)]) d_Model_joins_11 rfl (by decide) rfl ?_
  refine j_aload_n (pc := 12) C d_Model_joins_12 rfl 1 rfl ?_
  refine j_get (pc := 13) C gf_Model_155 0 rfl rfl d_Model_joins_13 ?_
  refine j_aload_n (pc := 16) C d_Model_joins_16 rfl 1 rfl ?_
  refine j_get (pc := 17) C gf_Model_387 0 rfl rfl d_Model_joins_17 ?_
  refine j_iconst (pc := 20) C (v := 2) d_Model_joins_20 (by decide) ?_
  refine j_isub (pc := 21) C (v := nI (t61 - 2)) d_Model_joins_21 (pk_sub (a := t61) (b := 2) (by omega)) ?_
  refine j_lald (pc := 22) C 1 rfl (v := zL a) (vp_in_nI (by omega) (by decide)) (by rw [nI_clamp (by omega), show (t61 - 2) = rs.length by omega]; exact hst.2.1) d_Model_joins_22 ?_
  refine j_lstore (pc := 23) C (lv' := [(4, .long (zL a)), (2, .long (zL b)), (0, .ref mo), (1, .int 13)]) d_Model_joins_23 (by decide) rfl ?_
  refine j_aload_n (pc := 25) C d_Model_joins_25 rfl 2 rfl ?_
  refine j_dup (pc := 26) C d_Model_joins_26 rfl ?_
  refine j_get (pc := 27) C gf_Model_387 0 rfl rfl d_Model_joins_27 ?_
  refine j_iconst (pc := 30) C (v := 2) d_Model_joins_30 (by decide) ?_
  refine j_isub (pc := 31) C (v := nI (t61 - 2)) d_Model_joins_31 (pk_sub (a := t61) (b := 2) (by omega)) ?_
  refine j_put (pc := 32) C pf_Model_387 0 (ws' := [MB mo ma (nI t1) i2 i3 i4 i5 i6 i7 i8 i42 i49 i51 i53 i54 i59 (nI (t61 - 2)) i64 i66 (nI t67) i76 i78, (ma 60, .inl (y 1, 1700, .inr (.inl g60)))]) rfl rfl rfl (nl rfl) rfl d_Model_joins_32 ?_
  have xh1 : STL g60 rs := hst.2.2
  have htr : t61 - 2 = rs.length := by omega
  refine j_iload_n (pc := 35) C d_Model_joins_35 rfl 3 rfl ?_
  refine j_tabIn (pc := 36) C (off := 205) (tgt := 241) d_Model_joins_36 (by decide) (by decide) (by decide) (by decide) ?_
  refine j_aload_n (pc := 241) C d_Model_joins_241 rfl 2 rfl ?_
  refine j_lload (pc := 242) C d_Model_joins_242 0 rfl ?_
  refine j_lload_n (pc := 244) C d_Model_joins_244 rfl 1 rfl ?_
  refine j_lcmp (pc := 245) C (v := lg_cmp (zL a) (zL b)) d_Model_joins_245 rfl ?_
  by_cases c3 : ¬ a = b
  · refine j_if_neT (pc := 246) C (tgt := 253) d_Model_joins_246 (by decide) (fun e => c3 ((zc_eq (a := a) (b := b) (by omega) (by omega) (by omega) (by omega)).mp e)) ?_
    refine j_lconst (pc := 253) C (v := 0) d_Model_joins_253 (by decide) ?_
    refine j_st (st' := [.long (zL 0), .ref mo]) rfl ?_
    refine j_callVv (pc := 254) C (c_mputs l D y mo ma t1 i2 i3 i4 i5 i6 i7 i8 i42 i49 i51 i53 i54 i59 (t61 - 2) i64 i66 t67 i76 i78 g60 0 rs xh1 htr (by omega)) kw_Model_394 kv_Model_puts 0 10 rfl rfl ⟨by decide, by decide⟩ ⟨by decide, by decide⟩ (wr := []) [0, 1] [] rfl rfl (by decide) (by decide) (by decide) (As := [.long (zL 0)]) (rest := []) rfl (nb rfl) rfl d_Model_joins_254 (fun u4 hu5 => ?_)
    have xh6 := hu5
    refine j_ws (ws' := [MB mo ma (nI t1) i2 i3 i4 i5 i6 i7 i8 i42 i49 i51 i53 i54 i59 (nI ((t61 - 2) + 1)) i64 i66 (nI t67) i76 i78, (ma 60, .inl (y 1, 1700, .inr (.inl u4)))]) rfl ?_
    refine j_goto (pc := 257) C (tgt := 289) d_Model_joins_257 (by decide) ?_
    refine j_ws (ws' := [MB mo ma (nI t1) i2 i3 i4 i5 i6 i7 i8 i42 i49 i51 i53 i54 i59 (nI (t61 - 1)) i64 i66 (nI t67) i76 i78, (ma 60, .inl (y 1, 1700, .inr (.inl u4)))]) (by rw [show nI ((t61 - 2) + 1) = nI (t61 - 1) from (congrArg nI (by omega))]) ?_
    exact j_vret (pc := 289) C hr u4 (by rw [op_c13, if_neg (by omega)]; exact xh6) [0, 1] rfl (by decide) (by decide) (by decide) d_Model_joins_289
  · refine j_if_neF (pc := 246) C (tgt := 253) d_Model_joins_246 (by decide) ((zc_eq (a := a) (b := b) (by omega) (by omega) (by omega) (by omega)).mpr (Classical.not_not.mp c3)) ?_
    refine j_lconst (pc := 249) C (v := 1) d_Model_joins_249 (by decide) ?_
    refine j_goto (pc := 250) C (tgt := 254) d_Model_joins_250 (by decide) ?_
    refine j_st (st' := [.long (zL 1), .ref mo]) rfl ?_
    refine j_callVv (pc := 254) C (c_mputs l D y mo ma t1 i2 i3 i4 i5 i6 i7 i8 i42 i49 i51 i53 i54 i59 (t61 - 2) i64 i66 t67 i76 i78 g60 1 rs xh1 htr (by omega)) kw_Model_394 kv_Model_puts 0 10 rfl rfl ⟨by decide, by decide⟩ ⟨by decide, by decide⟩ (wr := []) [0, 1] [] rfl rfl (by decide) (by decide) (by decide) (As := [.long (zL 1)]) (rest := []) rfl (nb rfl) rfl d_Model_joins_254 (fun u7 hu8 => ?_)
    have xh9 := hu8
    refine j_ws (ws' := [MB mo ma (nI t1) i2 i3 i4 i5 i6 i7 i8 i42 i49 i51 i53 i54 i59 (nI ((t61 - 2) + 1)) i64 i66 (nI t67) i76 i78, (ma 60, .inl (y 1, 1700, .inr (.inl u7)))]) rfl ?_
    refine j_goto (pc := 257) C (tgt := 289) d_Model_joins_257 (by decide) ?_
    refine j_ws (ws' := [MB mo ma (nI t1) i2 i3 i4 i5 i6 i7 i8 i42 i49 i51 i53 i54 i59 (nI (t61 - 1)) i64 i66 (nI t67) i76 i78, (ma 60, .inl (y 1, 1700, .inr (.inl u7)))]) (by rw [show nI ((t61 - 2) + 1) = nI (t61 - 1) from (congrArg nI (by omega))]) ?_
    exact j_vret (pc := 289) C hr u7 (by rw [op_c13, if_pos (by omega)]; exact xh9) [0, 1] rfl (by decide) (by decide) (by decide) d_Model_joins_289
set_option maxHeartbeats 4000000 in
set_option maxRecDepth 100000 in
theorem c_mjoins_14 (l : Launch) (D : va_G) (y : Nat → ClassId) (mo : Nat) (ma : Nat → Nat) (t1 : Nat) (i2 : Int32) (i3 : Int32) (i4 : Int32) (i5 : Int32) (i6 : Int32) (i7 : Int32) (i8 : Int32) (i42 : Int32) (i49 : Int32) (i51 : Int32) (i53 : Int32) (i54 : Int32) (i59 : Int32) (t61 : Nat) (i64 : Int32) (i66 : Int32) (t67 : Nat) (i76 : Int64) (i78 : Int32) (g60 : Nat → Int64) (a : Int) (b : Int) (rs : List Int) (ha : VT true a) (hb : VT true b) (hst : STL g60 (b :: a :: rs)) (ht : t61 = rs.length + 2) (hp : t61 ≤ 1700) : CT l D y ⟨"NineBoardsModel", "joins", "(I)V"⟩ prog_13_method_50_code 6 none ({ frames := 1, cells := 0, slots := 0, locals := 22 } : Room) [.ref mo, .int 14] [MB mo ma (nI t1) i2 i3 i4 i5 i6 i7 i8 i42 i49 i51 i53 i54 i59 (nI t61) i64 i66 (nI t67) i76 i78, (ma 60, .inl (y 1, 1700, .inr (.inl g60)))] (QV D [MB mo ma (nI t1) i2 i3 i4 i5 i6 i7 i8 i42 i49 i51 i53 i54 i59 (nI t61) i64 i66 (nI t67) i76 i78, (ma 60, .inl (y 1, 1700, .inr (.inl g60)))] (fun (u : Nat → Int64) => STL u (opE 14 a b :: rs)) (fun u => [MB mo ma (nI t1) i2 i3 i4 i5 i6 i7 i8 i42 i49 i51 i53 i54 i59 (nI (t61 - 1)) i64 i66 (nI t67) i76 i78, (ma 60, .inl (y 1, 1700, .inr (.inl u)))])) := by
  refine CT.of (by decide) (nb rfl) ?_
  intro p e s m args below meth c C hr
  refine j_lv (lv' := [(0, .ref mo), (1, .int 14)]) rfl ?_
  obtain ⟨h1, h2, hab⟩ := id ha; obtain ⟨h3, h4, hbb⟩ := id hb; have hab := hab rfl; have hbb := hbb rfl; have hmm := mul_b h1 h2 h3 h4
  refine j_aload_n (pc := 0) C d_Model_joins_0 rfl 0 rfl ?_
  refine j_get (pc := 1) C gf_Model_155 0 rfl rfl d_Model_joins_1 ?_
  refine j_aload_n (pc := 4) C d_Model_joins_4 rfl 0 rfl ?_
  refine j_get (pc := 5) C gf_Model_387 0 rfl rfl d_Model_joins_5 ?_
  refine j_iconst (pc := 8) C (v := 1) d_Model_joins_8 (by decide) ?_
  refine j_isub (pc := 9) C (v := nI (t61 - 1)) d_Model_joins_9 (pk_sub (a := t61) (b := 1) (by omega)) ?_
  refine j_lald (pc := 10) C 1 rfl (v := zL b) (vp_in_nI (by omega) (by decide)) (by rw [nI_clamp (by omega), show (t61 - 1) = (a :: rs).length by rw [List.length_cons]; omega]; exact hst.1) d_Model_joins_10 ?_
  refine j_lstore_n (pc := 11) C (lv' := [(2, .long (zL b)), (0, .ref mo), (1, .int 14)]) d_Model_joins_11 rfl (by decide) rfl ?_
  refine j_aload_n (pc := 12) C d_Model_joins_12 rfl 1 rfl ?_
  refine j_get (pc := 13) C gf_Model_155 0 rfl rfl d_Model_joins_13 ?_
  refine j_aload_n (pc := 16) C d_Model_joins_16 rfl 1 rfl ?_
  refine j_get (pc := 17) C gf_Model_387 0 rfl rfl d_Model_joins_17 ?_
  refine j_iconst (pc := 20) C (v := 2) d_Model_joins_20 (by decide) ?_
  refine j_isub (pc := 21) C (v := nI (t61 - 2)) d_Model_joins_21 (pk_sub (a := t61) (b := 2) (by omega)) ?_
  refine j_lald (pc := 22) C 1 rfl (v := zL a) (vp_in_nI (by omega) (by decide)) (by rw [nI_clamp (by omega), show (t61 - 2) = rs.length by omega]; exact hst.2.1) d_Model_joins_22 ?_
  refine j_lstore (pc := 23) C (lv' := [(4, .long (zL a)), (2, .long (zL b)), (0, .ref mo), (1, .int 14)]) d_Model_joins_23 (by decide) rfl ?_
  refine j_aload_n (pc := 25) C d_Model_joins_25 rfl 2 rfl ?_
  refine j_dup (pc := 26) C d_Model_joins_26 rfl ?_
  refine j_get (pc := 27) C gf_Model_387 0 rfl rfl d_Model_joins_27 ?_
  refine j_iconst (pc := 30) C (v := 2) d_Model_joins_30 (by decide) ?_
  refine j_isub (pc := 31) C (v := nI (t61 - 2)) d_Model_joins_31 (pk_sub (a := t61) (b := 2) (by omega)) ?_
  refine j_put (pc := 32) C pf_Model_387 0 (ws' := [MB mo ma (nI t1) i2 i3 i4 i5 i6 i7 i8 i42 i49 i51 i53 i54 i59 (nI (t61 - 2)) i64 i66 (nI t67) i76 i78, (ma 60, .inl (y 1, 1700, .inr (.inl g60)))]) rfl rfl rfl (nl rfl) rfl d_Model_joins_32 ?_
  have xh1 : STL g60 rs := hst.2.2
  have htr : t61 - 2 = rs.length := by omega
  refine j_iload_n (pc := 35) C d_Model_joins_35 rfl 3 rfl ?_
  refine j_tabIn (pc := 36) C (off := 224) (tgt := 260) d_Model_joins_36 (by decide) (by decide) (by decide) (by decide) ?_
  refine j_aload_n (pc := 260) C d_Model_joins_260 rfl 2 rfl ?_
  refine j_lload (pc := 261) C d_Model_joins_261 0 rfl ?_
  refine j_lload_n (pc := 263) C d_Model_joins_263 rfl 1 rfl ?_
  refine j_lmul (pc := 264) C (v := zL (a * b)) d_Model_joins_264 (zL_mul _ _) ?_
  refine j_callVv (pc := 265) C (c_mputs l D y mo ma t1 i2 i3 i4 i5 i6 i7 i8 i42 i49 i51 i53 i54 i59 (t61 - 2) i64 i66 t67 i76 i78 g60 (a * b) rs xh1 htr (by omega)) kw_Model_394 kv_Model_puts 0 10 rfl rfl ⟨by decide, by decide⟩ ⟨by decide, by decide⟩ (wr := []) [0, 1] [] rfl rfl (by decide) (by decide) (by decide) (As := [.long (zL (a * b))]) (rest := []) rfl (nb rfl) rfl d_Model_joins_265 (fun u2 hu3 => ?_)
  have xh4 := hu3
  refine j_ws (ws' := [MB mo ma (nI t1) i2 i3 i4 i5 i6 i7 i8 i42 i49 i51 i53 i54 i59 (nI ((t61 - 2) + 1)) i64 i66 (nI t67) i76 i78, (ma 60, .inl (y 1, 1700, .inr (.inl u2)))]) rfl ?_
  refine j_goto (pc := 268) C (tgt := 289) d_Model_joins_268 (by decide) ?_
  refine j_ws (ws' := [MB mo ma (nI t1) i2 i3 i4 i5 i6 i7 i8 i42 i49 i51 i53 i54 i59 (nI (t61 - 1)) i64 i66 (nI t67) i76 i78, (ma 60, .inl (y 1, 1700, .inr (.inl u2)))]) (by rw [show nI ((t61 - 2) + 1) = nI (t61 - 1) from (congrArg nI (by omega))]) ?_
  exact j_vret (pc := 289) C hr u2 (by rw [op_c14]; exact xh4) [0, 1] rfl (by decide) (by decide) (by decide) d_Model_joins_289
set_option maxHeartbeats 4000000 in
set_option maxRecDepth 100000 in
theorem c_mjoins_15 (l : Launch) (D : va_G) (y : Nat → ClassId) (mo : Nat) (ma : Nat → Nat) (t1 : Nat) (i2 : Int32) (i3 : Int32) (i4 : Int32) (i5 : Int32) (i6 : Int32) (i7 : Int32) (i8 : Int32) (i42 : Int32) (i49 : Int32) (i51 : Int32) (i53 : Int32) (i54 : Int32) (i59 : Int32) (t61 : Nat) (i64 : Int32) (i66 : Int32) (t67 : Nat) (i76 : Int64) (i78 : Int32) (g60 : Nat → Int64) (a : Int) (b : Int) (rs : List Int) (ha : VT true a) (hb : VT true b) (hst : STL g60 (b :: a :: rs)) (ht : t61 = rs.length + 2) (hp : t61 ≤ 1700) : CT l D y ⟨"NineBoardsModel", "joins", "(I)V"⟩ prog_13_method_50_code 6 none ({ frames := 1, cells := 0, slots := 0, locals := 22 } : Room) [.ref mo, .int 15] [MB mo ma (nI t1) i2 i3 i4 i5 i6 i7 i8 i42 i49 i51 i53 i54 i59 (nI t61) i64 i66 (nI t67) i76 i78, (ma 60, .inl (y 1, 1700, .inr (.inl g60)))] (QV D [MB mo ma (nI t1) i2 i3 i4 i5 i6 i7 i8 i42 i49 i51 i53 i54 i59 (nI t61) i64 i66 (nI t67) i76 i78, (ma 60, .inl (y 1, 1700, .inr (.inl g60)))] (fun (u : Nat → Int64) => STL u (opE 15 a b :: rs)) (fun u => [MB mo ma (nI t1) i2 i3 i4 i5 i6 i7 i8 i42 i49 i51 i53 i54 i59 (nI (t61 - 1)) i64 i66 (nI t67) i76 i78, (ma 60, .inl (y 1, 1700, .inr (.inl u)))])) := by
  refine CT.of (by decide) (nb rfl) ?_
  intro p e s m args below meth c C hr
  refine j_lv (lv' := [(0, .ref mo), (1, .int 15)]) rfl ?_
  obtain ⟨h1, h2, hab⟩ := id ha; obtain ⟨h3, h4, hbb⟩ := id hb; have hab := hab rfl; have hbb := hbb rfl; have hmm := mul_b h1 h2 h3 h4
  refine j_aload_n (pc := 0) C d_Model_joins_0 rfl 0 rfl ?_
  refine j_get (pc := 1) C gf_Model_155 0 rfl rfl d_Model_joins_1 ?_
  refine j_aload_n (pc := 4) C d_Model_joins_4 rfl 0 rfl ?_
  refine j_get (pc := 5) C gf_Model_387 0 rfl rfl d_Model_joins_5 ?_
  refine j_iconst (pc := 8) C (v := 1) d_Model_joins_8 (by decide) ?_
  refine j_isub (pc := 9) C (v := nI (t61 - 1)) d_Model_joins_9 (pk_sub (a := t61) (b := 1) (by omega)) ?_
  refine j_lald (pc := 10) C 1 rfl (v := zL b) (vp_in_nI (by omega) (by decide)) (by rw [nI_clamp (by omega), show (t61 - 1) = (a :: rs).length by rw [List.length_cons]; omega]; exact hst.1) d_Model_joins_10 ?_
  refine j_lstore_n (pc := 11) C (lv' := [(2, .long (zL b)), (0, .ref mo), (1, .int 15)]) d_Model_joins_11 rfl (by decide) rfl ?_
  refine j_aload_n (pc := 12) C d_Model_joins_12 rfl 1 rfl ?_
  refine j_get (pc := 13) C gf_Model_155 0 rfl rfl d_Model_joins_13 ?_
  refine j_aload_n (pc := 16) C d_Model_joins_16 rfl 1 rfl ?_
  refine j_get (pc := 17) C gf_Model_387 0 rfl rfl d_Model_joins_17 ?_
  refine j_iconst (pc := 20) C (v := 2) d_Model_joins_20 (by decide) ?_
  refine j_isub (pc := 21) C (v := nI (t61 - 2)) d_Model_joins_21 (pk_sub (a := t61) (b := 2) (by omega)) ?_
  refine j_lald (pc := 22) C 1 rfl (v := zL a) (vp_in_nI (by omega) (by decide)) (by rw [nI_clamp (by omega), show (t61 - 2) = rs.length by omega]; exact hst.2.1) d_Model_joins_22 ?_
  refine j_lstore (pc := 23) C (lv' := [(4, .long (zL a)), (2, .long (zL b)), (0, .ref mo), (1, .int 15)]) d_Model_joins_23 (by decide) rfl ?_
  refine j_aload_n (pc := 25) C d_Model_joins_25 rfl 2 rfl ?_
  refine j_dup (pc := 26) C d_Model_joins_26 rfl ?_
  refine j_get (pc := 27) C gf_Model_387 0 rfl rfl d_Model_joins_27 ?_
  refine j_iconst (pc := 30) C (v := 2) d_Model_joins_30 (by decide) ?_
  refine j_isub (pc := 31) C (v := nI (t61 - 2)) d_Model_joins_31 (pk_sub (a := t61) (b := 2) (by omega)) ?_
  refine j_put (pc := 32) C pf_Model_387 0 (ws' := [MB mo ma (nI t1) i2 i3 i4 i5 i6 i7 i8 i42 i49 i51 i53 i54 i59 (nI (t61 - 2)) i64 i66 (nI t67) i76 i78, (ma 60, .inl (y 1, 1700, .inr (.inl g60)))]) rfl rfl rfl (nl rfl) rfl d_Model_joins_32 ?_
  have xh1 : STL g60 rs := hst.2.2
  have htr : t61 - 2 = rs.length := by omega
  refine j_iload_n (pc := 35) C d_Model_joins_35 rfl 3 rfl ?_
  refine j_tabOut (pc := 36) C (tgt := 271) d_Model_joins_36 (by decide) (by decide) ?_
  refine j_aload_n (pc := 271) C d_Model_joins_271 rfl 2 rfl ?_
  refine j_lload (pc := 272) C d_Model_joins_272 0 rfl ?_
  refine j_lload_n (pc := 274) C d_Model_joins_274 rfl 1 rfl ?_
  refine j_ladd (pc := 275) C (v := zL (a + b)) d_Model_joins_275 (zL_add _ _) ?_
  refine j_lconst (pc := 276) C (v := 0) d_Model_joins_276 (by decide) ?_
  refine j_lcmp (pc := 277) C (v := lg_cmp (zL (a + b)) (zL 0)) d_Model_joins_277 rfl ?_
  by_cases c3 : (a + b) ≤ 0
  · refine j_if_leT (pc := 278) C (tgt := 285) d_Model_joins_278 (by decide) ((zc_le (a := (a + b)) (b := 0) (by omega) (by omega) (by omega) (by omega)).mpr c3) ?_
    refine j_lconst (pc := 285) C (v := 0) d_Model_joins_285 (by decide) ?_
    refine j_st (st' := [.long (zL 0), .ref mo]) rfl ?_
    refine j_callVv (pc := 286) C (c_mputs l D y mo ma t1 i2 i3 i4 i5 i6 i7 i8 i42 i49 i51 i53 i54 i59 (t61 - 2) i64 i66 t67 i76 i78 g60 0 rs xh1 htr (by omega)) kw_Model_394 kv_Model_puts 0 10 rfl rfl ⟨by decide, by decide⟩ ⟨by decide, by decide⟩ (wr := []) [0, 1] [] rfl rfl (by decide) (by decide) (by decide) (As := [.long (zL 0)]) (rest := []) rfl (nb rfl) rfl d_Model_joins_286 (fun u4 hu5 => ?_)
    have xh6 := hu5
    refine j_ws (ws' := [MB mo ma (nI t1) i2 i3 i4 i5 i6 i7 i8 i42 i49 i51 i53 i54 i59 (nI ((t61 - 2) + 1)) i64 i66 (nI t67) i76 i78, (ma 60, .inl (y 1, 1700, .inr (.inl u4)))]) rfl ?_
    refine j_ws (ws' := [MB mo ma (nI t1) i2 i3 i4 i5 i6 i7 i8 i42 i49 i51 i53 i54 i59 (nI (t61 - 1)) i64 i66 (nI t67) i76 i78, (ma 60, .inl (y 1, 1700, .inr (.inl u4)))]) (by rw [show nI ((t61 - 2) + 1) = nI (t61 - 1) from (congrArg nI (by omega))]) ?_
    exact j_vret (pc := 289) C hr u4 (by rw [op_c15, if_neg (by omega)]; exact xh6) [0, 1] rfl (by decide) (by decide) (by decide) d_Model_joins_289
  · refine j_if_leF (pc := 278) C (tgt := 285) d_Model_joins_278 (by decide) (fun e => c3 ((zc_le (a := (a + b)) (b := 0) (by omega) (by omega) (by omega) (by omega)).mp e)) ?_
    refine j_lconst (pc := 281) C (v := 1) d_Model_joins_281 (by decide) ?_
    refine j_goto (pc := 282) C (tgt := 286) d_Model_joins_282 (by decide) ?_
    refine j_st (st' := [.long (zL 1), .ref mo]) rfl ?_
    refine j_callVv (pc := 286) C (c_mputs l D y mo ma t1 i2 i3 i4 i5 i6 i7 i8 i42 i49 i51 i53 i54 i59 (t61 - 2) i64 i66 t67 i76 i78 g60 1 rs xh1 htr (by omega)) kw_Model_394 kv_Model_puts 0 10 rfl rfl ⟨by decide, by decide⟩ ⟨by decide, by decide⟩ (wr := []) [0, 1] [] rfl rfl (by decide) (by decide) (by decide) (As := [.long (zL 1)]) (rest := []) rfl (nb rfl) rfl d_Model_joins_286 (fun u7 hu8 => ?_)
    have xh9 := hu8
    refine j_ws (ws' := [MB mo ma (nI t1) i2 i3 i4 i5 i6 i7 i8 i42 i49 i51 i53 i54 i59 (nI ((t61 - 2) + 1)) i64 i66 (nI t67) i76 i78, (ma 60, .inl (y 1, 1700, .inr (.inl u7)))]) rfl ?_
    refine j_ws (ws' := [MB mo ma (nI t1) i2 i3 i4 i5 i6 i7 i8 i42 i49 i51 i53 i54 i59 (nI (t61 - 1)) i64 i66 (nI t67) i76 i78, (ma 60, .inl (y 1, 1700, .inr (.inl u7)))]) (by rw [show nI ((t61 - 2) + 1) = nI (t61 - 1) from (congrArg nI (by omega))]) ?_
    exact j_vret (pc := 289) C hr u7 (by rw [op_c15, if_pos (by omega)]; exact xh9) [0, 1] rfl (by decide) (by decide) (by decide) d_Model_joins_289
