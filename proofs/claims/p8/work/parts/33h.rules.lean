theorem clip_w {v : Int} (h1 : -10000000000000 ≤ v) (h2 : v ≤ 10000000000000) {r : Int32} (h : (¬ lg_cmp (zL v) 1000000 ≤ 0 ∧ r = 1000000) ∨ (lg_cmp (zL v) 1000000 ≤ 0 ∧ ((¬ 0 ≤ lg_cmp (zL v) (-1000000) ∧ r = -1000000) ∨ (0 ≤ lg_cmp (zL v) (-1000000) ∧ r = (zL v).toInt32)))) : r = zI (clipI v) := by
  have e := zL_b h1 h2
  have k1 : Int64.toInt 1000000 = 1000000 := by decide
  have k2 : Int64.toInt (-1000000) = -1000000 := by decide
  have p1 : lg_cmp (zL v) 1000000 ≤ 0 ↔ v ≤ 1000000 := by
    rw [← Int32.not_lt, lg_cmp_gt, Int64.lt_iff_toInt_lt, e, k1]
    omega
  have p2 : 0 ≤ lg_cmp (zL v) (-1000000) ↔ -1000000 ≤ v := by
    rw [← Int32.not_lt, lg_cmp_lt, Int64.lt_iff_toInt_lt, e, k2]
    omega
  rw [p1, p2] at h
  unfold clipI
  rcases h with ⟨a, b⟩ | ⟨a, b | b⟩
  · rw [if_pos (by omega), b]
    decide
  · rw [if_neg (by omega), if_pos (by omega), b.2]
    decide
  · rw [if_neg (by omega), if_neg (by omega), b.2]
    exact zL_I (by omega) (by omega)
theorem zI_n0 {v : Int} (h1 : -1000000 ≤ v) (h2 : v ≤ 1000000) (h : ¬ v = 0) : ¬ zI v = 0 := fun e => h ((zI_0 h1 h2).mp e)
theorem zdiv_i {a b : Int} (h1 : -1000000 ≤ a) (h2 : a ≤ 1000000) (h3 : -1000000 ≤ b) (h4 : b ≤ 1000000) (h0 : ¬ b = 0) : (zI a / zI b).toInt = a.tdiv b := by
  have q : (a.tdiv b).natAbs = a.natAbs / b.natAbs := Int.natAbs_tdiv a b
  have q0 : a.natAbs / b.natAbs ≤ a.natAbs := Nat.div_le_self _ _
  rw [Int32.toInt_div, zI_b h1 h2, zI_b h3 h4]
  exact Int.bmod_eq_of_le (by omega) (by omega)
theorem td_b {a b : Int} (h1 : -1000000 ≤ a) (h2 : a ≤ 1000000) : -1000000 ≤ a.tdiv b ∧ a.tdiv b ≤ 1000000 := by
  have q : (a.tdiv b).natAbs = a.natAbs / b.natAbs := Int.natAbs_tdiv a b
  have q0 : a.natAbs / b.natAbs ≤ a.natAbs := Nat.div_le_self _ _
  omega
theorem zdiv_e {a b : Int} (h1 : -1000000 ≤ a) (h2 : a ≤ 1000000) (h3 : -1000000 ≤ b) (h4 : b ≤ 1000000) (h0 : ¬ b = 0) : zI a / zI b = zI (a.tdiv b) := by
  apply Int32.toInt_inj.mp
  rw [zdiv_i h1 h2 h3 h4 h0, zI_b (td_b h1 h2).1 (td_b h1 h2).2]
/-- what the quotient's signs say -/
theorem xor_sg {a b : Int} (h1 : -1000000 ≤ a) (h2 : a ≤ 1000000) (h3 : -1000000 ≤ b) (h4 : b ≤ 1000000) : 0 ≤ zI a ^^^ zI b ↔ (a < 0 ↔ b < 0) := by
  have hx : ∀ q : Int32, q.toInt < 0 ↔ q.toBitVec.msb = true := fun q => by
    rw [BitVec.msb_eq_toInt, decide_eq_true_iff]
    exact Iff.rfl
  have e := hx (zI a ^^^ zI b)
  rw [Int32.toBitVec_xor, BitVec.msb_xor] at e
  have ea := hx (zI a)
  have eb := hx (zI b)
  rw [zI_b h1 h2] at ea
  rw [zI_b h3 h4] at eb
  have z : Int32.toInt 0 = 0 := by decide
  rw [Int32.le_iff_toInt_le, z, ea, eb]
  constructor
  · intro h
    have : ¬ (zI a ^^^ zI b).toInt < 0 := by omega
    rw [e] at this
    cases p : (zI a).toBitVec.msb <;> cases q : (zI b).toBitVec.msb <;> rw [p, q] at this <;> simp_all
  · intro h
    have : ¬ (zI a ^^^ zI b).toInt < 0 := by
      rw [e]
      cases p : (zI a).toBitVec.msb <;> cases q : (zI b).toBitVec.msb <;> rw [p, q] at h <;> simp_all
    omega
theorem fl_q {a b : Int} (h1 : -1000000 ≤ a) (h2 : a ≤ 1000000) (h3 : -1000000 ≤ b) (h4 : b ≤ 1000000) (h0 : ¬ b = 0) (c : 0 ≤ zI a ^^^ zI b) : zI (a.tdiv b) = zI (flI a b) := by
  unfold flI
  rw [if_neg h0, if_neg (fun q => absurd ((xor_sg h1 h2 h3 h4).mp c) (by have := q.2; omega))]
theorem fl_m {a b : Int} (h1 : -1000000 ≤ a) (h2 : a ≤ 1000000) (h3 : -1000000 ≤ b) (h4 : b ≤ 1000000) (h0 : ¬ b = 0) : zI (a.tdiv b) * zI b = zI a ↔ a.tmod b = 0 := by
  have t := td_b (b := b) h1 h2
  have e : b * a.tdiv b + a.tmod b = a := Int.mul_tdiv_add_tmod a b
  have e2 : a.tdiv b * b = b * a.tdiv b := Int.mul_comm _ _
  have m : (a.tmod b).natAbs = a.natAbs % b.natAbs := Int.natAbs_tmod a b
  have m2 : a.natAbs % b.natAbs ≤ a.natAbs := Nat.mod_le _ _
  have z : zI (a.tdiv b) * zI b = zI (a.tdiv b * b) := (Int32.ofInt_mul _ _).symm
  have k : (zI (a.tdiv b * b)).toInt = a.tdiv b * b := Int32.toInt_ofInt_of_le (by omega) (by omega)
  rw [z, ← Int32.toInt_inj, k, zI_b h1 h2]
  omega
theorem fl_n {a b : Int} (h1 : -1000000 ≤ a) (h2 : a ≤ 1000000) (h3 : -1000000 ≤ b) (h4 : b ≤ 1000000) (h0 : ¬ b = 0) (d : zI (a.tdiv b) * zI b = zI a) : zI (a.tdiv b) = zI (flI a b) := by
  unfold flI
  rw [if_neg h0, if_neg (fun q => q.1 ((fl_m h1 h2 h3 h4 h0).mp d))]
theorem fl_d {a b : Int} (h1 : -1000000 ≤ a) (h2 : a ≤ 1000000) (h3 : -1000000 ≤ b) (h4 : b ≤ 1000000) (h0 : ¬ b = 0) (c : ¬ 0 ≤ zI a ^^^ zI b) (d : ¬ zI (a.tdiv b) * zI b = zI a) : zI (a.tdiv b) - 1 = zI (flI a b) := by
  unfold flI
  rw [if_neg h0, if_pos ⟨fun q => d ((fl_m h1 h2 h3 h4 h0).mpr q), by
    have q : ¬ (a < 0 ↔ b < 0) := fun q => c ((xor_sg h1 h2 h3 h4).mpr q)
    omega⟩]
  exact zI_sub (a.tdiv b) 1
theorem bz_and {a b : Int} (ha : VT true a) (hb : VT true b) : zI a &&& zI b = zI (opE 14 a b) := by
  rcases ha.2.2 rfl with rfl | rfl <;> rcases hb.2.2 rfl with rfl | rfl <;> decide
theorem bz_or {a b : Int} (ha : VT true a) (hb : VT true b) : zI a ||| zI b = zI (opE 15 a b) := by
  rcases ha.2.2 rfl with rfl | rfl <;> rcases hb.2.2 rfl with rfl | rfl <;> decide
theorem z_min {a b : Int} (h1 : -1000000 ≤ a) (h2 : a ≤ 1000000) (h3 : -1000000 ≤ b) (h4 : b ≤ 1000000) : (if zI b < zI a then zI b else zI a) = zI (if a < b then a else b) := by
  by_cases c : b < a
  · rw [if_pos ((zI_lt h3 h4 h1 h2).mpr c), if_neg (by omega)]
  · rw [if_neg (fun q => c ((zI_lt h3 h4 h1 h2).mp q))]
    by_cases d : a < b
    · rw [if_pos d]
    · rw [if_neg d, show a = b by omega]
theorem z_max {a b : Int} (h1 : -1000000 ≤ a) (h2 : a ≤ 1000000) (h3 : -1000000 ≤ b) (h4 : b ≤ 1000000) : (if zI a < zI b then zI b else zI a) = zI (if b < a then a else b) := by
  by_cases c : a < b
  · rw [if_pos ((zI_lt h1 h2 h3 h4).mpr c), if_neg (by omega)]
  · rw [if_neg (fun q => c ((zI_lt h1 h2 h3 h4).mp q))]
    by_cases d : b < a
    · rw [if_pos d]
    · rw [if_neg d, show a = b by omega]
theorem z_cmp {p : Prop} [Decidable p] {r : Int32} (h : (p ∧ r = 1) ∨ (¬ p ∧ r = 0)) : r = zI (if p then 1 else 0) := by
  rcases h with ⟨a, b⟩ | ⟨a, b⟩
  · rw [if_pos a, b]
    rfl
  · rw [if_neg a, b]
    rfl
theorem nI_n3 {v : Nat} (h : v < 2 ^ 31) : ¬ nI v < -3 := by
  rw [Int32.lt_iff_toInt_lt, nI_toInt h]
  have : Int32.toInt (-3) = -3 := by decide
  omega
/-- between 0 and 9999 -/
def cl9 (v : Int) : Nat := if v < 0 then 0 else if 9999 < v then 9999 else v.toNat
theorem cl_min {v : Int} (h1 : -1000000 ≤ v) (h2 : v ≤ 1000000) : (if zI v < (9999 : Int32) then zI v else 9999) = zI (if v < 9999 then v else 9999) := by
  by_cases c : v < 9999
  · rw [if_pos c]
    exact if_pos ((zI_lt (b := 9999) h1 h2 (by decide) (by decide)).mpr c)
  · rw [if_neg c]
    exact if_neg (fun q => c ((zI_lt (b := 9999) h1 h2 (by decide) (by decide)).mp q))
theorem cl_max {v : Int} (h1 : -1000000 ≤ v) (h2 : v ≤ 1000000) : (if (0 : Int32) < zI (if v < 9999 then v else 9999) then zI (if v < 9999 then v else 9999) else 0) = nI (cl9 v) := by
  unfold cl9
  by_cases c : v < 9999
  · rw [if_pos c]
    by_cases d : 0 < v
    · have e1 : (if v < 0 then 0 else if 9999 < v then 9999 else v.toNat) = v.toNat := by rw [if_neg (by omega), if_neg (by omega)]
      rw [e1, ← zI_nat, show ((v.toNat : Nat) : Int) = v by omega]
      exact if_pos ((zI_lt (a := 0) (by decide) (by decide) h1 h2).mpr d)
    · have e1 : (if v < 0 then 0 else if 9999 < v then 9999 else v.toNat) = 0 := by
        by_cases e : v < 0
        · rw [if_pos e]
        · rw [if_neg e, if_neg (by omega)]
          omega
      rw [e1]
      exact if_neg (fun q => d ((zI_lt (a := 0) (by decide) (by decide) h1 h2).mp q))
  · have e1 : (if v < 0 then 0 else if 9999 < v then 9999 else v.toNat) = 9999 := by
      rw [if_neg (by omega)]
      by_cases e : 9999 < v
      · rw [if_pos e]
      · rw [if_neg e]
        omega
    rw [if_neg c, e1]
    decide
theorem am_go {d l w : Nat} {t : LA_} {kd n i A : Nat} (h : amN d l w t kd (n - i) i = A) (hi : i < n) (c : ¬ (t.r 16 i = kd ∧ ¬ vlE d l w t.cs (t.r 18 i) (t.r 19 i) = 0)) : amN d l w t kd (n - (i + 1)) (i + 1) = A := by
  rw [show n - i = (n - (i + 1)) + 1 by omega, amN, if_neg c] at h
  exact h
theorem am_hit {d l w : Nat} {t : LA_} {kd n i A : Nat} (h : amN d l w t kd (n - i) i = A) (hi : i < n) (c : t.r 16 i = kd ∧ ¬ vlE d l w t.cs (t.r 18 i) (t.r 19 i) = 0) : cl9 (vlE d l w t.cs (t.r 17 i) (t.r 18 i)) = A := by
  rw [show n - i = (n - (i + 1)) + 1 by omega, amN, if_pos c] at h
  exact h
theorem am_no {d l w : Nat} {t : LA_} {kd n A : Nat} (h : amN d l w t kd (n - n) n = A) : 0 = A := by
  rw [Nat.sub_self] at h
  exact h
set_option maxHeartbeats 4000000 in
set_option maxRecDepth 100000 in
theorem c_xwithin (l : Launch) (D : va_G) (y : Nat → ClassId) (v : Int) (hv1 : -10000000000000 ≤ v) (hv2 : v ≤ 10000000000000) : CT l D y ⟨"NineBoards$Rules", "within", "(J)I"⟩ prog_9_method_6_code 2 (some .int) ({ frames := 0, cells := 0, slots := 0, locals := 0 } : Room) [.long (zL v)] [] (QI D [] (fun (r : Int32) (u : Unit) => r = zI (clipI v)) (fun _ => [])) := by
  refine CT.of (by decide) (nb rfl) ?_
  intro p e s m args below meth c C hr
  refine j_lv (lv' := [(0, .long (zL v))]) rfl ?_
  refine j_lload_n (pc := 0) C d_Rules_within_0 rfl 0 rfl ?_
  refine j_ldc2 (pc := 1) C (v := 1000000) (mt_4 (List.mem_of_getElem? (i := 96) rfl) rfl) d_Rules_within_1 ?_
  refine j_lcmp (pc := 4) C (v := lg_cmp (zL v) 1000000) d_Rules_within_4 rfl ?_
  refine j_if_le (pc := 5) C (tgt := 13) d_Rules_within_5 (by decide) (fun c1 => ?_) (fun c1 => ?_)
  · refine j_lload_n (pc := 13) C d_Rules_within_13 rfl 0 rfl ?_
    refine j_ldc2 (pc := 14) C (v := (-1000000)) (mt_4 (List.mem_of_getElem? (i := 98) rfl) rfl) d_Rules_within_14 ?_
    refine j_lcmp (pc := 17) C (v := lg_cmp (zL v) (-1000000)) d_Rules_within_17 rfl ?_
    refine j_if_ge (pc := 18) C (tgt := 26) d_Rules_within_18 (by decide) (fun c2 => ?_) (fun c2 => ?_)
    · refine j_lload_n (pc := 26) C d_Rules_within_26 rfl 0 rfl ?_
      refine j_l2i (pc := 27) C (v := (zL v).toInt32) d_Rules_within_27 rfl ?_
      exact j_iret (pc := 28) C hr rfl () (clip_w hv1 hv2 (Or.inr ⟨c1, Or.inr ⟨c2, rfl⟩⟩)) [] rfl (by decide) (by decide) (by decide) d_Rules_within_28
    · refine j_ldc (pc := 21) C (v := (-1000000)) (mt_4 (List.mem_of_getElem? (i := 99) rfl) rfl) d_Rules_within_21 ?_
      refine j_goto (pc := 23) C (tgt := 28) d_Rules_within_23 (by decide) ?_
      exact j_iret (pc := 28) C hr rfl () (clip_w hv1 hv2 (Or.inr ⟨c1, Or.inl ⟨c2, rfl⟩⟩)) [] rfl (by decide) (by decide) (by decide) d_Rules_within_28
  · refine j_ldc (pc := 8) C (v := 1000000) (mt_4 (List.mem_of_getElem? (i := 97) rfl) rfl) d_Rules_within_8 ?_
    refine j_goto (pc := 10) C (tgt := 28) d_Rules_within_10 (by decide) ?_
    exact j_iret (pc := 28) C hr rfl () (clip_w hv1 hv2 (Or.inl ⟨c1, rfl⟩)) [] rfl (by decide) (by decide) (by decide) d_Rules_within_28
set_option maxHeartbeats 4000000 in
set_option maxRecDepth 100000 in
theorem c_zfloorDiv (l : Launch) (D : va_G) (y : Nat → ClassId) (a : Int) (b : Int) (h1 : -1000000 ≤ a) (h2 : a ≤ 1000000) (h3 : -1000000 ≤ b) (h4 : b ≤ 1000000) (h0 : ¬ b = 0) : CT l D y ⟨"java/lang/Math", "floorDiv", "(II)I"⟩ prog_14_method_47_code 3 (some .int) ({ frames := 0, cells := 0, slots := 0, locals := 0 } : Room) [.int (zI a), .int (zI b)] [] (QI D [] (fun (r : Int32) (u : Unit) => r = zI (flI a b)) (fun _ => [])) := by
  refine CT_ofF (by decide +kernel) (nb rfl) ?_
  intro p e s m args below meth c C hr
  refine j_lv (lv' := [(0, .int (zI a)), (1, .int (zI b))]) rfl ?_
  refine j_iload_n (pc := 0) C d_Math_floorDiv_0 rfl 0 rfl ?_
  refine j_iload_n (pc := 1) C d_Math_floorDiv_1 rfl 1 rfl ?_
  refine j_idiv (pc := 2) C (v := zI (a.tdiv b)) d_Math_floorDiv_2 (zI_n0 h3 h4 h0) (zdiv_e h1 h2 h3 h4 h0) ?_
  refine j_istore_n (pc := 3) C (lv' := [(2, .int (zI (a.tdiv b))), (0, .int (zI a)), (1, .int (zI b))]) d_Math_floorDiv_3 rfl (by decide) rfl ?_
  refine j_iload_n (pc := 4) C d_Math_floorDiv_4 rfl 1 rfl ?_
  refine j_iload_n (pc := 5) C d_Math_floorDiv_5 rfl 2 rfl ?_
  refine j_ixor (pc := 6) C (v := zI a ^^^ zI b) d_Math_floorDiv_6 rfl ?_
  refine j_if_ge (pc := 7) C (tgt := 21) d_Math_floorDiv_7 (by decide) (fun c1 => ?_) (fun c1 => ?_)
  · refine j_iload_n (pc := 21) C d_Math_floorDiv_21 rfl 0 rfl ?_
    exact j_iret (pc := 22) C hr rfl () (fl_q h1 h2 h3 h4 h0 c1) [] rfl (by decide) (by decide) (by decide) d_Math_floorDiv_22
  · refine j_iload_n (pc := 10) C d_Math_floorDiv_10 rfl 0 rfl ?_
    refine j_iload_n (pc := 11) C d_Math_floorDiv_11 rfl 2 rfl ?_
    refine j_imul (pc := 12) C (v := zI (a.tdiv b) * zI b) d_Math_floorDiv_12 rfl ?_
    refine j_iload_n (pc := 13) C d_Math_floorDiv_13 rfl 1 rfl ?_
    refine j_icmp_eq (pc := 14) C (tgt := 21) d_Math_floorDiv_14 (by decide) (fun c2 => ?_) (fun c2 => ?_)
    · refine j_iload_n (pc := 21) C d_Math_floorDiv_21 rfl 0 rfl ?_
      exact j_iret (pc := 22) C hr rfl () (fl_n h1 h2 h3 h4 h0 c2) [] rfl (by decide) (by decide) (by decide) d_Math_floorDiv_22
    · refine j_iload_n (pc := 17) C d_Math_floorDiv_17 rfl 0 rfl ?_
      refine j_iconst (pc := 18) C (v := 1) d_Math_floorDiv_18 (by decide) ?_
      refine j_isub (pc := 19) C (v := zI (a.tdiv b) - 1) d_Math_floorDiv_19 rfl ?_
      exact j_iret (pc := 20) C hr rfl () (fl_d h1 h2 h3 h4 h0 c1 c2) [] rfl (by decide) (by decide) (by decide) d_Math_floorDiv_20
set_option maxHeartbeats 4000000 in
set_option maxRecDepth 100000 in
theorem c_xjoined_1 (l : Launch) (D : va_G) (y : Nat → ClassId) (a : Int) (b : Int) (h1 : -1000000 ≤ a) (h2 : a ≤ 1000000) (h3 : -1000000 ≤ b) (h4 : b ≤ 1000000) : CT l D y ⟨"NineBoards$Rules", "joined", "(III)I"⟩ prog_9_method_5_code 3 (some .int) ({ frames := 1, cells := 0, slots := 0, locals := 21 } : Room) [.int (-5), .int (zI a), .int (zI b)] [] (QI D [] (fun (r : Int32) (u : Unit) => r = zI (opE 1 a b)) (fun _ => [])) := by
  refine CT.of (by decide) (nb rfl) ?_
  intro p e s m args below meth c C hr
  refine j_lv (lv' := [(0, .int (-5)), (1, .int (zI a)), (2, .int (zI b))]) rfl ?_
  refine j_iload_n (pc := 0) C d_Rules_joined_0 rfl 0 rfl ?_
  refine j_tabIn (pc := 1) C (off := 55) (tgt := 56) d_Rules_joined_1 (by decide) (by decide) (by decide) (by decide) ?_
  refine j_iload_n (pc := 56) C d_Rules_joined_56 rfl 1 rfl ?_
  refine j_i2l (pc := 57) C (v := zL a) d_Rules_joined_57 (zI_L (by omega) (by omega)) ?_
  refine j_iload_n (pc := 58) C d_Rules_joined_58 rfl 2 rfl ?_
  refine j_i2l (pc := 59) C (v := zL b) d_Rules_joined_59 (zI_L (by omega) (by omega)) ?_
  refine j_ladd (pc := 60) C (v := zL (a + b)) d_Rules_joined_60 (zL_add _ _) ?_
  refine j_callSi (pc := 61) C (c_xwithin l D y (a + b) (by omega) (by omega)) kw_Rules_54 ks_Rules_within ⟨by decide, by decide⟩ ⟨by decide, by decide⟩ (wr := []) [] [] rfl rfl (by decide) (by decide) (by decide) (As := [.long (zL (a + b))]) (rest := []) rfl (nb rfl) rfl d_Rules_joined_61 (fun r1 _ hr1 => ?_)
  obtain rfl := hr1
  refine j_ws (ws' := []) rfl ?_
  exact j_iret (pc := 64) C hr rfl () (congrArg zI (op_c1 a b).symm) [] rfl (by decide) (by decide) (by decide) d_Rules_joined_64
set_option maxHeartbeats 4000000 in
set_option maxRecDepth 100000 in
theorem c_xjoined_2 (l : Launch) (D : va_G) (y : Nat → ClassId) (a : Int) (b : Int) (h1 : -1000000 ≤ a) (h2 : a ≤ 1000000) (h3 : -1000000 ≤ b) (h4 : b ≤ 1000000) : CT l D y ⟨"NineBoards$Rules", "joined", "(III)I"⟩ prog_9_method_5_code 3 (some .int) ({ frames := 1, cells := 0, slots := 0, locals := 21 } : Room) [.int (-6), .int (zI a), .int (zI b)] [] (QI D [] (fun (r : Int32) (u : Unit) => r = zI (opE 2 a b)) (fun _ => [])) := by
  refine CT.of (by decide) (nb rfl) ?_
  intro p e s m args below meth c C hr
  refine j_lv (lv' := [(0, .int (-6)), (1, .int (zI a)), (2, .int (zI b))]) rfl ?_
  refine j_iload_n (pc := 0) C d_Rules_joined_0 rfl 0 rfl ?_
  refine j_tabIn (pc := 1) C (off := 64) (tgt := 65) d_Rules_joined_1 (by decide) (by decide) (by decide) (by decide) ?_
  refine j_iload_n (pc := 65) C d_Rules_joined_65 rfl 1 rfl ?_
  refine j_i2l (pc := 66) C (v := zL a) d_Rules_joined_66 (zI_L (by omega) (by omega)) ?_
  refine j_iload_n (pc := 67) C d_Rules_joined_67 rfl 2 rfl ?_
  refine j_i2l (pc := 68) C (v := zL b) d_Rules_joined_68 (zI_L (by omega) (by omega)) ?_
  refine j_lsub (pc := 69) C (v := zL (a - b)) d_Rules_joined_69 (zL_sub _ _) ?_
  refine j_callSi (pc := 70) C (c_xwithin l D y (a - b) (by omega) (by omega)) kw_Rules_54 ks_Rules_within ⟨by decide, by decide⟩ ⟨by decide, by decide⟩ (wr := []) [] [] rfl rfl (by decide) (by decide) (by decide) (As := [.long (zL (a - b))]) (rest := []) rfl (nb rfl) rfl d_Rules_joined_70 (fun r1 _ hr1 => ?_)
  obtain rfl := hr1
  refine j_ws (ws' := []) rfl ?_
  exact j_iret (pc := 73) C hr rfl () (congrArg zI (op_c2 a b).symm) [] rfl (by decide) (by decide) (by decide) d_Rules_joined_73
set_option maxHeartbeats 4000000 in
set_option maxRecDepth 100000 in
theorem c_xjoined_3 (l : Launch) (D : va_G) (y : Nat → ClassId) (a : Int) (b : Int) (h1 : -1000000 ≤ a) (h2 : a ≤ 1000000) (h3 : -1000000 ≤ b) (h4 : b ≤ 1000000) : CT l D y ⟨"NineBoards$Rules", "joined", "(III)I"⟩ prog_9_method_5_code 3 (some .int) ({ frames := 1, cells := 0, slots := 0, locals := 21 } : Room) [.int (-7), .int (zI a), .int (zI b)] [] (QI D [] (fun (r : Int32) (u : Unit) => r = zI (opE 3 a b)) (fun _ => [])) := by
  refine CT.of (by decide) (nb rfl) ?_
  intro p e s m args below meth c C hr
  refine j_lv (lv' := [(0, .int (-7)), (1, .int (zI a)), (2, .int (zI b))]) rfl ?_
  have hm := mul_b h1 h2 h3 h4
  refine j_iload_n (pc := 0) C d_Rules_joined_0 rfl 0 rfl ?_
  refine j_tabIn (pc := 1) C (off := 73) (tgt := 74) d_Rules_joined_1 (by decide) (by decide) (by decide) (by decide) ?_
  refine j_iload_n (pc := 74) C d_Rules_joined_74 rfl 1 rfl ?_
  refine j_i2l (pc := 75) C (v := zL a) d_Rules_joined_75 (zI_L (by omega) (by omega)) ?_
  refine j_iload_n (pc := 76) C d_Rules_joined_76 rfl 2 rfl ?_
  refine j_i2l (pc := 77) C (v := zL b) d_Rules_joined_77 (zI_L (by omega) (by omega)) ?_
  refine j_lmul (pc := 78) C (v := zL (a * b)) d_Rules_joined_78 (zL_mul _ _) ?_
  refine j_callSi (pc := 79) C (c_xwithin l D y (a * b) (by omega) (by omega)) kw_Rules_54 ks_Rules_within ⟨by decide, by decide⟩ ⟨by decide, by decide⟩ (wr := []) [] [] rfl rfl (by decide) (by decide) (by decide) (As := [.long (zL (a * b))]) (rest := []) rfl (nb rfl) rfl d_Rules_joined_79 (fun r1 _ hr1 => ?_)
  obtain rfl := hr1
  refine j_ws (ws' := []) rfl ?_
  exact j_iret (pc := 82) C hr rfl () (congrArg zI (op_c3 a b).symm) [] rfl (by decide) (by decide) (by decide) d_Rules_joined_82
set_option maxHeartbeats 4000000 in
set_option maxRecDepth 100000 in
theorem c_xjoined_4 (l : Launch) (D : va_G) (y : Nat → ClassId) (a : Int) (b : Int) (h1 : -1000000 ≤ a) (h2 : a ≤ 1000000) (h3 : -1000000 ≤ b) (h4 : b ≤ 1000000) : CT l D y ⟨"NineBoards$Rules", "joined", "(III)I"⟩ prog_9_method_5_code 3 (some .int) ({ frames := 1, cells := 0, slots := 0, locals := 22 } : Room) [.int (-8), .int (zI a), .int (zI b)] [] (QI D [] (fun (r : Int32) (u : Unit) => r = zI (opE 4 a b)) (fun _ => [])) := by
  refine CT.of (by decide) (nb rfl) ?_
  intro p e s m args below meth c C hr
  refine j_lv (lv' := [(0, .int (-8)), (1, .int (zI a)), (2, .int (zI b))]) rfl ?_
  refine j_iload_n (pc := 0) C d_Rules_joined_0 rfl 0 rfl ?_
  refine j_tabIn (pc := 1) C (off := 82) (tgt := 83) d_Rules_joined_1 (by decide) (by decide) (by decide) (by decide) ?_
  refine j_iload_n (pc := 83) C d_Rules_joined_83 rfl 2 rfl ?_
  by_cases bz : b = 0
  · refine j_if_neF (pc := 84) C (tgt := 91) d_Rules_joined_84 (by decide) ((zI_0 h3 h4).mpr bz) ?_
    refine j_iconst (pc := 87) C (v := 0) d_Rules_joined_87 (by decide) ?_
    refine j_goto (pc := 88) C (tgt := 96) d_Rules_joined_88 (by decide) ?_
    exact j_iret (pc := 96) C hr rfl () (congrArg zI ((op_c4 a b).trans (by unfold flI; rw [if_pos bz])).symm) [] rfl (by decide) (by decide) (by decide) d_Rules_joined_96
  · refine j_if_neT (pc := 84) C (tgt := 91) d_Rules_joined_84 (by decide) (zI_n0 h3 h4 bz) ?_
    refine j_iload_n (pc := 91) C d_Rules_joined_91 rfl 1 rfl ?_
    refine j_iload_n (pc := 92) C d_Rules_joined_92 rfl 2 rfl ?_
    refine j_callSi (pc := 93) C (c_zfloorDiv l D y a b h1 h2 h3 h4 (by omega)) kw_Rules_58 ks_Math_floorDiv ⟨by decide, by decide⟩ ⟨by decide, by decide⟩ (wr := []) [] [] rfl rfl (by decide) (by decide) (by decide) (As := [.int (zI a), .int (zI b)]) (rest := []) rfl (nb rfl) rfl d_Rules_joined_93 (fun r1 _ hr1 => ?_)
    obtain rfl := hr1
    refine j_ws (ws' := []) rfl ?_
    exact j_iret (pc := 96) C hr rfl () (congrArg zI (op_c4 a b).symm) [] rfl (by decide) (by decide) (by decide) d_Rules_joined_96
set_option maxHeartbeats 4000000 in
set_option maxRecDepth 100000 in
theorem c_xjoined_5 (l : Launch) (D : va_G) (y : Nat → ClassId) (a : Int) (b : Int) (h1 : -1000000 ≤ a) (h2 : a ≤ 1000000) (h3 : -1000000 ≤ b) (h4 : b ≤ 1000000) : CT l D y ⟨"NineBoards$Rules", "joined", "(III)I"⟩ prog_9_method_5_code 3 (some .int) ({ frames := 1, cells := 0, slots := 0, locals := 13 } : Room) [.int (-9), .int (zI a), .int (zI b)] [] (QI D [] (fun (r : Int32) (u : Unit) => r = zI (opE 5 a b)) (fun _ => [])) := by
  refine CT.of (by decide) (nb rfl) ?_
  intro p e s m args below meth c C hr
  refine j_lv (lv' := [(0, .int (-9)), (1, .int (zI a)), (2, .int (zI b))]) rfl ?_
  refine j_iload_n (pc := 0) C d_Rules_joined_0 rfl 0 rfl ?_
  refine j_tabIn (pc := 1) C (off := 96) (tgt := 97) d_Rules_joined_1 (by decide) (by decide) (by decide) (by decide) ?_
  refine j_iload_n (pc := 97) C d_Rules_joined_97 rfl 1 rfl ?_
  refine j_iload_n (pc := 98) C d_Rules_joined_98 rfl 2 rfl ?_
  refine j_mmin (pc := 99) C (mt_4 (List.mem_of_getElem? (i := 101) rfl) rfl) (mt_3 (List.mem_of_getElem? (i := 56) rfl) rfl) (mt_1 (List.mem_of_getElem? (i := 3) rfl) rfl) (mt_3 (List.mem_of_getElem? (i := 57) rfl) rfl) (v := zI (if a < b then a else b)) (z_min h1 h2 h3 h4) (by decide) (nb rfl) (by decide) (by decide) d_Rules_joined_99 ?_
  exact j_iret (pc := 102) C hr rfl () (congrArg zI (op_c5 a b).symm) [] rfl (by decide) (by decide) (by decide) d_Rules_joined_102
set_option maxHeartbeats 4000000 in
set_option maxRecDepth 100000 in
theorem c_xjoined_6 (l : Launch) (D : va_G) (y : Nat → ClassId) (a : Int) (b : Int) (h1 : -1000000 ≤ a) (h2 : a ≤ 1000000) (h3 : -1000000 ≤ b) (h4 : b ≤ 1000000) : CT l D y ⟨"NineBoards$Rules", "joined", "(III)I"⟩ prog_9_method_5_code 3 (some .int) ({ frames := 1, cells := 0, slots := 0, locals := 13 } : Room) [.int (-10), .int (zI a), .int (zI b)] [] (QI D [] (fun (r : Int32) (u : Unit) => r = zI (opE 6 a b)) (fun _ => [])) := by
  refine CT.of (by decide) (nb rfl) ?_
  intro p e s m args below meth c C hr
  refine j_lv (lv' := [(0, .int (-10)), (1, .int (zI a)), (2, .int (zI b))]) rfl ?_
  refine j_iload_n (pc := 0) C d_Rules_joined_0 rfl 0 rfl ?_
  refine j_tabIn (pc := 1) C (off := 102) (tgt := 103) d_Rules_joined_1 (by decide) (by decide) (by decide) (by decide) ?_
  refine j_iload_n (pc := 103) C d_Rules_joined_103 rfl 1 rfl ?_
  refine j_iload_n (pc := 104) C d_Rules_joined_104 rfl 2 rfl ?_
  refine j_mmax (pc := 105) C (mt_4 (List.mem_of_getElem? (i := 89) rfl) rfl) (mt_1 (List.mem_of_getElem? (i := 34) rfl) rfl) (mt_1 (List.mem_of_getElem? (i := 3) rfl) rfl) (mt_1 (List.mem_of_getElem? (i := 35) rfl) rfl) (v := zI (if b < a then a else b)) (z_max h1 h2 h3 h4) (by decide) (nb rfl) (by decide) (by decide) d_Rules_joined_105 ?_
  exact j_iret (pc := 108) C hr rfl () (congrArg zI (op_c6 a b).symm) [] rfl (by decide) (by decide) (by decide) d_Rules_joined_108
set_option maxHeartbeats 4000000 in
set_option maxRecDepth 100000 in
theorem c_xjoined_11 (l : Launch) (D : va_G) (y : Nat → ClassId) (a : Int) (b : Int) (h1 : -1000000 ≤ a) (h2 : a ≤ 1000000) (h3 : -1000000 ≤ b) (h4 : b ≤ 1000000) : CT l D y ⟨"NineBoards$Rules", "joined", "(III)I"⟩ prog_9_method_5_code 3 (some .int) ({ frames := 0, cells := 0, slots := 0, locals := 0 } : Room) [.int (-11), .int (zI a), .int (zI b)] [] (QI D [] (fun (r : Int32) (u : Unit) => r = zI (opE 11 a b)) (fun _ => [])) := by
  refine CT.of (by decide) (nb rfl) ?_
  intro p e s m args below meth c C hr
  refine j_lv (lv' := [(0, .int (-11)), (1, .int (zI a)), (2, .int (zI b))]) rfl ?_
  refine j_iload_n (pc := 0) C d_Rules_joined_0 rfl 0 rfl ?_
  refine j_tabIn (pc := 1) C (off := 108) (tgt := 109) d_Rules_joined_1 (by decide) (by decide) (by decide) (by decide) ?_
  refine j_iload_n (pc := 109) C d_Rules_joined_109 rfl 1 rfl ?_
  refine j_iload_n (pc := 110) C d_Rules_joined_110 rfl 2 rfl ?_
  refine j_icmp_ge (pc := 111) C (tgt := 118) d_Rules_joined_111 (by decide) (fun c1 => ?_) (fun c1 => ?_)
  · refine j_iconst (pc := 118) C (v := 0) d_Rules_joined_118 (by decide) ?_
    exact j_iret (pc := 119) C hr rfl () ((z_cmp (p := a < b) (Or.inr ⟨fun q => absurd ((zI_lt h1 h2 h3 h4).mpr q) (Int32.not_lt.mpr c1), rfl⟩)).trans (congrArg zI (op_c11 a b).symm)) [] rfl (by decide) (by decide) (by decide) d_Rules_joined_119
  · refine j_iconst (pc := 114) C (v := 1) d_Rules_joined_114 (by decide) ?_
    refine j_goto (pc := 115) C (tgt := 119) d_Rules_joined_115 (by decide) ?_
    exact j_iret (pc := 119) C hr rfl () ((z_cmp (p := a < b) (Or.inl ⟨(zI_lt h1 h2 h3 h4).mp (Int32.not_le.mp c1), rfl⟩)).trans (congrArg zI (op_c11 a b).symm)) [] rfl (by decide) (by decide) (by decide) d_Rules_joined_119
set_option maxHeartbeats 4000000 in
set_option maxRecDepth 100000 in
theorem c_xjoined_12 (l : Launch) (D : va_G) (y : Nat → ClassId) (a : Int) (b : Int) (h1 : -1000000 ≤ a) (h2 : a ≤ 1000000) (h3 : -1000000 ≤ b) (h4 : b ≤ 1000000) : CT l D y ⟨"NineBoards$Rules", "joined", "(III)I"⟩ prog_9_method_5_code 3 (some .int) ({ frames := 0, cells := 0, slots := 0, locals := 0 } : Room) [.int (-12), .int (zI a), .int (zI b)] [] (QI D [] (fun (r : Int32) (u : Unit) => r = zI (opE 12 a b)) (fun _ => [])) := by
  refine CT.of (by decide) (nb rfl) ?_
  intro p e s m args below meth c C hr
  refine j_lv (lv' := [(0, .int (-12)), (1, .int (zI a)), (2, .int (zI b))]) rfl ?_
  refine j_iload_n (pc := 0) C d_Rules_joined_0 rfl 0 rfl ?_
  refine j_tabIn (pc := 1) C (off := 119) (tgt := 120) d_Rules_joined_1 (by decide) (by decide) (by decide) (by decide) ?_
  refine j_iload_n (pc := 120) C d_Rules_joined_120 rfl 1 rfl ?_
  refine j_iload_n (pc := 121) C d_Rules_joined_121 rfl 2 rfl ?_
  refine j_icmp_le (pc := 122) C (tgt := 129) d_Rules_joined_122 (by decide) (fun c1 => ?_) (fun c1 => ?_)
  · refine j_iconst (pc := 129) C (v := 0) d_Rules_joined_129 (by decide) ?_
    exact j_iret (pc := 130) C hr rfl () ((z_cmp (p := b < a) (Or.inr ⟨fun q => absurd ((zI_lt h3 h4 h1 h2).mpr q) (Int32.not_lt.mpr c1), rfl⟩)).trans (congrArg zI (op_c12 a b).symm)) [] rfl (by decide) (by decide) (by decide) d_Rules_joined_130
  · refine j_iconst (pc := 125) C (v := 1) d_Rules_joined_125 (by decide) ?_
    refine j_goto (pc := 126) C (tgt := 130) d_Rules_joined_126 (by decide) ?_
    exact j_iret (pc := 130) C hr rfl () ((z_cmp (p := b < a) (Or.inl ⟨(zI_lt h3 h4 h1 h2).mp (Int32.not_le.mp c1), rfl⟩)).trans (congrArg zI (op_c12 a b).symm)) [] rfl (by decide) (by decide) (by decide) d_Rules_joined_130
set_option maxHeartbeats 4000000 in
set_option maxRecDepth 100000 in
theorem c_xjoined_13 (l : Launch) (D : va_G) (y : Nat → ClassId) (a : Int) (b : Int) (h1 : -1000000 ≤ a) (h2 : a ≤ 1000000) (h3 : -1000000 ≤ b) (h4 : b ≤ 1000000) : CT l D y ⟨"NineBoards$Rules", "joined", "(III)I"⟩ prog_9_method_5_code 3 (some .int) ({ frames := 0, cells := 0, slots := 0, locals := 0 } : Room) [.int (-13), .int (zI a), .int (zI b)] [] (QI D [] (fun (r : Int32) (u : Unit) => r = zI (opE 13 a b)) (fun _ => [])) := by
  refine CT.of (by decide) (nb rfl) ?_
  intro p e s m args below meth c C hr
  refine j_lv (lv' := [(0, .int (-13)), (1, .int (zI a)), (2, .int (zI b))]) rfl ?_
  refine j_iload_n (pc := 0) C d_Rules_joined_0 rfl 0 rfl ?_
  refine j_tabIn (pc := 1) C (off := 130) (tgt := 131) d_Rules_joined_1 (by decide) (by decide) (by decide) (by decide) ?_
  refine j_iload_n (pc := 131) C d_Rules_joined_131 rfl 1 rfl ?_
  refine j_iload_n (pc := 132) C d_Rules_joined_132 rfl 2 rfl ?_
  refine j_icmp_ne (pc := 133) C (tgt := 140) d_Rules_joined_133 (by decide) (fun c1 => ?_) (fun c1 => ?_)
  · refine j_iconst (pc := 140) C (v := 0) d_Rules_joined_140 (by decide) ?_
    exact j_iret (pc := 141) C hr rfl () ((z_cmp (p := a = b) (Or.inr ⟨fun q => absurd ((zI_eq h1 h2 h3 h4).mpr q) c1, rfl⟩)).trans (congrArg zI (op_c13 a b).symm)) [] rfl (by decide) (by decide) (by decide) d_Rules_joined_141
  · refine j_iconst (pc := 136) C (v := 1) d_Rules_joined_136 (by decide) ?_
    refine j_goto (pc := 137) C (tgt := 141) d_Rules_joined_137 (by decide) ?_
    exact j_iret (pc := 141) C hr rfl () ((z_cmp (p := a = b) (Or.inl ⟨(zI_eq h1 h2 h3 h4).mp c1, rfl⟩)).trans (congrArg zI (op_c13 a b).symm)) [] rfl (by decide) (by decide) (by decide) d_Rules_joined_141
set_option maxHeartbeats 4000000 in
set_option maxRecDepth 100000 in
theorem c_xjoined_14 (l : Launch) (D : va_G) (y : Nat → ClassId) (a : Int) (b : Int) (ha : VT true a) (hb : VT true b) : CT l D y ⟨"NineBoards$Rules", "joined", "(III)I"⟩ prog_9_method_5_code 3 (some .int) ({ frames := 0, cells := 0, slots := 0, locals := 0 } : Room) [.int (-14), .int (zI a), .int (zI b)] [] (QI D [] (fun (r : Int32) (u : Unit) => r = zI (opE 14 a b)) (fun _ => [])) := by
  refine CT.of (by decide) (nb rfl) ?_
  intro p e s m args below meth c C hr
  refine j_lv (lv' := [(0, .int (-14)), (1, .int (zI a)), (2, .int (zI b))]) rfl ?_
  refine j_iload_n (pc := 0) C d_Rules_joined_0 rfl 0 rfl ?_
  refine j_tabIn (pc := 1) C (off := 141) (tgt := 142) d_Rules_joined_1 (by decide) (by decide) (by decide) (by decide) ?_
  refine j_iload_n (pc := 142) C d_Rules_joined_142 rfl 1 rfl ?_
  refine j_iload_n (pc := 143) C d_Rules_joined_143 rfl 2 rfl ?_
  refine j_iand (pc := 144) C (v := zI a &&& zI b) d_Rules_joined_144 rfl ?_
  exact j_iret (pc := 145) C hr rfl () (bz_and ha hb) [] rfl (by decide) (by decide) (by decide) d_Rules_joined_145
set_option maxHeartbeats 4000000 in
set_option maxRecDepth 100000 in
theorem c_xjoined_15 (l : Launch) (D : va_G) (y : Nat → ClassId) (a : Int) (b : Int) (ha : VT true a) (hb : VT true b) : CT l D y ⟨"NineBoards$Rules", "joined", "(III)I"⟩ prog_9_method_5_code 3 (some .int) ({ frames := 0, cells := 0, slots := 0, locals := 0 } : Room) [.int (-15), .int (zI a), .int (zI b)] [] (QI D [] (fun (r : Int32) (u : Unit) => r = zI (opE 15 a b)) (fun _ => [])) := by
  refine CT.of (by decide) (nb rfl) ?_
  intro p e s m args below meth c C hr
  refine j_lv (lv' := [(0, .int (-15)), (1, .int (zI a)), (2, .int (zI b))]) rfl ?_
  refine j_iload_n (pc := 0) C d_Rules_joined_0 rfl 0 rfl ?_
  refine j_tabOut (pc := 1) C (tgt := 146) d_Rules_joined_1 (by decide) (by decide) ?_
  refine j_iload_n (pc := 146) C d_Rules_joined_146 rfl 1 rfl ?_
  refine j_iload_n (pc := 147) C d_Rules_joined_147 rfl 2 rfl ?_
  refine j_ior (pc := 148) C (v := zI a ||| zI b) d_Rules_joined_148 rfl ?_
  exact j_iret (pc := 149) C hr rfl () (bz_or ha hb) [] rfl (by decide) (by decide) (by decide) d_Rules_joined_149
set_option maxHeartbeats 4000000 in
set_option maxRecDepth 100000 in
theorem c_xvalue (l : Launch) (D : va_G) (y : Nat → ClassId) (ad : Nat → Nat) (d : LD) (gt : LA_) (qa : Nat) (qb : Nat) (dq : Nat) (lq : Nat) (wq : Nat) (ty : Bool) (g : Nat → Int32) (hlk : LKR gt d) (hab : qa ≤ qb) (hbl : qb ≤ gt.cs.length) (hru : RUN (SEG gt.cs qa qb) [] [ty] 40) (hd : dq ≤ 100000) (hl : lq ≤ 100000) (hw : wq ≤ 100000) : CT l D y ⟨"NineBoards$Rules", "value", "(IIIII)I"⟩ prog_9_method_4_code 9 (some .int) ({ frames := 2, cells := 0, slots := 0, locals := 44 } : Room) [.ref (ad 3), .int (nI qa), .int (nI qb), .int (nI dq), .int (nI lq), .int (nI wq)] [(ad 3, .inr (6, [.int (d.1 11), .int (d.1 12), .ref (ad 20), .ref (ad 21), .ref (ad 22), .ref (ad 23), .ref (ad 24), .ref (ad 25)])), (ad 24, .inl (y 0, 1600, .inl (d.2 20))), (ad 25, .inl (y 0, 40, .inl g))] (QI D [(ad 3, .inr (6, [.int (d.1 11), .int (d.1 12), .ref (ad 20), .ref (ad 21), .ref (ad 22), .ref (ad 23), .ref (ad 24), .ref (ad 25)])), (ad 24, .inl (y 0, 1600, .inl (d.2 20))), (ad 25, .inl (y 0, 40, .inl g))] (fun (r : Int32) (u : Nat → Int32) => r = zI (vlE dq lq wq gt.cs qa qb) ∧ VT ty (vlE dq lq wq gt.cs qa qb)) (fun u => [(ad 3, .inr (6, [.int (d.1 11), .int (d.1 12), .ref (ad 20), .ref (ad 21), .ref (ad 22), .ref (ad 23), .ref (ad 24), .ref (ad 25)])), (ad 24, .inl (y 0, 1600, .inl (d.2 20))), (ad 25, .inl (y 0, 40, .inl u))])) := by
  refine CT.of (by decide) (nb rfl) ?_
  intro p e s m args below meth c C hr
  refine j_lv (lv' := [(0, .ref (ad 3)), (1, .int (nI qa)), (2, .int (nI qb)), (3, .int (nI dq)), (4, .int (nI lq)), (5, .int (nI wq))]) rfl ?_
  obtain ⟨b9, b4, b10, b11⟩ := lk_b hlk
  obtain ⟨b1, b1x, b2, b2x, b3, b5, b6, b7, b8⟩ := lk_n hlk
  obtain ⟨_, hcl, hcd⟩ := lk_c hlk
  refine j_iconst (pc := 0) C (v := 0) d_Rules_value_0 (by decide) ?_
  refine j_istore (pc := 1) C (lv' := [(6, .int 0), (0, .ref (ad 3)), (1, .int (nI qa)), (2, .int (nI qb)), (3, .int (nI dq)), (4, .int (nI lq)), (5, .int (nI wq))]) d_Rules_value_1 (by decide) rfl ?_
  refine j_iconst (pc := 3) C (v := 0) d_Rules_value_3 (by decide) ?_
  refine j_iload_n (pc := 4) C d_Rules_value_4 rfl 2 rfl ?_
  refine j_mmax (pc := 5) C (mt_4 (List.mem_of_getElem? (i := 89) rfl) rfl) (mt_1 (List.mem_of_getElem? (i := 34) rfl) rfl) (mt_1 (List.mem_of_getElem? (i := 3) rfl) rfl) (mt_1 (List.mem_of_getElem? (i := 35) rfl) rfl) (v := nI (max 0 qa)) (nI_max (a := 0) (b := qa) (by omega) (by omega)) (by decide) (nb rfl) (by decide) (by decide) d_Rules_value_5 ?_
  refine j_istore (pc := 8) C (lv' := [(7, .int (nI (max 0 qa))), (6, .int 0), (0, .ref (ad 3)), (1, .int (nI qa)), (2, .int (nI qb)), (3, .int (nI dq)), (4, .int (nI lq)), (5, .int (nI wq))]) d_Rules_value_8 (by decide) rfl ?_
  refine j_loop (α := Nat × Nat × (Nat → Int32) × List Int × List Bool) (fun a => qb - a.1) (fun a => (qa ≤ a.1) ∧ (a.1 ≤ qb) ∧ (a.2.1 = a.2.2.2.1.length) ∧ (STK a.2.2.1 a.2.2.2.1) ∧ (RUN (SEG gt.cs a.1 qb) a.2.2.2.2 [ty] 40) ∧ (RV a.2.2.2.2 a.2.2.2.1) ∧ (evR dq lq wq (SEG gt.cs a.1 qb) a.2.2.2.1 = evR dq lq wq (SEG gt.cs qa qb) [])) (fun a => [(ad 3, .inr (6, [.int (d.1 11), .int (d.1 12), .ref (ad 20), .ref (ad 21), .ref (ad 22), .ref (ad 23), .ref (ad 24), .ref (ad 25)])), (ad 24, .inl (y 0, 1600, .inl (d.2 20))), (ad 25, .inl (y 0, 40, .inl a.2.2.1))]) (fun a => [(7, .int (nI a.1)), (6, .int (nI a.2.1)), (0, .ref (ad 3)), (1, .int (nI qa)), (2, .int (nI qb)), (3, .int (nI dq)), (4, .int (nI lq)), (5, .int (nI wq))]) ((max 0 qa), 0, g, [], []) rfl rfl ⟨(show qa ≤ (max 0 qa) by omega), (show (max 0 qa) ≤ qb by omega), rfl, True.intro, hru, True.intro, rfl⟩ ?_
  rintro ⟨iz, pz, wz, vs, ts⟩ hP13 ih14
  obtain ⟨hl__, hi__, hp__, hs__, hr__, hv__, he__⟩ := hP13
  have hl_ : qa ≤ iz := hl__
  have hi_ : iz ≤ qb := hi__
  have hp_ : pz = vs.length := hp__
  have hs_ : STK wz vs := hs__
  have hr_ : RUN (SEG gt.cs iz qb) ts [ty] 40 := hr__
  have hv_ : RV ts vs := hv__
  have he_ : evR dq lq wq (SEG gt.cs iz qb) vs = evR dq lq wq (SEG gt.cs qa qb) [] := he__
  refine j_ws (ws' := [(ad 3, .inr (6, [.int (d.1 11), .int (d.1 12), .ref (ad 20), .ref (ad 21), .ref (ad 22), .ref (ad 23), .ref (ad 24), .ref (ad 25)])), (ad 24, .inl (y 0, 1600, .inl (d.2 20))), (ad 25, .inl (y 0, 40, .inl wz))]) rfl ?_
  refine j_lv (lv' := [(7, .int (nI iz)), (6, .int (nI pz)), (0, .ref (ad 3)), (1, .int (nI qa)), (2, .int (nI qb)), (3, .int (nI dq)), (4, .int (nI lq)), (5, .int (nI wq))]) rfl ?_
  refine j_iload (pc := 10) C d_Rules_value_10 0 rfl ?_
  refine j_iload_n (pc := 12) C d_Rules_value_12 rfl 4 rfl ?_
  by_cases c15 : qb ≤ iz
  · refine j_icmp_geT (pc := 13) C (tgt := 180) d_Rules_value_13 (by decide) (show nI qb ≤ nI iz from nI_le (by omega) (by omega)) ?_
    obtain rfl : iz = qb := by omega
    rw [seg_nil] at hr_
    obtain ⟨ve, rfl, hve⟩ := rv_end hr_ hv_
    rw [List.length_singleton] at hp_
    have hvl := evr_end he_
    refine j_iload (pc := 180) C d_Rules_value_180 1 rfl ?_
    refine j_iconst (pc := 182) C (v := 1) d_Rules_value_182 (by decide) ?_
    refine j_icmp_ltF (pc := 183) C (tgt := 198) d_Rules_value_183 (by decide) (show ¬ nI pz < nI 1 from nI_nlt (by omega) (by omega)) ?_
    refine j_aload_n (pc := 186) C d_Rules_value_186 rfl 2 rfl ?_
    refine j_get (pc := 187) C gf_Rules_27 0 rfl rfl d_Rules_value_187 ?_
    refine j_iload (pc := 190) C d_Rules_value_190 1 rfl ?_
    refine j_iconst (pc := 192) C (v := 1) d_Rules_value_192 (by decide) ?_
    refine j_isub (pc := 193) C (v := nI (pz - 1)) d_Rules_value_193 (pk_sub (a := pz) (b := 1) (by omega)) ?_
    refine j_iald (pc := 194) C 2 rfl (v := zI ve) (vp_in_nI (by omega) (by decide)) (by rw [nI_clamp (by omega), show (pz - 1) = 0 by omega]; exact hs_.1) d_Rules_value_194 ?_
    refine j_goto (pc := 195) C (tgt := 199) d_Rules_value_195 (by decide) ?_
    exact j_iret (pc := 199) C hr rfl wz ⟨congrArg zI hvl, hvl ▸ hve⟩ [0, 1, 2] rfl (by decide) (by decide) (by decide) d_Rules_value_199
  · refine j_icmp_geF (pc := 13) C (tgt := 180) d_Rules_value_13 (by decide) (show ¬ nI qb ≤ nI iz from nI_ge (by omega) (by omega)) ?_
    refine j_iload (pc := 16) C d_Rules_value_16 0 rfl ?_
    refine j_aload_n (pc := 18) C d_Rules_value_18 rfl 2 rfl ?_
    refine j_get (pc := 19) C gf_Rules_24 0 rfl rfl d_Rules_value_19 ?_
    refine j_alen (pc := 22) C 1 0 rfl rfl (v := 1600) rfl d_Rules_value_22 ?_
    refine j_icmp_geF (pc := 23) C (tgt := 180) d_Rules_value_23 (by decide) (show ¬ nI 1600 ≤ nI iz from nI_ge (by omega) (by omega)) ?_
    refine j_aload_n (pc := 26) C d_Rules_value_26 rfl 2 rfl ?_
    refine j_get (pc := 27) C gf_Rules_24 0 rfl rfl d_Rules_value_27 ?_
    refine j_iload (pc := 30) C d_Rules_value_30 0 rfl ?_
    refine j_iald (pc := 32) C 1 rfl (v := clsE (gt.cs.getD iz 0)) (vp_in_nI (by omega) (by decide)) (by rw [nI_clamp (by omega)]; exact hcd iz (by omega)) d_Rules_value_32 ?_
    obtain ⟨hln, q0, hq, hr2⟩ := run_go hr_ (by omega) hbl
    have hql := run_len hr2
    have hrl := rv_len hv_
    obtain ⟨cc, hcc⟩ : ∃ cc, cc = gt.cs.getD iz 0 := ⟨_, rfl⟩
    rw [← hcc] at hq
    refine j_st (st' := [.int (clsE cc)]) (by rw [← hcc]) ?_
    have hok := ev_ok hd hl hw hq hv_
    rcases ty_tc hq with ⟨v, bv, rfl, rfl⟩ | ⟨rfl, rfl⟩ | ⟨rfl, rt, rfl, rfl⟩ | ⟨rfl, rfl⟩ | ⟨rfl, rfl⟩ | ⟨rfl, rfl⟩ | ⟨bc, rt, rfl, rfl⟩ | ⟨bc, rt, rfl, rfl⟩ | ⟨bc, rt, rfl, rfl⟩
    · refine j_st (st' := [.int (nI v)]) (by rw [← clsE_n]) ?_
      rw [List.length_cons] at hql
      refine j_istore (pc := 33) C (lv' := [(8, .int (nI v)), (7, .int (nI iz)), (6, .int (nI pz)), (0, .ref (ad 3)), (1, .int (nI qa)), (2, .int (nI qb)), (3, .int (nI dq)), (4, .int (nI lq)), (5, .int (nI wq))]) d_Rules_value_33 (by decide) rfl ?_
      refine j_iload (pc := 35) C d_Rules_value_35 0 rfl ?_
      refine j_bipush (pc := 37) C (v := (-3)) d_Rules_value_37 (by decide) ?_
      refine j_icmp_ltF (pc := 39) C (tgt := 99) d_Rules_value_39 (by decide) (nI_n3 (by omega)) ?_
      refine j_iload (pc := 42) C d_Rules_value_42 2 rfl ?_
      refine j_aload_n (pc := 44) C d_Rules_value_44 rfl 3 rfl ?_
      refine j_get (pc := 45) C gf_Rules_27 0 rfl rfl d_Rules_value_45 ?_
      refine j_alen (pc := 48) C 2 0 rfl rfl (v := 40) rfl d_Rules_value_48 ?_
      refine j_icmp_geF (pc := 49) C (tgt := 174) d_Rules_value_49 (by decide) (show ¬ nI 40 ≤ nI pz from nI_ge (by omega) (by decide)) ?_
      refine j_aload_n (pc := 52) C d_Rules_value_52 rfl 3 rfl ?_
      refine j_get (pc := 53) C gf_Rules_27 0 rfl rfl d_Rules_value_53 ?_
      refine j_iload (pc := 56) C d_Rules_value_56 2 rfl ?_
      refine j_iload (pc := 58) C d_Rules_value_58 0 rfl ?_
      refine j_if_ltF (pc := 60) C (tgt := 68) d_Rules_value_60 (by decide) (show ¬ nI v < nI 0 from nI_nlt (by omega) (by omega)) ?_
      refine j_iload (pc := 63) C d_Rules_value_63 0 rfl ?_
      refine j_goto (pc := 65) C (tgt := 92) d_Rules_value_65 (by decide) ?_
      refine j_iast (pc := 92) C 2 rfl (ws' := [(ad 3, .inr (6, [.int (d.1 11), .int (d.1 12), .ref (ad 20), .ref (ad 21), .ref (ad 22), .ref (ad 23), .ref (ad 24), .ref (ad 25)])), (ad 24, .inl (y 0, 1600, .inl (d.2 20))), (ad 25, .inl (y 0, 40, .inl (upd wz pz (zI (((1000 + v) - 1000 : Nat) : Int)))))]) (vp_in_nI (by omega) (by decide)) (by rw [nI_clamp (by omega), show (((1000 + v) - 1000 : Nat) : Int) = ((v : Nat) : Int) by omega]; first | done | rfl) d_Rules_value_92 ?_
      refine j_iinc (pc := 93) C (v := nI (pz + 1)) (lv' := [(6, .int (nI (pz + 1))), (8, .int (nI v)), (7, .int (nI iz)), (0, .ref (ad 3)), (1, .int (nI qa)), (2, .int (nI qb)), (3, .int (nI dq)), (4, .int (nI lq)), (5, .int (nI wq))]) d_Rules_value_93 2 rfl (nI_add _ _) (by decide) rfl ?_
      refine j_goto (pc := 96) C (tgt := 174) d_Rules_value_96 (by decide) ?_
      refine j_iinc (pc := 174) C (v := nI (iz + 1)) (lv' := [(7, .int (nI (iz + 1))), (6, .int (nI (pz + 1))), (8, .int (nI v)), (0, .ref (ad 3)), (1, .int (nI qa)), (2, .int (nI qb)), (3, .int (nI dq)), (4, .int (nI lq)), (5, .int (nI wq))]) d_Rules_value_174 2 rfl (nI_add _ _) (by decide) rfl ?_
      refine j_goto (pc := 177) C (tgt := 10) d_Rules_value_177 (by decide) ?_
      refine j_locs (lv' := [(7, .int (nI (iz + 1))), (6, .int (nI (pz + 1))), (0, .ref (ad 3)), (1, .int (nI qa)), (2, .int (nI qb)), (3, .int (nI dq)), (4, .int (nI lq)), (5, .int (nI wq))]) [0, 1, 3, 4, 5, 6, 7, 8] rfl ?_
      exact ih14 ((iz + 1), (pz + 1), (upd wz pz (zI (((1000 + v) - 1000 : Nat) : Int))), ((((1000 + v) - 1000 : Nat) : Int) :: vs), (false :: ts)) ⟨(show qa ≤ (iz + 1) by omega), (show (iz + 1) ≤ qb by omega), (show (pz + 1) = ((((1000 + v) - 1000 : Nat) : Int) :: vs).length by rw [List.length_cons]; omega), (stk_push (v := (((1000 + v) - 1000 : Nat) : Int)) hs_ hp_), hr2, (by have e : evC dq lq wq (1000 + v) vs = ((((1000 + v) - 1000 : Nat) : Int) :: vs) := if_pos (by omega); rw [← e]; exact hok), (evr_e he_ (by omega) hbl hcc (show ((((1000 + v) - 1000 : Nat) : Int) :: vs) = evC dq lq wq (1000 + v) vs from (if_pos (by omega)).symm))⟩ (show qb - (iz + 1) < qb - iz by omega)
    · refine j_st (st' := [.int 1]) rfl ?_
      rw [List.length_cons] at hql
      refine j_istore (pc := 33) C (lv' := [(8, .int 1), (7, .int (nI iz)), (6, .int (nI pz)), (0, .ref (ad 3)), (1, .int (nI qa)), (2, .int (nI qb)), (3, .int (nI dq)), (4, .int (nI lq)), (5, .int (nI wq))]) d_Rules_value_33 (by decide) rfl ?_
      refine j_iload (pc := 35) C d_Rules_value_35 0 rfl ?_
      refine j_bipush (pc := 37) C (v := (-3)) d_Rules_value_37 (by decide) ?_
      refine j_icmp_ltF (pc := 39) C (tgt := 99) d_Rules_value_39 (by decide) (by decide) ?_
      refine j_iload (pc := 42) C d_Rules_value_42 2 rfl ?_
      refine j_aload_n (pc := 44) C d_Rules_value_44 rfl 3 rfl ?_
      refine j_get (pc := 45) C gf_Rules_27 0 rfl rfl d_Rules_value_45 ?_
      refine j_alen (pc := 48) C 2 0 rfl rfl (v := 40) rfl d_Rules_value_48 ?_
      refine j_icmp_geF (pc := 49) C (tgt := 174) d_Rules_value_49 (by decide) (show ¬ nI 40 ≤ nI pz from nI_ge (by omega) (by decide)) ?_
      refine j_aload_n (pc := 52) C d_Rules_value_52 rfl 3 rfl ?_
      refine j_get (pc := 53) C gf_Rules_27 0 rfl rfl d_Rules_value_53 ?_
      refine j_iload (pc := 56) C d_Rules_value_56 2 rfl ?_
      refine j_iload (pc := 58) C d_Rules_value_58 0 rfl ?_
      refine j_if_ltF (pc := 60) C (tgt := 68) d_Rules_value_60 (by decide) (by decide) ?_
      refine j_iload (pc := 63) C d_Rules_value_63 0 rfl ?_
      refine j_goto (pc := 65) C (tgt := 92) d_Rules_value_65 (by decide) ?_
      refine j_iast (pc := 92) C 2 rfl (ws' := [(ad 3, .inr (6, [.int (d.1 11), .int (d.1 12), .ref (ad 20), .ref (ad 21), .ref (ad 22), .ref (ad 23), .ref (ad 24), .ref (ad 25)])), (ad 24, .inl (y 0, 1600, .inl (d.2 20))), (ad 25, .inl (y 0, 40, .inl (upd wz pz (zI 1))))]) (vp_in_nI (by omega) (by decide)) (by rw [nI_clamp (by omega)]; first | done | rfl) d_Rules_value_92 ?_
      refine j_iinc (pc := 93) C (v := nI (pz + 1)) (lv' := [(6, .int (nI (pz + 1))), (8, .int 1), (7, .int (nI iz)), (0, .ref (ad 3)), (1, .int (nI qa)), (2, .int (nI qb)), (3, .int (nI dq)), (4, .int (nI lq)), (5, .int (nI wq))]) d_Rules_value_93 2 rfl (nI_add _ _) (by decide) rfl ?_
      refine j_goto (pc := 96) C (tgt := 174) d_Rules_value_96 (by decide) ?_
      refine j_iinc (pc := 174) C (v := nI (iz + 1)) (lv' := [(7, .int (nI (iz + 1))), (6, .int (nI (pz + 1))), (8, .int 1), (0, .ref (ad 3)), (1, .int (nI qa)), (2, .int (nI qb)), (3, .int (nI dq)), (4, .int (nI lq)), (5, .int (nI wq))]) d_Rules_value_174 2 rfl (nI_add _ _) (by decide) rfl ?_
      refine j_goto (pc := 177) C (tgt := 10) d_Rules_value_177 (by decide) ?_
      refine j_locs (lv' := [(7, .int (nI (iz + 1))), (6, .int (nI (pz + 1))), (0, .ref (ad 3)), (1, .int (nI qa)), (2, .int (nI qb)), (3, .int (nI dq)), (4, .int (nI lq)), (5, .int (nI wq))]) [0, 1, 3, 4, 5, 6, 7, 8] rfl ?_
      exact ih14 ((iz + 1), (pz + 1), (upd wz pz (zI 1)), (1 :: vs), (true :: ts)) ⟨(show qa ≤ (iz + 1) by omega), (show (iz + 1) ≤ qb by omega), (show (pz + 1) = (1 :: vs).length by rw [List.length_cons]; omega), (stk_push (v := 1) hs_ hp_), hr2, hok, (evr_e he_ (by omega) hbl hcc rfl)⟩ (show qb - (iz + 1) < qb - iz by omega)
    · refine j_st (st' := [.int (-4)]) rfl ?_
      obtain ⟨a, rs, rfl, ha, hvr⟩ := rv_1 hv_
      simp only [List.length_cons] at hp_ hrl hln
      refine j_istore (pc := 33) C (lv' := [(8, .int (-4)), (7, .int (nI iz)), (6, .int (nI pz)), (0, .ref (ad 3)), (1, .int (nI qa)), (2, .int (nI qb)), (3, .int (nI dq)), (4, .int (nI lq)), (5, .int (nI wq))]) d_Rules_value_33 (by decide) rfl ?_
      refine j_iload (pc := 35) C d_Rules_value_35 0 rfl ?_
      refine j_bipush (pc := 37) C (v := (-3)) d_Rules_value_37 (by decide) ?_
      refine j_icmp_ltT (pc := 39) C (tgt := 99) d_Rules_value_39 (by decide) (by decide) ?_
      refine j_iload (pc := 99) C d_Rules_value_99 0 rfl ?_
      refine j_bipush (pc := 101) C (v := (-4)) d_Rules_value_101 (by decide) ?_
      refine j_icmp_neF (pc := 103) C (tgt := 135) d_Rules_value_103 (by decide) (by decide) ?_
      refine j_iload (pc := 106) C d_Rules_value_106 2 rfl ?_
      refine j_iconst (pc := 108) C (v := 1) d_Rules_value_108 (by decide) ?_
      refine j_icmp_ltF (pc := 109) C (tgt := 174) d_Rules_value_109 (by decide) (show ¬ nI pz < nI 1 from nI_nlt (by omega) (by omega)) ?_
      refine j_aload_n (pc := 112) C d_Rules_value_112 rfl 3 rfl ?_
      refine j_get (pc := 113) C gf_Rules_27 0 rfl rfl d_Rules_value_113 ?_
      refine j_iload (pc := 116) C d_Rules_value_116 2 rfl ?_
      refine j_iconst (pc := 118) C (v := 1) d_Rules_value_118 (by decide) ?_
      refine j_isub (pc := 119) C (v := nI (pz - 1)) d_Rules_value_119 (pk_sub (a := pz) (b := 1) (by omega)) ?_
      refine j_iconst (pc := 120) C (v := 1) d_Rules_value_120 (by decide) ?_
      refine j_aload_n (pc := 121) C d_Rules_value_121 rfl 3 rfl ?_
      refine j_get (pc := 122) C gf_Rules_27 0 rfl rfl d_Rules_value_122 ?_
      refine j_iload (pc := 125) C d_Rules_value_125 2 rfl ?_
      refine j_iconst (pc := 127) C (v := 1) d_Rules_value_127 (by decide) ?_
      refine j_isub (pc := 128) C (v := nI (pz - 1)) d_Rules_value_128 (pk_sub (a := pz) (b := 1) (by omega)) ?_
      refine j_iald (pc := 129) C 2 rfl (v := zI a) (vp_in_nI (by omega) (by decide)) (by rw [nI_clamp (by omega), show (pz - 1) = rs.length by omega]; exact hs_.1) d_Rules_value_129 ?_
      refine j_isub (pc := 130) C (v := zI (1 - a)) d_Rules_value_130 (zI_sub 1 a) ?_
      refine j_iast (pc := 131) C 2 rfl (ws' := [(ad 3, .inr (6, [.int (d.1 11), .int (d.1 12), .ref (ad 20), .ref (ad 21), .ref (ad 22), .ref (ad 23), .ref (ad 24), .ref (ad 25)])), (ad 24, .inl (y 0, 1600, .inl (d.2 20))), (ad 25, .inl (y 0, 40, .inl (upd wz (pz - 1) (zI (1 - a)))))]) (vp_in_nI (by omega) (by decide)) (by rw [nI_clamp (by omega)]; first | done | rfl) d_Rules_value_131 ?_
      refine j_goto (pc := 132) C (tgt := 174) d_Rules_value_132 (by decide) ?_
      refine j_iinc (pc := 174) C (v := nI (iz + 1)) (lv' := [(7, .int (nI (iz + 1))), (8, .int (-4)), (6, .int (nI pz)), (0, .ref (ad 3)), (1, .int (nI qa)), (2, .int (nI qb)), (3, .int (nI dq)), (4, .int (nI lq)), (5, .int (nI wq))]) d_Rules_value_174 1 rfl (nI_add _ _) (by decide) rfl ?_
      refine j_goto (pc := 177) C (tgt := 10) d_Rules_value_177 (by decide) ?_
      refine j_locs (lv' := [(7, .int (nI (iz + 1))), (6, .int (nI pz)), (0, .ref (ad 3)), (1, .int (nI qa)), (2, .int (nI qb)), (3, .int (nI dq)), (4, .int (nI lq)), (5, .int (nI wq))]) [0, 2, 3, 4, 5, 6, 7, 8] rfl ?_
      exact ih14 ((iz + 1), pz, (upd wz (pz - 1) (zI (1 - a))), ((1 - a) :: rs), (true :: rt)) ⟨(show qa ≤ (iz + 1) by omega), (show (iz + 1) ≤ qb by omega), (show pz = ((1 - a) :: rs).length by rw [List.length_cons]; omega), (stk_push (v := (1 - a)) hs_.2 (by omega)), hr2, hok, (evr_e he_ (by omega) hbl hcc rfl)⟩ (show qb - (iz + 1) < qb - iz by omega)
    · refine j_st (st' := [.int (-1)]) rfl ?_
      rw [List.length_cons] at hql
      refine j_istore (pc := 33) C (lv' := [(8, .int (-1)), (7, .int (nI iz)), (6, .int (nI pz)), (0, .ref (ad 3)), (1, .int (nI qa)), (2, .int (nI qb)), (3, .int (nI dq)), (4, .int (nI lq)), (5, .int (nI wq))]) d_Rules_value_33 (by decide) rfl ?_
      refine j_iload (pc := 35) C d_Rules_value_35 0 rfl ?_
      refine j_bipush (pc := 37) C (v := (-3)) d_Rules_value_37 (by decide) ?_
      refine j_icmp_ltF (pc := 39) C (tgt := 99) d_Rules_value_39 (by decide) (by decide) ?_
      refine j_iload (pc := 42) C d_Rules_value_42 2 rfl ?_
      refine j_aload_n (pc := 44) C d_Rules_value_44 rfl 3 rfl ?_
      refine j_get (pc := 45) C gf_Rules_27 0 rfl rfl d_Rules_value_45 ?_
      refine j_alen (pc := 48) C 2 0 rfl rfl (v := 40) rfl d_Rules_value_48 ?_
      refine j_icmp_geF (pc := 49) C (tgt := 174) d_Rules_value_49 (by decide) (show ¬ nI 40 ≤ nI pz from nI_ge (by omega) (by decide)) ?_
      refine j_aload_n (pc := 52) C d_Rules_value_52 rfl 3 rfl ?_
      refine j_get (pc := 53) C gf_Rules_27 0 rfl rfl d_Rules_value_53 ?_
      refine j_iload (pc := 56) C d_Rules_value_56 2 rfl ?_
      refine j_iload (pc := 58) C d_Rules_value_58 0 rfl ?_
      refine j_if_ltT (pc := 60) C (tgt := 68) d_Rules_value_60 (by decide) (by decide) ?_
      refine j_iload (pc := 68) C d_Rules_value_68 0 rfl ?_
      refine j_iconst (pc := 70) C (v := (-1)) d_Rules_value_70 (by decide) ?_
      refine j_icmp_neF (pc := 71) C (tgt := 78) d_Rules_value_71 (by decide) (by decide) ?_
      refine j_iload_n (pc := 74) C d_Rules_value_74 rfl 6 rfl ?_
      refine j_goto (pc := 75) C (tgt := 92) d_Rules_value_75 (by decide) ?_
      refine j_iast (pc := 92) C 2 rfl (ws' := [(ad 3, .inr (6, [.int (d.1 11), .int (d.1 12), .ref (ad 20), .ref (ad 21), .ref (ad 22), .ref (ad 23), .ref (ad 24), .ref (ad 25)])), (ad 24, .inl (y 0, 1600, .inl (d.2 20))), (ad 25, .inl (y 0, 40, .inl (upd wz pz (zI ((dq : Nat) : Int)))))]) (vp_in_nI (by omega) (by decide)) (by rw [nI_clamp (by omega)]; first | done | rfl) d_Rules_value_92 ?_
      refine j_iinc (pc := 93) C (v := nI (pz + 1)) (lv' := [(6, .int (nI (pz + 1))), (8, .int (-1)), (7, .int (nI iz)), (0, .ref (ad 3)), (1, .int (nI qa)), (2, .int (nI qb)), (3, .int (nI dq)), (4, .int (nI lq)), (5, .int (nI wq))]) d_Rules_value_93 2 rfl (nI_add _ _) (by decide) rfl ?_
      refine j_goto (pc := 96) C (tgt := 174) d_Rules_value_96 (by decide) ?_
      refine j_iinc (pc := 174) C (v := nI (iz + 1)) (lv' := [(7, .int (nI (iz + 1))), (6, .int (nI (pz + 1))), (8, .int (-1)), (0, .ref (ad 3)), (1, .int (nI qa)), (2, .int (nI qb)), (3, .int (nI dq)), (4, .int (nI lq)), (5, .int (nI wq))]) d_Rules_value_174 2 rfl (nI_add _ _) (by decide) rfl ?_
      refine j_goto (pc := 177) C (tgt := 10) d_Rules_value_177 (by decide) ?_
      refine j_locs (lv' := [(7, .int (nI (iz + 1))), (6, .int (nI (pz + 1))), (0, .ref (ad 3)), (1, .int (nI qa)), (2, .int (nI qb)), (3, .int (nI dq)), (4, .int (nI lq)), (5, .int (nI wq))]) [0, 1, 3, 4, 5, 6, 7, 8] rfl ?_
      exact ih14 ((iz + 1), (pz + 1), (upd wz pz (zI ((dq : Nat) : Int))), (((dq : Nat) : Int) :: vs), (false :: ts)) ⟨(show qa ≤ (iz + 1) by omega), (show (iz + 1) ≤ qb by omega), (show (pz + 1) = (((dq : Nat) : Int) :: vs).length by rw [List.length_cons]; omega), (stk_push (v := ((dq : Nat) : Int)) hs_ hp_), hr2, hok, (evr_e he_ (by omega) hbl hcc rfl)⟩ (show qb - (iz + 1) < qb - iz by omega)
    · refine j_st (st' := [.int (-2)]) rfl ?_
      rw [List.length_cons] at hql
      refine j_istore (pc := 33) C (lv' := [(8, .int (-2)), (7, .int (nI iz)), (6, .int (nI pz)), (0, .ref (ad 3)), (1, .int (nI qa)), (2, .int (nI qb)), (3, .int (nI dq)), (4, .int (nI lq)), (5, .int (nI wq))]) d_Rules_value_33 (by decide) rfl ?_
      refine j_iload (pc := 35) C d_Rules_value_35 0 rfl ?_
      refine j_bipush (pc := 37) C (v := (-3)) d_Rules_value_37 (by decide) ?_
      refine j_icmp_ltF (pc := 39) C (tgt := 99) d_Rules_value_39 (by decide) (by decide) ?_
      refine j_iload (pc := 42) C d_Rules_value_42 2 rfl ?_
      refine j_aload_n (pc := 44) C d_Rules_value_44 rfl 3 rfl ?_
      refine j_get (pc := 45) C gf_Rules_27 0 rfl rfl d_Rules_value_45 ?_
      refine j_alen (pc := 48) C 2 0 rfl rfl (v := 40) rfl d_Rules_value_48 ?_
      refine j_icmp_geF (pc := 49) C (tgt := 174) d_Rules_value_49 (by decide) (show ¬ nI 40 ≤ nI pz from nI_ge (by omega) (by decide)) ?_
      refine j_aload_n (pc := 52) C d_Rules_value_52 rfl 3 rfl ?_
      refine j_get (pc := 53) C gf_Rules_27 0 rfl rfl d_Rules_value_53 ?_
      refine j_iload (pc := 56) C d_Rules_value_56 2 rfl ?_
      refine j_iload (pc := 58) C d_Rules_value_58 0 rfl ?_
      refine j_if_ltT (pc := 60) C (tgt := 68) d_Rules_value_60 (by decide) (by decide) ?_
      refine j_iload (pc := 68) C d_Rules_value_68 0 rfl ?_
      refine j_iconst (pc := 70) C (v := (-1)) d_Rules_value_70 (by decide) ?_
      refine j_icmp_neT (pc := 71) C (tgt := 78) d_Rules_value_71 (by decide) (by decide) ?_
      refine j_iload (pc := 78) C d_Rules_value_78 0 rfl ?_
      refine j_bipush (pc := 80) C (v := (-2)) d_Rules_value_80 (by decide) ?_
      refine j_icmp_neF (pc := 82) C (tgt := 90) d_Rules_value_82 (by decide) (by decide) ?_
      refine j_iload (pc := 85) C d_Rules_value_85 7 rfl ?_
      refine j_goto (pc := 87) C (tgt := 92) d_Rules_value_87 (by decide) ?_
      refine j_iast (pc := 92) C 2 rfl (ws' := [(ad 3, .inr (6, [.int (d.1 11), .int (d.1 12), .ref (ad 20), .ref (ad 21), .ref (ad 22), .ref (ad 23), .ref (ad 24), .ref (ad 25)])), (ad 24, .inl (y 0, 1600, .inl (d.2 20))), (ad 25, .inl (y 0, 40, .inl (upd wz pz (zI ((lq : Nat) : Int)))))]) (vp_in_nI (by omega) (by decide)) (by rw [nI_clamp (by omega)]; first | done | rfl) d_Rules_value_92 ?_
      refine j_iinc (pc := 93) C (v := nI (pz + 1)) (lv' := [(6, .int (nI (pz + 1))), (8, .int (-2)), (7, .int (nI iz)), (0, .ref (ad 3)), (1, .int (nI qa)), (2, .int (nI qb)), (3, .int (nI dq)), (4, .int (nI lq)), (5, .int (nI wq))]) d_Rules_value_93 2 rfl (nI_add _ _) (by decide) rfl ?_
      refine j_goto (pc := 96) C (tgt := 174) d_Rules_value_96 (by decide) ?_
      refine j_iinc (pc := 174) C (v := nI (iz + 1)) (lv' := [(7, .int (nI (iz + 1))), (6, .int (nI (pz + 1))), (8, .int (-2)), (0, .ref (ad 3)), (1, .int (nI qa)), (2, .int (nI qb)), (3, .int (nI dq)), (4, .int (nI lq)), (5, .int (nI wq))]) d_Rules_value_174 2 rfl (nI_add _ _) (by decide) rfl ?_
      refine j_goto (pc := 177) C (tgt := 10) d_Rules_value_177 (by decide) ?_
      refine j_locs (lv' := [(7, .int (nI (iz + 1))), (6, .int (nI (pz + 1))), (0, .ref (ad 3)), (1, .int (nI qa)), (2, .int (nI qb)), (3, .int (nI dq)), (4, .int (nI lq)), (5, .int (nI wq))]) [0, 1, 3, 4, 5, 6, 7, 8] rfl ?_
      exact ih14 ((iz + 1), (pz + 1), (upd wz pz (zI ((lq : Nat) : Int))), (((lq : Nat) : Int) :: vs), (false :: ts)) ⟨(show qa ≤ (iz + 1) by omega), (show (iz + 1) ≤ qb by omega), (show (pz + 1) = (((lq : Nat) : Int) :: vs).length by rw [List.length_cons]; omega), (stk_push (v := ((lq : Nat) : Int)) hs_ hp_), hr2, hok, (evr_e he_ (by omega) hbl hcc rfl)⟩ (show qb - (iz + 1) < qb - iz by omega)
    · refine j_st (st' := [.int (-3)]) rfl ?_
      rw [List.length_cons] at hql
      refine j_istore (pc := 33) C (lv' := [(8, .int (-3)), (7, .int (nI iz)), (6, .int (nI pz)), (0, .ref (ad 3)), (1, .int (nI qa)), (2, .int (nI qb)), (3, .int (nI dq)), (4, .int (nI lq)), (5, .int (nI wq))]) d_Rules_value_33 (by decide) rfl ?_
      refine j_iload (pc := 35) C d_Rules_value_35 0 rfl ?_
      refine j_bipush (pc := 37) C (v := (-3)) d_Rules_value_37 (by decide) ?_
      refine j_icmp_ltF (pc := 39) C (tgt := 99) d_Rules_value_39 (by decide) (by decide) ?_
      refine j_iload (pc := 42) C d_Rules_value_42 2 rfl ?_
      refine j_aload_n (pc := 44) C d_Rules_value_44 rfl 3 rfl ?_
      refine j_get (pc := 45) C gf_Rules_27 0 rfl rfl d_Rules_value_45 ?_
      refine j_alen (pc := 48) C 2 0 rfl rfl (v := 40) rfl d_Rules_value_48 ?_
      refine j_icmp_geF (pc := 49) C (tgt := 174) d_Rules_value_49 (by decide) (show ¬ nI 40 ≤ nI pz from nI_ge (by omega) (by decide)) ?_
      refine j_aload_n (pc := 52) C d_Rules_value_52 rfl 3 rfl ?_
      refine j_get (pc := 53) C gf_Rules_27 0 rfl rfl d_Rules_value_53 ?_
      refine j_iload (pc := 56) C d_Rules_value_56 2 rfl ?_
      refine j_iload (pc := 58) C d_Rules_value_58 0 rfl ?_
      refine j_if_ltT (pc := 60) C (tgt := 68) d_Rules_value_60 (by decide) (by decide) ?_
      refine j_iload (pc := 68) C d_Rules_value_68 0 rfl ?_
      refine j_iconst (pc := 70) C (v := (-1)) d_Rules_value_70 (by decide) ?_
      refine j_icmp_neT (pc := 71) C (tgt := 78) d_Rules_value_71 (by decide) (by decide) ?_
      refine j_iload (pc := 78) C d_Rules_value_78 0 rfl ?_
      refine j_bipush (pc := 80) C (v := (-2)) d_Rules_value_80 (by decide) ?_
      refine j_icmp_neT (pc := 82) C (tgt := 90) d_Rules_value_82 (by decide) (by decide) ?_
      refine j_iload (pc := 90) C d_Rules_value_90 8 rfl ?_
      refine j_iast (pc := 92) C 2 rfl (ws' := [(ad 3, .inr (6, [.int (d.1 11), .int (d.1 12), .ref (ad 20), .ref (ad 21), .ref (ad 22), .ref (ad 23), .ref (ad 24), .ref (ad 25)])), (ad 24, .inl (y 0, 1600, .inl (d.2 20))), (ad 25, .inl (y 0, 40, .inl (upd wz pz (zI ((wq : Nat) : Int)))))]) (vp_in_nI (by omega) (by decide)) (by rw [nI_clamp (by omega)]; first | done | rfl) d_Rules_value_92 ?_
      refine j_iinc (pc := 93) C (v := nI (pz + 1)) (lv' := [(6, .int (nI (pz + 1))), (8, .int (-3)), (7, .int (nI iz)), (0, .ref (ad 3)), (1, .int (nI qa)), (2, .int (nI qb)), (3, .int (nI dq)), (4, .int (nI lq)), (5, .int (nI wq))]) d_Rules_value_93 2 rfl (nI_add _ _) (by decide) rfl ?_
      refine j_goto (pc := 96) C (tgt := 174) d_Rules_value_96 (by decide) ?_
      refine j_iinc (pc := 174) C (v := nI (iz + 1)) (lv' := [(7, .int (nI (iz + 1))), (6, .int (nI (pz + 1))), (8, .int (-3)), (0, .ref (ad 3)), (1, .int (nI qa)), (2, .int (nI qb)), (3, .int (nI dq)), (4, .int (nI lq)), (5, .int (nI wq))]) d_Rules_value_174 2 rfl (nI_add _ _) (by decide) rfl ?_
      refine j_goto (pc := 177) C (tgt := 10) d_Rules_value_177 (by decide) ?_
      refine j_locs (lv' := [(7, .int (nI (iz + 1))), (6, .int (nI (pz + 1))), (0, .ref (ad 3)), (1, .int (nI qa)), (2, .int (nI qb)), (3, .int (nI dq)), (4, .int (nI lq)), (5, .int (nI wq))]) [0, 1, 3, 4, 5, 6, 7, 8] rfl ?_
      exact ih14 ((iz + 1), (pz + 1), (upd wz pz (zI ((wq : Nat) : Int))), (((wq : Nat) : Int) :: vs), (false :: ts)) ⟨(show qa ≤ (iz + 1) by omega), (show (iz + 1) ≤ qb by omega), (show (pz + 1) = (((wq : Nat) : Int) :: vs).length by rw [List.length_cons]; omega), (stk_push (v := ((wq : Nat) : Int)) hs_ hp_), hr2, hok, (evr_e he_ (by omega) hbl hcc rfl)⟩ (show qb - (iz + 1) < qb - iz by omega)
    · have bcs : cc = 1 ∨ cc = 2 ∨ cc = 3 ∨ cc = 4 ∨ cc = 5 ∨ cc = 6 := by omega
      rcases bcs with rfl | rfl | rfl | rfl | rfl | rfl
      · refine j_st (st' := [.int (-5)]) rfl ?_
        obtain ⟨b, rb, rfl, hbv, hvr⟩ := rv_1 hv_
        obtain ⟨a, rs, rfl, hav, hvs⟩ := rv_1 hvr
        simp only [List.length_cons] at hp_ hrl hln
        obtain ⟨a1, a2, _⟩ := id hav
        obtain ⟨b1_, b2_, _⟩ := id hbv
        refine j_istore (pc := 33) C (lv' := [(8, .int (-5)), (7, .int (nI iz)), (6, .int (nI pz)), (0, .ref (ad 3)), (1, .int (nI qa)), (2, .int (nI qb)), (3, .int (nI dq)), (4, .int (nI lq)), (5, .int (nI wq))]) d_Rules_value_33 (by decide) rfl ?_
        refine j_iload (pc := 35) C d_Rules_value_35 0 rfl ?_
        refine j_bipush (pc := 37) C (v := (-3)) d_Rules_value_37 (by decide) ?_
        refine j_icmp_ltT (pc := 39) C (tgt := 99) d_Rules_value_39 (by decide) (by decide) ?_
        refine j_iload (pc := 99) C d_Rules_value_99 0 rfl ?_
        refine j_bipush (pc := 101) C (v := (-4)) d_Rules_value_101 (by decide) ?_
        refine j_icmp_neT (pc := 103) C (tgt := 135) d_Rules_value_103 (by decide) (by decide) ?_
        refine j_iload (pc := 135) C d_Rules_value_135 2 rfl ?_
        refine j_iconst (pc := 137) C (v := 2) d_Rules_value_137 (by decide) ?_
        refine j_icmp_ltF (pc := 138) C (tgt := 174) d_Rules_value_138 (by decide) (show ¬ nI pz < nI 2 from nI_nlt (by omega) (by omega)) ?_
        refine j_iinc (pc := 141) C (v := nI (pz - 1)) (lv' := [(6, .int (nI (pz - 1))), (8, .int (-5)), (7, .int (nI iz)), (0, .ref (ad 3)), (1, .int (nI qa)), (2, .int (nI qb)), (3, .int (nI dq)), (4, .int (nI lq)), (5, .int (nI wq))]) d_Rules_value_141 2 rfl (nI_dn (by omega)) (by decide) rfl ?_
        refine j_aload_n (pc := 144) C d_Rules_value_144 rfl 3 rfl ?_
        refine j_get (pc := 145) C gf_Rules_27 0 rfl rfl d_Rules_value_145 ?_
        refine j_iload (pc := 148) C d_Rules_value_148 0 rfl ?_
        refine j_iconst (pc := 150) C (v := 1) d_Rules_value_150 (by decide) ?_
        refine j_isub (pc := 151) C (v := nI ((pz - 1) - 1)) d_Rules_value_151 (pk_sub (a := (pz - 1)) (b := 1) (by omega)) ?_
        refine j_iload (pc := 152) C d_Rules_value_152 1 rfl ?_
        refine j_aload_n (pc := 154) C d_Rules_value_154 rfl 3 rfl ?_
        refine j_get (pc := 155) C gf_Rules_27 0 rfl rfl d_Rules_value_155 ?_
        refine j_iload (pc := 158) C d_Rules_value_158 0 rfl ?_
        refine j_iconst (pc := 160) C (v := 1) d_Rules_value_160 (by decide) ?_
        refine j_isub (pc := 161) C (v := nI ((pz - 1) - 1)) d_Rules_value_161 (pk_sub (a := (pz - 1)) (b := 1) (by omega)) ?_
        refine j_iald (pc := 162) C 2 rfl (v := zI a) (vp_in_nI (by omega) (by decide)) (by rw [nI_clamp (by omega), show ((pz - 1) - 1) = rs.length by omega]; exact hs_.2.1) d_Rules_value_162 ?_
        refine j_aload_n (pc := 163) C d_Rules_value_163 rfl 3 rfl ?_
        refine j_get (pc := 164) C gf_Rules_27 0 rfl rfl d_Rules_value_164 ?_
        refine j_iload (pc := 167) C d_Rules_value_167 0 rfl ?_
        refine j_iald (pc := 169) C 2 rfl (v := zI b) (vp_in_nI (by omega) (by decide)) (by rw [nI_clamp (by omega), show (pz - 1) = (a :: rs).length by rw [List.length_cons]; omega]; exact hs_.1) d_Rules_value_169 ?_
        refine j_callSi (pc := 170) C (c_xjoined_1 l D y a b (by omega) (by omega) (by omega) (by omega)) kw_Rules_50 ks_Rules_joined ⟨by decide, by decide⟩ ⟨by decide, by decide⟩ (wr := [(ad 3, .inr (6, [.int (d.1 11), .int (d.1 12), .ref (ad 20), .ref (ad 21), .ref (ad 22), .ref (ad 23), .ref (ad 24), .ref (ad 25)])), (ad 24, .inl (y 0, 1600, .inl (d.2 20))), (ad 25, .inl (y 0, 40, .inl wz))]) [] [0, 1, 2] rfl rfl (by decide) (by decide) (by decide) (As := [.int (-5), .int (zI a), .int (zI b)]) (rest := [.int (nI ((pz - 1) - 1)), .ref (ad 25)]) rfl (nb rfl) rfl d_Rules_value_170 (fun r16 _ hr16 => ?_)
        obtain rfl := hr16
        refine j_ws (ws' := [(ad 3, .inr (6, [.int (d.1 11), .int (d.1 12), .ref (ad 20), .ref (ad 21), .ref (ad 22), .ref (ad 23), .ref (ad 24), .ref (ad 25)])), (ad 24, .inl (y 0, 1600, .inl (d.2 20))), (ad 25, .inl (y 0, 40, .inl wz))]) rfl ?_
        refine j_iast (pc := 173) C 2 rfl (ws' := [(ad 3, .inr (6, [.int (d.1 11), .int (d.1 12), .ref (ad 20), .ref (ad 21), .ref (ad 22), .ref (ad 23), .ref (ad 24), .ref (ad 25)])), (ad 24, .inl (y 0, 1600, .inl (d.2 20))), (ad 25, .inl (y 0, 40, .inl (upd wz ((pz - 1) - 1) (zI (opE 1 a b)))))]) (vp_in_nI (by omega) (by decide)) (by rw [nI_clamp (by omega)]; first | done | rfl) d_Rules_value_173 ?_
        refine j_iinc (pc := 174) C (v := nI (iz + 1)) (lv' := [(7, .int (nI (iz + 1))), (6, .int (nI (pz - 1))), (8, .int (-5)), (0, .ref (ad 3)), (1, .int (nI qa)), (2, .int (nI qb)), (3, .int (nI dq)), (4, .int (nI lq)), (5, .int (nI wq))]) d_Rules_value_174 2 rfl (nI_add _ _) (by decide) rfl ?_
        refine j_goto (pc := 177) C (tgt := 10) d_Rules_value_177 (by decide) ?_
        refine j_locs (lv' := [(7, .int (nI (iz + 1))), (6, .int (nI (pz - 1))), (0, .ref (ad 3)), (1, .int (nI qa)), (2, .int (nI qb)), (3, .int (nI dq)), (4, .int (nI lq)), (5, .int (nI wq))]) [0, 1, 3, 4, 5, 6, 7, 8] rfl ?_
        exact ih14 ((iz + 1), (pz - 1), (upd wz ((pz - 1) - 1) (zI (opE 1 a b))), (opE 1 a b :: rs), (false :: rt)) ⟨(show qa ≤ (iz + 1) by omega), (show (iz + 1) ≤ qb by omega), (show (pz - 1) = (opE 1 a b :: rs).length by rw [List.length_cons]; omega), (stk_push (v := (opE 1 a b)) hs_.2.2 (by omega)), hr2, (show RV (false :: rt) (opE 1 a b :: rs) from hok), (evr_e he_ (by omega) hbl hcc (show (opE 1 a b :: rs) = evC dq lq wq 1 (b :: a :: rs) from rfl))⟩ (show qb - (iz + 1) < qb - iz by omega)
      · refine j_st (st' := [.int (-6)]) rfl ?_
        obtain ⟨b, rb, rfl, hbv, hvr⟩ := rv_1 hv_
        obtain ⟨a, rs, rfl, hav, hvs⟩ := rv_1 hvr
        simp only [List.length_cons] at hp_ hrl hln
        obtain ⟨a1, a2, _⟩ := id hav
        obtain ⟨b1_, b2_, _⟩ := id hbv
        refine j_istore (pc := 33) C (lv' := [(8, .int (-6)), (7, .int (nI iz)), (6, .int (nI pz)), (0, .ref (ad 3)), (1, .int (nI qa)), (2, .int (nI qb)), (3, .int (nI dq)), (4, .int (nI lq)), (5, .int (nI wq))]) d_Rules_value_33 (by decide) rfl ?_
        refine j_iload (pc := 35) C d_Rules_value_35 0 rfl ?_
        refine j_bipush (pc := 37) C (v := (-3)) d_Rules_value_37 (by decide) ?_
        refine j_icmp_ltT (pc := 39) C (tgt := 99) d_Rules_value_39 (by decide) (by decide) ?_
        refine j_iload (pc := 99) C d_Rules_value_99 0 rfl ?_
        refine j_bipush (pc := 101) C (v := (-4)) d_Rules_value_101 (by decide) ?_
        refine j_icmp_neT (pc := 103) C (tgt := 135) d_Rules_value_103 (by decide) (by decide) ?_
        refine j_iload (pc := 135) C d_Rules_value_135 2 rfl ?_
        refine j_iconst (pc := 137) C (v := 2) d_Rules_value_137 (by decide) ?_
        refine j_icmp_ltF (pc := 138) C (tgt := 174) d_Rules_value_138 (by decide) (show ¬ nI pz < nI 2 from nI_nlt (by omega) (by omega)) ?_
        refine j_iinc (pc := 141) C (v := nI (pz - 1)) (lv' := [(6, .int (nI (pz - 1))), (8, .int (-6)), (7, .int (nI iz)), (0, .ref (ad 3)), (1, .int (nI qa)), (2, .int (nI qb)), (3, .int (nI dq)), (4, .int (nI lq)), (5, .int (nI wq))]) d_Rules_value_141 2 rfl (nI_dn (by omega)) (by decide) rfl ?_
        refine j_aload_n (pc := 144) C d_Rules_value_144 rfl 3 rfl ?_
        refine j_get (pc := 145) C gf_Rules_27 0 rfl rfl d_Rules_value_145 ?_
        refine j_iload (pc := 148) C d_Rules_value_148 0 rfl ?_
        refine j_iconst (pc := 150) C (v := 1) d_Rules_value_150 (by decide) ?_
        refine j_isub (pc := 151) C (v := nI ((pz - 1) - 1)) d_Rules_value_151 (pk_sub (a := (pz - 1)) (b := 1) (by omega)) ?_
        refine j_iload (pc := 152) C d_Rules_value_152 1 rfl ?_
        refine j_aload_n (pc := 154) C d_Rules_value_154 rfl 3 rfl ?_
        refine j_get (pc := 155) C gf_Rules_27 0 rfl rfl d_Rules_value_155 ?_
        refine j_iload (pc := 158) C d_Rules_value_158 0 rfl ?_
        refine j_iconst (pc := 160) C (v := 1) d_Rules_value_160 (by decide) ?_
        refine j_isub (pc := 161) C (v := nI ((pz - 1) - 1)) d_Rules_value_161 (pk_sub (a := (pz - 1)) (b := 1) (by omega)) ?_
        refine j_iald (pc := 162) C 2 rfl (v := zI a) (vp_in_nI (by omega) (by decide)) (by rw [nI_clamp (by omega), show ((pz - 1) - 1) = rs.length by omega]; exact hs_.2.1) d_Rules_value_162 ?_
        refine j_aload_n (pc := 163) C d_Rules_value_163 rfl 3 rfl ?_
        refine j_get (pc := 164) C gf_Rules_27 0 rfl rfl d_Rules_value_164 ?_
        refine j_iload (pc := 167) C d_Rules_value_167 0 rfl ?_
        refine j_iald (pc := 169) C 2 rfl (v := zI b) (vp_in_nI (by omega) (by decide)) (by rw [nI_clamp (by omega), show (pz - 1) = (a :: rs).length by rw [List.length_cons]; omega]; exact hs_.1) d_Rules_value_169 ?_
        refine j_callSi (pc := 170) C (c_xjoined_2 l D y a b (by omega) (by omega) (by omega) (by omega)) kw_Rules_50 ks_Rules_joined ⟨by decide, by decide⟩ ⟨by decide, by decide⟩ (wr := [(ad 3, .inr (6, [.int (d.1 11), .int (d.1 12), .ref (ad 20), .ref (ad 21), .ref (ad 22), .ref (ad 23), .ref (ad 24), .ref (ad 25)])), (ad 24, .inl (y 0, 1600, .inl (d.2 20))), (ad 25, .inl (y 0, 40, .inl wz))]) [] [0, 1, 2] rfl rfl (by decide) (by decide) (by decide) (As := [.int (-6), .int (zI a), .int (zI b)]) (rest := [.int (nI ((pz - 1) - 1)), .ref (ad 25)]) rfl (nb rfl) rfl d_Rules_value_170 (fun r17 _ hr17 => ?_)
        obtain rfl := hr17
        refine j_ws (ws' := [(ad 3, .inr (6, [.int (d.1 11), .int (d.1 12), .ref (ad 20), .ref (ad 21), .ref (ad 22), .ref (ad 23), .ref (ad 24), .ref (ad 25)])), (ad 24, .inl (y 0, 1600, .inl (d.2 20))), (ad 25, .inl (y 0, 40, .inl wz))]) rfl ?_
        refine j_iast (pc := 173) C 2 rfl (ws' := [(ad 3, .inr (6, [.int (d.1 11), .int (d.1 12), .ref (ad 20), .ref (ad 21), .ref (ad 22), .ref (ad 23), .ref (ad 24), .ref (ad 25)])), (ad 24, .inl (y 0, 1600, .inl (d.2 20))), (ad 25, .inl (y 0, 40, .inl (upd wz ((pz - 1) - 1) (zI (opE 2 a b)))))]) (vp_in_nI (by omega) (by decide)) (by rw [nI_clamp (by omega)]; first | done | rfl) d_Rules_value_173 ?_
        refine j_iinc (pc := 174) C (v := nI (iz + 1)) (lv' := [(7, .int (nI (iz + 1))), (6, .int (nI (pz - 1))), (8, .int (-6)), (0, .ref (ad 3)), (1, .int (nI qa)), (2, .int (nI qb)), (3, .int (nI dq)), (4, .int (nI lq)), (5, .int (nI wq))]) d_Rules_value_174 2 rfl (nI_add _ _) (by decide) rfl ?_
        refine j_goto (pc := 177) C (tgt := 10) d_Rules_value_177 (by decide) ?_
        refine j_locs (lv' := [(7, .int (nI (iz + 1))), (6, .int (nI (pz - 1))), (0, .ref (ad 3)), (1, .int (nI qa)), (2, .int (nI qb)), (3, .int (nI dq)), (4, .int (nI lq)), (5, .int (nI wq))]) [0, 1, 3, 4, 5, 6, 7, 8] rfl ?_
        exact ih14 ((iz + 1), (pz - 1), (upd wz ((pz - 1) - 1) (zI (opE 2 a b))), (opE 2 a b :: rs), (false :: rt)) ⟨(show qa ≤ (iz + 1) by omega), (show (iz + 1) ≤ qb by omega), (show (pz - 1) = (opE 2 a b :: rs).length by rw [List.length_cons]; omega), (stk_push (v := (opE 2 a b)) hs_.2.2 (by omega)), hr2, (show RV (false :: rt) (opE 2 a b :: rs) from hok), (evr_e he_ (by omega) hbl hcc (show (opE 2 a b :: rs) = evC dq lq wq 2 (b :: a :: rs) from rfl))⟩ (show qb - (iz + 1) < qb - iz by omega)
      · refine j_st (st' := [.int (-7)]) rfl ?_
        obtain ⟨b, rb, rfl, hbv, hvr⟩ := rv_1 hv_
        obtain ⟨a, rs, rfl, hav, hvs⟩ := rv_1 hvr
        simp only [List.length_cons] at hp_ hrl hln
        obtain ⟨a1, a2, _⟩ := id hav
        obtain ⟨b1_, b2_, _⟩ := id hbv
        refine j_istore (pc := 33) C (lv' := [(8, .int (-7)), (7, .int (nI iz)), (6, .int (nI pz)), (0, .ref (ad 3)), (1, .int (nI qa)), (2, .int (nI qb)), (3, .int (nI dq)), (4, .int (nI lq)), (5, .int (nI wq))]) d_Rules_value_33 (by decide) rfl ?_
        refine j_iload (pc := 35) C d_Rules_value_35 0 rfl ?_
        refine j_bipush (pc := 37) C (v := (-3)) d_Rules_value_37 (by decide) ?_
        refine j_icmp_ltT (pc := 39) C (tgt := 99) d_Rules_value_39 (by decide) (by decide) ?_
        refine j_iload (pc := 99) C d_Rules_value_99 0 rfl ?_
        refine j_bipush (pc := 101) C (v := (-4)) d_Rules_value_101 (by decide) ?_
        refine j_icmp_neT (pc := 103) C (tgt := 135) d_Rules_value_103 (by decide) (by decide) ?_
        refine j_iload (pc := 135) C d_Rules_value_135 2 rfl ?_
        refine j_iconst (pc := 137) C (v := 2) d_Rules_value_137 (by decide) ?_
        refine j_icmp_ltF (pc := 138) C (tgt := 174) d_Rules_value_138 (by decide) (show ¬ nI pz < nI 2 from nI_nlt (by omega) (by omega)) ?_
        refine j_iinc (pc := 141) C (v := nI (pz - 1)) (lv' := [(6, .int (nI (pz - 1))), (8, .int (-7)), (7, .int (nI iz)), (0, .ref (ad 3)), (1, .int (nI qa)), (2, .int (nI qb)), (3, .int (nI dq)), (4, .int (nI lq)), (5, .int (nI wq))]) d_Rules_value_141 2 rfl (nI_dn (by omega)) (by decide) rfl ?_
        refine j_aload_n (pc := 144) C d_Rules_value_144 rfl 3 rfl ?_
        refine j_get (pc := 145) C gf_Rules_27 0 rfl rfl d_Rules_value_145 ?_
        refine j_iload (pc := 148) C d_Rules_value_148 0 rfl ?_
        refine j_iconst (pc := 150) C (v := 1) d_Rules_value_150 (by decide) ?_
        refine j_isub (pc := 151) C (v := nI ((pz - 1) - 1)) d_Rules_value_151 (pk_sub (a := (pz - 1)) (b := 1) (by omega)) ?_
        refine j_iload (pc := 152) C d_Rules_value_152 1 rfl ?_
        refine j_aload_n (pc := 154) C d_Rules_value_154 rfl 3 rfl ?_
        refine j_get (pc := 155) C gf_Rules_27 0 rfl rfl d_Rules_value_155 ?_
        refine j_iload (pc := 158) C d_Rules_value_158 0 rfl ?_
        refine j_iconst (pc := 160) C (v := 1) d_Rules_value_160 (by decide) ?_
        refine j_isub (pc := 161) C (v := nI ((pz - 1) - 1)) d_Rules_value_161 (pk_sub (a := (pz - 1)) (b := 1) (by omega)) ?_
        refine j_iald (pc := 162) C 2 rfl (v := zI a) (vp_in_nI (by omega) (by decide)) (by rw [nI_clamp (by omega), show ((pz - 1) - 1) = rs.length by omega]; exact hs_.2.1) d_Rules_value_162 ?_
        refine j_aload_n (pc := 163) C d_Rules_value_163 rfl 3 rfl ?_
        refine j_get (pc := 164) C gf_Rules_27 0 rfl rfl d_Rules_value_164 ?_
        refine j_iload (pc := 167) C d_Rules_value_167 0 rfl ?_
        refine j_iald (pc := 169) C 2 rfl (v := zI b) (vp_in_nI (by omega) (by decide)) (by rw [nI_clamp (by omega), show (pz - 1) = (a :: rs).length by rw [List.length_cons]; omega]; exact hs_.1) d_Rules_value_169 ?_
        refine j_callSi (pc := 170) C (c_xjoined_3 l D y a b (by omega) (by omega) (by omega) (by omega)) kw_Rules_50 ks_Rules_joined ⟨by decide, by decide⟩ ⟨by decide, by decide⟩ (wr := [(ad 3, .inr (6, [.int (d.1 11), .int (d.1 12), .ref (ad 20), .ref (ad 21), .ref (ad 22), .ref (ad 23), .ref (ad 24), .ref (ad 25)])), (ad 24, .inl (y 0, 1600, .inl (d.2 20))), (ad 25, .inl (y 0, 40, .inl wz))]) [] [0, 1, 2] rfl rfl (by decide) (by decide) (by decide) (As := [.int (-7), .int (zI a), .int (zI b)]) (rest := [.int (nI ((pz - 1) - 1)), .ref (ad 25)]) rfl (nb rfl) rfl d_Rules_value_170 (fun r18 _ hr18 => ?_)
        obtain rfl := hr18
        refine j_ws (ws' := [(ad 3, .inr (6, [.int (d.1 11), .int (d.1 12), .ref (ad 20), .ref (ad 21), .ref (ad 22), .ref (ad 23), .ref (ad 24), .ref (ad 25)])), (ad 24, .inl (y 0, 1600, .inl (d.2 20))), (ad 25, .inl (y 0, 40, .inl wz))]) rfl ?_
        refine j_iast (pc := 173) C 2 rfl (ws' := [(ad 3, .inr (6, [.int (d.1 11), .int (d.1 12), .ref (ad 20), .ref (ad 21), .ref (ad 22), .ref (ad 23), .ref (ad 24), .ref (ad 25)])), (ad 24, .inl (y 0, 1600, .inl (d.2 20))), (ad 25, .inl (y 0, 40, .inl (upd wz ((pz - 1) - 1) (zI (opE 3 a b)))))]) (vp_in_nI (by omega) (by decide)) (by rw [nI_clamp (by omega)]; first | done | rfl) d_Rules_value_173 ?_
        refine j_iinc (pc := 174) C (v := nI (iz + 1)) (lv' := [(7, .int (nI (iz + 1))), (6, .int (nI (pz - 1))), (8, .int (-7)), (0, .ref (ad 3)), (1, .int (nI qa)), (2, .int (nI qb)), (3, .int (nI dq)), (4, .int (nI lq)), (5, .int (nI wq))]) d_Rules_value_174 2 rfl (nI_add _ _) (by decide) rfl ?_
        refine j_goto (pc := 177) C (tgt := 10) d_Rules_value_177 (by decide) ?_
        refine j_locs (lv' := [(7, .int (nI (iz + 1))), (6, .int (nI (pz - 1))), (0, .ref (ad 3)), (1, .int (nI qa)), (2, .int (nI qb)), (3, .int (nI dq)), (4, .int (nI lq)), (5, .int (nI wq))]) [0, 1, 3, 4, 5, 6, 7, 8] rfl ?_
        exact ih14 ((iz + 1), (pz - 1), (upd wz ((pz - 1) - 1) (zI (opE 3 a b))), (opE 3 a b :: rs), (false :: rt)) ⟨(show qa ≤ (iz + 1) by omega), (show (iz + 1) ≤ qb by omega), (show (pz - 1) = (opE 3 a b :: rs).length by rw [List.length_cons]; omega), (stk_push (v := (opE 3 a b)) hs_.2.2 (by omega)), hr2, (show RV (false :: rt) (opE 3 a b :: rs) from hok), (evr_e he_ (by omega) hbl hcc (show (opE 3 a b :: rs) = evC dq lq wq 3 (b :: a :: rs) from rfl))⟩ (show qb - (iz + 1) < qb - iz by omega)
      · refine j_st (st' := [.int (-8)]) rfl ?_
        obtain ⟨b, rb, rfl, hbv, hvr⟩ := rv_1 hv_
        obtain ⟨a, rs, rfl, hav, hvs⟩ := rv_1 hvr
        simp only [List.length_cons] at hp_ hrl hln
        obtain ⟨a1, a2, _⟩ := id hav
        obtain ⟨b1_, b2_, _⟩ := id hbv
        refine j_istore (pc := 33) C (lv' := [(8, .int (-8)), (7, .int (nI iz)), (6, .int (nI pz)), (0, .ref (ad 3)), (1, .int (nI qa)), (2, .int (nI qb)), (3, .int (nI dq)), (4, .int (nI lq)), (5, .int (nI wq))]) d_Rules_value_33 (by decide) rfl ?_
        refine j_iload (pc := 35) C d_Rules_value_35 0 rfl ?_
        refine j_bipush (pc := 37) C (v := (-3)) d_Rules_value_37 (by decide) ?_
        refine j_icmp_ltT (pc := 39) C (tgt := 99) d_Rules_value_39 (by decide) (by decide) ?_
        refine j_iload (pc := 99) C d_Rules_value_99 0 rfl ?_
        refine j_bipush (pc := 101) C (v := (-4)) d_Rules_value_101 (by decide) ?_
        refine j_icmp_neT (pc := 103) C (tgt := 135) d_Rules_value_103 (by decide) (by decide) ?_
        refine j_iload (pc := 135) C d_Rules_value_135 2 rfl ?_
        refine j_iconst (pc := 137) C (v := 2) d_Rules_value_137 (by decide) ?_
        refine j_icmp_ltF (pc := 138) C (tgt := 174) d_Rules_value_138 (by decide) (show ¬ nI pz < nI 2 from nI_nlt (by omega) (by omega)) ?_
        refine j_iinc (pc := 141) C (v := nI (pz - 1)) (lv' := [(6, .int (nI (pz - 1))), (8, .int (-8)), (7, .int (nI iz)), (0, .ref (ad 3)), (1, .int (nI qa)), (2, .int (nI qb)), (3, .int (nI dq)), (4, .int (nI lq)), (5, .int (nI wq))]) d_Rules_value_141 2 rfl (nI_dn (by omega)) (by decide) rfl ?_
        refine j_aload_n (pc := 144) C d_Rules_value_144 rfl 3 rfl ?_
        refine j_get (pc := 145) C gf_Rules_27 0 rfl rfl d_Rules_value_145 ?_
        refine j_iload (pc := 148) C d_Rules_value_148 0 rfl ?_
        refine j_iconst (pc := 150) C (v := 1) d_Rules_value_150 (by decide) ?_
        refine j_isub (pc := 151) C (v := nI ((pz - 1) - 1)) d_Rules_value_151 (pk_sub (a := (pz - 1)) (b := 1) (by omega)) ?_
        refine j_iload (pc := 152) C d_Rules_value_152 1 rfl ?_
        refine j_aload_n (pc := 154) C d_Rules_value_154 rfl 3 rfl ?_
        refine j_get (pc := 155) C gf_Rules_27 0 rfl rfl d_Rules_value_155 ?_
        refine j_iload (pc := 158) C d_Rules_value_158 0 rfl ?_
        refine j_iconst (pc := 160) C (v := 1) d_Rules_value_160 (by decide) ?_
        refine j_isub (pc := 161) C (v := nI ((pz - 1) - 1)) d_Rules_value_161 (pk_sub (a := (pz - 1)) (b := 1) (by omega)) ?_
        refine j_iald (pc := 162) C 2 rfl (v := zI a) (vp_in_nI (by omega) (by decide)) (by rw [nI_clamp (by omega), show ((pz - 1) - 1) = rs.length by omega]; exact hs_.2.1) d_Rules_value_162 ?_
        refine j_aload_n (pc := 163) C d_Rules_value_163 rfl 3 rfl ?_
        refine j_get (pc := 164) C gf_Rules_27 0 rfl rfl d_Rules_value_164 ?_
        refine j_iload (pc := 167) C d_Rules_value_167 0 rfl ?_
        refine j_iald (pc := 169) C 2 rfl (v := zI b) (vp_in_nI (by omega) (by decide)) (by rw [nI_clamp (by omega), show (pz - 1) = (a :: rs).length by rw [List.length_cons]; omega]; exact hs_.1) d_Rules_value_169 ?_
        refine j_callSi (pc := 170) C (c_xjoined_4 l D y a b (by omega) (by omega) (by omega) (by omega)) kw_Rules_50 ks_Rules_joined ⟨by decide, by decide⟩ ⟨by decide, by decide⟩ (wr := [(ad 3, .inr (6, [.int (d.1 11), .int (d.1 12), .ref (ad 20), .ref (ad 21), .ref (ad 22), .ref (ad 23), .ref (ad 24), .ref (ad 25)])), (ad 24, .inl (y 0, 1600, .inl (d.2 20))), (ad 25, .inl (y 0, 40, .inl wz))]) [] [0, 1, 2] rfl rfl (by decide) (by decide) (by decide) (As := [.int (-8), .int (zI a), .int (zI b)]) (rest := [.int (nI ((pz - 1) - 1)), .ref (ad 25)]) rfl (nb rfl) rfl d_Rules_value_170 (fun r19 _ hr19 => ?_)
        obtain rfl := hr19
        refine j_ws (ws' := [(ad 3, .inr (6, [.int (d.1 11), .int (d.1 12), .ref (ad 20), .ref (ad 21), .ref (ad 22), .ref (ad 23), .ref (ad 24), .ref (ad 25)])), (ad 24, .inl (y 0, 1600, .inl (d.2 20))), (ad 25, .inl (y 0, 40, .inl wz))]) rfl ?_
        refine j_iast (pc := 173) C 2 rfl (ws' := [(ad 3, .inr (6, [.int (d.1 11), .int (d.1 12), .ref (ad 20), .ref (ad 21), .ref (ad 22), .ref (ad 23), .ref (ad 24), .ref (ad 25)])), (ad 24, .inl (y 0, 1600, .inl (d.2 20))), (ad 25, .inl (y 0, 40, .inl (upd wz ((pz - 1) - 1) (zI (opE 4 a b)))))]) (vp_in_nI (by omega) (by decide)) (by rw [nI_clamp (by omega)]; first | done | rfl) d_Rules_value_173 ?_
        refine j_iinc (pc := 174) C (v := nI (iz + 1)) (lv' := [(7, .int (nI (iz + 1))), (6, .int (nI (pz - 1))), (8, .int (-8)), (0, .ref (ad 3)), (1, .int (nI qa)), (2, .int (nI qb)), (3, .int (nI dq)), (4, .int (nI lq)), (5, .int (nI wq))]) d_Rules_value_174 2 rfl (nI_add _ _) (by decide) rfl ?_
        refine j_goto (pc := 177) C (tgt := 10) d_Rules_value_177 (by decide) ?_
        refine j_locs (lv' := [(7, .int (nI (iz + 1))), (6, .int (nI (pz - 1))), (0, .ref (ad 3)), (1, .int (nI qa)), (2, .int (nI qb)), (3, .int (nI dq)), (4, .int (nI lq)), (5, .int (nI wq))]) [0, 1, 3, 4, 5, 6, 7, 8] rfl ?_
        exact ih14 ((iz + 1), (pz - 1), (upd wz ((pz - 1) - 1) (zI (opE 4 a b))), (opE 4 a b :: rs), (false :: rt)) ⟨(show qa ≤ (iz + 1) by omega), (show (iz + 1) ≤ qb by omega), (show (pz - 1) = (opE 4 a b :: rs).length by rw [List.length_cons]; omega), (stk_push (v := (opE 4 a b)) hs_.2.2 (by omega)), hr2, (show RV (false :: rt) (opE 4 a b :: rs) from hok), (evr_e he_ (by omega) hbl hcc (show (opE 4 a b :: rs) = evC dq lq wq 4 (b :: a :: rs) from rfl))⟩ (show qb - (iz + 1) < qb - iz by omega)
      · refine j_st (st' := [.int (-9)]) rfl ?_
        obtain ⟨b, rb, rfl, hbv, hvr⟩ := rv_1 hv_
        obtain ⟨a, rs, rfl, hav, hvs⟩ := rv_1 hvr
        simp only [List.length_cons] at hp_ hrl hln
        obtain ⟨a1, a2, _⟩ := id hav
        obtain ⟨b1_, b2_, _⟩ := id hbv
        refine j_istore (pc := 33) C (lv' := [(8, .int (-9)), (7, .int (nI iz)), (6, .int (nI pz)), (0, .ref (ad 3)), (1, .int (nI qa)), (2, .int (nI qb)), (3, .int (nI dq)), (4, .int (nI lq)), (5, .int (nI wq))]) d_Rules_value_33 (by decide) rfl ?_
        refine j_iload (pc := 35) C d_Rules_value_35 0 rfl ?_
        refine j_bipush (pc := 37) C (v := (-3)) d_Rules_value_37 (by decide) ?_
        refine j_icmp_ltT (pc := 39) C (tgt := 99) d_Rules_value_39 (by decide) (by decide) ?_
        refine j_iload (pc := 99) C d_Rules_value_99 0 rfl ?_
        refine j_bipush (pc := 101) C (v := (-4)) d_Rules_value_101 (by decide) ?_
        refine j_icmp_neT (pc := 103) C (tgt := 135) d_Rules_value_103 (by decide) (by decide) ?_
        refine j_iload (pc := 135) C d_Rules_value_135 2 rfl ?_
        refine j_iconst (pc := 137) C (v := 2) d_Rules_value_137 (by decide) ?_
        refine j_icmp_ltF (pc := 138) C (tgt := 174) d_Rules_value_138 (by decide) (show ¬ nI pz < nI 2 from nI_nlt (by omega) (by omega)) ?_
        refine j_iinc (pc := 141) C (v := nI (pz - 1)) (lv' := [(6, .int (nI (pz - 1))), (8, .int (-9)), (7, .int (nI iz)), (0, .ref (ad 3)), (1, .int (nI qa)), (2, .int (nI qb)), (3, .int (nI dq)), (4, .int (nI lq)), (5, .int (nI wq))]) d_Rules_value_141 2 rfl (nI_dn (by omega)) (by decide) rfl ?_
        refine j_aload_n (pc := 144) C d_Rules_value_144 rfl 3 rfl ?_
        refine j_get (pc := 145) C gf_Rules_27 0 rfl rfl d_Rules_value_145 ?_
        refine j_iload (pc := 148) C d_Rules_value_148 0 rfl ?_
        refine j_iconst (pc := 150) C (v := 1) d_Rules_value_150 (by decide) ?_
        refine j_isub (pc := 151) C (v := nI ((pz - 1) - 1)) d_Rules_value_151 (pk_sub (a := (pz - 1)) (b := 1) (by omega)) ?_
        refine j_iload (pc := 152) C d_Rules_value_152 1 rfl ?_
        refine j_aload_n (pc := 154) C d_Rules_value_154 rfl 3 rfl ?_
        refine j_get (pc := 155) C gf_Rules_27 0 rfl rfl d_Rules_value_155 ?_
        refine j_iload (pc := 158) C d_Rules_value_158 0 rfl ?_
        refine j_iconst (pc := 160) C (v := 1) d_Rules_value_160 (by decide) ?_
        refine j_isub (pc := 161) C (v := nI ((pz - 1) - 1)) d_Rules_value_161 (pk_sub (a := (pz - 1)) (b := 1) (by omega)) ?_
        refine j_iald (pc := 162) C 2 rfl (v := zI a) (vp_in_nI (by omega) (by decide)) (by rw [nI_clamp (by omega), show ((pz - 1) - 1) = rs.length by omega]; exact hs_.2.1) d_Rules_value_162 ?_
        refine j_aload_n (pc := 163) C d_Rules_value_163 rfl 3 rfl ?_
        refine j_get (pc := 164) C gf_Rules_27 0 rfl rfl d_Rules_value_164 ?_
        refine j_iload (pc := 167) C d_Rules_value_167 0 rfl ?_
        refine j_iald (pc := 169) C 2 rfl (v := zI b) (vp_in_nI (by omega) (by decide)) (by rw [nI_clamp (by omega), show (pz - 1) = (a :: rs).length by rw [List.length_cons]; omega]; exact hs_.1) d_Rules_value_169 ?_
        refine j_callSi (pc := 170) C (c_xjoined_5 l D y a b (by omega) (by omega) (by omega) (by omega)) kw_Rules_50 ks_Rules_joined ⟨by decide, by decide⟩ ⟨by decide, by decide⟩ (wr := [(ad 3, .inr (6, [.int (d.1 11), .int (d.1 12), .ref (ad 20), .ref (ad 21), .ref (ad 22), .ref (ad 23), .ref (ad 24), .ref (ad 25)])), (ad 24, .inl (y 0, 1600, .inl (d.2 20))), (ad 25, .inl (y 0, 40, .inl wz))]) [] [0, 1, 2] rfl rfl (by decide) (by decide) (by decide) (As := [.int (-9), .int (zI a), .int (zI b)]) (rest := [.int (nI ((pz - 1) - 1)), .ref (ad 25)]) rfl (nb rfl) rfl d_Rules_value_170 (fun r20 _ hr20 => ?_)
        obtain rfl := hr20
        refine j_ws (ws' := [(ad 3, .inr (6, [.int (d.1 11), .int (d.1 12), .ref (ad 20), .ref (ad 21), .ref (ad 22), .ref (ad 23), .ref (ad 24), .ref (ad 25)])), (ad 24, .inl (y 0, 1600, .inl (d.2 20))), (ad 25, .inl (y 0, 40, .inl wz))]) rfl ?_
        refine j_iast (pc := 173) C 2 rfl (ws' := [(ad 3, .inr (6, [.int (d.1 11), .int (d.1 12), .ref (ad 20), .ref (ad 21), .ref (ad 22), .ref (ad 23), .ref (ad 24), .ref (ad 25)])), (ad 24, .inl (y 0, 1600, .inl (d.2 20))), (ad 25, .inl (y 0, 40, .inl (upd wz ((pz - 1) - 1) (zI (opE 5 a b)))))]) (vp_in_nI (by omega) (by decide)) (by rw [nI_clamp (by omega)]; first | done | rfl) d_Rules_value_173 ?_
        refine j_iinc (pc := 174) C (v := nI (iz + 1)) (lv' := [(7, .int (nI (iz + 1))), (6, .int (nI (pz - 1))), (8, .int (-9)), (0, .ref (ad 3)), (1, .int (nI qa)), (2, .int (nI qb)), (3, .int (nI dq)), (4, .int (nI lq)), (5, .int (nI wq))]) d_Rules_value_174 2 rfl (nI_add _ _) (by decide) rfl ?_
        refine j_goto (pc := 177) C (tgt := 10) d_Rules_value_177 (by decide) ?_
        refine j_locs (lv' := [(7, .int (nI (iz + 1))), (6, .int (nI (pz - 1))), (0, .ref (ad 3)), (1, .int (nI qa)), (2, .int (nI qb)), (3, .int (nI dq)), (4, .int (nI lq)), (5, .int (nI wq))]) [0, 1, 3, 4, 5, 6, 7, 8] rfl ?_
        exact ih14 ((iz + 1), (pz - 1), (upd wz ((pz - 1) - 1) (zI (opE 5 a b))), (opE 5 a b :: rs), (false :: rt)) ⟨(show qa ≤ (iz + 1) by omega), (show (iz + 1) ≤ qb by omega), (show (pz - 1) = (opE 5 a b :: rs).length by rw [List.length_cons]; omega), (stk_push (v := (opE 5 a b)) hs_.2.2 (by omega)), hr2, (show RV (false :: rt) (opE 5 a b :: rs) from hok), (evr_e he_ (by omega) hbl hcc (show (opE 5 a b :: rs) = evC dq lq wq 5 (b :: a :: rs) from rfl))⟩ (show qb - (iz + 1) < qb - iz by omega)
      · refine j_st (st' := [.int (-10)]) rfl ?_
        obtain ⟨b, rb, rfl, hbv, hvr⟩ := rv_1 hv_
        obtain ⟨a, rs, rfl, hav, hvs⟩ := rv_1 hvr
        simp only [List.length_cons] at hp_ hrl hln
        obtain ⟨a1, a2, _⟩ := id hav
        obtain ⟨b1_, b2_, _⟩ := id hbv
        refine j_istore (pc := 33) C (lv' := [(8, .int (-10)), (7, .int (nI iz)), (6, .int (nI pz)), (0, .ref (ad 3)), (1, .int (nI qa)), (2, .int (nI qb)), (3, .int (nI dq)), (4, .int (nI lq)), (5, .int (nI wq))]) d_Rules_value_33 (by decide) rfl ?_
        refine j_iload (pc := 35) C d_Rules_value_35 0 rfl ?_
        refine j_bipush (pc := 37) C (v := (-3)) d_Rules_value_37 (by decide) ?_
        refine j_icmp_ltT (pc := 39) C (tgt := 99) d_Rules_value_39 (by decide) (by decide) ?_
        refine j_iload (pc := 99) C d_Rules_value_99 0 rfl ?_
        refine j_bipush (pc := 101) C (v := (-4)) d_Rules_value_101 (by decide) ?_
        refine j_icmp_neT (pc := 103) C (tgt := 135) d_Rules_value_103 (by decide) (by decide) ?_
        refine j_iload (pc := 135) C d_Rules_value_135 2 rfl ?_
        refine j_iconst (pc := 137) C (v := 2) d_Rules_value_137 (by decide) ?_
        refine j_icmp_ltF (pc := 138) C (tgt := 174) d_Rules_value_138 (by decide) (show ¬ nI pz < nI 2 from nI_nlt (by omega) (by omega)) ?_
        refine j_iinc (pc := 141) C (v := nI (pz - 1)) (lv' := [(6, .int (nI (pz - 1))), (8, .int (-10)), (7, .int (nI iz)), (0, .ref (ad 3)), (1, .int (nI qa)), (2, .int (nI qb)), (3, .int (nI dq)), (4, .int (nI lq)), (5, .int (nI wq))]) d_Rules_value_141 2 rfl (nI_dn (by omega)) (by decide) rfl ?_
        refine j_aload_n (pc := 144) C d_Rules_value_144 rfl 3 rfl ?_
        refine j_get (pc := 145) C gf_Rules_27 0 rfl rfl d_Rules_value_145 ?_
        refine j_iload (pc := 148) C d_Rules_value_148 0 rfl ?_
        refine j_iconst (pc := 150) C (v := 1) d_Rules_value_150 (by decide) ?_
        refine j_isub (pc := 151) C (v := nI ((pz - 1) - 1)) d_Rules_value_151 (pk_sub (a := (pz - 1)) (b := 1) (by omega)) ?_
        refine j_iload (pc := 152) C d_Rules_value_152 1 rfl ?_
        refine j_aload_n (pc := 154) C d_Rules_value_154 rfl 3 rfl ?_
        refine j_get (pc := 155) C gf_Rules_27 0 rfl rfl d_Rules_value_155 ?_
        refine j_iload (pc := 158) C d_Rules_value_158 0 rfl ?_
        refine j_iconst (pc := 160) C (v := 1) d_Rules_value_160 (by decide) ?_
        refine j_isub (pc := 161) C (v := nI ((pz - 1) - 1)) d_Rules_value_161 (pk_sub (a := (pz - 1)) (b := 1) (by omega)) ?_
        refine j_iald (pc := 162) C 2 rfl (v := zI a) (vp_in_nI (by omega) (by decide)) (by rw [nI_clamp (by omega), show ((pz - 1) - 1) = rs.length by omega]; exact hs_.2.1) d_Rules_value_162 ?_
        refine j_aload_n (pc := 163) C d_Rules_value_163 rfl 3 rfl ?_
        refine j_get (pc := 164) C gf_Rules_27 0 rfl rfl d_Rules_value_164 ?_
        refine j_iload (pc := 167) C d_Rules_value_167 0 rfl ?_
        refine j_iald (pc := 169) C 2 rfl (v := zI b) (vp_in_nI (by omega) (by decide)) (by rw [nI_clamp (by omega), show (pz - 1) = (a :: rs).length by rw [List.length_cons]; omega]; exact hs_.1) d_Rules_value_169 ?_
        refine j_callSi (pc := 170) C (c_xjoined_6 l D y a b (by omega) (by omega) (by omega) (by omega)) kw_Rules_50 ks_Rules_joined ⟨by decide, by decide⟩ ⟨by decide, by decide⟩ (wr := [(ad 3, .inr (6, [.int (d.1 11), .int (d.1 12), .ref (ad 20), .ref (ad 21), .ref (ad 22), .ref (ad 23), .ref (ad 24), .ref (ad 25)])), (ad 24, .inl (y 0, 1600, .inl (d.2 20))), (ad 25, .inl (y 0, 40, .inl wz))]) [] [0, 1, 2] rfl rfl (by decide) (by decide) (by decide) (As := [.int (-10), .int (zI a), .int (zI b)]) (rest := [.int (nI ((pz - 1) - 1)), .ref (ad 25)]) rfl (nb rfl) rfl d_Rules_value_170 (fun r21 _ hr21 => ?_)
        obtain rfl := hr21
        refine j_ws (ws' := [(ad 3, .inr (6, [.int (d.1 11), .int (d.1 12), .ref (ad 20), .ref (ad 21), .ref (ad 22), .ref (ad 23), .ref (ad 24), .ref (ad 25)])), (ad 24, .inl (y 0, 1600, .inl (d.2 20))), (ad 25, .inl (y 0, 40, .inl wz))]) rfl ?_
        refine j_iast (pc := 173) C 2 rfl (ws' := [(ad 3, .inr (6, [.int (d.1 11), .int (d.1 12), .ref (ad 20), .ref (ad 21), .ref (ad 22), .ref (ad 23), .ref (ad 24), .ref (ad 25)])), (ad 24, .inl (y 0, 1600, .inl (d.2 20))), (ad 25, .inl (y 0, 40, .inl (upd wz ((pz - 1) - 1) (zI (opE 6 a b)))))]) (vp_in_nI (by omega) (by decide)) (by rw [nI_clamp (by omega)]; first | done | rfl) d_Rules_value_173 ?_
        refine j_iinc (pc := 174) C (v := nI (iz + 1)) (lv' := [(7, .int (nI (iz + 1))), (6, .int (nI (pz - 1))), (8, .int (-10)), (0, .ref (ad 3)), (1, .int (nI qa)), (2, .int (nI qb)), (3, .int (nI dq)), (4, .int (nI lq)), (5, .int (nI wq))]) d_Rules_value_174 2 rfl (nI_add _ _) (by decide) rfl ?_
        refine j_goto (pc := 177) C (tgt := 10) d_Rules_value_177 (by decide) ?_
        refine j_locs (lv' := [(7, .int (nI (iz + 1))), (6, .int (nI (pz - 1))), (0, .ref (ad 3)), (1, .int (nI qa)), (2, .int (nI qb)), (3, .int (nI dq)), (4, .int (nI lq)), (5, .int (nI wq))]) [0, 1, 3, 4, 5, 6, 7, 8] rfl ?_
        exact ih14 ((iz + 1), (pz - 1), (upd wz ((pz - 1) - 1) (zI (opE 6 a b))), (opE 6 a b :: rs), (false :: rt)) ⟨(show qa ≤ (iz + 1) by omega), (show (iz + 1) ≤ qb by omega), (show (pz - 1) = (opE 6 a b :: rs).length by rw [List.length_cons]; omega), (stk_push (v := (opE 6 a b)) hs_.2.2 (by omega)), hr2, (show RV (false :: rt) (opE 6 a b :: rs) from hok), (evr_e he_ (by omega) hbl hcc (show (opE 6 a b :: rs) = evC dq lq wq 6 (b :: a :: rs) from rfl))⟩ (show qb - (iz + 1) < qb - iz by omega)
    · have bcs : cc = 11 ∨ cc = 12 ∨ cc = 13 := by omega
      rcases bcs with rfl | rfl | rfl
      · refine j_st (st' := [.int (-11)]) rfl ?_
        obtain ⟨b, rb, rfl, hbv, hvr⟩ := rv_1 hv_
        obtain ⟨a, rs, rfl, hav, hvs⟩ := rv_1 hvr
        simp only [List.length_cons] at hp_ hrl hln
        obtain ⟨a1, a2, _⟩ := id hav
        obtain ⟨b1_, b2_, _⟩ := id hbv
        refine j_istore (pc := 33) C (lv' := [(8, .int (-11)), (7, .int (nI iz)), (6, .int (nI pz)), (0, .ref (ad 3)), (1, .int (nI qa)), (2, .int (nI qb)), (3, .int (nI dq)), (4, .int (nI lq)), (5, .int (nI wq))]) d_Rules_value_33 (by decide) rfl ?_
        refine j_iload (pc := 35) C d_Rules_value_35 0 rfl ?_
        refine j_bipush (pc := 37) C (v := (-3)) d_Rules_value_37 (by decide) ?_
        refine j_icmp_ltT (pc := 39) C (tgt := 99) d_Rules_value_39 (by decide) (by decide) ?_
        refine j_iload (pc := 99) C d_Rules_value_99 0 rfl ?_
        refine j_bipush (pc := 101) C (v := (-4)) d_Rules_value_101 (by decide) ?_
        refine j_icmp_neT (pc := 103) C (tgt := 135) d_Rules_value_103 (by decide) (by decide) ?_
        refine j_iload (pc := 135) C d_Rules_value_135 2 rfl ?_
        refine j_iconst (pc := 137) C (v := 2) d_Rules_value_137 (by decide) ?_
        refine j_icmp_ltF (pc := 138) C (tgt := 174) d_Rules_value_138 (by decide) (show ¬ nI pz < nI 2 from nI_nlt (by omega) (by omega)) ?_
        refine j_iinc (pc := 141) C (v := nI (pz - 1)) (lv' := [(6, .int (nI (pz - 1))), (8, .int (-11)), (7, .int (nI iz)), (0, .ref (ad 3)), (1, .int (nI qa)), (2, .int (nI qb)), (3, .int (nI dq)), (4, .int (nI lq)), (5, .int (nI wq))]) d_Rules_value_141 2 rfl (nI_dn (by omega)) (by decide) rfl ?_
        refine j_aload_n (pc := 144) C d_Rules_value_144 rfl 3 rfl ?_
        refine j_get (pc := 145) C gf_Rules_27 0 rfl rfl d_Rules_value_145 ?_
        refine j_iload (pc := 148) C d_Rules_value_148 0 rfl ?_
        refine j_iconst (pc := 150) C (v := 1) d_Rules_value_150 (by decide) ?_
        refine j_isub (pc := 151) C (v := nI ((pz - 1) - 1)) d_Rules_value_151 (pk_sub (a := (pz - 1)) (b := 1) (by omega)) ?_
        refine j_iload (pc := 152) C d_Rules_value_152 1 rfl ?_
        refine j_aload_n (pc := 154) C d_Rules_value_154 rfl 3 rfl ?_
        refine j_get (pc := 155) C gf_Rules_27 0 rfl rfl d_Rules_value_155 ?_
        refine j_iload (pc := 158) C d_Rules_value_158 0 rfl ?_
        refine j_iconst (pc := 160) C (v := 1) d_Rules_value_160 (by decide) ?_
        refine j_isub (pc := 161) C (v := nI ((pz - 1) - 1)) d_Rules_value_161 (pk_sub (a := (pz - 1)) (b := 1) (by omega)) ?_
        refine j_iald (pc := 162) C 2 rfl (v := zI a) (vp_in_nI (by omega) (by decide)) (by rw [nI_clamp (by omega), show ((pz - 1) - 1) = rs.length by omega]; exact hs_.2.1) d_Rules_value_162 ?_
        refine j_aload_n (pc := 163) C d_Rules_value_163 rfl 3 rfl ?_
        refine j_get (pc := 164) C gf_Rules_27 0 rfl rfl d_Rules_value_164 ?_
        refine j_iload (pc := 167) C d_Rules_value_167 0 rfl ?_
        refine j_iald (pc := 169) C 2 rfl (v := zI b) (vp_in_nI (by omega) (by decide)) (by rw [nI_clamp (by omega), show (pz - 1) = (a :: rs).length by rw [List.length_cons]; omega]; exact hs_.1) d_Rules_value_169 ?_
        refine j_callSi (pc := 170) C (c_xjoined_11 l D y a b (by omega) (by omega) (by omega) (by omega)) kw_Rules_50 ks_Rules_joined ⟨by decide, by decide⟩ ⟨by decide, by decide⟩ (wr := [(ad 3, .inr (6, [.int (d.1 11), .int (d.1 12), .ref (ad 20), .ref (ad 21), .ref (ad 22), .ref (ad 23), .ref (ad 24), .ref (ad 25)])), (ad 24, .inl (y 0, 1600, .inl (d.2 20))), (ad 25, .inl (y 0, 40, .inl wz))]) [] [0, 1, 2] rfl rfl (by decide) (by decide) (by decide) (As := [.int (-11), .int (zI a), .int (zI b)]) (rest := [.int (nI ((pz - 1) - 1)), .ref (ad 25)]) rfl (nb rfl) rfl d_Rules_value_170 (fun r22 _ hr22 => ?_)
        obtain rfl := hr22
        refine j_ws (ws' := [(ad 3, .inr (6, [.int (d.1 11), .int (d.1 12), .ref (ad 20), .ref (ad 21), .ref (ad 22), .ref (ad 23), .ref (ad 24), .ref (ad 25)])), (ad 24, .inl (y 0, 1600, .inl (d.2 20))), (ad 25, .inl (y 0, 40, .inl wz))]) rfl ?_
        refine j_iast (pc := 173) C 2 rfl (ws' := [(ad 3, .inr (6, [.int (d.1 11), .int (d.1 12), .ref (ad 20), .ref (ad 21), .ref (ad 22), .ref (ad 23), .ref (ad 24), .ref (ad 25)])), (ad 24, .inl (y 0, 1600, .inl (d.2 20))), (ad 25, .inl (y 0, 40, .inl (upd wz ((pz - 1) - 1) (zI (opE 11 a b)))))]) (vp_in_nI (by omega) (by decide)) (by rw [nI_clamp (by omega)]; first | done | rfl) d_Rules_value_173 ?_
        refine j_iinc (pc := 174) C (v := nI (iz + 1)) (lv' := [(7, .int (nI (iz + 1))), (6, .int (nI (pz - 1))), (8, .int (-11)), (0, .ref (ad 3)), (1, .int (nI qa)), (2, .int (nI qb)), (3, .int (nI dq)), (4, .int (nI lq)), (5, .int (nI wq))]) d_Rules_value_174 2 rfl (nI_add _ _) (by decide) rfl ?_
        refine j_goto (pc := 177) C (tgt := 10) d_Rules_value_177 (by decide) ?_
        refine j_locs (lv' := [(7, .int (nI (iz + 1))), (6, .int (nI (pz - 1))), (0, .ref (ad 3)), (1, .int (nI qa)), (2, .int (nI qb)), (3, .int (nI dq)), (4, .int (nI lq)), (5, .int (nI wq))]) [0, 1, 3, 4, 5, 6, 7, 8] rfl ?_
        exact ih14 ((iz + 1), (pz - 1), (upd wz ((pz - 1) - 1) (zI (opE 11 a b))), (opE 11 a b :: rs), (true :: rt)) ⟨(show qa ≤ (iz + 1) by omega), (show (iz + 1) ≤ qb by omega), (show (pz - 1) = (opE 11 a b :: rs).length by rw [List.length_cons]; omega), (stk_push (v := (opE 11 a b)) hs_.2.2 (by omega)), hr2, (show RV (true :: rt) (opE 11 a b :: rs) from hok), (evr_e he_ (by omega) hbl hcc (show (opE 11 a b :: rs) = evC dq lq wq 11 (b :: a :: rs) from rfl))⟩ (show qb - (iz + 1) < qb - iz by omega)
      · refine j_st (st' := [.int (-12)]) rfl ?_
        obtain ⟨b, rb, rfl, hbv, hvr⟩ := rv_1 hv_
        obtain ⟨a, rs, rfl, hav, hvs⟩ := rv_1 hvr
        simp only [List.length_cons] at hp_ hrl hln
        obtain ⟨a1, a2, _⟩ := id hav
        obtain ⟨b1_, b2_, _⟩ := id hbv
        refine j_istore (pc := 33) C (lv' := [(8, .int (-12)), (7, .int (nI iz)), (6, .int (nI pz)), (0, .ref (ad 3)), (1, .int (nI qa)), (2, .int (nI qb)), (3, .int (nI dq)), (4, .int (nI lq)), (5, .int (nI wq))]) d_Rules_value_33 (by decide) rfl ?_
        refine j_iload (pc := 35) C d_Rules_value_35 0 rfl ?_
        refine j_bipush (pc := 37) C (v := (-3)) d_Rules_value_37 (by decide) ?_
        refine j_icmp_ltT (pc := 39) C (tgt := 99) d_Rules_value_39 (by decide) (by decide) ?_
        refine j_iload (pc := 99) C d_Rules_value_99 0 rfl ?_
        refine j_bipush (pc := 101) C (v := (-4)) d_Rules_value_101 (by decide) ?_
        refine j_icmp_neT (pc := 103) C (tgt := 135) d_Rules_value_103 (by decide) (by decide) ?_
        refine j_iload (pc := 135) C d_Rules_value_135 2 rfl ?_
        refine j_iconst (pc := 137) C (v := 2) d_Rules_value_137 (by decide) ?_
        refine j_icmp_ltF (pc := 138) C (tgt := 174) d_Rules_value_138 (by decide) (show ¬ nI pz < nI 2 from nI_nlt (by omega) (by omega)) ?_
        refine j_iinc (pc := 141) C (v := nI (pz - 1)) (lv' := [(6, .int (nI (pz - 1))), (8, .int (-12)), (7, .int (nI iz)), (0, .ref (ad 3)), (1, .int (nI qa)), (2, .int (nI qb)), (3, .int (nI dq)), (4, .int (nI lq)), (5, .int (nI wq))]) d_Rules_value_141 2 rfl (nI_dn (by omega)) (by decide) rfl ?_
        refine j_aload_n (pc := 144) C d_Rules_value_144 rfl 3 rfl ?_
        refine j_get (pc := 145) C gf_Rules_27 0 rfl rfl d_Rules_value_145 ?_
        refine j_iload (pc := 148) C d_Rules_value_148 0 rfl ?_
        refine j_iconst (pc := 150) C (v := 1) d_Rules_value_150 (by decide) ?_
        refine j_isub (pc := 151) C (v := nI ((pz - 1) - 1)) d_Rules_value_151 (pk_sub (a := (pz - 1)) (b := 1) (by omega)) ?_
        refine j_iload (pc := 152) C d_Rules_value_152 1 rfl ?_
        refine j_aload_n (pc := 154) C d_Rules_value_154 rfl 3 rfl ?_
        refine j_get (pc := 155) C gf_Rules_27 0 rfl rfl d_Rules_value_155 ?_
        refine j_iload (pc := 158) C d_Rules_value_158 0 rfl ?_
        refine j_iconst (pc := 160) C (v := 1) d_Rules_value_160 (by decide) ?_
        refine j_isub (pc := 161) C (v := nI ((pz - 1) - 1)) d_Rules_value_161 (pk_sub (a := (pz - 1)) (b := 1) (by omega)) ?_
        refine j_iald (pc := 162) C 2 rfl (v := zI a) (vp_in_nI (by omega) (by decide)) (by rw [nI_clamp (by omega), show ((pz - 1) - 1) = rs.length by omega]; exact hs_.2.1) d_Rules_value_162 ?_
        refine j_aload_n (pc := 163) C d_Rules_value_163 rfl 3 rfl ?_
        refine j_get (pc := 164) C gf_Rules_27 0 rfl rfl d_Rules_value_164 ?_
        refine j_iload (pc := 167) C d_Rules_value_167 0 rfl ?_
        refine j_iald (pc := 169) C 2 rfl (v := zI b) (vp_in_nI (by omega) (by decide)) (by rw [nI_clamp (by omega), show (pz - 1) = (a :: rs).length by rw [List.length_cons]; omega]; exact hs_.1) d_Rules_value_169 ?_
        refine j_callSi (pc := 170) C (c_xjoined_12 l D y a b (by omega) (by omega) (by omega) (by omega)) kw_Rules_50 ks_Rules_joined ⟨by decide, by decide⟩ ⟨by decide, by decide⟩ (wr := [(ad 3, .inr (6, [.int (d.1 11), .int (d.1 12), .ref (ad 20), .ref (ad 21), .ref (ad 22), .ref (ad 23), .ref (ad 24), .ref (ad 25)])), (ad 24, .inl (y 0, 1600, .inl (d.2 20))), (ad 25, .inl (y 0, 40, .inl wz))]) [] [0, 1, 2] rfl rfl (by decide) (by decide) (by decide) (As := [.int (-12), .int (zI a), .int (zI b)]) (rest := [.int (nI ((pz - 1) - 1)), .ref (ad 25)]) rfl (nb rfl) rfl d_Rules_value_170 (fun r23 _ hr23 => ?_)
        obtain rfl := hr23
        refine j_ws (ws' := [(ad 3, .inr (6, [.int (d.1 11), .int (d.1 12), .ref (ad 20), .ref (ad 21), .ref (ad 22), .ref (ad 23), .ref (ad 24), .ref (ad 25)])), (ad 24, .inl (y 0, 1600, .inl (d.2 20))), (ad 25, .inl (y 0, 40, .inl wz))]) rfl ?_
        refine j_iast (pc := 173) C 2 rfl (ws' := [(ad 3, .inr (6, [.int (d.1 11), .int (d.1 12), .ref (ad 20), .ref (ad 21), .ref (ad 22), .ref (ad 23), .ref (ad 24), .ref (ad 25)])), (ad 24, .inl (y 0, 1600, .inl (d.2 20))), (ad 25, .inl (y 0, 40, .inl (upd wz ((pz - 1) - 1) (zI (opE 12 a b)))))]) (vp_in_nI (by omega) (by decide)) (by rw [nI_clamp (by omega)]; first | done | rfl) d_Rules_value_173 ?_
        refine j_iinc (pc := 174) C (v := nI (iz + 1)) (lv' := [(7, .int (nI (iz + 1))), (6, .int (nI (pz - 1))), (8, .int (-12)), (0, .ref (ad 3)), (1, .int (nI qa)), (2, .int (nI qb)), (3, .int (nI dq)), (4, .int (nI lq)), (5, .int (nI wq))]) d_Rules_value_174 2 rfl (nI_add _ _) (by decide) rfl ?_
        refine j_goto (pc := 177) C (tgt := 10) d_Rules_value_177 (by decide) ?_
        refine j_locs (lv' := [(7, .int (nI (iz + 1))), (6, .int (nI (pz - 1))), (0, .ref (ad 3)), (1, .int (nI qa)), (2, .int (nI qb)), (3, .int (nI dq)), (4, .int (nI lq)), (5, .int (nI wq))]) [0, 1, 3, 4, 5, 6, 7, 8] rfl ?_
        exact ih14 ((iz + 1), (pz - 1), (upd wz ((pz - 1) - 1) (zI (opE 12 a b))), (opE 12 a b :: rs), (true :: rt)) ⟨(show qa ≤ (iz + 1) by omega), (show (iz + 1) ≤ qb by omega), (show (pz - 1) = (opE 12 a b :: rs).length by rw [List.length_cons]; omega), (stk_push (v := (opE 12 a b)) hs_.2.2 (by omega)), hr2, (show RV (true :: rt) (opE 12 a b :: rs) from hok), (evr_e he_ (by omega) hbl hcc (show (opE 12 a b :: rs) = evC dq lq wq 12 (b :: a :: rs) from rfl))⟩ (show qb - (iz + 1) < qb - iz by omega)
      · refine j_st (st' := [.int (-13)]) rfl ?_
        obtain ⟨b, rb, rfl, hbv, hvr⟩ := rv_1 hv_
        obtain ⟨a, rs, rfl, hav, hvs⟩ := rv_1 hvr
        simp only [List.length_cons] at hp_ hrl hln
        obtain ⟨a1, a2, _⟩ := id hav
        obtain ⟨b1_, b2_, _⟩ := id hbv
        refine j_istore (pc := 33) C (lv' := [(8, .int (-13)), (7, .int (nI iz)), (6, .int (nI pz)), (0, .ref (ad 3)), (1, .int (nI qa)), (2, .int (nI qb)), (3, .int (nI dq)), (4, .int (nI lq)), (5, .int (nI wq))]) d_Rules_value_33 (by decide) rfl ?_
        refine j_iload (pc := 35) C d_Rules_value_35 0 rfl ?_
        refine j_bipush (pc := 37) C (v := (-3)) d_Rules_value_37 (by decide) ?_
        refine j_icmp_ltT (pc := 39) C (tgt := 99) d_Rules_value_39 (by decide) (by decide) ?_
        refine j_iload (pc := 99) C d_Rules_value_99 0 rfl ?_
        refine j_bipush (pc := 101) C (v := (-4)) d_Rules_value_101 (by decide) ?_
        refine j_icmp_neT (pc := 103) C (tgt := 135) d_Rules_value_103 (by decide) (by decide) ?_
        refine j_iload (pc := 135) C d_Rules_value_135 2 rfl ?_
        refine j_iconst (pc := 137) C (v := 2) d_Rules_value_137 (by decide) ?_
        refine j_icmp_ltF (pc := 138) C (tgt := 174) d_Rules_value_138 (by decide) (show ¬ nI pz < nI 2 from nI_nlt (by omega) (by omega)) ?_
        refine j_iinc (pc := 141) C (v := nI (pz - 1)) (lv' := [(6, .int (nI (pz - 1))), (8, .int (-13)), (7, .int (nI iz)), (0, .ref (ad 3)), (1, .int (nI qa)), (2, .int (nI qb)), (3, .int (nI dq)), (4, .int (nI lq)), (5, .int (nI wq))]) d_Rules_value_141 2 rfl (nI_dn (by omega)) (by decide) rfl ?_
        refine j_aload_n (pc := 144) C d_Rules_value_144 rfl 3 rfl ?_
        refine j_get (pc := 145) C gf_Rules_27 0 rfl rfl d_Rules_value_145 ?_
        refine j_iload (pc := 148) C d_Rules_value_148 0 rfl ?_
        refine j_iconst (pc := 150) C (v := 1) d_Rules_value_150 (by decide) ?_
        refine j_isub (pc := 151) C (v := nI ((pz - 1) - 1)) d_Rules_value_151 (pk_sub (a := (pz - 1)) (b := 1) (by omega)) ?_
        refine j_iload (pc := 152) C d_Rules_value_152 1 rfl ?_
        refine j_aload_n (pc := 154) C d_Rules_value_154 rfl 3 rfl ?_
        refine j_get (pc := 155) C gf_Rules_27 0 rfl rfl d_Rules_value_155 ?_
        refine j_iload (pc := 158) C d_Rules_value_158 0 rfl ?_
        refine j_iconst (pc := 160) C (v := 1) d_Rules_value_160 (by decide) ?_
        refine j_isub (pc := 161) C (v := nI ((pz - 1) - 1)) d_Rules_value_161 (pk_sub (a := (pz - 1)) (b := 1) (by omega)) ?_
        refine j_iald (pc := 162) C 2 rfl (v := zI a) (vp_in_nI (by omega) (by decide)) (by rw [nI_clamp (by omega), show ((pz - 1) - 1) = rs.length by omega]; exact hs_.2.1) d_Rules_value_162 ?_
        refine j_aload_n (pc := 163) C d_Rules_value_163 rfl 3 rfl ?_
        refine j_get (pc := 164) C gf_Rules_27 0 rfl rfl d_Rules_value_164 ?_
        refine j_iload (pc := 167) C d_Rules_value_167 0 rfl ?_
        refine j_iald (pc := 169) C 2 rfl (v := zI b) (vp_in_nI (by omega) (by decide)) (by rw [nI_clamp (by omega), show (pz - 1) = (a :: rs).length by rw [List.length_cons]; omega]; exact hs_.1) d_Rules_value_169 ?_
        refine j_callSi (pc := 170) C (c_xjoined_13 l D y a b (by omega) (by omega) (by omega) (by omega)) kw_Rules_50 ks_Rules_joined ⟨by decide, by decide⟩ ⟨by decide, by decide⟩ (wr := [(ad 3, .inr (6, [.int (d.1 11), .int (d.1 12), .ref (ad 20), .ref (ad 21), .ref (ad 22), .ref (ad 23), .ref (ad 24), .ref (ad 25)])), (ad 24, .inl (y 0, 1600, .inl (d.2 20))), (ad 25, .inl (y 0, 40, .inl wz))]) [] [0, 1, 2] rfl rfl (by decide) (by decide) (by decide) (As := [.int (-13), .int (zI a), .int (zI b)]) (rest := [.int (nI ((pz - 1) - 1)), .ref (ad 25)]) rfl (nb rfl) rfl d_Rules_value_170 (fun r24 _ hr24 => ?_)
        obtain rfl := hr24
        refine j_ws (ws' := [(ad 3, .inr (6, [.int (d.1 11), .int (d.1 12), .ref (ad 20), .ref (ad 21), .ref (ad 22), .ref (ad 23), .ref (ad 24), .ref (ad 25)])), (ad 24, .inl (y 0, 1600, .inl (d.2 20))), (ad 25, .inl (y 0, 40, .inl wz))]) rfl ?_
        refine j_iast (pc := 173) C 2 rfl (ws' := [(ad 3, .inr (6, [.int (d.1 11), .int (d.1 12), .ref (ad 20), .ref (ad 21), .ref (ad 22), .ref (ad 23), .ref (ad 24), .ref (ad 25)])), (ad 24, .inl (y 0, 1600, .inl (d.2 20))), (ad 25, .inl (y 0, 40, .inl (upd wz ((pz - 1) - 1) (zI (opE 13 a b)))))]) (vp_in_nI (by omega) (by decide)) (by rw [nI_clamp (by omega)]; first | done | rfl) d_Rules_value_173 ?_
        refine j_iinc (pc := 174) C (v := nI (iz + 1)) (lv' := [(7, .int (nI (iz + 1))), (6, .int (nI (pz - 1))), (8, .int (-13)), (0, .ref (ad 3)), (1, .int (nI qa)), (2, .int (nI qb)), (3, .int (nI dq)), (4, .int (nI lq)), (5, .int (nI wq))]) d_Rules_value_174 2 rfl (nI_add _ _) (by decide) rfl ?_
        refine j_goto (pc := 177) C (tgt := 10) d_Rules_value_177 (by decide) ?_
        refine j_locs (lv' := [(7, .int (nI (iz + 1))), (6, .int (nI (pz - 1))), (0, .ref (ad 3)), (1, .int (nI qa)), (2, .int (nI qb)), (3, .int (nI dq)), (4, .int (nI lq)), (5, .int (nI wq))]) [0, 1, 3, 4, 5, 6, 7, 8] rfl ?_
        exact ih14 ((iz + 1), (pz - 1), (upd wz ((pz - 1) - 1) (zI (opE 13 a b))), (opE 13 a b :: rs), (true :: rt)) ⟨(show qa ≤ (iz + 1) by omega), (show (iz + 1) ≤ qb by omega), (show (pz - 1) = (opE 13 a b :: rs).length by rw [List.length_cons]; omega), (stk_push (v := (opE 13 a b)) hs_.2.2 (by omega)), hr2, (show RV (true :: rt) (opE 13 a b :: rs) from hok), (evr_e he_ (by omega) hbl hcc (show (opE 13 a b :: rs) = evC dq lq wq 13 (b :: a :: rs) from rfl))⟩ (show qb - (iz + 1) < qb - iz by omega)
    · have bcs : cc = 14 ∨ cc = 15 := by omega
      rcases bcs with rfl | rfl
      · refine j_st (st' := [.int (-14)]) rfl ?_
        obtain ⟨b, rb, rfl, hbv, hvr⟩ := rv_1 hv_
        obtain ⟨a, rs, rfl, hav, hvs⟩ := rv_1 hvr
        simp only [List.length_cons] at hp_ hrl hln
        obtain ⟨a1, a2, _⟩ := id hav
        obtain ⟨b1_, b2_, _⟩ := id hbv
        refine j_istore (pc := 33) C (lv' := [(8, .int (-14)), (7, .int (nI iz)), (6, .int (nI pz)), (0, .ref (ad 3)), (1, .int (nI qa)), (2, .int (nI qb)), (3, .int (nI dq)), (4, .int (nI lq)), (5, .int (nI wq))]) d_Rules_value_33 (by decide) rfl ?_
        refine j_iload (pc := 35) C d_Rules_value_35 0 rfl ?_
        refine j_bipush (pc := 37) C (v := (-3)) d_Rules_value_37 (by decide) ?_
        refine j_icmp_ltT (pc := 39) C (tgt := 99) d_Rules_value_39 (by decide) (by decide) ?_
        refine j_iload (pc := 99) C d_Rules_value_99 0 rfl ?_
        refine j_bipush (pc := 101) C (v := (-4)) d_Rules_value_101 (by decide) ?_
        refine j_icmp_neT (pc := 103) C (tgt := 135) d_Rules_value_103 (by decide) (by decide) ?_
        refine j_iload (pc := 135) C d_Rules_value_135 2 rfl ?_
        refine j_iconst (pc := 137) C (v := 2) d_Rules_value_137 (by decide) ?_
        refine j_icmp_ltF (pc := 138) C (tgt := 174) d_Rules_value_138 (by decide) (show ¬ nI pz < nI 2 from nI_nlt (by omega) (by omega)) ?_
        refine j_iinc (pc := 141) C (v := nI (pz - 1)) (lv' := [(6, .int (nI (pz - 1))), (8, .int (-14)), (7, .int (nI iz)), (0, .ref (ad 3)), (1, .int (nI qa)), (2, .int (nI qb)), (3, .int (nI dq)), (4, .int (nI lq)), (5, .int (nI wq))]) d_Rules_value_141 2 rfl (nI_dn (by omega)) (by decide) rfl ?_
        refine j_aload_n (pc := 144) C d_Rules_value_144 rfl 3 rfl ?_
        refine j_get (pc := 145) C gf_Rules_27 0 rfl rfl d_Rules_value_145 ?_
        refine j_iload (pc := 148) C d_Rules_value_148 0 rfl ?_
        refine j_iconst (pc := 150) C (v := 1) d_Rules_value_150 (by decide) ?_
        refine j_isub (pc := 151) C (v := nI ((pz - 1) - 1)) d_Rules_value_151 (pk_sub (a := (pz - 1)) (b := 1) (by omega)) ?_
        refine j_iload (pc := 152) C d_Rules_value_152 1 rfl ?_
        refine j_aload_n (pc := 154) C d_Rules_value_154 rfl 3 rfl ?_
        refine j_get (pc := 155) C gf_Rules_27 0 rfl rfl d_Rules_value_155 ?_
        refine j_iload (pc := 158) C d_Rules_value_158 0 rfl ?_
        refine j_iconst (pc := 160) C (v := 1) d_Rules_value_160 (by decide) ?_
        refine j_isub (pc := 161) C (v := nI ((pz - 1) - 1)) d_Rules_value_161 (pk_sub (a := (pz - 1)) (b := 1) (by omega)) ?_
        refine j_iald (pc := 162) C 2 rfl (v := zI a) (vp_in_nI (by omega) (by decide)) (by rw [nI_clamp (by omega), show ((pz - 1) - 1) = rs.length by omega]; exact hs_.2.1) d_Rules_value_162 ?_
        refine j_aload_n (pc := 163) C d_Rules_value_163 rfl 3 rfl ?_
        refine j_get (pc := 164) C gf_Rules_27 0 rfl rfl d_Rules_value_164 ?_
        refine j_iload (pc := 167) C d_Rules_value_167 0 rfl ?_
        refine j_iald (pc := 169) C 2 rfl (v := zI b) (vp_in_nI (by omega) (by decide)) (by rw [nI_clamp (by omega), show (pz - 1) = (a :: rs).length by rw [List.length_cons]; omega]; exact hs_.1) d_Rules_value_169 ?_
        refine j_callSi (pc := 170) C (c_xjoined_14 l D y a b hav hbv) kw_Rules_50 ks_Rules_joined ⟨by decide, by decide⟩ ⟨by decide, by decide⟩ (wr := [(ad 3, .inr (6, [.int (d.1 11), .int (d.1 12), .ref (ad 20), .ref (ad 21), .ref (ad 22), .ref (ad 23), .ref (ad 24), .ref (ad 25)])), (ad 24, .inl (y 0, 1600, .inl (d.2 20))), (ad 25, .inl (y 0, 40, .inl wz))]) [] [0, 1, 2] rfl rfl (by decide) (by decide) (by decide) (As := [.int (-14), .int (zI a), .int (zI b)]) (rest := [.int (nI ((pz - 1) - 1)), .ref (ad 25)]) rfl (nb rfl) rfl d_Rules_value_170 (fun r25 _ hr25 => ?_)
        obtain rfl := hr25
        refine j_ws (ws' := [(ad 3, .inr (6, [.int (d.1 11), .int (d.1 12), .ref (ad 20), .ref (ad 21), .ref (ad 22), .ref (ad 23), .ref (ad 24), .ref (ad 25)])), (ad 24, .inl (y 0, 1600, .inl (d.2 20))), (ad 25, .inl (y 0, 40, .inl wz))]) rfl ?_
        refine j_iast (pc := 173) C 2 rfl (ws' := [(ad 3, .inr (6, [.int (d.1 11), .int (d.1 12), .ref (ad 20), .ref (ad 21), .ref (ad 22), .ref (ad 23), .ref (ad 24), .ref (ad 25)])), (ad 24, .inl (y 0, 1600, .inl (d.2 20))), (ad 25, .inl (y 0, 40, .inl (upd wz ((pz - 1) - 1) (zI (opE 14 a b)))))]) (vp_in_nI (by omega) (by decide)) (by rw [nI_clamp (by omega)]; first | done | rfl) d_Rules_value_173 ?_
        refine j_iinc (pc := 174) C (v := nI (iz + 1)) (lv' := [(7, .int (nI (iz + 1))), (6, .int (nI (pz - 1))), (8, .int (-14)), (0, .ref (ad 3)), (1, .int (nI qa)), (2, .int (nI qb)), (3, .int (nI dq)), (4, .int (nI lq)), (5, .int (nI wq))]) d_Rules_value_174 2 rfl (nI_add _ _) (by decide) rfl ?_
        refine j_goto (pc := 177) C (tgt := 10) d_Rules_value_177 (by decide) ?_
        refine j_locs (lv' := [(7, .int (nI (iz + 1))), (6, .int (nI (pz - 1))), (0, .ref (ad 3)), (1, .int (nI qa)), (2, .int (nI qb)), (3, .int (nI dq)), (4, .int (nI lq)), (5, .int (nI wq))]) [0, 1, 3, 4, 5, 6, 7, 8] rfl ?_
        exact ih14 ((iz + 1), (pz - 1), (upd wz ((pz - 1) - 1) (zI (opE 14 a b))), (opE 14 a b :: rs), (true :: rt)) ⟨(show qa ≤ (iz + 1) by omega), (show (iz + 1) ≤ qb by omega), (show (pz - 1) = (opE 14 a b :: rs).length by rw [List.length_cons]; omega), (stk_push (v := (opE 14 a b)) hs_.2.2 (by omega)), hr2, (show RV (true :: rt) (opE 14 a b :: rs) from hok), (evr_e he_ (by omega) hbl hcc (show (opE 14 a b :: rs) = evC dq lq wq 14 (b :: a :: rs) from rfl))⟩ (show qb - (iz + 1) < qb - iz by omega)
      · refine j_st (st' := [.int (-15)]) rfl ?_
        obtain ⟨b, rb, rfl, hbv, hvr⟩ := rv_1 hv_
        obtain ⟨a, rs, rfl, hav, hvs⟩ := rv_1 hvr
        simp only [List.length_cons] at hp_ hrl hln
        obtain ⟨a1, a2, _⟩ := id hav
        obtain ⟨b1_, b2_, _⟩ := id hbv
        refine j_istore (pc := 33) C (lv' := [(8, .int (-15)), (7, .int (nI iz)), (6, .int (nI pz)), (0, .ref (ad 3)), (1, .int (nI qa)), (2, .int (nI qb)), (3, .int (nI dq)), (4, .int (nI lq)), (5, .int (nI wq))]) d_Rules_value_33 (by decide) rfl ?_
        refine j_iload (pc := 35) C d_Rules_value_35 0 rfl ?_
        refine j_bipush (pc := 37) C (v := (-3)) d_Rules_value_37 (by decide) ?_
        refine j_icmp_ltT (pc := 39) C (tgt := 99) d_Rules_value_39 (by decide) (by decide) ?_
        refine j_iload (pc := 99) C d_Rules_value_99 0 rfl ?_
        refine j_bipush (pc := 101) C (v := (-4)) d_Rules_value_101 (by decide) ?_
        refine j_icmp_neT (pc := 103) C (tgt := 135) d_Rules_value_103 (by decide) (by decide) ?_
        refine j_iload (pc := 135) C d_Rules_value_135 2 rfl ?_
        refine j_iconst (pc := 137) C (v := 2) d_Rules_value_137 (by decide) ?_
        refine j_icmp_ltF (pc := 138) C (tgt := 174) d_Rules_value_138 (by decide) (show ¬ nI pz < nI 2 from nI_nlt (by omega) (by omega)) ?_
        refine j_iinc (pc := 141) C (v := nI (pz - 1)) (lv' := [(6, .int (nI (pz - 1))), (8, .int (-15)), (7, .int (nI iz)), (0, .ref (ad 3)), (1, .int (nI qa)), (2, .int (nI qb)), (3, .int (nI dq)), (4, .int (nI lq)), (5, .int (nI wq))]) d_Rules_value_141 2 rfl (nI_dn (by omega)) (by decide) rfl ?_
        refine j_aload_n (pc := 144) C d_Rules_value_144 rfl 3 rfl ?_
        refine j_get (pc := 145) C gf_Rules_27 0 rfl rfl d_Rules_value_145 ?_
        refine j_iload (pc := 148) C d_Rules_value_148 0 rfl ?_
        refine j_iconst (pc := 150) C (v := 1) d_Rules_value_150 (by decide) ?_
        refine j_isub (pc := 151) C (v := nI ((pz - 1) - 1)) d_Rules_value_151 (pk_sub (a := (pz - 1)) (b := 1) (by omega)) ?_
        refine j_iload (pc := 152) C d_Rules_value_152 1 rfl ?_
        refine j_aload_n (pc := 154) C d_Rules_value_154 rfl 3 rfl ?_
        refine j_get (pc := 155) C gf_Rules_27 0 rfl rfl d_Rules_value_155 ?_
        refine j_iload (pc := 158) C d_Rules_value_158 0 rfl ?_
        refine j_iconst (pc := 160) C (v := 1) d_Rules_value_160 (by decide) ?_
        refine j_isub (pc := 161) C (v := nI ((pz - 1) - 1)) d_Rules_value_161 (pk_sub (a := (pz - 1)) (b := 1) (by omega)) ?_
        refine j_iald (pc := 162) C 2 rfl (v := zI a) (vp_in_nI (by omega) (by decide)) (by rw [nI_clamp (by omega), show ((pz - 1) - 1) = rs.length by omega]; exact hs_.2.1) d_Rules_value_162 ?_
        refine j_aload_n (pc := 163) C d_Rules_value_163 rfl 3 rfl ?_
        refine j_get (pc := 164) C gf_Rules_27 0 rfl rfl d_Rules_value_164 ?_
        refine j_iload (pc := 167) C d_Rules_value_167 0 rfl ?_
        refine j_iald (pc := 169) C 2 rfl (v := zI b) (vp_in_nI (by omega) (by decide)) (by rw [nI_clamp (by omega), show (pz - 1) = (a :: rs).length by rw [List.length_cons]; omega]; exact hs_.1) d_Rules_value_169 ?_
        refine j_callSi (pc := 170) C (c_xjoined_15 l D y a b hav hbv) kw_Rules_50 ks_Rules_joined ⟨by decide, by decide⟩ ⟨by decide, by decide⟩ (wr := [(ad 3, .inr (6, [.int (d.1 11), .int (d.1 12), .ref (ad 20), .ref (ad 21), .ref (ad 22), .ref (ad 23), .ref (ad 24), .ref (ad 25)])), (ad 24, .inl (y 0, 1600, .inl (d.2 20))), (ad 25, .inl (y 0, 40, .inl wz))]) [] [0, 1, 2] rfl rfl (by decide) (by decide) (by decide) (As := [.int (-15), .int (zI a), .int (zI b)]) (rest := [.int (nI ((pz - 1) - 1)), .ref (ad 25)]) rfl (nb rfl) rfl d_Rules_value_170 (fun r26 _ hr26 => ?_)
        obtain rfl := hr26
        refine j_ws (ws' := [(ad 3, .inr (6, [.int (d.1 11), .int (d.1 12), .ref (ad 20), .ref (ad 21), .ref (ad 22), .ref (ad 23), .ref (ad 24), .ref (ad 25)])), (ad 24, .inl (y 0, 1600, .inl (d.2 20))), (ad 25, .inl (y 0, 40, .inl wz))]) rfl ?_
        refine j_iast (pc := 173) C 2 rfl (ws' := [(ad 3, .inr (6, [.int (d.1 11), .int (d.1 12), .ref (ad 20), .ref (ad 21), .ref (ad 22), .ref (ad 23), .ref (ad 24), .ref (ad 25)])), (ad 24, .inl (y 0, 1600, .inl (d.2 20))), (ad 25, .inl (y 0, 40, .inl (upd wz ((pz - 1) - 1) (zI (opE 15 a b)))))]) (vp_in_nI (by omega) (by decide)) (by rw [nI_clamp (by omega)]; first | done | rfl) d_Rules_value_173 ?_
        refine j_iinc (pc := 174) C (v := nI (iz + 1)) (lv' := [(7, .int (nI (iz + 1))), (6, .int (nI (pz - 1))), (8, .int (-15)), (0, .ref (ad 3)), (1, .int (nI qa)), (2, .int (nI qb)), (3, .int (nI dq)), (4, .int (nI lq)), (5, .int (nI wq))]) d_Rules_value_174 2 rfl (nI_add _ _) (by decide) rfl ?_
        refine j_goto (pc := 177) C (tgt := 10) d_Rules_value_177 (by decide) ?_
        refine j_locs (lv' := [(7, .int (nI (iz + 1))), (6, .int (nI (pz - 1))), (0, .ref (ad 3)), (1, .int (nI qa)), (2, .int (nI qb)), (3, .int (nI dq)), (4, .int (nI lq)), (5, .int (nI wq))]) [0, 1, 3, 4, 5, 6, 7, 8] rfl ?_
        exact ih14 ((iz + 1), (pz - 1), (upd wz ((pz - 1) - 1) (zI (opE 15 a b))), (opE 15 a b :: rs), (true :: rt)) ⟨(show qa ≤ (iz + 1) by omega), (show (iz + 1) ≤ qb by omega), (show (pz - 1) = (opE 15 a b :: rs).length by rw [List.length_cons]; omega), (stk_push (v := (opE 15 a b)) hs_.2.2 (by omega)), hr2, (show RV (true :: rt) (opE 15 a b :: rs) from hok), (evr_e he_ (by omega) hbl hcc (show (opE 15 a b :: rs) = evC dq lq wq 15 (b :: a :: rs) from rfl))⟩ (show qb - (iz + 1) < qb - iz by omega)
set_option maxHeartbeats 4000000 in
set_option maxRecDepth 100000 in
theorem c_xamount (l : Launch) (D : va_G) (y : Nat → ClassId) (ad : Nat → Nat) (d : LD) (gt : LA_) (kq : Nat) (dq : Nat) (lq : Nat) (wq : Nat) (g : Nat → Int32) (hlk : LKR gt d) (hd : dq ≤ 100000) (hw : wq ≤ 100000) (hle : lq = wq / gt.s 1) (hk : kq ≤ 1) : CT l D y ⟨"NineBoards$Rules", "amount", "(IIII)I"⟩ prog_9_method_3_code 7 (some .int) ({ frames := 3, cells := 0, slots := 0, locals := 72 } : Room) [.ref (ad 3), .int (nI kq), .int (nI dq), .int (nI lq), .int (nI wq)] [(ad 3, .inr (6, [.int (d.1 11), .int (d.1 12), .ref (ad 20), .ref (ad 21), .ref (ad 22), .ref (ad 23), .ref (ad 24), .ref (ad 25)])), (ad 20, .inl (y 0, 8, .inl (d.2 16))), (ad 21, .inl (y 0, 8, .inl (d.2 17))), (ad 22, .inl (y 0, 8, .inl (d.2 18))), (ad 23, .inl (y 0, 8, .inl (d.2 19))), (ad 24, .inl (y 0, 1600, .inl (d.2 20))), (ad 25, .inl (y 0, 40, .inl g))] (QI D [(ad 3, .inr (6, [.int (d.1 11), .int (d.1 12), .ref (ad 20), .ref (ad 21), .ref (ad 22), .ref (ad 23), .ref (ad 24), .ref (ad 25)])), (ad 20, .inl (y 0, 8, .inl (d.2 16))), (ad 21, .inl (y 0, 8, .inl (d.2 17))), (ad 22, .inl (y 0, 8, .inl (d.2 18))), (ad 23, .inl (y 0, 8, .inl (d.2 19))), (ad 24, .inl (y 0, 1600, .inl (d.2 20))), (ad 25, .inl (y 0, 40, .inl g))] (fun (r : Int32) (u : Nat → Int32) => r = nI (amF gt kq dq wq)) (fun u => [(ad 3, .inr (6, [.int (d.1 11), .int (d.1 12), .ref (ad 20), .ref (ad 21), .ref (ad 22), .ref (ad 23), .ref (ad 24), .ref (ad 25)])), (ad 20, .inl (y 0, 8, .inl (d.2 16))), (ad 21, .inl (y 0, 8, .inl (d.2 17))), (ad 22, .inl (y 0, 8, .inl (d.2 18))), (ad 23, .inl (y 0, 8, .inl (d.2 19))), (ad 24, .inl (y 0, 1600, .inl (d.2 20))), (ad 25, .inl (y 0, 40, .inl u))])) := by
  refine CT.of (by decide) (nb rfl) ?_
  intro p e s m args below meth c C hr
  refine j_lv (lv' := [(0, .ref (ad 3)), (1, .int (nI kq)), (2, .int (nI dq)), (3, .int (nI lq)), (4, .int (nI wq))]) rfl ?_
  obtain ⟨b9, b4, b10, b11⟩ := lk_b hlk
  obtain ⟨b1, b1x, b2, b2x, b3, b5, b6, b7, b8⟩ := lk_n hlk
  have hk16 : XW (gt.s 11) (d.2 16) (gt.r 16) := lk_r hlk 16 (by decide) (by decide)
  have hk17 : XW (gt.s 11) (d.2 17) (gt.r 17) := lk_r hlk 17 (by decide) (by decide)
  have hk18 : XW (gt.s 11) (d.2 18) (gt.r 18) := lk_r hlk 18 (by decide) (by decide)
  have hk19 : XW (gt.s 11) (d.2 19) (gt.r 19) := lk_r hlk 19 (by decide) (by decide)
  have hl : lq ≤ 100000 := by have := Nat.div_le_self wq (gt.s 1); omega
  refine j_iconst (pc := 0) C (v := 0) d_Rules_amount_0 (by decide) ?_
  refine j_istore (pc := 1) C (lv' := [(5, .int 0), (0, .ref (ad 3)), (1, .int (nI kq)), (2, .int (nI dq)), (3, .int (nI lq)), (4, .int (nI wq))]) d_Rules_amount_1 (by decide) rfl ?_
  refine j_loop (α := Nat × (Nat → Int32)) (fun a => gt.s 11 - a.1) (fun a => (a.1 ≤ gt.s 11) ∧ (amN dq lq wq gt kq (gt.s 11 - a.1) a.1 = amF gt kq dq wq)) (fun a => [(ad 3, .inr (6, [.int (d.1 11), .int (d.1 12), .ref (ad 20), .ref (ad 21), .ref (ad 22), .ref (ad 23), .ref (ad 24), .ref (ad 25)])), (ad 20, .inl (y 0, 8, .inl (d.2 16))), (ad 21, .inl (y 0, 8, .inl (d.2 17))), (ad 22, .inl (y 0, 8, .inl (d.2 18))), (ad 23, .inl (y 0, 8, .inl (d.2 19))), (ad 24, .inl (y 0, 1600, .inl (d.2 20))), (ad 25, .inl (y 0, 40, .inl a.2))]) (fun a => [(5, .int (nI a.1)), (0, .ref (ad 3)), (1, .int (nI kq)), (2, .int (nI dq)), (3, .int (nI lq)), (4, .int (nI wq))]) (0, g) rfl rfl ⟨(show 0 ≤ gt.s 11 by omega), (by rw [hle, Nat.sub_zero]; rfl)⟩ ?_
  rintro ⟨iz, wz⟩ hP10 ih11
  obtain ⟨hi__, ha__⟩ := hP10
  have hi_ : iz ≤ gt.s 11 := hi__
  have ha_ : amN dq lq wq gt kq (gt.s 11 - iz) iz = amF gt kq dq wq := ha__
  refine j_ws (ws' := [(ad 3, .inr (6, [.int (d.1 11), .int (d.1 12), .ref (ad 20), .ref (ad 21), .ref (ad 22), .ref (ad 23), .ref (ad 24), .ref (ad 25)])), (ad 20, .inl (y 0, 8, .inl (d.2 16))), (ad 21, .inl (y 0, 8, .inl (d.2 17))), (ad 22, .inl (y 0, 8, .inl (d.2 18))), (ad 23, .inl (y 0, 8, .inl (d.2 19))), (ad 24, .inl (y 0, 1600, .inl (d.2 20))), (ad 25, .inl (y 0, 40, .inl wz))]) rfl ?_
  refine j_lv (lv' := [(5, .int (nI iz)), (0, .ref (ad 3)), (1, .int (nI kq)), (2, .int (nI dq)), (3, .int (nI lq)), (4, .int (nI wq))]) rfl ?_
  refine j_iload (pc := 3) C d_Rules_amount_3 0 rfl ?_
  refine j_aload_n (pc := 5) C d_Rules_amount_5 rfl 1 rfl ?_
  refine j_get (pc := 6) C gf_Rules_34 0 rfl rfl d_Rules_amount_6 ?_
  refine j_st (st' := [.int (nI (gt.s 11)), .int (nI iz)]) (by rw [lk_s hlk 11 (by decide)]) ?_
  by_cases c12 : (gt.s 11) ≤ iz
  · refine j_icmp_geT (pc := 9) C (tgt := 91) d_Rules_amount_9 (by decide) (show nI (gt.s 11) ≤ nI iz from nI_le (by omega) (by omega)) ?_
    refine j_iconst (pc := 91) C (v := 0) d_Rules_amount_91 (by decide) ?_
    exact j_iret (pc := 92) C hr rfl wz (show (0 : Int32) = nI (amF gt kq dq wq) from congrArg nI (am_no (by rw [show iz = gt.s 11 by omega] at ha_; exact ha_))) [0, 1, 2, 3, 4, 5, 6] rfl (by decide) (by decide) (by decide) d_Rules_amount_92
  · refine j_icmp_geF (pc := 9) C (tgt := 91) d_Rules_amount_9 (by decide) (show ¬ nI (gt.s 11) ≤ nI iz from nI_ge (by omega) (by omega)) ?_
    obtain ⟨r1, r2, r3, r4, r5⟩ := lk_wf hlk iz (by omega)
    have hkb := lk_kb hlk iz (by omega)
    refine j_aload_n (pc := 12) C d_Rules_amount_12 rfl 1 rfl ?_
    refine j_get (pc := 13) C gf_Rules_9 0 rfl rfl d_Rules_amount_13 ?_
    refine j_iload (pc := 16) C d_Rules_amount_16 0 rfl ?_
    refine j_iald (pc := 18) C 1 rfl (v := nI ((gt.r 16) iz)) (vp_in_nI (by omega) (by decide)) (by rw [nI_clamp (by omega)]; exact (hk16 iz (by omega))) d_Rules_amount_18 ?_
    refine j_iload_n (pc := 19) C d_Rules_amount_19 rfl 2 rfl ?_
    by_cases c13 : ¬ ((gt.r 16) iz) = kq
    · refine j_icmp_neT (pc := 20) C (tgt := 85) d_Rules_amount_20 (by decide) (show ¬ nI ((gt.r 16) iz) = nI kq from fun e => absurd ((nI_eq (by omega) (by omega)).mp e) (by omega)) ?_
      refine j_iinc (pc := 85) C (v := nI (iz + 1)) (lv' := [(5, .int (nI (iz + 1))), (0, .ref (ad 3)), (1, .int (nI kq)), (2, .int (nI dq)), (3, .int (nI lq)), (4, .int (nI wq))]) d_Rules_amount_85 0 rfl (nI_add _ _) (by decide) rfl ?_
      refine j_goto (pc := 88) C (tgt := 3) d_Rules_amount_88 (by decide) ?_
      exact ih11 ((iz + 1), wz) ⟨(show (iz + 1) ≤ gt.s 11 by omega), (am_go ha_ (by omega) (fun q => absurd q.1 (by omega)))⟩ (show gt.s 11 - (iz + 1) < gt.s 11 - iz by omega)
    · refine j_icmp_neF (pc := 20) C (tgt := 85) d_Rules_amount_20 (by decide) (show nI ((gt.r 16) iz) = nI kq from (nI_eq (by omega) (by omega)).mpr (by omega)) ?_
      refine j_aload_n (pc := 23) C d_Rules_amount_23 rfl 1 rfl ?_
      refine j_aload_n (pc := 24) C d_Rules_amount_24 rfl 1 rfl ?_
      refine j_get (pc := 25) C gf_Rules_18 0 rfl rfl d_Rules_amount_25 ?_
      refine j_iload (pc := 28) C d_Rules_amount_28 0 rfl ?_
      refine j_iald (pc := 30) C 3 rfl (v := nI ((gt.r 18) iz)) (vp_in_nI (by omega) (by decide)) (by rw [nI_clamp (by omega)]; exact (hk18 iz (by omega))) d_Rules_amount_30 ?_
      refine j_aload_n (pc := 31) C d_Rules_amount_31 rfl 1 rfl ?_
      refine j_get (pc := 32) C gf_Rules_21 0 rfl rfl d_Rules_amount_32 ?_
      refine j_iload (pc := 35) C d_Rules_amount_35 0 rfl ?_
      refine j_iald (pc := 37) C 4 rfl (v := nI ((gt.r 19) iz)) (vp_in_nI (by omega) (by decide)) (by rw [nI_clamp (by omega)]; exact (hk19 iz (by omega))) d_Rules_amount_37 ?_
      refine j_iload_n (pc := 38) C d_Rules_amount_38 rfl 3 rfl ?_
      refine j_iload_n (pc := 39) C d_Rules_amount_39 rfl 4 rfl ?_
      refine j_iload (pc := 40) C d_Rules_amount_40 5 rfl ?_
      refine j_callVi (pc := 42) C (c_xvalue l D y ad d gt ((gt.r 18) iz) ((gt.r 19) iz) dq lq wq true wz hlk (by omega) (by omega) r5 hd (by omega) hw) kw_Rules_37 kv_Rules_value 0 6 rfl rfl ⟨by decide, by decide⟩ ⟨by decide, by decide⟩ (wr := [(ad 20, .inl (y 0, 8, .inl (d.2 16))), (ad 21, .inl (y 0, 8, .inl (d.2 17))), (ad 22, .inl (y 0, 8, .inl (d.2 18))), (ad 23, .inl (y 0, 8, .inl (d.2 19)))]) [0, 5, 6] [1, 2, 3, 4] rfl rfl (by decide +kernel) (by decide +kernel) (by decide +kernel) (As := [.int (nI ((gt.r 18) iz)), .int (nI ((gt.r 19) iz)), .int (nI dq), .int (nI lq), .int (nI wq)]) (rest := []) rfl (nb rfl) rfl d_Rules_amount_42 (fun r14 u15 hr14 => ?_)
      obtain ⟨rfl, xh16⟩ := hr14
      refine j_ws (ws' := [(ad 20, .inl (y 0, 8, .inl (d.2 16))), (ad 21, .inl (y 0, 8, .inl (d.2 17))), (ad 22, .inl (y 0, 8, .inl (d.2 18))), (ad 23, .inl (y 0, 8, .inl (d.2 19))), (ad 3, .inr (6, [.int (d.1 11), .int (d.1 12), .ref (ad 20), .ref (ad 21), .ref (ad 22), .ref (ad 23), .ref (ad 24), .ref (ad 25)])), (ad 24, .inl (y 0, 1600, .inl (d.2 20))), (ad 25, .inl (y 0, 40, .inl u15))]) rfl ?_
      by_cases e17 : vlE dq lq wq gt.cs (gt.r 18 iz) (gt.r 19 iz) = 0
      · refine j_st (st' := [.int 0]) (by rw [e17]; rfl) ?_
        refine j_if_eqT (pc := 45) C (tgt := 85) d_Rules_amount_45 (by decide) (by decide) ?_
        refine j_iinc (pc := 85) C (v := nI (iz + 1)) (lv' := [(5, .int (nI (iz + 1))), (0, .ref (ad 3)), (1, .int (nI kq)), (2, .int (nI dq)), (3, .int (nI lq)), (4, .int (nI wq))]) d_Rules_amount_85 0 rfl (nI_add _ _) (by decide) rfl ?_
        refine j_goto (pc := 88) C (tgt := 3) d_Rules_amount_88 (by decide) ?_
        refine j_sub (ws' := [(ad 3, .inr (6, [.int (d.1 11), .int (d.1 12), .ref (ad 20), .ref (ad 21), .ref (ad 22), .ref (ad 23), .ref (ad 24), .ref (ad 25)])), (ad 20, .inl (y 0, 8, .inl (d.2 16))), (ad 21, .inl (y 0, 8, .inl (d.2 17))), (ad 22, .inl (y 0, 8, .inl (d.2 18))), (ad 23, .inl (y 0, 8, .inl (d.2 19))), (ad 24, .inl (y 0, 1600, .inl (d.2 20))), (ad 25, .inl (y 0, 40, .inl u15))]) [4, 0, 1, 2, 3, 5, 6] rfl (by decide +kernel) ?_
        exact ih11 ((iz + 1), u15) ⟨(show (iz + 1) ≤ gt.s 11 by omega), (am_go ha_ (by omega) (fun q => q.2 e17))⟩ (show gt.s 11 - (iz + 1) < gt.s 11 - iz by omega)
      · refine j_if_eqF (pc := 45) C (tgt := 85) d_Rules_amount_45 (by decide) (zI_n0 xh16.1 xh16.2.1 e17) ?_
        refine j_aload_n (pc := 48) C d_Rules_amount_48 rfl 1 rfl ?_
        refine j_aload_n (pc := 49) C d_Rules_amount_49 rfl 1 rfl ?_
        refine j_get (pc := 50) C gf_Rules_15 4 rfl rfl d_Rules_amount_50 ?_
        refine j_iload (pc := 53) C d_Rules_amount_53 0 rfl ?_
        refine j_iald (pc := 55) C 1 rfl (v := nI ((gt.r 17) iz)) (vp_in_nI (by omega) (by decide)) (by rw [nI_clamp (by omega)]; exact (hk17 iz (by omega))) d_Rules_amount_55 ?_
        refine j_aload_n (pc := 56) C d_Rules_amount_56 rfl 1 rfl ?_
        refine j_get (pc := 57) C gf_Rules_18 4 rfl rfl d_Rules_amount_57 ?_
        refine j_iload (pc := 60) C d_Rules_amount_60 0 rfl ?_
        refine j_iald (pc := 62) C 2 rfl (v := nI ((gt.r 18) iz)) (vp_in_nI (by omega) (by decide)) (by rw [nI_clamp (by omega)]; exact (hk18 iz (by omega))) d_Rules_amount_62 ?_
        refine j_iload_n (pc := 63) C d_Rules_amount_63 rfl 3 rfl ?_
        refine j_iload_n (pc := 64) C d_Rules_amount_64 rfl 4 rfl ?_
        refine j_iload (pc := 65) C d_Rules_amount_65 5 rfl ?_
        refine j_callVi (pc := 67) C (c_xvalue l D y ad d gt ((gt.r 17) iz) ((gt.r 18) iz) dq lq wq false u15 hlk (by omega) (by omega) r4 hd (by omega) hw) kw_Rules_37 kv_Rules_value 0 6 rfl rfl ⟨by decide, by decide⟩ ⟨by decide, by decide⟩ (wr := [(ad 20, .inl (y 0, 8, .inl (d.2 16))), (ad 21, .inl (y 0, 8, .inl (d.2 17))), (ad 22, .inl (y 0, 8, .inl (d.2 18))), (ad 23, .inl (y 0, 8, .inl (d.2 19)))]) [4, 5, 6] [0, 1, 2, 3] rfl rfl (by decide +kernel) (by decide +kernel) (by decide +kernel) (As := [.int (nI ((gt.r 17) iz)), .int (nI ((gt.r 18) iz)), .int (nI dq), .int (nI lq), .int (nI wq)]) (rest := []) rfl (nb rfl) rfl d_Rules_amount_67 (fun r18 u19 hr18 => ?_)
        obtain ⟨rfl, xh20⟩ := hr18
        refine j_ws (ws' := [(ad 20, .inl (y 0, 8, .inl (d.2 16))), (ad 21, .inl (y 0, 8, .inl (d.2 17))), (ad 22, .inl (y 0, 8, .inl (d.2 18))), (ad 23, .inl (y 0, 8, .inl (d.2 19))), (ad 3, .inr (6, [.int (d.1 11), .int (d.1 12), .ref (ad 20), .ref (ad 21), .ref (ad 22), .ref (ad 23), .ref (ad 24), .ref (ad 25)])), (ad 24, .inl (y 0, 1600, .inl (d.2 20))), (ad 25, .inl (y 0, 40, .inl u19))]) rfl ?_
        refine j_istore (pc := 70) C (lv' := [(6, .int (zI (vlE dq lq wq gt.cs ((gt.r 17) iz) ((gt.r 18) iz)))), (5, .int (nI iz)), (0, .ref (ad 3)), (1, .int (nI kq)), (2, .int (nI dq)), (3, .int (nI lq)), (4, .int (nI wq))]) d_Rules_amount_70 (by decide) rfl ?_
        refine j_iconst (pc := 72) C (v := 0) d_Rules_amount_72 (by decide) ?_
        refine j_sipush (pc := 73) C (v := 9999) d_Rules_amount_73 (by decide) ?_
        refine j_iload (pc := 76) C d_Rules_amount_76 0 rfl ?_
        refine j_mmin (pc := 78) C (mt_4 (List.mem_of_getElem? (i := 101) rfl) rfl) (mt_3 (List.mem_of_getElem? (i := 56) rfl) rfl) (mt_1 (List.mem_of_getElem? (i := 3) rfl) rfl) (mt_3 (List.mem_of_getElem? (i := 57) rfl) rfl) (v := zI (if (vlE dq lq wq gt.cs ((gt.r 17) iz) ((gt.r 18) iz)) < 9999 then (vlE dq lq wq gt.cs ((gt.r 17) iz) ((gt.r 18) iz)) else 9999)) (cl_min xh20.1 xh20.2.1) (by decide) (nb rfl) (by decide) (by decide) d_Rules_amount_78 ?_
        refine j_mmax (pc := 81) C (mt_4 (List.mem_of_getElem? (i := 89) rfl) rfl) (mt_1 (List.mem_of_getElem? (i := 34) rfl) rfl) (mt_1 (List.mem_of_getElem? (i := 3) rfl) rfl) (mt_1 (List.mem_of_getElem? (i := 35) rfl) rfl) (v := nI (cl9 (vlE dq lq wq gt.cs ((gt.r 17) iz) ((gt.r 18) iz)))) (cl_max xh20.1 xh20.2.1) (by decide) (nb rfl) (by decide) (by decide) d_Rules_amount_81 ?_
        exact j_iret (pc := 84) C hr rfl u19 (congrArg nI (am_hit ha_ (by omega) ⟨by omega, e17⟩)) [4, 0, 1, 2, 3, 5, 6] rfl (by decide) (by decide) (by decide) d_Rules_amount_84
