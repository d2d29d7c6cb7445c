theorem nI_max {a b : Nat} (ha : a < 2 ^ 31) (hb : b < 2 ^ 31) : (if nI a < nI b then nI b else nI a) = nI (max a b) := by
  by_cases c : a < b
  · rw [if_pos (nI_lt c hb)]
    exact congrArg nI (by omega)
  · rw [if_neg (nI_nlt (by omega) ha)]
    exact congrArg nI (by omega)
theorem nI_min {a b : Nat} (ha : a < 2 ^ 31) (hb : b < 2 ^ 31) : (if nI b < nI a then nI b else nI a) = nI (min a b) := by
  by_cases c : b < a
  · rw [if_pos (nI_lt c ha)]
    exact congrArg nI (by omega)
  · rw [if_neg (nI_nlt (by omega) hb)]
    exact congrArg nI (by omega)
theorem zI_neg_lt {v : Int} (h1 : -2147483648 ≤ v) (h2 : v < 0) : ¬ (0 : Int32) < zI v := by
  rw [Int32.lt_iff_toInt_lt, zI_toInt h1 (by omega)]
  have : Int32.toInt 0 = 0 := by decide
  omega
theorem nI_mxs {a b : Nat} (ha : a < 2 ^ 31) (hb : b < 2 ^ 31) : (if (0 : Int32) < zI ((a : Nat) - (b : Nat) : Int) then zI ((a : Nat) - (b : Nat) : Int) else 0) = nI (a - b) := by
  by_cases c : b < a
  · have e : zI ((a : Nat) - (b : Nat) : Int) = nI (a - b) := by
      rw [show ((a : Nat) - (b : Nat) : Int) = ((a - b : Nat) : Int) by omega]
      rfl
    rw [e]
    exact if_pos (show nI 0 < nI (a - b) from nI_lt (by omega) (by omega))
  · by_cases e : a = b
    · subst e
      rw [show ((a : Nat) - (a : Nat) : Int) = 0 by omega, Nat.sub_self]
      decide
    · rw [if_neg (zI_neg_lt (by omega) (by omega)), show a - b = 0 by omega]
      rfl
theorem xor_nn {a b : Nat} (ha : a < 2 ^ 31) (hb : b < 2 ^ 31) (hb0 : 0 < b) : (0 : Int32) ≤ nI a ^^^ nI b := by
  rw [Int32.le_iff_toInt_le]
  have e := fm_sgn (r := nI a) (z := nI b) (by rw [nI_toInt hb]; omega)
  rw [nI_toInt ha] at e
  have : Int32.toInt 0 = 0 := by decide
  omega
theorem full_1a {t : LA_} {g b l d : Nat} (h : t.r 1 g = 1) (c : 0 < b ∧ 0 < l) : fullT t g b l d = (l - b) * t.r 5 g + t.r 2 g := by
  unfold fullT
  rw [if_pos h, if_pos c]
theorem full_1b {t : LA_} {g b l d : Nat} (h : t.r 1 g = 1) (c : ¬ (0 < b ∧ 0 < l)) : fullT t g b l d = (l - b) * t.r 5 g := by
  unfold fullT
  rw [if_pos h, if_neg c]
theorem full_2 {t : LA_} {g b l d : Nat} (h : t.r 1 g = 2) : fullT t g b l d = (l - b) / t.r 2 g * t.r 2 g * t.r 5 g := by
  unfold fullT
  rw [if_neg (by omega), if_pos h]
theorem full_3a {t : LA_} {g b l d : Nat} (h : t.r 1 g = 3) (c : t.r 2 g ≤ d ∧ d ≤ t.r 3 g) : fullT t g b l d = 0 := by
  unfold fullT
  rw [if_neg (by omega), if_neg (by omega), if_pos h, if_pos c]
theorem full_3b {t : LA_} {g b l d : Nat} (h : t.r 1 g = 3) (c : ¬ (t.r 2 g ≤ d ∧ d ≤ t.r 3 g)) : fullT t g b l d = (l - b) * t.r 5 g := by
  unfold fullT
  rw [if_neg (by omega), if_neg (by omega), if_pos h, if_neg c]
theorem full_0 {t : LA_} {g b l d : Nat} (h : t.r 1 g = 0) : fullT t g b l d = (l - b) * t.r 5 g := by
  unfold fullT
  rw [if_neg (by omega), if_neg (by omega), if_neg (by omega)]
theorem full_b {t : LA_} {g b l d : Nat} (h : GB (t.r 1 g) (t.r 2 g) (t.r 3 g) (t.r 4 g) (t.r 5 g)) (hl : l ≤ 9999) : fullT t g b l d ≤ 1000000 := by
  obtain ⟨_, h2, _, _, _, _, _, h5⟩ := h
  have m : (l - b) * t.r 5 g ≤ 9999 * 99 := Nat.mul_le_mul (by omega) h5
  have m2 : (l - b) / t.r 2 g * t.r 2 g * t.r 5 g ≤ 9999 * 99 := Nat.mul_le_mul (Nat.le_trans (Nat.div_mul_le_self _ _) (by omega)) h5
  unfold fullT
  split
  · split <;> omega
  · split
    · exact Nat.le_trans m2 (by decide)
    · split
      · split <;> omega
      · omega
set_option maxHeartbeats 4000000 in
set_option maxRecDepth 100000 in
theorem c_xfloorDiv (l : Launch) (D : va_G) (y : Nat → ClassId) (a : Nat) (b : Nat) (ha : a < 2147483648) (hb : b < 2147483648) (hb0 : 0 < b) : CT l D y ⟨"java/lang/Math", "floorDiv", "(II)I"⟩ prog_14_method_47_code 3 (some .int) ({ frames := 0, cells := 0, slots := 0, locals := 0 } : Room) [.int (nI a), .int (nI b)] [] (QI D [] (fun (r : Int32) (u : Unit) => r = nI (a / b)) (fun _ => [])) := by
  refine CT_ofF (by decide +kernel) (nb rfl) ?_
  intro p e s m args below meth c C hr
  refine j_lv (lv' := [(0, .int (nI a)), (1, .int (nI b))]) rfl ?_
  refine j_iload_n (pc := 0) C d_Math_floorDiv_0 rfl 0 rfl ?_
  refine j_iload_n (pc := 1) C d_Math_floorDiv_1 rfl 1 rfl ?_
  refine j_idiv (pc := 2) C (v := nI (a / b)) d_Math_floorDiv_2 (nI_ne0 (by omega) (by omega)) (pk_div (by omega) (by omega) (by omega)) ?_
  refine j_istore_n (pc := 3) C (lv' := [(2, .int (nI (a / b))), (0, .int (nI a)), (1, .int (nI b))]) d_Math_floorDiv_3 rfl (by decide) rfl ?_
  refine j_iload_n (pc := 4) C d_Math_floorDiv_4 rfl 1 rfl ?_
  refine j_iload_n (pc := 5) C d_Math_floorDiv_5 rfl 2 rfl ?_
  refine j_ixor (pc := 6) C (v := (nI a) ^^^ (nI b)) d_Math_floorDiv_6 rfl ?_
  refine j_if_geT (pc := 7) C (tgt := 21) d_Math_floorDiv_7 (by decide) (xor_nn (by omega) (by omega) (by omega)) ?_
  refine j_iload_n (pc := 21) C d_Math_floorDiv_21 rfl 0 rfl ?_
  exact j_iret (pc := 22) C hr rfl () rfl [] rfl (by decide) (by decide) (by decide) d_Math_floorDiv_22
set_option maxHeartbeats 4000000 in
set_option maxRecDepth 100000 in
theorem c_xfloorMod (l : Launch) (D : va_G) (y : Nat → ClassId) (a : Nat) (b : Nat) (ha : a < 2147483648) (hb : b < 2147483648) (hb0 : 0 < b) : CT l D y ⟨"java/lang/Math", "floorMod", "(II)I"⟩ prog_14_method_50_code 3 (some .int) ({ frames := 0, cells := 0, slots := 0, locals := 0 } : Room) [.int (nI a), .int (nI b)] [] (QI D [] (fun (r : Int32) (u : Unit) => r = nI (a % b)) (fun _ => [])) := by
  refine CT_ofF (by decide +kernel) (nb rfl) ?_
  intro p e s m args below meth c C hr
  refine j_lv (lv' := [(0, .int (nI a)), (1, .int (nI b))]) rfl ?_
  refine j_iload_n (pc := 0) C d_Math_floorMod_0 rfl 0 rfl ?_
  refine j_iload_n (pc := 1) C d_Math_floorMod_1 rfl 1 rfl ?_
  refine j_irem (pc := 2) C (v := nI (a % b)) d_Math_floorMod_2 (nI_ne0 (by omega) (by omega)) (pk_rem (by omega) (by omega) (by omega)) ?_
  refine j_istore_n (pc := 3) C (lv' := [(2, .int (nI (a % b))), (0, .int (nI a)), (1, .int (nI b))]) d_Math_floorMod_3 rfl (by decide) rfl ?_
  refine j_iload_n (pc := 4) C d_Math_floorMod_4 rfl 1 rfl ?_
  refine j_iload_n (pc := 5) C d_Math_floorMod_5 rfl 2 rfl ?_
  refine j_ixor (pc := 6) C (v := (nI a) ^^^ (nI b)) d_Math_floorMod_6 rfl ?_
  refine j_if_geT (pc := 7) C (tgt := 18) d_Math_floorMod_7 (by decide) (xor_nn (by omega) (by omega) (by omega)) ?_
  refine j_iload_n (pc := 18) C d_Math_floorMod_18 rfl 0 rfl ?_
  exact j_iret (pc := 19) C hr rfl () rfl [] rfl (by decide) (by decide) (by decide) d_Math_floorMod_19
set_option maxHeartbeats 4000000 in
set_option maxRecDepth 100000 in
theorem c_xlevelAt (l : Launch) (D : va_G) (y : Nat → ClassId) (ad : Nat → Nat) (d : LD) (gt : LA_) (wq : Nat) (hlk : LKR gt d) (hw : wq < 2147483648) : CT l D y ⟨"NineBoards$Lake", "levelAt", "(I)I"⟩ prog_5_method_7_code 2 (some .int) ({ frames := 1, cells := 0, slots := 0, locals := 22 } : Room) [.ref (ad 0), .int (nI wq)] [(ad 0, .inr (2, [.int (d.1 0), .int (d.1 1), .int (d.1 2), .int (d.1 3), .ref (ad 1), .int (d.1 4), .ref (ad 11), .ref (ad 12), .ref (ad 2), .ref (ad 3), .int (d.1 5), .int (d.1 6), .int (d.1 7), .int (d.1 8)]))] (QI D [(ad 0, .inr (2, [.int (d.1 0), .int (d.1 1), .int (d.1 2), .int (d.1 3), .ref (ad 1), .int (d.1 4), .ref (ad 11), .ref (ad 12), .ref (ad 2), .ref (ad 3), .int (d.1 5), .int (d.1 6), .int (d.1 7), .int (d.1 8)]))] (fun (r : Int32) (u : Unit) => r = nI (wq / gt.s 1)) (fun _ => [(ad 0, .inr (2, [.int (d.1 0), .int (d.1 1), .int (d.1 2), .int (d.1 3), .ref (ad 1), .int (d.1 4), .ref (ad 11), .ref (ad 12), .ref (ad 2), .ref (ad 3), .int (d.1 5), .int (d.1 6), .int (d.1 7), .int (d.1 8)]))])) := by
  refine CT.of (by decide) (nb rfl) ?_
  intro p e s m args below meth c C hr
  refine j_lv (lv' := [(0, .ref (ad 0)), (1, .int (nI wq))]) rfl ?_
  obtain ⟨b9, b4, b10, b11⟩ := lk_b hlk
  obtain ⟨b1, b1x, b2, b2x, b3, b5, b6, b7, b8⟩ := lk_n hlk
  refine j_aload_n (pc := 0) C d_Lake_levelAt_0 rfl 0 rfl ?_
  refine j_get (pc := 1) C gf_Lake_46 0 rfl rfl d_Lake_levelAt_1 ?_
  refine j_st (st' := [.int (nI (gt.s 1))]) (by rw [lk_s hlk 1 (by decide)]) ?_
  refine j_if_leF (pc := 4) C (tgt := 18) d_Lake_levelAt_4 (by decide) (show ¬ nI (gt.s 1) ≤ nI 0 from nI_ge (by omega) (by omega)) ?_
  refine j_iload_n (pc := 7) C d_Lake_levelAt_7 rfl 1 rfl ?_
  refine j_aload_n (pc := 8) C d_Lake_levelAt_8 rfl 0 rfl ?_
  refine j_get (pc := 9) C gf_Lake_46 0 rfl rfl d_Lake_levelAt_9 ?_
  refine j_st (st' := [.int (nI (gt.s 1)), .int (nI wq)]) (by rw [lk_s hlk 1 (by decide)]) ?_
  refine j_callSi (pc := 12) C (c_xfloorDiv l D y wq (gt.s 1) hw (by omega) (by omega)) kw_Lake_78 ks_Math_floorDiv ⟨by decide, by decide⟩ ⟨by decide, by decide⟩ (wr := [(ad 0, .inr (2, [.int (d.1 0), .int (d.1 1), .int (d.1 2), .int (d.1 3), .ref (ad 1), .int (d.1 4), .ref (ad 11), .ref (ad 12), .ref (ad 2), .ref (ad 3), .int (d.1 5), .int (d.1 6), .int (d.1 7), .int (d.1 8)]))]) [] [0] rfl rfl (by decide) (by decide) (by decide) (As := [.int (nI wq), .int (nI (gt.s 1))]) (rest := []) rfl (nb rfl) rfl d_Lake_levelAt_12 (fun r1 _ hr1 => ?_)
  obtain rfl := hr1
  refine j_ws (ws' := [(ad 0, .inr (2, [.int (d.1 0), .int (d.1 1), .int (d.1 2), .int (d.1 3), .ref (ad 1), .int (d.1 4), .ref (ad 11), .ref (ad 12), .ref (ad 2), .ref (ad 3), .int (d.1 5), .int (d.1 6), .int (d.1 7), .int (d.1 8)]))]) rfl ?_
  refine j_goto (pc := 15) C (tgt := 19) d_Lake_levelAt_15 (by decide) ?_
  exact j_iret (pc := 19) C hr rfl () rfl [0] rfl (by decide) (by decide) (by decide) d_Lake_levelAt_19
set_option maxHeartbeats 4000000 in
set_option maxRecDepth 100000 in
theorem c_xvillageOn (l : Launch) (D : va_G) (y : Nat → ClassId) (ad : Nat → Nat) (d : LD) (gt : LA_) (dq : Nat) (hlk : LKR gt d) (hd : dq < 2147483648) : CT l D y ⟨"NineBoards$Lake", "villageOn", "(I)I"⟩ prog_5_method_8_code 2 (some .int) ({ frames := 1, cells := 0, slots := 0, locals := 22 } : Room) [.ref (ad 0), .int (nI dq)] [(ad 0, .inr (2, [.int (d.1 0), .int (d.1 1), .int (d.1 2), .int (d.1 3), .ref (ad 1), .int (d.1 4), .ref (ad 11), .ref (ad 12), .ref (ad 2), .ref (ad 3), .int (d.1 5), .int (d.1 6), .int (d.1 7), .int (d.1 8)]))] (QI D [(ad 0, .inr (2, [.int (d.1 0), .int (d.1 1), .int (d.1 2), .int (d.1 3), .ref (ad 1), .int (d.1 4), .ref (ad 11), .ref (ad 12), .ref (ad 2), .ref (ad 3), .int (d.1 5), .int (d.1 6), .int (d.1 7), .int (d.1 8)]))] (fun (r : Int32) (u : Unit) => ((r = -1 ∧ gt.s 4 = 0) ∨ (r = nI (dq % gt.s 4) ∧ 0 < gt.s 4))) (fun _ => [(ad 0, .inr (2, [.int (d.1 0), .int (d.1 1), .int (d.1 2), .int (d.1 3), .ref (ad 1), .int (d.1 4), .ref (ad 11), .ref (ad 12), .ref (ad 2), .ref (ad 3), .int (d.1 5), .int (d.1 6), .int (d.1 7), .int (d.1 8)]))])) := by
  refine CT.of (by decide) (nb rfl) ?_
  intro p e s m args below meth c C hr
  refine j_lv (lv' := [(0, .ref (ad 0)), (1, .int (nI dq))]) rfl ?_
  obtain ⟨b9, b4, b10, b11⟩ := lk_b hlk
  obtain ⟨b1, b1x, b2, b2x, b3, b5, b6, b7, b8⟩ := lk_n hlk
  refine j_aload_n (pc := 0) C d_Lake_villageOn_0 rfl 0 rfl ?_
  refine j_get (pc := 1) C gf_Lake_58 0 rfl rfl d_Lake_villageOn_1 ?_
  refine j_st (st' := [.int (nI (gt.s 4))]) (by rw [lk_s hlk 4 (by decide)]) ?_
  by_cases c1 : (gt.s 4) ≤ 0
  · refine j_if_leT (pc := 4) C (tgt := 18) d_Lake_villageOn_4 (by decide) (show nI (gt.s 4) ≤ nI 0 from nI_le (by omega) (by omega)) ?_
    refine j_iconst (pc := 18) C (v := (-1)) d_Lake_villageOn_18 (by decide) ?_
    exact j_iret (pc := 19) C hr rfl () (Or.inl ⟨rfl, by omega⟩) [0] rfl (by decide) (by decide) (by decide) d_Lake_villageOn_19
  · refine j_if_leF (pc := 4) C (tgt := 18) d_Lake_villageOn_4 (by decide) (show ¬ nI (gt.s 4) ≤ nI 0 from nI_ge (by omega) (by omega)) ?_
    refine j_iload_n (pc := 7) C d_Lake_villageOn_7 rfl 1 rfl ?_
    refine j_aload_n (pc := 8) C d_Lake_villageOn_8 rfl 0 rfl ?_
    refine j_get (pc := 9) C gf_Lake_58 0 rfl rfl d_Lake_villageOn_9 ?_
    refine j_st (st' := [.int (nI (gt.s 4)), .int (nI dq)]) (by rw [lk_s hlk 4 (by decide)]) ?_
    refine j_callSi (pc := 12) C (c_xfloorMod l D y dq (gt.s 4) hd (by omega) (by omega)) kw_Lake_84 ks_Math_floorMod ⟨by decide, by decide⟩ ⟨by decide, by decide⟩ (wr := [(ad 0, .inr (2, [.int (d.1 0), .int (d.1 1), .int (d.1 2), .int (d.1 3), .ref (ad 1), .int (d.1 4), .ref (ad 11), .ref (ad 12), .ref (ad 2), .ref (ad 3), .int (d.1 5), .int (d.1 6), .int (d.1 7), .int (d.1 8)]))]) [] [0] rfl rfl (by decide) (by decide) (by decide) (As := [.int (nI dq), .int (nI (gt.s 4))]) (rest := []) rfl (nb rfl) rfl d_Lake_villageOn_12 (fun r2 _ hr2 => ?_)
    obtain rfl := hr2
    refine j_ws (ws' := [(ad 0, .inr (2, [.int (d.1 0), .int (d.1 1), .int (d.1 2), .int (d.1 3), .ref (ad 1), .int (d.1 4), .ref (ad 11), .ref (ad 12), .ref (ad 2), .ref (ad 3), .int (d.1 5), .int (d.1 6), .int (d.1 7), .int (d.1 8)]))]) rfl ?_
    refine j_goto (pc := 15) C (tgt := 19) d_Lake_villageOn_15 (by decide) ?_
    exact j_iret (pc := 19) C hr rfl () (Or.inr ⟨rfl, by omega⟩) [0] rfl (by decide) (by decide) (by decide) d_Lake_villageOn_19
set_option maxHeartbeats 4000000 in
set_option maxRecDepth 100000 in
theorem c_xfullFlow (l : Launch) (D : va_G) (y : Nat → ClassId) (ad : Nat → Nat) (d : LD) (gt : LA_) (j : Nat) (bq : Nat) (lq : Nat) (dq : Nat) (hlk : LKR gt d) (hj : j < gt.s 9) (hb : bq < 2147483648) (hl : lq ≤ 9999) (hd : dq < 2147483648) : CT l D y ⟨"NineBoards$Gates", "fullFlow", "(IIII)I"⟩ prog_4_method_3_code 7 (some .int) ({ frames := 1, cells := 0, slots := 0, locals := 13 } : Room) [.ref (ad 1), .int (nI j), .int (nI bq), .int (nI lq), .int (nI dq)] [(ad 1, .inr (1, [.int (d.1 9), .ref (ad 4), .ref (ad 5), .ref (ad 6), .ref (ad 7), .ref (ad 8), .ref (ad 9), .ref (ad 10)])), (ad 5, .inl (y 0, 9, .inl (d.2 1))), (ad 6, .inl (y 0, 9, .inl (d.2 2))), (ad 7, .inl (y 0, 9, .inl (d.2 3))), (ad 9, .inl (y 0, 9, .inl (d.2 5)))] (QI D [(ad 1, .inr (1, [.int (d.1 9), .ref (ad 4), .ref (ad 5), .ref (ad 6), .ref (ad 7), .ref (ad 8), .ref (ad 9), .ref (ad 10)])), (ad 5, .inl (y 0, 9, .inl (d.2 1))), (ad 6, .inl (y 0, 9, .inl (d.2 2))), (ad 7, .inl (y 0, 9, .inl (d.2 3))), (ad 9, .inl (y 0, 9, .inl (d.2 5)))] (fun (r : Int32) (u : Unit) => r = nI (fullT gt j bq lq dq) ∧ fullT gt j bq lq dq ≤ 1000000) (fun _ => [(ad 1, .inr (1, [.int (d.1 9), .ref (ad 4), .ref (ad 5), .ref (ad 6), .ref (ad 7), .ref (ad 8), .ref (ad 9), .ref (ad 10)])), (ad 5, .inl (y 0, 9, .inl (d.2 1))), (ad 6, .inl (y 0, 9, .inl (d.2 2))), (ad 7, .inl (y 0, 9, .inl (d.2 3))), (ad 9, .inl (y 0, 9, .inl (d.2 5)))])) := by
  refine CT.of (by decide) (nb rfl) ?_
  intro p e s m args below meth c C hr
  refine j_lv (lv' := [(0, .ref (ad 1)), (1, .int (nI j)), (2, .int (nI bq)), (3, .int (nI lq)), (4, .int (nI dq))]) rfl ?_
  obtain ⟨b9, b4, b10, b11⟩ := lk_b hlk
  obtain ⟨b1, b1x, b2, b2x, b3, b5, b6, b7, b8⟩ := lk_n hlk
  have hk1 : XW (gt.s 9) (d.2 1) (gt.r 1) := lk_g1 hlk
  have hk5 : XW (gt.s 9) (d.2 5) (gt.r 5) := lk_g5 hlk
  refine j_iconst (pc := 0) C (v := 0) d_Gates_fullFlow_0 (by decide) ?_
  refine j_iload_n (pc := 1) C d_Gates_fullFlow_1 rfl 3 rfl ?_
  refine j_iload_n (pc := 2) C d_Gates_fullFlow_2 rfl 2 rfl ?_
  refine j_isub (pc := 3) C (v := zI ((lq : Nat) - (bq : Nat) : Int)) d_Gates_fullFlow_3 (zI_sub ((lq : Nat) : Int) ((bq : Nat) : Int)) ?_
  refine j_mmax (pc := 4) C (mt_4 (List.mem_of_getElem? (i := 11) rfl) rfl) (mt_1 (List.mem_of_getElem? (i := 34) rfl) rfl) (mt_1 (List.mem_of_getElem? (i := 3) rfl) rfl) (mt_1 (List.mem_of_getElem? (i := 35) rfl) rfl) (v := nI (lq - bq)) (nI_mxs (a := lq) (b := bq) (by omega) (by omega)) (by decide) (nb rfl) (by decide) (by decide) d_Gates_fullFlow_4 ?_
  refine j_istore (pc := 7) C (lv' := [(5, .int (nI (lq - bq))), (0, .ref (ad 1)), (1, .int (nI j)), (2, .int (nI bq)), (3, .int (nI lq)), (4, .int (nI dq))]) d_Gates_fullFlow_7 (by decide) rfl ?_
  refine j_iload (pc := 9) C d_Gates_fullFlow_9 0 rfl ?_
  refine j_aload_n (pc := 11) C d_Gates_fullFlow_11 rfl 1 rfl ?_
  refine j_get (pc := 12) C gf_Gates_27 0 rfl rfl d_Gates_fullFlow_12 ?_
  refine j_iload_n (pc := 15) C d_Gates_fullFlow_15 rfl 2 rfl ?_
  refine j_iald (pc := 16) C 4 rfl (v := nI ((gt.r 5) j)) (vp_in_nI (by omega) (by decide)) (by rw [nI_clamp (by omega)]; exact (hk5 j (by omega))) d_Gates_fullFlow_16 ?_
  refine j_imul (pc := 17) C (v := nI ((lq - bq) * ((gt.r 5) j))) d_Gates_fullFlow_17 (pk_mul _ _) ?_
  refine j_istore (pc := 18) C (lv' := [(6, .int (nI ((lq - bq) * ((gt.r 5) j)))), (5, .int (nI (lq - bq))), (0, .ref (ad 1)), (1, .int (nI j)), (2, .int (nI bq)), (3, .int (nI lq)), (4, .int (nI dq))]) d_Gates_fullFlow_18 (by decide) rfl ?_
  refine j_aload_n (pc := 20) C d_Gates_fullFlow_20 rfl 2 rfl ?_
  refine j_get (pc := 21) C gf_Gates_15 0 rfl rfl d_Gates_fullFlow_21 ?_
  refine j_iload_n (pc := 24) C d_Gates_fullFlow_24 rfl 3 rfl ?_
  refine j_iald (pc := 25) C 1 rfl (v := nI ((gt.r 1) j)) (vp_in_nI (by omega) (by decide)) (by rw [nI_clamp (by omega)]; exact (hk1 j (by omega))) d_Gates_fullFlow_25 ?_
  obtain ⟨kb, fb, fb1, fb2, tb, _, _, wb_⟩ := lk_gb hlk j hj
  have kd4 : gt.r 1 j = 0 ∨ gt.r 1 j = 1 ∨ gt.r 1 j = 2 ∨ gt.r 1 j = 3 := by omega
  rcases kd4 with ke | ke | ke | ke
  · refine j_st (st' := [.int 0]) (by rw [ke]; rfl) ?_
    refine j_tabOut (pc := 26) C (tgt := 141) d_Gates_fullFlow_26 (by decide) (by decide) ?_
    refine j_iload (pc := 141) C d_Gates_fullFlow_141 0 rfl ?_
    exact j_iret (pc := 143) C hr rfl () ⟨(congrArg nI (full_0 ke).symm), full_b (lk_gb hlk j hj) hl⟩ [0, 1, 2, 3, 4] rfl (by decide) (by decide) (by decide) d_Gates_fullFlow_143
  · refine j_st (st' := [.int 1]) (by rw [ke]; rfl) ?_
    refine j_tabIn (pc := 26) C (off := 26) (tgt := 52) d_Gates_fullFlow_26 (by decide) (by decide) (by decide) (by decide) ?_
    refine j_iload_n (pc := 52) C d_Gates_fullFlow_52 rfl 4 rfl ?_
    by_cases c1 : bq ≤ 0
    · refine j_if_leT (pc := 53) C (tgt := 72) d_Gates_fullFlow_53 (by decide) (show nI bq ≤ nI 0 from nI_le (by omega) (by omega)) ?_
      refine j_iload (pc := 72) C d_Gates_fullFlow_72 0 rfl ?_
      exact j_iret (pc := 74) C hr rfl () ⟨(congrArg nI (full_1b ke (by omega)).symm), full_b (lk_gb hlk j hj) hl⟩ [0, 1, 2, 3, 4] rfl (by decide) (by decide) (by decide) d_Gates_fullFlow_74
    · refine j_if_leF (pc := 53) C (tgt := 72) d_Gates_fullFlow_53 (by decide) (show ¬ nI bq ≤ nI 0 from nI_ge (by omega) (by omega)) ?_
      refine j_iload_n (pc := 56) C d_Gates_fullFlow_56 rfl 5 rfl ?_
      by_cases c2 : lq ≤ 0
      · refine j_if_leT (pc := 57) C (tgt := 72) d_Gates_fullFlow_57 (by decide) (show nI lq ≤ nI 0 from nI_le (by omega) (by omega)) ?_
        refine j_iload (pc := 72) C d_Gates_fullFlow_72 0 rfl ?_
        exact j_iret (pc := 74) C hr rfl () ⟨(congrArg nI (full_1b ke (by omega)).symm), full_b (lk_gb hlk j hj) hl⟩ [0, 1, 2, 3, 4] rfl (by decide) (by decide) (by decide) d_Gates_fullFlow_74
      · refine j_if_leF (pc := 57) C (tgt := 72) d_Gates_fullFlow_57 (by decide) (show ¬ nI lq ≤ nI 0 from nI_ge (by omega) (by omega)) ?_
        refine j_iload (pc := 60) C d_Gates_fullFlow_60 0 rfl ?_
        refine j_aload_n (pc := 62) C d_Gates_fullFlow_62 rfl 2 rfl ?_
        refine j_get (pc := 63) C gf_Gates_18 0 rfl rfl d_Gates_fullFlow_63 ?_
        refine j_iload_n (pc := 66) C d_Gates_fullFlow_66 rfl 3 rfl ?_
        refine j_iald (pc := 67) C 2 rfl (v := nI (gt.r 2 j)) (vp_in_nI (by omega) (by decide)) (by rw [nI_clamp (by omega)]; exact (lk_g2 hlk j (by omega) (by omega))) d_Gates_fullFlow_67 ?_
        refine j_iadd (pc := 68) C (v := nI (((lq - bq) * ((gt.r 5) j)) + (gt.r 2 j))) d_Gates_fullFlow_68 (nI_add _ _) ?_
        refine j_goto (pc := 69) C (tgt := 74) d_Gates_fullFlow_69 (by decide) ?_
        exact j_iret (pc := 74) C hr rfl () ⟨(congrArg nI (full_1a ke (by omega)).symm), full_b (lk_gb hlk j hj) hl⟩ [0, 1, 2, 3, 4] rfl (by decide) (by decide) (by decide) d_Gates_fullFlow_74
  · refine j_st (st' := [.int 2]) (by rw [ke]; rfl) ?_
    refine j_tabIn (pc := 26) C (off := 49) (tgt := 75) d_Gates_fullFlow_26 (by decide) (by decide) (by decide) (by decide) ?_
    refine j_aload_n (pc := 75) C d_Gates_fullFlow_75 rfl 2 rfl ?_
    refine j_get (pc := 76) C gf_Gates_18 0 rfl rfl d_Gates_fullFlow_76 ?_
    refine j_iload_n (pc := 79) C d_Gates_fullFlow_79 rfl 3 rfl ?_
    refine j_iald (pc := 80) C 2 rfl (v := nI (gt.r 2 j)) (vp_in_nI (by omega) (by decide)) (by rw [nI_clamp (by omega)]; exact (lk_g2 hlk j (by omega) (by omega))) d_Gates_fullFlow_80 ?_
    refine j_if_leF (pc := 81) C (tgt := 110) d_Gates_fullFlow_81 (by decide) (show ¬ nI (gt.r 2 j) ≤ nI 0 from nI_ge (by omega) (by omega)) ?_
    refine j_iload (pc := 84) C d_Gates_fullFlow_84 1 rfl ?_
    refine j_aload_n (pc := 86) C d_Gates_fullFlow_86 rfl 2 rfl ?_
    refine j_get (pc := 87) C gf_Gates_18 0 rfl rfl d_Gates_fullFlow_87 ?_
    refine j_iload_n (pc := 90) C d_Gates_fullFlow_90 rfl 3 rfl ?_
    refine j_iald (pc := 91) C 2 rfl (v := nI (gt.r 2 j)) (vp_in_nI (by omega) (by decide)) (by rw [nI_clamp (by omega)]; exact (lk_g2 hlk j (by omega) (by omega))) d_Gates_fullFlow_91 ?_
    refine j_idiv (pc := 92) C (v := nI ((lq - bq) / (gt.r 2 j))) d_Gates_fullFlow_92 (nI_ne0 (by omega) (by omega)) (pk_div (by omega) (by omega) (by omega)) ?_
    refine j_aload_n (pc := 93) C d_Gates_fullFlow_93 rfl 2 rfl ?_
    refine j_get (pc := 94) C gf_Gates_18 0 rfl rfl d_Gates_fullFlow_94 ?_
    refine j_iload_n (pc := 97) C d_Gates_fullFlow_97 rfl 3 rfl ?_
    refine j_iald (pc := 98) C 2 rfl (v := nI (gt.r 2 j)) (vp_in_nI (by omega) (by decide)) (by rw [nI_clamp (by omega)]; exact (lk_g2 hlk j (by omega) (by omega))) d_Gates_fullFlow_98 ?_
    refine j_imul (pc := 99) C (v := nI (((lq - bq) / (gt.r 2 j)) * (gt.r 2 j))) d_Gates_fullFlow_99 (pk_mul _ _) ?_
    refine j_aload_n (pc := 100) C d_Gates_fullFlow_100 rfl 2 rfl ?_
    refine j_get (pc := 101) C gf_Gates_27 0 rfl rfl d_Gates_fullFlow_101 ?_
    refine j_iload_n (pc := 104) C d_Gates_fullFlow_104 rfl 3 rfl ?_
    refine j_iald (pc := 105) C 4 rfl (v := nI ((gt.r 5) j)) (vp_in_nI (by omega) (by decide)) (by rw [nI_clamp (by omega)]; exact (hk5 j (by omega))) d_Gates_fullFlow_105 ?_
    refine j_imul (pc := 106) C (v := nI ((((lq - bq) / (gt.r 2 j)) * (gt.r 2 j)) * ((gt.r 5) j))) d_Gates_fullFlow_106 (pk_mul _ _) ?_
    refine j_goto (pc := 107) C (tgt := 111) d_Gates_fullFlow_107 (by decide) ?_
    exact j_iret (pc := 111) C hr rfl () ⟨(congrArg nI (full_2 ke).symm), full_b (lk_gb hlk j hj) hl⟩ [0, 1, 2, 3, 4] rfl (by decide) (by decide) (by decide) d_Gates_fullFlow_111
  · refine j_st (st' := [.int 3]) (by rw [ke]; rfl) ?_
    refine j_tabIn (pc := 26) C (off := 86) (tgt := 112) d_Gates_fullFlow_26 (by decide) (by decide) (by decide) (by decide) ?_
    refine j_iload (pc := 112) C d_Gates_fullFlow_112 6 rfl ?_
    refine j_aload_n (pc := 114) C d_Gates_fullFlow_114 rfl 2 rfl ?_
    refine j_get (pc := 115) C gf_Gates_18 0 rfl rfl d_Gates_fullFlow_115 ?_
    refine j_iload_n (pc := 118) C d_Gates_fullFlow_118 rfl 3 rfl ?_
    refine j_iald (pc := 119) C 2 rfl (v := nI (gt.r 2 j)) (vp_in_nI (by omega) (by decide)) (by rw [nI_clamp (by omega)]; exact (lk_g2 hlk j (by omega) (by omega))) d_Gates_fullFlow_119 ?_
    by_cases c3 : dq < (gt.r 2 j)
    · refine j_icmp_ltT (pc := 120) C (tgt := 138) d_Gates_fullFlow_120 (by decide) (show nI dq < nI (gt.r 2 j) from nI_lt (by omega) (by omega)) ?_
      refine j_iload (pc := 138) C d_Gates_fullFlow_138 0 rfl ?_
      exact j_iret (pc := 140) C hr rfl () ⟨(congrArg nI (full_3b ke (by omega)).symm), full_b (lk_gb hlk j hj) hl⟩ [0, 1, 2, 3, 4] rfl (by decide) (by decide) (by decide) d_Gates_fullFlow_140
    · refine j_icmp_ltF (pc := 120) C (tgt := 138) d_Gates_fullFlow_120 (by decide) (show ¬ nI dq < nI (gt.r 2 j) from nI_nlt (by omega) (by omega)) ?_
      refine j_iload (pc := 123) C d_Gates_fullFlow_123 6 rfl ?_
      refine j_aload_n (pc := 125) C d_Gates_fullFlow_125 rfl 2 rfl ?_
      refine j_get (pc := 126) C gf_Gates_21 0 rfl rfl d_Gates_fullFlow_126 ?_
      refine j_iload_n (pc := 129) C d_Gates_fullFlow_129 rfl 3 rfl ?_
      refine j_iald (pc := 130) C 3 rfl (v := nI (gt.r 3 j)) (vp_in_nI (by omega) (by decide)) (by rw [nI_clamp (by omega)]; exact (lk_g3 hlk j (by omega) (by omega))) d_Gates_fullFlow_130 ?_
      by_cases c4 : (gt.r 3 j) < dq
      · refine j_icmp_gtT (pc := 131) C (tgt := 138) d_Gates_fullFlow_131 (by decide) (show nI (gt.r 3 j) < nI dq from nI_lt (by omega) (by omega)) ?_
        refine j_iload (pc := 138) C d_Gates_fullFlow_138 0 rfl ?_
        exact j_iret (pc := 140) C hr rfl () ⟨(congrArg nI (full_3b ke (by omega)).symm), full_b (lk_gb hlk j hj) hl⟩ [0, 1, 2, 3, 4] rfl (by decide) (by decide) (by decide) d_Gates_fullFlow_140
      · refine j_icmp_gtF (pc := 131) C (tgt := 138) d_Gates_fullFlow_131 (by decide) (show ¬ nI (gt.r 3 j) < nI dq from nI_nlt (by omega) (by omega)) ?_
        refine j_iconst (pc := 134) C (v := 0) d_Gates_fullFlow_134 (by decide) ?_
        refine j_goto (pc := 135) C (tgt := 140) d_Gates_fullFlow_135 (by decide) ?_
        exact j_iret (pc := 140) C hr rfl () ⟨(congrArg nI (full_3a ke (by omega)).symm), full_b (lk_gb hlk j hj) hl⟩ [0, 1, 2, 3, 4] rfl (by decide) (by decide) (by decide) d_Gates_fullFlow_140
set_option maxHeartbeats 4000000 in
set_option maxRecDepth 100000 in
theorem c_xisServed (l : Launch) (D : va_G) (y : Nat → ClassId) (ad : Nat → Nat) (d : LD) (gt : LA_) (j : Nat) (dq : Nat) (fq : Nat) (hlk : LKR gt d) (hj : j < gt.s 10) (hd : dq < 2147483648) (hf : fq < 2147483648) : CT l D y ⟨"NineBoards$Things", "isServed", "(III)Z"⟩ prog_11_method_2_code 5 (some .boolean) ({ frames := 0, cells := 0, slots := 0, locals := 0 } : Room) [.ref (ad 2), .int (nI j), .int (nI dq), .int (nI fq)] [(ad 2, .inr (8, [.int (d.1 10), .ref (ad 13), .ref (ad 14), .ref (ad 15), .ref (ad 16), .ref (ad 17), .ref (ad 18), .ref (ad 19)])), (ad 15, .inl (y 0, 16, .inl (d.2 11))), (ad 16, .inl (y 0, 16, .inl (d.2 12))), (ad 17, .inl (y 0, 16, .inl (d.2 13))), (ad 18, .inl (y 0, 16, .inl (d.2 14)))] (QI D [(ad 2, .inr (8, [.int (d.1 10), .ref (ad 13), .ref (ad 14), .ref (ad 15), .ref (ad 16), .ref (ad 17), .ref (ad 18), .ref (ad 19)])), (ad 15, .inl (y 0, 16, .inl (d.2 11))), (ad 16, .inl (y 0, 16, .inl (d.2 12))), (ad 17, .inl (y 0, 16, .inl (d.2 13))), (ad 18, .inl (y 0, 16, .inl (d.2 14)))] (fun (r : Int32) (u : Unit) => ((r = 1 ∧ ((gt.r 13 j ≤ dq ∧ dq ≤ gt.r 14 j) ∧ gt.r 11 j ≤ fq ∧ fq ≤ gt.r 12 j)) ∨ (r = 0 ∧ ¬ ((gt.r 13 j ≤ dq ∧ dq ≤ gt.r 14 j) ∧ gt.r 11 j ≤ fq ∧ fq ≤ gt.r 12 j)))) (fun _ => [(ad 2, .inr (8, [.int (d.1 10), .ref (ad 13), .ref (ad 14), .ref (ad 15), .ref (ad 16), .ref (ad 17), .ref (ad 18), .ref (ad 19)])), (ad 15, .inl (y 0, 16, .inl (d.2 11))), (ad 16, .inl (y 0, 16, .inl (d.2 12))), (ad 17, .inl (y 0, 16, .inl (d.2 13))), (ad 18, .inl (y 0, 16, .inl (d.2 14)))])) := by
  refine CT.of (by decide) (nb rfl) ?_
  intro p e s m args below meth c C hr
  refine j_lv (lv' := [(0, .ref (ad 2)), (1, .int (nI j)), (2, .int (nI dq)), (3, .int (nI fq))]) rfl ?_
  obtain ⟨b9, b4, b10, b11⟩ := lk_b hlk
  obtain ⟨b1, b1x, b2, b2x, b3, b5, b6, b7, b8⟩ := lk_n hlk
  have hk11 : XW (gt.s 10) (d.2 11) (gt.r 11) := lk_t hlk 11 (by decide) (by decide)
  have hk12 : XW (gt.s 10) (d.2 12) (gt.r 12) := lk_t hlk 12 (by decide) (by decide)
  have hk13 : XW (gt.s 10) (d.2 13) (gt.r 13) := lk_t hlk 13 (by decide) (by decide)
  have hk14 : XW (gt.s 10) (d.2 14) (gt.r 14) := lk_t hlk 14 (by decide) (by decide)
  obtain ⟨v11, v12, v13, v14, v15⟩ := lk_tb hlk j hj
  refine j_iload_n (pc := 0) C d_Things_isServed_0 rfl 2 rfl ?_
  refine j_aload_n (pc := 1) C d_Things_isServed_1 rfl 0 rfl ?_
  refine j_get (pc := 2) C gf_Things_24 0 rfl rfl d_Things_isServed_2 ?_
  refine j_iload_n (pc := 5) C d_Things_isServed_5 rfl 1 rfl ?_
  refine j_iald (pc := 6) C 3 rfl (v := nI ((gt.r 13) j)) (vp_in_nI (by omega) (by decide)) (by rw [nI_clamp (by omega)]; exact (hk13 j (by omega))) d_Things_isServed_6 ?_
  by_cases c1 : dq < ((gt.r 13) j)
  · refine j_icmp_ltT (pc := 7) C (tgt := 24) d_Things_isServed_7 (by decide) (show nI dq < nI ((gt.r 13) j) from nI_lt (by omega) (by omega)) ?_
    refine j_iconst (pc := 24) C (v := 0) d_Things_isServed_24 (by decide) ?_
    refine j_istore (pc := 25) C (lv' := [(4, .int 0), (0, .ref (ad 2)), (1, .int (nI j)), (2, .int (nI dq)), (3, .int (nI fq))]) d_Things_isServed_25 (by decide) rfl ?_
    refine j_iload (pc := 27) C d_Things_isServed_27 0 rfl ?_
    refine j_if_eqT (pc := 29) C (tgt := 56) d_Things_isServed_29 (by decide) (by decide) ?_
    refine j_iconst (pc := 56) C (v := 0) d_Things_isServed_56 (by decide) ?_
    exact j_iret (pc := 57) C hr (by decide) () (Or.inr ⟨rfl, by omega⟩) [0, 1, 2, 3, 4] rfl (by decide) (by decide) (by decide) d_Things_isServed_57
  · refine j_icmp_ltF (pc := 7) C (tgt := 24) d_Things_isServed_7 (by decide) (show ¬ nI dq < nI ((gt.r 13) j) from nI_nlt (by omega) (by omega)) ?_
    refine j_iload_n (pc := 10) C d_Things_isServed_10 rfl 2 rfl ?_
    refine j_aload_n (pc := 11) C d_Things_isServed_11 rfl 0 rfl ?_
    refine j_get (pc := 12) C gf_Things_27 0 rfl rfl d_Things_isServed_12 ?_
    refine j_iload_n (pc := 15) C d_Things_isServed_15 rfl 1 rfl ?_
    refine j_iald (pc := 16) C 4 rfl (v := nI ((gt.r 14) j)) (vp_in_nI (by omega) (by decide)) (by rw [nI_clamp (by omega)]; exact (hk14 j (by omega))) d_Things_isServed_16 ?_
    by_cases c2 : ((gt.r 14) j) < dq
    · refine j_icmp_gtT (pc := 17) C (tgt := 24) d_Things_isServed_17 (by decide) (show nI ((gt.r 14) j) < nI dq from nI_lt (by omega) (by omega)) ?_
      refine j_iconst (pc := 24) C (v := 0) d_Things_isServed_24 (by decide) ?_
      refine j_istore (pc := 25) C (lv' := [(4, .int 0), (0, .ref (ad 2)), (1, .int (nI j)), (2, .int (nI dq)), (3, .int (nI fq))]) d_Things_isServed_25 (by decide) rfl ?_
      refine j_iload (pc := 27) C d_Things_isServed_27 0 rfl ?_
      refine j_if_eqT (pc := 29) C (tgt := 56) d_Things_isServed_29 (by decide) (by decide) ?_
      refine j_iconst (pc := 56) C (v := 0) d_Things_isServed_56 (by decide) ?_
      exact j_iret (pc := 57) C hr (by decide) () (Or.inr ⟨rfl, by omega⟩) [0, 1, 2, 3, 4] rfl (by decide) (by decide) (by decide) d_Things_isServed_57
    · refine j_icmp_gtF (pc := 17) C (tgt := 24) d_Things_isServed_17 (by decide) (show ¬ nI ((gt.r 14) j) < nI dq from nI_nlt (by omega) (by omega)) ?_
      refine j_iconst (pc := 20) C (v := 1) d_Things_isServed_20 (by decide) ?_
      refine j_goto (pc := 21) C (tgt := 25) d_Things_isServed_21 (by decide) ?_
      refine j_istore (pc := 25) C (lv' := [(4, .int 1), (0, .ref (ad 2)), (1, .int (nI j)), (2, .int (nI dq)), (3, .int (nI fq))]) d_Things_isServed_25 (by decide) rfl ?_
      refine j_iload (pc := 27) C d_Things_isServed_27 0 rfl ?_
      refine j_if_eqF (pc := 29) C (tgt := 56) d_Things_isServed_29 (by decide) (by decide) ?_
      refine j_iload_n (pc := 32) C d_Things_isServed_32 rfl 4 rfl ?_
      refine j_aload_n (pc := 33) C d_Things_isServed_33 rfl 1 rfl ?_
      refine j_get (pc := 34) C gf_Things_18 0 rfl rfl d_Things_isServed_34 ?_
      refine j_iload_n (pc := 37) C d_Things_isServed_37 rfl 2 rfl ?_
      refine j_iald (pc := 38) C 1 rfl (v := nI ((gt.r 11) j)) (vp_in_nI (by omega) (by decide)) (by rw [nI_clamp (by omega)]; exact (hk11 j (by omega))) d_Things_isServed_38 ?_
      by_cases c3 : fq < ((gt.r 11) j)
      · refine j_icmp_ltT (pc := 39) C (tgt := 56) d_Things_isServed_39 (by decide) (show nI fq < nI ((gt.r 11) j) from nI_lt (by omega) (by omega)) ?_
        refine j_iconst (pc := 56) C (v := 0) d_Things_isServed_56 (by decide) ?_
        exact j_iret (pc := 57) C hr (by decide) () (Or.inr ⟨rfl, by omega⟩) [0, 1, 2, 3, 4] rfl (by decide) (by decide) (by decide) d_Things_isServed_57
      · refine j_icmp_ltF (pc := 39) C (tgt := 56) d_Things_isServed_39 (by decide) (show ¬ nI fq < nI ((gt.r 11) j) from nI_nlt (by omega) (by omega)) ?_
        refine j_iload_n (pc := 42) C d_Things_isServed_42 rfl 4 rfl ?_
        refine j_aload_n (pc := 43) C d_Things_isServed_43 rfl 1 rfl ?_
        refine j_get (pc := 44) C gf_Things_21 0 rfl rfl d_Things_isServed_44 ?_
        refine j_iload_n (pc := 47) C d_Things_isServed_47 rfl 2 rfl ?_
        refine j_iald (pc := 48) C 2 rfl (v := nI ((gt.r 12) j)) (vp_in_nI (by omega) (by decide)) (by rw [nI_clamp (by omega)]; exact (hk12 j (by omega))) d_Things_isServed_48 ?_
        by_cases c4 : ((gt.r 12) j) < fq
        · refine j_icmp_gtT (pc := 49) C (tgt := 56) d_Things_isServed_49 (by decide) (show nI ((gt.r 12) j) < nI fq from nI_lt (by omega) (by omega)) ?_
          refine j_iconst (pc := 56) C (v := 0) d_Things_isServed_56 (by decide) ?_
          exact j_iret (pc := 57) C hr (by decide) () (Or.inr ⟨rfl, by omega⟩) [0, 1, 2, 3, 4] rfl (by decide) (by decide) (by decide) d_Things_isServed_57
        · refine j_icmp_gtF (pc := 49) C (tgt := 56) d_Things_isServed_49 (by decide) (show ¬ nI ((gt.r 12) j) < nI fq from nI_nlt (by omega) (by omega)) ?_
          refine j_iconst (pc := 52) C (v := 1) d_Things_isServed_52 (by decide) ?_
          refine j_goto (pc := 53) C (tgt := 57) d_Things_isServed_53 (by decide) ?_
          exact j_iret (pc := 57) C hr (by decide) () (Or.inl ⟨rfl, by omega⟩) [0, 1, 2, 3, 4] rfl (by decide) (by decide) (by decide) d_Things_isServed_57
