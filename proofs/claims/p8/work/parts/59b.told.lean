/-- the check of n bytes -/
def ckF (f : Nat → Nat) : Nat → Nat
  | 0 => 67
  | n + 1 => (3 * ckF f n + f n) % 251
theorem ck_lt {f : Nat → Nat} {n : Nat} : ckF f n < 251 := by
  cases n with
  | zero => show (67 : Nat) < 251; decide
  | succ n => exact Nat.mod_lt _ (by decide)
theorem ck_up {f : Nat → Nat} {n c : Nat} (h : c = ckF f n) : (3 * c + f n) % 251 = ckF f (n + 1) := by
  rw [h]
  rfl
/-- the tape is an image for n gates and a lake that holds h -/
def onB (tx : Nat → Nat) (k n h : Nat) : Prop := k = n + 6 ∧ ckF tx (k - 1) = tx (k - 1) ∧ (∀ g, g < n → tx (5 + g) ≤ 20) ∧ 256 * tx 0 + tx 1 ≤ 999 ∧ 256 * tx 2 + tx 3 ≤ h ∧ tx 4 ≤ 2
set_option maxHeartbeats 4000000 in
set_option maxRecDepth 100000 in
theorem c_xat (l : Launch) (D : va_G) (y : Nat → ClassId) (h : Nat) (ar : Nat) (k : Nat) (tx : Nat → Nat) (i : Nat) (hi : i < k) (hk : k ≤ 1600) (hB : ∀ j, tx j < 256) : CT l D y ⟨"NineBoards$Bytes", "at", "(I)I"⟩ prog_2_method_5_code 2 (some .int) ({ frames := 0, cells := 0, slots := 0, locals := 0 } : Room) [.ref h, .int (nI i)] [(h, .inr (0, [.ref ar, .int (nI k)])), (ar, .inl (y 0, 1600, .inl (tby tx)))] (QI D [(h, .inr (0, [.ref ar, .int (nI k)])), (ar, .inl (y 0, 1600, .inl (tby tx)))] (fun (r : Int32) (u : Unit) => r = nI (tx i)) (fun _ => [(h, .inr (0, [.ref ar, .int (nI k)])), (ar, .inl (y 0, 1600, .inl (tby tx)))])) := by
  refine CT.of (by decide) (nb rfl) ?_
  intro p e s m args below meth c C hr
  refine j_lv (lv' := [(0, .ref h), (1, .int (nI i))]) rfl ?_
  refine j_iload_n (pc := 0) C d_Bytes_at_0 rfl 1 rfl ?_
  refine j_if_ltF (pc := 1) C (tgt := 30) d_Bytes_at_1 (by decide) (show ¬ nI i < nI 0 from nI_nlt (by omega) (by omega)) ?_
  refine j_iload_n (pc := 4) C d_Bytes_at_4 rfl 1 rfl ?_
  refine j_aload_n (pc := 5) C d_Bytes_at_5 rfl 0 rfl ?_
  refine j_get (pc := 6) C gf_Bytes_21 0 rfl rfl d_Bytes_at_6 ?_
  refine j_icmp_geF (pc := 9) C (tgt := 30) d_Bytes_at_9 (by decide) (show ¬ nI k ≤ nI i from nI_ge (by omega) (by omega)) ?_
  refine j_iload_n (pc := 12) C d_Bytes_at_12 rfl 1 rfl ?_
  refine j_aload_n (pc := 13) C d_Bytes_at_13 rfl 0 rfl ?_
  refine j_get (pc := 14) C gf_Bytes_15 0 rfl rfl d_Bytes_at_14 ?_
  refine j_alen (pc := 17) C 1 0 rfl rfl (v := 1600) rfl d_Bytes_at_17 ?_
  refine j_icmp_geF (pc := 18) C (tgt := 30) d_Bytes_at_18 (by decide) (show ¬ nI 1600 ≤ nI i from nI_ge (by omega) (by omega)) ?_
  refine j_aload_n (pc := 21) C d_Bytes_at_21 rfl 0 rfl ?_
  refine j_get (pc := 22) C gf_Bytes_15 0 rfl rfl d_Bytes_at_22 ?_
  refine j_iload_n (pc := 25) C d_Bytes_at_25 rfl 1 rfl ?_
  have hb1 : tx i < 256 := hB i
  refine j_iald (pc := 26) C 1 rfl (v := nI (tx i)) (vp_in_nI (by omega) (by decide)) (by rw [nI_clamp (by omega)]; rfl) d_Bytes_at_26 ?_
  refine j_goto (pc := 27) C (tgt := 31) d_Bytes_at_27 (by decide) ?_
  exact j_iret (pc := 31) C hr rfl () rfl [0, 1] rfl (by decide) (by decide) (by decide) d_Bytes_at_31
set_option maxHeartbeats 4000000 in
set_option maxRecDepth 100000 in
theorem c_xtwoAt (l : Launch) (D : va_G) (y : Nat → ClassId) (h : Nat) (ar : Nat) (k : Nat) (tx : Nat → Nat) (i : Nat) (hi : i + 1 < k) (hk : k ≤ 1600) (hB : ∀ j, tx j < 256) : CT l D y ⟨"NineBoards$Bytes", "twoAt", "(I)I"⟩ prog_2_method_6_code 2 (some .int) ({ frames := 1, cells := 0, slots := 0, locals := 21 } : Room) [.ref h, .int (nI i)] [(h, .inr (0, [.ref ar, .int (nI k)])), (ar, .inl (y 0, 1600, .inl (tby tx)))] (QI D [(h, .inr (0, [.ref ar, .int (nI k)])), (ar, .inl (y 0, 1600, .inl (tby tx)))] (fun (r : Int32) (u : Unit) => r = nI (tx i * 256 + tx (i + 1))) (fun _ => [(h, .inr (0, [.ref ar, .int (nI k)])), (ar, .inl (y 0, 1600, .inl (tby tx)))])) := by
  refine CT.of (by decide) (nb rfl) ?_
  intro p e s m args below meth c C hr
  refine j_lv (lv' := [(0, .ref h), (1, .int (nI i))]) rfl ?_
  refine j_aload_n (pc := 0) C d_Bytes_twoAt_0 rfl 0 rfl ?_
  refine j_iload_n (pc := 1) C d_Bytes_twoAt_1 rfl 1 rfl ?_
  refine j_callVi (pc := 2) C (c_xat l D y h ar k tx i (by omega) hk hB) kw_Bytes_32 kv_Bytes_at 0 0 rfl rfl ⟨by decide, by decide⟩ ⟨by decide, by decide⟩ (wr := []) [0, 1] [] rfl rfl (by decide) (by decide) (by decide) (As := [.int (nI i)]) (rest := []) rfl (nb rfl) rfl d_Bytes_twoAt_2 (fun r1 _ hr1 => ?_)
  obtain rfl := hr1
  have hb2 : tx i < 256 := hB i
  refine j_ws (ws' := [(h, .inr (0, [.ref ar, .int (nI k)])), (ar, .inl (y 0, 1600, .inl (tby tx)))]) rfl ?_
  refine j_sipush (pc := 5) C (v := 256) d_Bytes_twoAt_5 (by decide) ?_
  refine j_imul (pc := 8) C (v := nI ((tx i) * 256)) d_Bytes_twoAt_8 (pk_mul _ _) ?_
  refine j_aload_n (pc := 9) C d_Bytes_twoAt_9 rfl 0 rfl ?_
  refine j_iload_n (pc := 10) C d_Bytes_twoAt_10 rfl 1 rfl ?_
  refine j_iconst (pc := 11) C (v := 1) d_Bytes_twoAt_11 (by decide) ?_
  refine j_iadd (pc := 12) C (v := nI (i + 1)) d_Bytes_twoAt_12 (nI_add _ _) ?_
  refine j_callVi (pc := 13) C (c_xat l D y h ar k tx (i + 1) hi hk hB) kw_Bytes_32 kv_Bytes_at 0 0 rfl rfl ⟨by decide, by decide⟩ ⟨by decide, by decide⟩ (wr := []) [0, 1] [] rfl rfl (by decide) (by decide) (by decide) (As := [.int (nI (i + 1))]) (rest := [.int (nI ((tx i) * 256))]) rfl (nb rfl) rfl d_Bytes_twoAt_13 (fun r3 _ hr3 => ?_)
  obtain rfl := hr3
  have hb4 : tx (i + 1) < 256 := hB (i + 1)
  refine j_ws (ws' := [(h, .inr (0, [.ref ar, .int (nI k)])), (ar, .inl (y 0, 1600, .inl (tby tx)))]) rfl ?_
  refine j_iadd (pc := 16) C (v := nI (((tx i) * 256) + (tx (i + 1)))) d_Bytes_twoAt_16 (nI_add _ _) ?_
  exact j_iret (pc := 17) C hr rfl () rfl [0, 1] rfl (by decide) (by decide) (by decide) d_Bytes_twoAt_17
set_option maxHeartbeats 4000000 in
set_option maxRecDepth 100000 in
theorem c_xcheck (l : Launch) (D : va_G) (y : Nat → ClassId) (h : Nat) (ar : Nat) (k : Nat) (tx : Nat → Nat) (N : Nat) (hN : N ≤ 1600) (hk : k ≤ 1600) (hB : ∀ j, tx j < 256) : CT l D y ⟨"NineBoards$Bytes", "check", "(I)I"⟩ prog_2_method_7_code 4 (some .int) ({ frames := 0, cells := 0, slots := 0, locals := 0 } : Room) [.ref h, .int (nI N)] [(h, .inr (0, [.ref ar, .int (nI k)])), (ar, .inl (y 0, 1600, .inl (tby tx)))] (QI D [(h, .inr (0, [.ref ar, .int (nI k)])), (ar, .inl (y 0, 1600, .inl (tby tx)))] (fun (r : Int32) (u : Unit) => r = nI (ckF tx N)) (fun _ => [(h, .inr (0, [.ref ar, .int (nI k)])), (ar, .inl (y 0, 1600, .inl (tby tx)))])) := by
  refine CT.of (by decide) (nb rfl) ?_
  intro p e s m args below meth c C hr
  refine j_lv (lv' := [(0, .ref h), (1, .int (nI N))]) rfl ?_
  refine j_bipush (pc := 0) C (v := 67) d_Bytes_check_0 (by decide) ?_
  refine j_istore_n (pc := 2) C (lv' := [(2, .int 67), (0, .ref h), (1, .int (nI N))]) d_Bytes_check_2 rfl (by decide) rfl ?_
  refine j_iconst (pc := 3) C (v := 0) d_Bytes_check_3 (by decide) ?_
  refine j_istore_n (pc := 4) C (lv' := [(3, .int 0), (2, .int 67), (0, .ref h), (1, .int (nI N))]) d_Bytes_check_4 rfl (by decide) rfl ?_
  refine j_loop (α := Nat × Nat) (fun a => N - a.1) (fun a => (a.1 ≤ N) ∧ (a.2 = ckF tx a.1) ∧ (a.2 < 251)) (fun a => [(h, .inr (0, [.ref ar, .int (nI k)])), (ar, .inl (y 0, 1600, .inl (tby tx)))]) (fun a => [(3, .int (nI a.1)), (2, .int (nI a.2)), (0, .ref h), (1, .int (nI N))]) (0, 67) rfl rfl ⟨(show 0 ≤ N by omega), rfl, (show 67 < 251 by decide)⟩ ?_
  rintro ⟨iz, cz⟩ hP3 ih4
  obtain ⟨hi__, hc__, hb__⟩ := hP3
  have hi_ : iz ≤ N := hi__
  have hc_ : cz = ckF tx iz := hc__
  have hb_ : cz < 251 := hb__
  refine j_ws (ws' := [(h, .inr (0, [.ref ar, .int (nI k)])), (ar, .inl (y 0, 1600, .inl (tby tx)))]) rfl ?_
  refine j_lv (lv' := [(3, .int (nI iz)), (2, .int (nI cz)), (0, .ref h), (1, .int (nI N))]) rfl ?_
  refine j_iload_n (pc := 5) C d_Bytes_check_5 rfl 0 rfl ?_
  refine j_iload_n (pc := 6) C d_Bytes_check_6 rfl 3 rfl ?_
  by_cases c5 : N ≤ iz
  · refine j_icmp_geT (pc := 7) C (tgt := 40) d_Bytes_check_7 (by decide) (show nI N ≤ nI iz from nI_le (by omega) (by omega)) ?_
    refine j_iload_n (pc := 40) C d_Bytes_check_40 rfl 1 rfl ?_
    exact j_iret (pc := 41) C hr rfl () (congrArg nI (hc_.trans (by rw [show iz = N by omega]))) [0, 1] rfl (by decide) (by decide) (by decide) d_Bytes_check_41
  · refine j_icmp_geF (pc := 7) C (tgt := 40) d_Bytes_check_7 (by decide) (show ¬ nI N ≤ nI iz from nI_ge (by omega) (by omega)) ?_
    refine j_iload_n (pc := 10) C d_Bytes_check_10 rfl 0 rfl ?_
    refine j_aload_n (pc := 11) C d_Bytes_check_11 rfl 2 rfl ?_
    refine j_get (pc := 12) C gf_Bytes_15 0 rfl rfl d_Bytes_check_12 ?_
    refine j_alen (pc := 15) C 1 0 rfl rfl (v := 1600) rfl d_Bytes_check_15 ?_
    refine j_icmp_geF (pc := 16) C (tgt := 40) d_Bytes_check_16 (by decide) (show ¬ nI 1600 ≤ nI iz from nI_ge (by omega) (by omega)) ?_
    refine j_iconst (pc := 19) C (v := 3) d_Bytes_check_19 (by decide) ?_
    refine j_iload_n (pc := 20) C d_Bytes_check_20 rfl 1 rfl ?_
    refine j_imul (pc := 21) C (v := nI (3 * cz)) d_Bytes_check_21 (pk_mul _ _) ?_
    refine j_aload_n (pc := 22) C d_Bytes_check_22 rfl 2 rfl ?_
    refine j_get (pc := 23) C gf_Bytes_15 0 rfl rfl d_Bytes_check_23 ?_
    refine j_iload_n (pc := 26) C d_Bytes_check_26 rfl 0 rfl ?_
    have hb6 : tx iz < 256 := hB iz
    refine j_iald (pc := 27) C 1 rfl (v := nI (tx iz)) (vp_in_nI (by omega) (by decide)) (by rw [nI_clamp (by omega)]; rfl) d_Bytes_check_27 ?_
    refine j_iadd (pc := 28) C (v := nI ((3 * cz) + (tx iz))) d_Bytes_check_28 (nI_add _ _) ?_
    refine j_sipush (pc := 29) C (v := 251) d_Bytes_check_29 (by decide) ?_
    refine j_irem (pc := 32) C (v := nI (((3 * cz) + (tx iz)) % 251)) d_Bytes_check_32 (by decide) (pk_rem (a := ((3 * cz) + (tx iz))) (d := 251) (by omega) (by omega) (by omega)) ?_
    refine j_istore_n (pc := 33) C (lv' := [(2, .int (nI (((3 * cz) + (tx iz)) % 251))), (3, .int (nI iz)), (0, .ref h), (1, .int (nI N))]) d_Bytes_check_33 rfl (by decide) rfl ?_
    refine j_iinc (pc := 34) C (v := nI (iz + 1)) (lv' := [(3, .int (nI (iz + 1))), (2, .int (nI (((3 * cz) + (tx iz)) % 251))), (0, .ref h), (1, .int (nI N))]) d_Bytes_check_34 1 rfl (nI_add _ _) (by decide) rfl ?_
    refine j_goto (pc := 37) C (tgt := 5) d_Bytes_check_37 (by decide) ?_
    exact ih4 ((iz + 1), (((3 * cz) + (tx iz)) % 251)) ⟨(show (iz + 1) ≤ N by omega), (show (((3 * cz) + (tx iz)) % 251) = ckF tx (iz + 1) from ck_up hc_), (Nat.mod_lt _ (by decide))⟩ (show N - (iz + 1) < N - iz by omega)
set_option maxHeartbeats 4000000 in
set_option maxRecDepth 100000 in
theorem c_F_tapeIsImage (l : Launch) (D : va_G) (y : Nat → ClassId) (x : Nat) (tp : Nat) (pi : Nat) (nh : Nat) (th : Nat) (ps : Nat) (ad : Nat → Nat) (ae : Nat → Nat) (rd : Nat) (pl : Nat) (dr : Int32) (td : Nat) (k : Nat) (tx : Nat → Nat) (d : LD) (hm : Nat) (n9 : Nat) (hk : k ≤ 1600) (h9 : d.1 9 = nI n9) (b9 : n9 ≤ 9) (hB : ∀ j, tx j < 256) (hh2 : d.1 2 = nI hm) (bh2 : hm ≤ 9999) : CT l D y ⟨"NineBoards", "tapeIsImage", "()Z"⟩ prog_1_method_46_code 3 (some .boolean) ({ frames := 2, cells := 0, slots := 0, locals := 42 } : Room) [.ref x] [(x, .inr (9, [.ref tp, .ref pi, .ref nh, .ref th, .ref ps, .ref (ad 0), .ref (ae 0), .ref rd, .ref pl, .int dr])), (tp, .inr (0, [.ref td, .int (nI k)])), (td, .inl (y 0, 1600, .inl (tby tx))), (ad 0, .inr (2, [.int (d.1 0), .int (d.1 1), .int (d.1 2), .int (d.1 3), .ref (ad 1), .int (d.1 4), .ref (ad 11), .ref (ad 12), .ref (ad 2), .ref (ad 3), .int (d.1 5), .int (d.1 6), .int (d.1 7), .int (d.1 8)])), (ad 1, .inr (1, [.int (d.1 9), .ref (ad 4), .ref (ad 5), .ref (ad 6), .ref (ad 7), .ref (ad 8), .ref (ad 9), .ref (ad 10)]))] (QI D [(x, .inr (9, [.ref tp, .ref pi, .ref nh, .ref th, .ref ps, .ref (ad 0), .ref (ae 0), .ref rd, .ref pl, .int dr])), (tp, .inr (0, [.ref td, .int (nI k)])), (td, .inl (y 0, 1600, .inl (tby tx))), (ad 0, .inr (2, [.int (d.1 0), .int (d.1 1), .int (d.1 2), .int (d.1 3), .ref (ad 1), .int (d.1 4), .ref (ad 11), .ref (ad 12), .ref (ad 2), .ref (ad 3), .int (d.1 5), .int (d.1 6), .int (d.1 7), .int (d.1 8)])), (ad 1, .inr (1, [.int (d.1 9), .ref (ad 4), .ref (ad 5), .ref (ad 6), .ref (ad 7), .ref (ad 8), .ref (ad 9), .ref (ad 10)]))] (fun (r : Int32) (u : Unit) => ((r = 1 ∧ onB tx k n9 hm) ∨ (r = 0 ∧ ¬ onB tx k n9 hm))) (fun _ => [(x, .inr (9, [.ref tp, .ref pi, .ref nh, .ref th, .ref ps, .ref (ad 0), .ref (ae 0), .ref rd, .ref pl, .int dr])), (tp, .inr (0, [.ref td, .int (nI k)])), (td, .inl (y 0, 1600, .inl (tby tx))), (ad 0, .inr (2, [.int (d.1 0), .int (d.1 1), .int (d.1 2), .int (d.1 3), .ref (ad 1), .int (d.1 4), .ref (ad 11), .ref (ad 12), .ref (ad 2), .ref (ad 3), .int (d.1 5), .int (d.1 6), .int (d.1 7), .int (d.1 8)])), (ad 1, .inr (1, [.int (d.1 9), .ref (ad 4), .ref (ad 5), .ref (ad 6), .ref (ad 7), .ref (ad 8), .ref (ad 9), .ref (ad 10)]))])) := by
  refine CT.of (by decide) (nb rfl) ?_
  intro p e s m args below meth c C hr
  refine j_lv (lv' := [(0, .ref x)]) rfl ?_
  refine j_aload_n (pc := 0) C d_Nine_tapeIsImage_0 rfl 0 rfl ?_
  refine j_get (pc := 1) C gf_Nine_41 0 rfl rfl d_Nine_tapeIsImage_1 ?_
  refine j_get (pc := 4) C gf_Nine_89 3 rfl rfl d_Nine_tapeIsImage_4 ?_
  refine j_get (pc := 7) C gf_Nine_93 4 rfl rfl d_Nine_tapeIsImage_7 ?_
  refine j_st (st' := [.int (nI n9)]) (by rw [h9]) ?_
  refine j_istore_n (pc := 10) C (lv' := [(1, .int (nI n9)), (0, .ref x)]) d_Nine_tapeIsImage_10 rfl (by decide) rfl ?_
  refine j_aload_n (pc := 11) C d_Nine_tapeIsImage_11 rfl 1 rfl ?_
  refine j_get (pc := 12) C gf_Nine_14 0 rfl rfl d_Nine_tapeIsImage_12 ?_
  refine j_get (pc := 15) C gf_Nine_70 1 rfl rfl d_Nine_tapeIsImage_15 ?_
  refine j_iconst (pc := 18) C (v := 5) d_Nine_tapeIsImage_18 (by decide) ?_
  refine j_iload_n (pc := 19) C d_Nine_tapeIsImage_19 rfl 0 rfl ?_
  refine j_iadd (pc := 20) C (v := nI (5 + n9)) d_Nine_tapeIsImage_20 (nI_add _ _) ?_
  refine j_iconst (pc := 21) C (v := 1) d_Nine_tapeIsImage_21 (by decide) ?_
  refine j_iadd (pc := 22) C (v := nI ((5 + n9) + 1)) d_Nine_tapeIsImage_22 (nI_add _ _) ?_
  by_cases c1 : ¬ k = ((5 + n9) + 1)
  · refine j_icmp_neT (pc := 23) C (tgt := 61) d_Nine_tapeIsImage_23 (by decide) (show ¬ nI k = nI ((5 + n9) + 1) from fun e => absurd ((nI_eq (by omega) (by omega)).mp e) (by omega)) ?_
    refine j_iconst (pc := 61) C (v := 0) d_Nine_tapeIsImage_61 (by decide) ?_
    exact j_iret (pc := 62) C hr (by decide) () (Or.inr ⟨rfl, fun q => by have e1 := q.1; have e2 := q.2.1; have e3 := q.2.2.2; omega⟩) [0, 1, 2, 3, 4] rfl (by decide) (by decide) (by decide) d_Nine_tapeIsImage_62
  · refine j_icmp_neF (pc := 23) C (tgt := 61) d_Nine_tapeIsImage_23 (by decide) (show nI k = nI ((5 + n9) + 1) from (nI_eq (by omega) (by omega)).mpr (by omega)) ?_
    refine j_aload_n (pc := 26) C d_Nine_tapeIsImage_26 rfl 1 rfl ?_
    refine j_get (pc := 27) C gf_Nine_14 0 rfl rfl d_Nine_tapeIsImage_27 ?_
    refine j_aload_n (pc := 30) C d_Nine_tapeIsImage_30 rfl 1 rfl ?_
    refine j_get (pc := 31) C gf_Nine_14 0 rfl rfl d_Nine_tapeIsImage_31 ?_
    refine j_get (pc := 34) C gf_Nine_70 1 rfl rfl d_Nine_tapeIsImage_34 ?_
    refine j_iconst (pc := 37) C (v := 1) d_Nine_tapeIsImage_37 (by decide) ?_
    refine j_isub (pc := 38) C (v := nI (k - 1)) d_Nine_tapeIsImage_38 (pk_sub (a := k) (b := 1) (by omega)) ?_
    refine j_callVi (pc := 39) C (c_xcheck l D y tp td k tx (k - 1) (by omega) hk hB) kw_Nine_311 kv_Bytes_check 0 0 rfl rfl ⟨by decide, by decide⟩ ⟨by decide, by decide⟩ (wr := [(x, .inr (9, [.ref tp, .ref pi, .ref nh, .ref th, .ref ps, .ref (ad 0), .ref (ae 0), .ref rd, .ref pl, .int dr])), (ad 0, .inr (2, [.int (d.1 0), .int (d.1 1), .int (d.1 2), .int (d.1 3), .ref (ad 1), .int (d.1 4), .ref (ad 11), .ref (ad 12), .ref (ad 2), .ref (ad 3), .int (d.1 5), .int (d.1 6), .int (d.1 7), .int (d.1 8)])), (ad 1, .inr (1, [.int (d.1 9), .ref (ad 4), .ref (ad 5), .ref (ad 6), .ref (ad 7), .ref (ad 8), .ref (ad 9), .ref (ad 10)]))]) [1, 2] [0, 3, 4] rfl rfl (by decide) (by decide) (by decide) (As := [.int (nI (k - 1))]) (rest := []) rfl (nb rfl) rfl d_Nine_tapeIsImage_39 (fun r2 _ hr2 => ?_)
    obtain rfl := hr2
    refine j_ws (ws' := [(x, .inr (9, [.ref tp, .ref pi, .ref nh, .ref th, .ref ps, .ref (ad 0), .ref (ae 0), .ref rd, .ref pl, .int dr])), (ad 0, .inr (2, [.int (d.1 0), .int (d.1 1), .int (d.1 2), .int (d.1 3), .ref (ad 1), .int (d.1 4), .ref (ad 11), .ref (ad 12), .ref (ad 2), .ref (ad 3), .int (d.1 5), .int (d.1 6), .int (d.1 7), .int (d.1 8)])), (ad 1, .inr (1, [.int (d.1 9), .ref (ad 4), .ref (ad 5), .ref (ad 6), .ref (ad 7), .ref (ad 8), .ref (ad 9), .ref (ad 10)])), (tp, .inr (0, [.ref td, .int (nI k)])), (td, .inl (y 0, 1600, .inl (tby tx)))]) rfl ?_
    have hck : ckF tx (k - 1) < 251 := ck_lt
    refine j_aload_n (pc := 42) C d_Nine_tapeIsImage_42 rfl 1 rfl ?_
    refine j_get (pc := 43) C gf_Nine_14 0 rfl rfl d_Nine_tapeIsImage_43 ?_
    refine j_aload_n (pc := 46) C d_Nine_tapeIsImage_46 rfl 1 rfl ?_
    refine j_get (pc := 47) C gf_Nine_14 0 rfl rfl d_Nine_tapeIsImage_47 ?_
    refine j_get (pc := 50) C gf_Nine_70 3 rfl rfl d_Nine_tapeIsImage_50 ?_
    refine j_iconst (pc := 53) C (v := 1) d_Nine_tapeIsImage_53 (by decide) ?_
    refine j_isub (pc := 54) C (v := nI (k - 1)) d_Nine_tapeIsImage_54 (pk_sub (a := k) (b := 1) (by omega)) ?_
    refine j_callVi (pc := 55) C (c_xat l D y tp td k tx (k - 1) (by omega) hk hB) kw_Nine_314 kv_Bytes_at 0 0 rfl rfl ⟨by decide, by decide⟩ ⟨by decide, by decide⟩ (wr := [(x, .inr (9, [.ref tp, .ref pi, .ref nh, .ref th, .ref ps, .ref (ad 0), .ref (ae 0), .ref rd, .ref pl, .int dr])), (ad 0, .inr (2, [.int (d.1 0), .int (d.1 1), .int (d.1 2), .int (d.1 3), .ref (ad 1), .int (d.1 4), .ref (ad 11), .ref (ad 12), .ref (ad 2), .ref (ad 3), .int (d.1 5), .int (d.1 6), .int (d.1 7), .int (d.1 8)])), (ad 1, .inr (1, [.int (d.1 9), .ref (ad 4), .ref (ad 5), .ref (ad 6), .ref (ad 7), .ref (ad 8), .ref (ad 9), .ref (ad 10)]))]) [3, 4] [0, 1, 2] rfl rfl (by decide) (by decide) (by decide) (As := [.int (nI (k - 1))]) (rest := [.int (nI (ckF tx (k - 1)))]) rfl (nb rfl) rfl d_Nine_tapeIsImage_55 (fun r3 _ hr3 => ?_)
    obtain rfl := hr3
    have hb4 : tx (k - 1) < 256 := hB (k - 1)
    refine j_ws (ws' := [(x, .inr (9, [.ref tp, .ref pi, .ref nh, .ref th, .ref ps, .ref (ad 0), .ref (ae 0), .ref rd, .ref pl, .int dr])), (ad 0, .inr (2, [.int (d.1 0), .int (d.1 1), .int (d.1 2), .int (d.1 3), .ref (ad 1), .int (d.1 4), .ref (ad 11), .ref (ad 12), .ref (ad 2), .ref (ad 3), .int (d.1 5), .int (d.1 6), .int (d.1 7), .int (d.1 8)])), (ad 1, .inr (1, [.int (d.1 9), .ref (ad 4), .ref (ad 5), .ref (ad 6), .ref (ad 7), .ref (ad 8), .ref (ad 9), .ref (ad 10)])), (tp, .inr (0, [.ref td, .int (nI k)])), (td, .inl (y 0, 1600, .inl (tby tx)))]) rfl ?_
    by_cases c5 : (ckF tx (k - 1)) = (tx (k - 1))
    · refine j_icmp_eqT (pc := 58) C (tgt := 63) d_Nine_tapeIsImage_58 (by decide) (show nI (ckF tx (k - 1)) = nI (tx (k - 1)) from (nI_eq (by omega) (by omega)).mpr (by omega)) ?_
      refine j_iconst (pc := 63) C (v := 0) d_Nine_tapeIsImage_63 (by decide) ?_
      refine j_istore_n (pc := 64) C (lv' := [(2, .int 0), (1, .int (nI n9)), (0, .ref x)]) d_Nine_tapeIsImage_64 rfl (by decide) rfl ?_
      refine j_loop (α := Nat) (fun a => n9 - a) (fun a => (a ≤ n9) ∧ ((∀ g, g < a → tx (5 + g) ≤ 20))) (fun a => [(x, .inr (9, [.ref tp, .ref pi, .ref nh, .ref th, .ref ps, .ref (ad 0), .ref (ae 0), .ref rd, .ref pl, .int dr])), (ad 0, .inr (2, [.int (d.1 0), .int (d.1 1), .int (d.1 2), .int (d.1 3), .ref (ad 1), .int (d.1 4), .ref (ad 11), .ref (ad 12), .ref (ad 2), .ref (ad 3), .int (d.1 5), .int (d.1 6), .int (d.1 7), .int (d.1 8)])), (ad 1, .inr (1, [.int (d.1 9), .ref (ad 4), .ref (ad 5), .ref (ad 6), .ref (ad 7), .ref (ad 8), .ref (ad 9), .ref (ad 10)])), (tp, .inr (0, [.ref td, .int (nI k)])), (td, .inl (y 0, 1600, .inl (tby tx)))]) (fun a => [(2, .int (nI a)), (1, .int (nI n9)), (0, .ref x)]) (0) rfl rfl ⟨(show 0 ≤ n9 by omega), (fun g hg => absurd hg (by omega))⟩ ?_
      rintro iz hP21 ih22
      obtain ⟨hi__, hg__⟩ := hP21
      have hi_ : iz ≤ n9 := hi__
      have hg_ : (∀ g, g < iz → tx (5 + g) ≤ 20) := hg__
      refine j_ws (ws' := [(x, .inr (9, [.ref tp, .ref pi, .ref nh, .ref th, .ref ps, .ref (ad 0), .ref (ae 0), .ref rd, .ref pl, .int dr])), (ad 0, .inr (2, [.int (d.1 0), .int (d.1 1), .int (d.1 2), .int (d.1 3), .ref (ad 1), .int (d.1 4), .ref (ad 11), .ref (ad 12), .ref (ad 2), .ref (ad 3), .int (d.1 5), .int (d.1 6), .int (d.1 7), .int (d.1 8)])), (ad 1, .inr (1, [.int (d.1 9), .ref (ad 4), .ref (ad 5), .ref (ad 6), .ref (ad 7), .ref (ad 8), .ref (ad 9), .ref (ad 10)])), (tp, .inr (0, [.ref td, .int (nI k)])), (td, .inl (y 0, 1600, .inl (tby tx)))]) rfl ?_
      refine j_lv (lv' := [(2, .int (nI iz)), (1, .int (nI n9)), (0, .ref x)]) rfl ?_
      refine j_iload_n (pc := 65) C d_Nine_tapeIsImage_65 rfl 0 rfl ?_
      refine j_iload_n (pc := 66) C d_Nine_tapeIsImage_66 rfl 1 rfl ?_
      by_cases c23 : n9 ≤ iz
      · refine j_icmp_geT (pc := 67) C (tgt := 93) d_Nine_tapeIsImage_67 (by decide) (show nI n9 ≤ nI iz from nI_le (by omega) (by omega)) ?_
        refine j_aload_n (pc := 93) C d_Nine_tapeIsImage_93 rfl 2 rfl ?_
        refine j_get (pc := 94) C gf_Nine_14 0 rfl rfl d_Nine_tapeIsImage_94 ?_
        refine j_iconst (pc := 97) C (v := 0) d_Nine_tapeIsImage_97 (by decide) ?_
        refine j_callVi (pc := 98) C (c_xtwoAt l D y tp td k tx 0 (by omega) hk hB) kw_Nine_320 kv_Bytes_twoAt 0 0 rfl rfl ⟨by decide, by decide⟩ ⟨by decide, by decide⟩ (wr := [(x, .inr (9, [.ref tp, .ref pi, .ref nh, .ref th, .ref ps, .ref (ad 0), .ref (ae 0), .ref rd, .ref pl, .int dr])), (ad 0, .inr (2, [.int (d.1 0), .int (d.1 1), .int (d.1 2), .int (d.1 3), .ref (ad 1), .int (d.1 4), .ref (ad 11), .ref (ad 12), .ref (ad 2), .ref (ad 3), .int (d.1 5), .int (d.1 6), .int (d.1 7), .int (d.1 8)])), (ad 1, .inr (1, [.int (d.1 9), .ref (ad 4), .ref (ad 5), .ref (ad 6), .ref (ad 7), .ref (ad 8), .ref (ad 9), .ref (ad 10)]))]) [3, 4] [0, 1, 2] rfl rfl (by decide) (by decide) (by decide) (As := [.int 0]) (rest := []) rfl (nb rfl) rfl d_Nine_tapeIsImage_98 (fun r24 _ hr24 => ?_)
        obtain rfl := hr24
        have hb25 : tx 0 < 256 := hB 0
        have hb26 : tx 1 < 256 := hB 1
        refine j_ws (ws' := [(x, .inr (9, [.ref tp, .ref pi, .ref nh, .ref th, .ref ps, .ref (ad 0), .ref (ae 0), .ref rd, .ref pl, .int dr])), (ad 0, .inr (2, [.int (d.1 0), .int (d.1 1), .int (d.1 2), .int (d.1 3), .ref (ad 1), .int (d.1 4), .ref (ad 11), .ref (ad 12), .ref (ad 2), .ref (ad 3), .int (d.1 5), .int (d.1 6), .int (d.1 7), .int (d.1 8)])), (ad 1, .inr (1, [.int (d.1 9), .ref (ad 4), .ref (ad 5), .ref (ad 6), .ref (ad 7), .ref (ad 8), .ref (ad 9), .ref (ad 10)])), (tp, .inr (0, [.ref td, .int (nI k)])), (td, .inl (y 0, 1600, .inl (tby tx)))]) rfl ?_
        refine j_sipush (pc := 101) C (v := 999) d_Nine_tapeIsImage_101 (by decide) ?_
        by_cases c27 : 999 < (tx 0 * 256 + tx 1)
        · refine j_icmp_gtT (pc := 104) C (tgt := 141) d_Nine_tapeIsImage_104 (by decide) (show nI 999 < nI (tx 0 * 256 + tx 1) from nI_lt (by omega) (by omega)) ?_
          refine j_iconst (pc := 141) C (v := 0) d_Nine_tapeIsImage_141 (by decide) ?_
          exact j_iret (pc := 142) C hr (by decide) () (Or.inr ⟨rfl, fun q => by have e1 := q.1; have e2 := q.2.1; have e3 := q.2.2.2; omega⟩) [0, 3, 4, 1, 2] rfl (by decide) (by decide) (by decide) d_Nine_tapeIsImage_142
        · refine j_icmp_gtF (pc := 104) C (tgt := 141) d_Nine_tapeIsImage_104 (by decide) (show ¬ nI 999 < nI (tx 0 * 256 + tx 1) from nI_nlt (by omega) (by omega)) ?_
          refine j_aload_n (pc := 107) C d_Nine_tapeIsImage_107 rfl 2 rfl ?_
          refine j_get (pc := 108) C gf_Nine_14 0 rfl rfl d_Nine_tapeIsImage_108 ?_
          refine j_iconst (pc := 111) C (v := 2) d_Nine_tapeIsImage_111 (by decide) ?_
          refine j_callVi (pc := 112) C (c_xtwoAt l D y tp td k tx 2 (by omega) hk hB) kw_Nine_320 kv_Bytes_twoAt 0 0 rfl rfl ⟨by decide, by decide⟩ ⟨by decide, by decide⟩ (wr := [(x, .inr (9, [.ref tp, .ref pi, .ref nh, .ref th, .ref ps, .ref (ad 0), .ref (ae 0), .ref rd, .ref pl, .int dr])), (ad 0, .inr (2, [.int (d.1 0), .int (d.1 1), .int (d.1 2), .int (d.1 3), .ref (ad 1), .int (d.1 4), .ref (ad 11), .ref (ad 12), .ref (ad 2), .ref (ad 3), .int (d.1 5), .int (d.1 6), .int (d.1 7), .int (d.1 8)])), (ad 1, .inr (1, [.int (d.1 9), .ref (ad 4), .ref (ad 5), .ref (ad 6), .ref (ad 7), .ref (ad 8), .ref (ad 9), .ref (ad 10)]))]) [3, 4] [0, 1, 2] rfl rfl (by decide) (by decide) (by decide) (As := [.int 2]) (rest := []) rfl (nb rfl) rfl d_Nine_tapeIsImage_112 (fun r28 _ hr28 => ?_)
          obtain rfl := hr28
          have hb29 : tx 2 < 256 := hB 2
          have hb30 : tx 3 < 256 := hB 3
          refine j_ws (ws' := [(x, .inr (9, [.ref tp, .ref pi, .ref nh, .ref th, .ref ps, .ref (ad 0), .ref (ae 0), .ref rd, .ref pl, .int dr])), (ad 0, .inr (2, [.int (d.1 0), .int (d.1 1), .int (d.1 2), .int (d.1 3), .ref (ad 1), .int (d.1 4), .ref (ad 11), .ref (ad 12), .ref (ad 2), .ref (ad 3), .int (d.1 5), .int (d.1 6), .int (d.1 7), .int (d.1 8)])), (ad 1, .inr (1, [.int (d.1 9), .ref (ad 4), .ref (ad 5), .ref (ad 6), .ref (ad 7), .ref (ad 8), .ref (ad 9), .ref (ad 10)])), (tp, .inr (0, [.ref td, .int (nI k)])), (td, .inl (y 0, 1600, .inl (tby tx)))]) rfl ?_
          refine j_aload_n (pc := 115) C d_Nine_tapeIsImage_115 rfl 2 rfl ?_
          refine j_get (pc := 116) C gf_Nine_41 0 rfl rfl d_Nine_tapeIsImage_116 ?_
          refine j_get (pc := 119) C gf_Nine_283 1 rfl rfl d_Nine_tapeIsImage_119 ?_
          refine j_st (st' := [.int (nI hm), .int (nI (tx 2 * 256 + tx 3))]) (by rw [hh2]) ?_
          by_cases c31 : hm < (tx 2 * 256 + tx 3)
          · refine j_icmp_gtT (pc := 122) C (tgt := 141) d_Nine_tapeIsImage_122 (by decide) (show nI hm < nI (tx 2 * 256 + tx 3) from nI_lt (by omega) (by omega)) ?_
            refine j_iconst (pc := 141) C (v := 0) d_Nine_tapeIsImage_141 (by decide) ?_
            exact j_iret (pc := 142) C hr (by decide) () (Or.inr ⟨rfl, fun q => by have e1 := q.1; have e2 := q.2.1; have e3 := q.2.2.2; omega⟩) [0, 3, 4, 1, 2] rfl (by decide) (by decide) (by decide) d_Nine_tapeIsImage_142
          · refine j_icmp_gtF (pc := 122) C (tgt := 141) d_Nine_tapeIsImage_122 (by decide) (show ¬ nI hm < nI (tx 2 * 256 + tx 3) from nI_nlt (by omega) (by omega)) ?_
            refine j_aload_n (pc := 125) C d_Nine_tapeIsImage_125 rfl 2 rfl ?_
            refine j_get (pc := 126) C gf_Nine_14 0 rfl rfl d_Nine_tapeIsImage_126 ?_
            refine j_iconst (pc := 129) C (v := 4) d_Nine_tapeIsImage_129 (by decide) ?_
            refine j_callVi (pc := 130) C (c_xat l D y tp td k tx 4 (by omega) hk hB) kw_Nine_314 kv_Bytes_at 0 0 rfl rfl ⟨by decide, by decide⟩ ⟨by decide, by decide⟩ (wr := [(x, .inr (9, [.ref tp, .ref pi, .ref nh, .ref th, .ref ps, .ref (ad 0), .ref (ae 0), .ref rd, .ref pl, .int dr])), (ad 0, .inr (2, [.int (d.1 0), .int (d.1 1), .int (d.1 2), .int (d.1 3), .ref (ad 1), .int (d.1 4), .ref (ad 11), .ref (ad 12), .ref (ad 2), .ref (ad 3), .int (d.1 5), .int (d.1 6), .int (d.1 7), .int (d.1 8)])), (ad 1, .inr (1, [.int (d.1 9), .ref (ad 4), .ref (ad 5), .ref (ad 6), .ref (ad 7), .ref (ad 8), .ref (ad 9), .ref (ad 10)]))]) [3, 4] [0, 1, 2] rfl rfl (by decide) (by decide) (by decide) (As := [.int 4]) (rest := []) rfl (nb rfl) rfl d_Nine_tapeIsImage_130 (fun r32 _ hr32 => ?_)
            obtain rfl := hr32
            have hb33 : tx 4 < 256 := hB 4
            refine j_ws (ws' := [(x, .inr (9, [.ref tp, .ref pi, .ref nh, .ref th, .ref ps, .ref (ad 0), .ref (ae 0), .ref rd, .ref pl, .int dr])), (ad 0, .inr (2, [.int (d.1 0), .int (d.1 1), .int (d.1 2), .int (d.1 3), .ref (ad 1), .int (d.1 4), .ref (ad 11), .ref (ad 12), .ref (ad 2), .ref (ad 3), .int (d.1 5), .int (d.1 6), .int (d.1 7), .int (d.1 8)])), (ad 1, .inr (1, [.int (d.1 9), .ref (ad 4), .ref (ad 5), .ref (ad 6), .ref (ad 7), .ref (ad 8), .ref (ad 9), .ref (ad 10)])), (tp, .inr (0, [.ref td, .int (nI k)])), (td, .inl (y 0, 1600, .inl (tby tx)))]) rfl ?_
            refine j_iconst (pc := 133) C (v := 2) d_Nine_tapeIsImage_133 (by decide) ?_
            by_cases c34 : 2 < (tx 4)
            · refine j_icmp_gtT (pc := 134) C (tgt := 141) d_Nine_tapeIsImage_134 (by decide) (show nI 2 < nI (tx 4) from nI_lt (by omega) (by omega)) ?_
              refine j_iconst (pc := 141) C (v := 0) d_Nine_tapeIsImage_141 (by decide) ?_
              exact j_iret (pc := 142) C hr (by decide) () (Or.inr ⟨rfl, fun q => by have e1 := q.1; have e2 := q.2.1; have e3 := q.2.2.2; omega⟩) [0, 3, 4, 1, 2] rfl (by decide) (by decide) (by decide) d_Nine_tapeIsImage_142
            · refine j_icmp_gtF (pc := 134) C (tgt := 141) d_Nine_tapeIsImage_134 (by decide) (show ¬ nI 2 < nI (tx 4) from nI_nlt (by omega) (by omega)) ?_
              refine j_iconst (pc := 137) C (v := 1) d_Nine_tapeIsImage_137 (by decide) ?_
              refine j_goto (pc := 138) C (tgt := 142) d_Nine_tapeIsImage_138 (by decide) ?_
              exact j_iret (pc := 142) C hr (by decide) () (Or.inl ⟨rfl, by omega, by first | assumption | omega, fun g hg => hg_ g (by omega), by omega, by omega, by omega⟩) [0, 3, 4, 1, 2] rfl (by decide) (by decide) (by decide) d_Nine_tapeIsImage_142
      · refine j_icmp_geF (pc := 67) C (tgt := 93) d_Nine_tapeIsImage_67 (by decide) (show ¬ nI n9 ≤ nI iz from nI_ge (by omega) (by omega)) ?_
        refine j_aload_n (pc := 70) C d_Nine_tapeIsImage_70 rfl 2 rfl ?_
        refine j_get (pc := 71) C gf_Nine_14 0 rfl rfl d_Nine_tapeIsImage_71 ?_
        refine j_iconst (pc := 74) C (v := 5) d_Nine_tapeIsImage_74 (by decide) ?_
        refine j_iload_n (pc := 75) C d_Nine_tapeIsImage_75 rfl 0 rfl ?_
        refine j_iadd (pc := 76) C (v := nI (5 + iz)) d_Nine_tapeIsImage_76 (nI_add _ _) ?_
        refine j_callVi (pc := 77) C (c_xat l D y tp td k tx (5 + iz) (by omega) hk hB) kw_Nine_314 kv_Bytes_at 0 0 rfl rfl ⟨by decide, by decide⟩ ⟨by decide, by decide⟩ (wr := [(x, .inr (9, [.ref tp, .ref pi, .ref nh, .ref th, .ref ps, .ref (ad 0), .ref (ae 0), .ref rd, .ref pl, .int dr])), (ad 0, .inr (2, [.int (d.1 0), .int (d.1 1), .int (d.1 2), .int (d.1 3), .ref (ad 1), .int (d.1 4), .ref (ad 11), .ref (ad 12), .ref (ad 2), .ref (ad 3), .int (d.1 5), .int (d.1 6), .int (d.1 7), .int (d.1 8)])), (ad 1, .inr (1, [.int (d.1 9), .ref (ad 4), .ref (ad 5), .ref (ad 6), .ref (ad 7), .ref (ad 8), .ref (ad 9), .ref (ad 10)]))]) [3, 4] [0, 1, 2] rfl rfl (by decide) (by decide) (by decide) (As := [.int (nI (5 + iz))]) (rest := []) rfl (nb rfl) rfl d_Nine_tapeIsImage_77 (fun r35 _ hr35 => ?_)
        obtain rfl := hr35
        have hb36 : tx (5 + iz) < 256 := hB (5 + iz)
        refine j_ws (ws' := [(x, .inr (9, [.ref tp, .ref pi, .ref nh, .ref th, .ref ps, .ref (ad 0), .ref (ae 0), .ref rd, .ref pl, .int dr])), (ad 0, .inr (2, [.int (d.1 0), .int (d.1 1), .int (d.1 2), .int (d.1 3), .ref (ad 1), .int (d.1 4), .ref (ad 11), .ref (ad 12), .ref (ad 2), .ref (ad 3), .int (d.1 5), .int (d.1 6), .int (d.1 7), .int (d.1 8)])), (ad 1, .inr (1, [.int (d.1 9), .ref (ad 4), .ref (ad 5), .ref (ad 6), .ref (ad 7), .ref (ad 8), .ref (ad 9), .ref (ad 10)])), (tp, .inr (0, [.ref td, .int (nI k)])), (td, .inl (y 0, 1600, .inl (tby tx)))]) rfl ?_
        refine j_bipush (pc := 80) C (v := 20) d_Nine_tapeIsImage_80 (by decide) ?_
        by_cases c37 : (tx (5 + iz)) ≤ 20
        · refine j_icmp_leT (pc := 82) C (tgt := 87) d_Nine_tapeIsImage_82 (by decide) (show nI (tx (5 + iz)) ≤ nI 20 from nI_le (by omega) (by omega)) ?_
          refine j_iinc (pc := 87) C (v := nI (iz + 1)) (lv' := [(2, .int (nI (iz + 1))), (1, .int (nI n9)), (0, .ref x)]) d_Nine_tapeIsImage_87 0 rfl (nI_add _ _) (by decide) rfl ?_
          refine j_goto (pc := 90) C (tgt := 65) d_Nine_tapeIsImage_90 (by decide) ?_
          exact ih22 ((iz + 1)) ⟨(show (iz + 1) ≤ n9 by omega), (fun g hg => if e : g = iz then (by rw [e]; omega) else hg_ g (by omega))⟩ (show n9 - (iz + 1) < n9 - iz by omega)
        · refine j_icmp_leF (pc := 82) C (tgt := 87) d_Nine_tapeIsImage_82 (by decide) (show ¬ nI (tx (5 + iz)) ≤ nI 20 from nI_ge (by omega) (by omega)) ?_
          refine j_iconst (pc := 85) C (v := 0) d_Nine_tapeIsImage_85 (by decide) ?_
          exact j_iret (pc := 86) C hr (by decide) () (Or.inr ⟨rfl, fun q => by have e1 := q.1; have e2 := q.2.1; have e3 := q.2.2.2; have e4 := q.2.2.1 iz (by omega); omega⟩) [0, 3, 4, 1, 2] rfl (by decide) (by decide) (by decide) d_Nine_tapeIsImage_86
    · refine j_icmp_eqF (pc := 58) C (tgt := 63) d_Nine_tapeIsImage_58 (by decide) (show ¬ nI (ckF tx (k - 1)) = nI (tx (k - 1)) from fun e => absurd ((nI_eq (by omega) (by omega)).mp e) (by omega)) ?_
      refine j_iconst (pc := 61) C (v := 0) d_Nine_tapeIsImage_61 (by decide) ?_
      exact j_iret (pc := 62) C hr (by decide) () (Or.inr ⟨rfl, fun q => by have e1 := q.1; have e2 := q.2.1; have e3 := q.2.2.2; omega⟩) [0, 3, 4, 1, 2] rfl (by decide) (by decide) (by decide) d_Nine_tapeIsImage_62
set_option maxHeartbeats 4000000 in
set_option maxRecDepth 100000 in
theorem c_yput (l : Launch) (D : va_G) (y : Nat → ClassId) (h : Nat) (a : Nat) (k : Nat) (f : Nat → Int32) (v : Int32) (hk : k + 1 ≤ 15) : CT l D y ⟨"NineBoards$Bytes", "put", "(I)V"⟩ prog_2_method_2_code 2 none ({ frames := 0, cells := 0, slots := 0, locals := 0 } : Room) [.ref h, .int v] [(h, .inr (0, [.ref a, .int (nI k)])), (a, .inl (y 0, 15, .inl f))] (QV D [(h, .inr (0, [.ref a, .int (nI k)])), (a, .inl (y 0, 15, .inl f))] (fun (_ : Unit) => True) (fun _ => [(h, .inr (0, [.ref a, .int (nI (k + 1))])), (a, .inl (y 0, 15, .inl (p1T f k v)))])) := by
  refine CT.of (by decide) (nb rfl) ?_
  intro p e s m args below meth c C hr
  refine j_lv (lv' := [(0, .ref h), (1, .int v)]) rfl ?_
  refine j_aload_n (pc := 0) C d_Bytes_put_0 rfl 0 rfl ?_
  refine j_get (pc := 1) C gf_Bytes_21 0 rfl rfl d_Bytes_put_1 ?_
  refine j_if_ltF (pc := 4) C (tgt := 43) d_Bytes_put_4 (by decide) (show ¬ nI k < nI 0 from nI_nlt (by omega) (by omega)) ?_
  refine j_aload_n (pc := 7) C d_Bytes_put_7 rfl 0 rfl ?_
  refine j_get (pc := 8) C gf_Bytes_21 0 rfl rfl d_Bytes_put_8 ?_
  refine j_aload_n (pc := 11) C d_Bytes_put_11 rfl 0 rfl ?_
  refine j_get (pc := 12) C gf_Bytes_15 0 rfl rfl d_Bytes_put_12 ?_
  refine j_alen (pc := 15) C 1 0 rfl rfl (v := 15) rfl d_Bytes_put_15 ?_
  refine j_icmp_geF (pc := 16) C (tgt := 43) d_Bytes_put_16 (by decide) (show ¬ nI 15 ≤ nI k from nI_ge (by omega) (by omega)) ?_
  refine j_aload_n (pc := 19) C d_Bytes_put_19 rfl 0 rfl ?_
  refine j_get (pc := 20) C gf_Bytes_15 0 rfl rfl d_Bytes_put_20 ?_
  refine j_aload_n (pc := 23) C d_Bytes_put_23 rfl 0 rfl ?_
  refine j_get (pc := 24) C gf_Bytes_21 0 rfl rfl d_Bytes_put_24 ?_
  refine j_iload_n (pc := 27) C d_Bytes_put_27 rfl 1 rfl ?_
  refine j_sipush (pc := 28) C (v := 255) d_Bytes_put_28 (by decide) ?_
  refine j_iand (pc := 31) C (v := v &&& 255) d_Bytes_put_31 rfl ?_
  refine j_iast (pc := 32) C 1 rfl (ws' := [(h, .inr (0, [.ref a, .int (nI k)])), (a, .inl (y 0, 15, .inl (upd f k (v &&& 255))))]) (vp_in_nI (by omega) (by decide)) (by rw [nI_clamp (by omega)]; rfl) d_Bytes_put_32 ?_
  refine j_aload_n (pc := 33) C d_Bytes_put_33 rfl 0 rfl ?_
  refine j_dup (pc := 34) C d_Bytes_put_34 rfl ?_
  refine j_get (pc := 35) C gf_Bytes_21 0 rfl rfl d_Bytes_put_35 ?_
  refine j_iconst (pc := 38) C (v := 1) d_Bytes_put_38 (by decide) ?_
  refine j_iadd (pc := 39) C (v := nI (k + 1)) d_Bytes_put_39 (nI_add _ _) ?_
  refine j_put (pc := 40) C pf_Bytes_21 0 (ws' := [(h, .inr (0, [.ref a, .int (nI (k + 1))])), (a, .inl (y 0, 15, .inl (upd f k (v &&& 255))))]) rfl rfl rfl (nl rfl) rfl d_Bytes_put_40 ?_
  refine j_ws (ws' := [(h, .inr (0, [.ref a, .int (nI (k + 1))])), (a, .inl (y 0, 15, .inl (p1T f k v)))]) rfl ?_
  exact j_vret (pc := 43) C hr () trivial [0, 1] rfl (by decide) (by decide) (by decide) d_Bytes_put_43
set_option maxHeartbeats 4000000 in
set_option maxRecDepth 100000 in
theorem c_yputTwo (l : Launch) (D : va_G) (y : Nat → ClassId) (h : Nat) (a : Nat) (k : Nat) (f : Nat → Int32) (v : Int32) (hk : k + 2 ≤ 15) : CT l D y ⟨"NineBoards$Bytes", "putTwo", "(I)V"⟩ prog_2_method_3_code 2 none ({ frames := 1, cells := 0, slots := 0, locals := 21 } : Room) [.ref h, .int v] [(h, .inr (0, [.ref a, .int (nI k)])), (a, .inl (y 0, 15, .inl f))] (QV D [(h, .inr (0, [.ref a, .int (nI k)])), (a, .inl (y 0, 15, .inl f))] (fun (_ : Unit) => True) (fun _ => [(h, .inr (0, [.ref a, .int (nI (k + 2))])), (a, .inl (y 0, 15, .inl (p2T f k v)))])) := by
  refine CT.of (by decide) (nb rfl) ?_
  intro p e s m args below meth c C hr
  refine j_lv (lv' := [(0, .ref h), (1, .int v)]) rfl ?_
  refine j_aload_n (pc := 0) C d_Bytes_putTwo_0 rfl 0 rfl ?_
  refine j_iload_n (pc := 1) C d_Bytes_putTwo_1 rfl 1 rfl ?_
  refine j_bipush (pc := 2) C (v := 8) d_Bytes_putTwo_2 (by decide) ?_
  refine j_ishr (pc := 4) C (v := v >>> (8 &&& 31)) d_Bytes_putTwo_4 rfl ?_
  refine j_callVv (pc := 5) C (c_yput l D y h a k f (v >>> (8 &&& 31)) (by omega)) kw_Bytes_25 kv_Bytes_put 0 0 rfl rfl ⟨by decide, by decide⟩ ⟨by decide, by decide⟩ (wr := []) [0, 1] [] rfl rfl (by decide) (by decide) (by decide) (As := [.int (v >>> (8 &&& 31))]) (rest := []) rfl (nb rfl) rfl d_Bytes_putTwo_5 (fun _ _ => ?_)
  refine j_ws (ws' := [(h, .inr (0, [.ref a, .int (nI (k + 1))])), (a, .inl (y 0, 15, .inl (p1T f k (v >>> (8 &&& 31)))))]) rfl ?_
  refine j_aload_n (pc := 8) C d_Bytes_putTwo_8 rfl 0 rfl ?_
  refine j_iload_n (pc := 9) C d_Bytes_putTwo_9 rfl 1 rfl ?_
  refine j_callVv (pc := 10) C (c_yput l D y h a (k + 1) (p1T f k (v >>> (8 &&& 31))) v (by omega)) kw_Bytes_25 kv_Bytes_put 0 0 rfl rfl ⟨by decide, by decide⟩ ⟨by decide, by decide⟩ (wr := []) [0, 1] [] rfl rfl (by decide) (by decide) (by decide) (As := [.int v]) (rest := []) rfl (nb rfl) rfl d_Bytes_putTwo_10 (fun _ _ => ?_)
  refine j_ws (ws' := [(h, .inr (0, [.ref a, .int (nI ((k + 1) + 1))])), (a, .inl (y 0, 15, .inl (p1T (p1T f k (v >>> (8 &&& 31))) (k + 1) v)))]) rfl ?_
  refine j_ws (ws' := [(h, .inr (0, [.ref a, .int (nI (k + 2))])), (a, .inl (y 0, 15, .inl (p2T f k v)))]) rfl ?_
  exact j_vret (pc := 13) C hr () trivial [0, 1] rfl (by decide) (by decide) (by decide) d_Bytes_putTwo_13
set_option maxHeartbeats 4000000 in
set_option maxRecDepth 100000 in
theorem c_F_image (l : Launch) (D : va_G) (y : Nat → ClassId) (x : Nat) (tp : Nat) (pi : Nat) (nh : Nat) (th : Nat) (ps : Nat) (ad : Nat → Nat) (ae : Nat → Nat) (rd : Nat) (pl : Nat) (dr : Int32) (pd : Nat) (pn : Int32) (pf : Nat → Int32) (d : LD) (sd : Int32) (sw : Int32) (sl : Int32) (na : Nat → Nat) (f0 : Nat → Int32) (n9 : Nat) (h9 : d.1 9 = nI n9) (b9 : n9 ≤ 9) : CT l D y ⟨"NineBoards", "image", "()I"⟩ prog_1_method_32_code 2 (some .int) ({ frames := 2, cells := 0, slots := 0, locals := 42 } : Room) [.ref x] [(x, .inr (9, [.ref tp, .ref pi, .ref nh, .ref th, .ref ps, .ref (ad 0), .ref (ae 0), .ref rd, .ref pl, .int dr])), (pi, .inr (0, [.ref pd, .int pn])), (pd, .inl (y 0, 15, .inl pf)), (ad 0, .inr (2, [.int (d.1 0), .int (d.1 1), .int (d.1 2), .int (d.1 3), .ref (ad 1), .int (d.1 4), .ref (ad 11), .ref (ad 12), .ref (ad 2), .ref (ad 3), .int (d.1 5), .int (d.1 6), .int (d.1 7), .int (d.1 8)])), (ad 1, .inr (1, [.int (d.1 9), .ref (ad 4), .ref (ad 5), .ref (ad 6), .ref (ad 7), .ref (ad 8), .ref (ad 9), .ref (ad 10)])), (nh, .inr (7, [.int sd, .int sw, .int sl, .ref (na 0), .ref (na 1), .ref (na 2), .ref (na 3), .ref (na 4), .ref (na 5), .ref (na 6)])), (na 0, .inl (y 0, 9, .inl f0))] (QI D [(x, .inr (9, [.ref tp, .ref pi, .ref nh, .ref th, .ref ps, .ref (ad 0), .ref (ae 0), .ref rd, .ref pl, .int dr])), (pi, .inr (0, [.ref pd, .int pn])), (pd, .inl (y 0, 15, .inl pf)), (ad 0, .inr (2, [.int (d.1 0), .int (d.1 1), .int (d.1 2), .int (d.1 3), .ref (ad 1), .int (d.1 4), .ref (ad 11), .ref (ad 12), .ref (ad 2), .ref (ad 3), .int (d.1 5), .int (d.1 6), .int (d.1 7), .int (d.1 8)])), (ad 1, .inr (1, [.int (d.1 9), .ref (ad 4), .ref (ad 5), .ref (ad 6), .ref (ad 7), .ref (ad 8), .ref (ad 9), .ref (ad 10)])), (nh, .inr (7, [.int sd, .int sw, .int sl, .ref (na 0), .ref (na 1), .ref (na 2), .ref (na 3), .ref (na 4), .ref (na 5), .ref (na 6)])), (na 0, .inl (y 0, 9, .inl f0))] (fun (r : Int32) (u : Int32 × (Nat → Int32)) => r = nI (n9 + 6)) (fun u => [(x, .inr (9, [.ref tp, .ref pi, .ref nh, .ref th, .ref ps, .ref (ad 0), .ref (ae 0), .ref rd, .ref pl, .int dr])), (pi, .inr (0, [.ref pd, .int u.1])), (pd, .inl (y 0, 15, .inl u.2)), (ad 0, .inr (2, [.int (d.1 0), .int (d.1 1), .int (d.1 2), .int (d.1 3), .ref (ad 1), .int (d.1 4), .ref (ad 11), .ref (ad 12), .ref (ad 2), .ref (ad 3), .int (d.1 5), .int (d.1 6), .int (d.1 7), .int (d.1 8)])), (ad 1, .inr (1, [.int (d.1 9), .ref (ad 4), .ref (ad 5), .ref (ad 6), .ref (ad 7), .ref (ad 8), .ref (ad 9), .ref (ad 10)])), (nh, .inr (7, [.int sd, .int sw, .int sl, .ref (na 0), .ref (na 1), .ref (na 2), .ref (na 3), .ref (na 4), .ref (na 5), .ref (na 6)])), (na 0, .inl (y 0, 9, .inl f0))])) := by
  refine CT.of (by decide) (nb rfl) ?_
  intro p e s m args below meth c C hr
  refine j_lv (lv' := [(0, .ref x)]) rfl ?_
  refine j_aload_n (pc := 0) C d_Nine_image_0 rfl 0 rfl ?_
  refine j_get (pc := 1) C gf_Nine_18 0 rfl rfl d_Nine_image_1 ?_
  refine j_iconst (pc := 4) C (v := 0) d_Nine_image_4 (by decide) ?_
  refine j_put (pc := 5) C pf_Nine_70 1 (ws' := [(x, .inr (9, [.ref tp, .ref pi, .ref nh, .ref th, .ref ps, .ref (ad 0), .ref (ae 0), .ref rd, .ref pl, .int dr])), (pi, .inr (0, [.ref pd, .int 0])), (pd, .inl (y 0, 15, .inl pf)), (ad 0, .inr (2, [.int (d.1 0), .int (d.1 1), .int (d.1 2), .int (d.1 3), .ref (ad 1), .int (d.1 4), .ref (ad 11), .ref (ad 12), .ref (ad 2), .ref (ad 3), .int (d.1 5), .int (d.1 6), .int (d.1 7), .int (d.1 8)])), (ad 1, .inr (1, [.int (d.1 9), .ref (ad 4), .ref (ad 5), .ref (ad 6), .ref (ad 7), .ref (ad 8), .ref (ad 9), .ref (ad 10)])), (nh, .inr (7, [.int sd, .int sw, .int sl, .ref (na 0), .ref (na 1), .ref (na 2), .ref (na 3), .ref (na 4), .ref (na 5), .ref (na 6)])), (na 0, .inl (y 0, 9, .inl f0))]) rfl rfl rfl (nl rfl) rfl d_Nine_image_5 ?_
  refine j_aload_n (pc := 8) C d_Nine_image_8 rfl 0 rfl ?_
  refine j_get (pc := 9) C gf_Nine_18 0 rfl rfl d_Nine_image_9 ?_
  refine j_aload_n (pc := 12) C d_Nine_image_12 rfl 0 rfl ?_
  refine j_get (pc := 13) C gf_Nine_24 0 rfl rfl d_Nine_image_13 ?_
  refine j_get (pc := 16) C gf_Nine_124 5 rfl rfl d_Nine_image_16 ?_
  refine j_callVv (pc := 19) C (c_yputTwo l D y pi pd 0 pf sd (by omega)) kw_Nine_305 kv_Bytes_putTwo 0 0 rfl rfl ⟨by decide, by decide⟩ ⟨by decide, by decide⟩ (wr := [(x, .inr (9, [.ref tp, .ref pi, .ref nh, .ref th, .ref ps, .ref (ad 0), .ref (ae 0), .ref rd, .ref pl, .int dr])), (ad 0, .inr (2, [.int (d.1 0), .int (d.1 1), .int (d.1 2), .int (d.1 3), .ref (ad 1), .int (d.1 4), .ref (ad 11), .ref (ad 12), .ref (ad 2), .ref (ad 3), .int (d.1 5), .int (d.1 6), .int (d.1 7), .int (d.1 8)])), (ad 1, .inr (1, [.int (d.1 9), .ref (ad 4), .ref (ad 5), .ref (ad 6), .ref (ad 7), .ref (ad 8), .ref (ad 9), .ref (ad 10)])), (nh, .inr (7, [.int sd, .int sw, .int sl, .ref (na 0), .ref (na 1), .ref (na 2), .ref (na 3), .ref (na 4), .ref (na 5), .ref (na 6)])), (na 0, .inl (y 0, 9, .inl f0))]) [1, 2] [0, 3, 4, 5, 6] rfl rfl (by decide +kernel) (by decide +kernel) (by decide +kernel) (As := [.int sd]) (rest := []) rfl (nb rfl) rfl d_Nine_image_19 (fun _ _ => ?_)
  refine j_ws (ws' := [(x, .inr (9, [.ref tp, .ref pi, .ref nh, .ref th, .ref ps, .ref (ad 0), .ref (ae 0), .ref rd, .ref pl, .int dr])), (ad 0, .inr (2, [.int (d.1 0), .int (d.1 1), .int (d.1 2), .int (d.1 3), .ref (ad 1), .int (d.1 4), .ref (ad 11), .ref (ad 12), .ref (ad 2), .ref (ad 3), .int (d.1 5), .int (d.1 6), .int (d.1 7), .int (d.1 8)])), (ad 1, .inr (1, [.int (d.1 9), .ref (ad 4), .ref (ad 5), .ref (ad 6), .ref (ad 7), .ref (ad 8), .ref (ad 9), .ref (ad 10)])), (nh, .inr (7, [.int sd, .int sw, .int sl, .ref (na 0), .ref (na 1), .ref (na 2), .ref (na 3), .ref (na 4), .ref (na 5), .ref (na 6)])), (na 0, .inl (y 0, 9, .inl f0)), (pi, .inr (0, [.ref pd, .int (nI (0 + 2))])), (pd, .inl (y 0, 15, .inl (p2T pf 0 sd)))]) rfl ?_
  refine j_aload_n (pc := 22) C d_Nine_image_22 rfl 0 rfl ?_
  refine j_get (pc := 23) C gf_Nine_18 0 rfl rfl d_Nine_image_23 ?_
  refine j_aload_n (pc := 26) C d_Nine_image_26 rfl 0 rfl ?_
  refine j_get (pc := 27) C gf_Nine_24 0 rfl rfl d_Nine_image_27 ?_
  refine j_get (pc := 30) C gf_Nine_127 3 rfl rfl d_Nine_image_30 ?_
  refine j_callVv (pc := 33) C (c_yputTwo l D y pi pd (0 + 2) (p2T pf 0 sd) sw (by omega)) kw_Nine_305 kv_Bytes_putTwo 0 0 rfl rfl ⟨by decide, by decide⟩ ⟨by decide, by decide⟩ (wr := [(x, .inr (9, [.ref tp, .ref pi, .ref nh, .ref th, .ref ps, .ref (ad 0), .ref (ae 0), .ref rd, .ref pl, .int dr])), (ad 0, .inr (2, [.int (d.1 0), .int (d.1 1), .int (d.1 2), .int (d.1 3), .ref (ad 1), .int (d.1 4), .ref (ad 11), .ref (ad 12), .ref (ad 2), .ref (ad 3), .int (d.1 5), .int (d.1 6), .int (d.1 7), .int (d.1 8)])), (ad 1, .inr (1, [.int (d.1 9), .ref (ad 4), .ref (ad 5), .ref (ad 6), .ref (ad 7), .ref (ad 8), .ref (ad 9), .ref (ad 10)])), (nh, .inr (7, [.int sd, .int sw, .int sl, .ref (na 0), .ref (na 1), .ref (na 2), .ref (na 3), .ref (na 4), .ref (na 5), .ref (na 6)])), (na 0, .inl (y 0, 9, .inl f0))]) [5, 6] [0, 1, 2, 3, 4] rfl rfl (by decide +kernel) (by decide +kernel) (by decide +kernel) (As := [.int sw]) (rest := []) rfl (nb rfl) rfl d_Nine_image_33 (fun _ _ => ?_)
  refine j_ws (ws' := [(x, .inr (9, [.ref tp, .ref pi, .ref nh, .ref th, .ref ps, .ref (ad 0), .ref (ae 0), .ref rd, .ref pl, .int dr])), (ad 0, .inr (2, [.int (d.1 0), .int (d.1 1), .int (d.1 2), .int (d.1 3), .ref (ad 1), .int (d.1 4), .ref (ad 11), .ref (ad 12), .ref (ad 2), .ref (ad 3), .int (d.1 5), .int (d.1 6), .int (d.1 7), .int (d.1 8)])), (ad 1, .inr (1, [.int (d.1 9), .ref (ad 4), .ref (ad 5), .ref (ad 6), .ref (ad 7), .ref (ad 8), .ref (ad 9), .ref (ad 10)])), (nh, .inr (7, [.int sd, .int sw, .int sl, .ref (na 0), .ref (na 1), .ref (na 2), .ref (na 3), .ref (na 4), .ref (na 5), .ref (na 6)])), (na 0, .inl (y 0, 9, .inl f0)), (pi, .inr (0, [.ref pd, .int (nI ((0 + 2) + 2))])), (pd, .inl (y 0, 15, .inl (p2T (p2T pf 0 sd) (0 + 2) sw)))]) rfl ?_
  refine j_aload_n (pc := 36) C d_Nine_image_36 rfl 0 rfl ?_
  refine j_get (pc := 37) C gf_Nine_18 0 rfl rfl d_Nine_image_37 ?_
  refine j_aload_n (pc := 40) C d_Nine_image_40 rfl 0 rfl ?_
  refine j_get (pc := 41) C gf_Nine_24 0 rfl rfl d_Nine_image_41 ?_
  refine j_get (pc := 44) C gf_Nine_134 3 rfl rfl d_Nine_image_44 ?_
  refine j_callVv (pc := 47) C (c_yput l D y pi pd ((0 + 2) + 2) (p2T (p2T pf 0 sd) (0 + 2) sw) sl (by omega)) kw_Nine_308 kv_Bytes_put 0 0 rfl rfl ⟨by decide, by decide⟩ ⟨by decide, by decide⟩ (wr := [(x, .inr (9, [.ref tp, .ref pi, .ref nh, .ref th, .ref ps, .ref (ad 0), .ref (ae 0), .ref rd, .ref pl, .int dr])), (ad 0, .inr (2, [.int (d.1 0), .int (d.1 1), .int (d.1 2), .int (d.1 3), .ref (ad 1), .int (d.1 4), .ref (ad 11), .ref (ad 12), .ref (ad 2), .ref (ad 3), .int (d.1 5), .int (d.1 6), .int (d.1 7), .int (d.1 8)])), (ad 1, .inr (1, [.int (d.1 9), .ref (ad 4), .ref (ad 5), .ref (ad 6), .ref (ad 7), .ref (ad 8), .ref (ad 9), .ref (ad 10)])), (nh, .inr (7, [.int sd, .int sw, .int sl, .ref (na 0), .ref (na 1), .ref (na 2), .ref (na 3), .ref (na 4), .ref (na 5), .ref (na 6)])), (na 0, .inl (y 0, 9, .inl f0))]) [5, 6] [0, 1, 2, 3, 4] rfl rfl (by decide +kernel) (by decide +kernel) (by decide +kernel) (As := [.int sl]) (rest := []) rfl (nb rfl) rfl d_Nine_image_47 (fun _ _ => ?_)
  refine j_ws (ws' := [(x, .inr (9, [.ref tp, .ref pi, .ref nh, .ref th, .ref ps, .ref (ad 0), .ref (ae 0), .ref rd, .ref pl, .int dr])), (ad 0, .inr (2, [.int (d.1 0), .int (d.1 1), .int (d.1 2), .int (d.1 3), .ref (ad 1), .int (d.1 4), .ref (ad 11), .ref (ad 12), .ref (ad 2), .ref (ad 3), .int (d.1 5), .int (d.1 6), .int (d.1 7), .int (d.1 8)])), (ad 1, .inr (1, [.int (d.1 9), .ref (ad 4), .ref (ad 5), .ref (ad 6), .ref (ad 7), .ref (ad 8), .ref (ad 9), .ref (ad 10)])), (nh, .inr (7, [.int sd, .int sw, .int sl, .ref (na 0), .ref (na 1), .ref (na 2), .ref (na 3), .ref (na 4), .ref (na 5), .ref (na 6)])), (na 0, .inl (y 0, 9, .inl f0)), (pi, .inr (0, [.ref pd, .int (nI (((0 + 2) + 2) + 1))])), (pd, .inl (y 0, 15, .inl (p1T (p2T (p2T pf 0 sd) (0 + 2) sw) ((0 + 2) + 2) sl)))]) rfl ?_
  refine j_iconst (pc := 50) C (v := 0) d_Nine_image_50 (by decide) ?_
  refine j_istore_n (pc := 51) C (lv' := [(1, .int 0), (0, .ref x)]) d_Nine_image_51 rfl (by decide) rfl ?_
  refine j_loop (α := Nat × Nat × (Nat → Int32)) (fun a => n9 - a.1) (fun a => (a.1 ≤ n9) ∧ (a.2.1 = 5 + a.1)) (fun a => [(x, .inr (9, [.ref tp, .ref pi, .ref nh, .ref th, .ref ps, .ref (ad 0), .ref (ae 0), .ref rd, .ref pl, .int dr])), (ad 0, .inr (2, [.int (d.1 0), .int (d.1 1), .int (d.1 2), .int (d.1 3), .ref (ad 1), .int (d.1 4), .ref (ad 11), .ref (ad 12), .ref (ad 2), .ref (ad 3), .int (d.1 5), .int (d.1 6), .int (d.1 7), .int (d.1 8)])), (ad 1, .inr (1, [.int (d.1 9), .ref (ad 4), .ref (ad 5), .ref (ad 6), .ref (ad 7), .ref (ad 8), .ref (ad 9), .ref (ad 10)])), (nh, .inr (7, [.int sd, .int sw, .int sl, .ref (na 0), .ref (na 1), .ref (na 2), .ref (na 3), .ref (na 4), .ref (na 5), .ref (na 6)])), (na 0, .inl (y 0, 9, .inl f0)), (pi, .inr (0, [.ref pd, .int (nI a.2.1)])), (pd, .inl (y 0, 15, .inl a.2.2))]) (fun a => [(1, .int (nI a.1)), (0, .ref x)]) (0, (((0 + 2) + 2) + 1), (p1T (p2T (p2T pf 0 sd) (0 + 2) sw) ((0 + 2) + 2) sl)) rfl rfl ⟨(show 0 ≤ n9 by omega), (show (((0 + 2) + 2) + 1) = 5 + 0 by omega)⟩ ?_
  rintro ⟨iz, kz, z3⟩ hP6 ih7
  obtain ⟨hi__, hk__⟩ := hP6
  have hi_ : iz ≤ n9 := hi__
  have hk_ : kz = 5 + iz := hk__
  refine j_ws (ws' := [(x, .inr (9, [.ref tp, .ref pi, .ref nh, .ref th, .ref ps, .ref (ad 0), .ref (ae 0), .ref rd, .ref pl, .int dr])), (ad 0, .inr (2, [.int (d.1 0), .int (d.1 1), .int (d.1 2), .int (d.1 3), .ref (ad 1), .int (d.1 4), .ref (ad 11), .ref (ad 12), .ref (ad 2), .ref (ad 3), .int (d.1 5), .int (d.1 6), .int (d.1 7), .int (d.1 8)])), (ad 1, .inr (1, [.int (d.1 9), .ref (ad 4), .ref (ad 5), .ref (ad 6), .ref (ad 7), .ref (ad 8), .ref (ad 9), .ref (ad 10)])), (nh, .inr (7, [.int sd, .int sw, .int sl, .ref (na 0), .ref (na 1), .ref (na 2), .ref (na 3), .ref (na 4), .ref (na 5), .ref (na 6)])), (na 0, .inl (y 0, 9, .inl f0)), (pi, .inr (0, [.ref pd, .int (nI kz)])), (pd, .inl (y 0, 15, .inl z3))]) rfl ?_
  refine j_lv (lv' := [(1, .int (nI iz)), (0, .ref x)]) rfl ?_
  refine j_iload_n (pc := 52) C d_Nine_image_52 rfl 0 rfl ?_
  refine j_aload_n (pc := 53) C d_Nine_image_53 rfl 1 rfl ?_
  refine j_get (pc := 54) C gf_Nine_41 0 rfl rfl d_Nine_image_54 ?_
  refine j_get (pc := 57) C gf_Nine_89 1 rfl rfl d_Nine_image_57 ?_
  refine j_get (pc := 60) C gf_Nine_93 2 rfl rfl d_Nine_image_60 ?_
  refine j_st (st' := [.int (nI n9), .int (nI iz)]) (by rw [h9]) ?_
  by_cases c8 : n9 ≤ iz
  · refine j_icmp_geT (pc := 63) C (tgt := 88) d_Nine_image_63 (by decide) (show nI n9 ≤ nI iz from nI_le (by omega) (by omega)) ?_
    refine j_aload_n (pc := 88) C d_Nine_image_88 rfl 1 rfl ?_
    refine j_get (pc := 89) C gf_Nine_18 0 rfl rfl d_Nine_image_89 ?_
    refine j_aload_n (pc := 92) C d_Nine_image_92 rfl 1 rfl ?_
    refine j_get (pc := 93) C gf_Nine_18 0 rfl rfl d_Nine_image_93 ?_
    refine j_aload_n (pc := 96) C d_Nine_image_96 rfl 1 rfl ?_
    refine j_get (pc := 97) C gf_Nine_18 0 rfl rfl d_Nine_image_97 ?_
    refine j_get (pc := 100) C gf_Nine_70 5 rfl rfl d_Nine_image_100 ?_
    refine j_callVi (pc := 103) C (c_check_15 l D y pi pd (nI kz) z3 (nI kz)) kw_Nine_311 kv_Bytes_check 0 0 rfl rfl ⟨by decide, by decide⟩ ⟨by decide, by decide⟩ (wr := [(x, .inr (9, [.ref tp, .ref pi, .ref nh, .ref th, .ref ps, .ref (ad 0), .ref (ae 0), .ref rd, .ref pl, .int dr])), (ad 0, .inr (2, [.int (d.1 0), .int (d.1 1), .int (d.1 2), .int (d.1 3), .ref (ad 1), .int (d.1 4), .ref (ad 11), .ref (ad 12), .ref (ad 2), .ref (ad 3), .int (d.1 5), .int (d.1 6), .int (d.1 7), .int (d.1 8)])), (ad 1, .inr (1, [.int (d.1 9), .ref (ad 4), .ref (ad 5), .ref (ad 6), .ref (ad 7), .ref (ad 8), .ref (ad 9), .ref (ad 10)])), (nh, .inr (7, [.int sd, .int sw, .int sl, .ref (na 0), .ref (na 1), .ref (na 2), .ref (na 3), .ref (na 4), .ref (na 5), .ref (na 6)])), (na 0, .inl (y 0, 9, .inl f0))]) [5, 6] [0, 1, 2, 3, 4] rfl rfl (by decide +kernel) (by decide +kernel) (by decide +kernel) (As := [.int (nI kz)]) (rest := [.ref pi]) rfl (nb rfl) rfl d_Nine_image_103 (fun r9 _ hr9 => ?_)
    refine j_ws (ws' := [(x, .inr (9, [.ref tp, .ref pi, .ref nh, .ref th, .ref ps, .ref (ad 0), .ref (ae 0), .ref rd, .ref pl, .int dr])), (ad 0, .inr (2, [.int (d.1 0), .int (d.1 1), .int (d.1 2), .int (d.1 3), .ref (ad 1), .int (d.1 4), .ref (ad 11), .ref (ad 12), .ref (ad 2), .ref (ad 3), .int (d.1 5), .int (d.1 6), .int (d.1 7), .int (d.1 8)])), (ad 1, .inr (1, [.int (d.1 9), .ref (ad 4), .ref (ad 5), .ref (ad 6), .ref (ad 7), .ref (ad 8), .ref (ad 9), .ref (ad 10)])), (nh, .inr (7, [.int sd, .int sw, .int sl, .ref (na 0), .ref (na 1), .ref (na 2), .ref (na 3), .ref (na 4), .ref (na 5), .ref (na 6)])), (na 0, .inl (y 0, 9, .inl f0)), (pi, .inr (0, [.ref pd, .int (nI kz)])), (pd, .inl (y 0, 15, .inl z3))]) rfl ?_
    refine j_callVv (pc := 106) C (c_yput l D y pi pd kz z3 r9 (by omega)) kw_Nine_308 kv_Bytes_put 0 0 rfl rfl ⟨by decide, by decide⟩ ⟨by decide, by decide⟩ (wr := [(x, .inr (9, [.ref tp, .ref pi, .ref nh, .ref th, .ref ps, .ref (ad 0), .ref (ae 0), .ref rd, .ref pl, .int dr])), (ad 0, .inr (2, [.int (d.1 0), .int (d.1 1), .int (d.1 2), .int (d.1 3), .ref (ad 1), .int (d.1 4), .ref (ad 11), .ref (ad 12), .ref (ad 2), .ref (ad 3), .int (d.1 5), .int (d.1 6), .int (d.1 7), .int (d.1 8)])), (ad 1, .inr (1, [.int (d.1 9), .ref (ad 4), .ref (ad 5), .ref (ad 6), .ref (ad 7), .ref (ad 8), .ref (ad 9), .ref (ad 10)])), (nh, .inr (7, [.int sd, .int sw, .int sl, .ref (na 0), .ref (na 1), .ref (na 2), .ref (na 3), .ref (na 4), .ref (na 5), .ref (na 6)])), (na 0, .inl (y 0, 9, .inl f0))]) [5, 6] [0, 1, 2, 3, 4] rfl rfl (by decide +kernel) (by decide +kernel) (by decide +kernel) (As := [.int r9]) (rest := []) rfl (nb rfl) rfl d_Nine_image_106 (fun _ _ => ?_)
    refine j_ws (ws' := [(x, .inr (9, [.ref tp, .ref pi, .ref nh, .ref th, .ref ps, .ref (ad 0), .ref (ae 0), .ref rd, .ref pl, .int dr])), (ad 0, .inr (2, [.int (d.1 0), .int (d.1 1), .int (d.1 2), .int (d.1 3), .ref (ad 1), .int (d.1 4), .ref (ad 11), .ref (ad 12), .ref (ad 2), .ref (ad 3), .int (d.1 5), .int (d.1 6), .int (d.1 7), .int (d.1 8)])), (ad 1, .inr (1, [.int (d.1 9), .ref (ad 4), .ref (ad 5), .ref (ad 6), .ref (ad 7), .ref (ad 8), .ref (ad 9), .ref (ad 10)])), (nh, .inr (7, [.int sd, .int sw, .int sl, .ref (na 0), .ref (na 1), .ref (na 2), .ref (na 3), .ref (na 4), .ref (na 5), .ref (na 6)])), (na 0, .inl (y 0, 9, .inl f0)), (pi, .inr (0, [.ref pd, .int (nI (kz + 1))])), (pd, .inl (y 0, 15, .inl (p1T z3 kz r9)))]) rfl ?_
    refine j_aload_n (pc := 109) C d_Nine_image_109 rfl 1 rfl ?_
    refine j_get (pc := 110) C gf_Nine_18 0 rfl rfl d_Nine_image_110 ?_
    refine j_get (pc := 113) C gf_Nine_70 5 rfl rfl d_Nine_image_113 ?_
    exact j_iret (pc := 116) C hr rfl (nI (kz + 1), (p1T z3 kz r9)) (show nI (kz + 1) = nI (n9 + 6) from congrArg nI (by omega)) [0, 5, 6, 1, 2, 3, 4] rfl (by decide) (by decide) (by decide) d_Nine_image_116
  · refine j_icmp_geF (pc := 63) C (tgt := 88) d_Nine_image_63 (by decide) (show ¬ nI n9 ≤ nI iz from nI_ge (by omega) (by omega)) ?_
    refine j_aload_n (pc := 66) C d_Nine_image_66 rfl 1 rfl ?_
    refine j_get (pc := 67) C gf_Nine_18 0 rfl rfl d_Nine_image_67 ?_
    refine j_aload_n (pc := 70) C d_Nine_image_70 rfl 1 rfl ?_
    refine j_get (pc := 71) C gf_Nine_24 0 rfl rfl d_Nine_image_71 ?_
    refine j_get (pc := 74) C gf_Nine_96 3 rfl rfl d_Nine_image_74 ?_
    refine j_iload_n (pc := 77) C d_Nine_image_77 rfl 0 rfl ?_
    refine j_iald (pc := 78) C 4 rfl (v := f0 iz) (vp_in_nI (by omega) (by decide)) (by rw [nI_clamp (by omega)]) d_Nine_image_78 ?_
    refine j_callVv (pc := 79) C (c_yput l D y pi pd kz z3 (f0 iz) (by omega)) kw_Nine_308 kv_Bytes_put 0 0 rfl rfl ⟨by decide, by decide⟩ ⟨by decide, by decide⟩ (wr := [(x, .inr (9, [.ref tp, .ref pi, .ref nh, .ref th, .ref ps, .ref (ad 0), .ref (ae 0), .ref rd, .ref pl, .int dr])), (ad 0, .inr (2, [.int (d.1 0), .int (d.1 1), .int (d.1 2), .int (d.1 3), .ref (ad 1), .int (d.1 4), .ref (ad 11), .ref (ad 12), .ref (ad 2), .ref (ad 3), .int (d.1 5), .int (d.1 6), .int (d.1 7), .int (d.1 8)])), (ad 1, .inr (1, [.int (d.1 9), .ref (ad 4), .ref (ad 5), .ref (ad 6), .ref (ad 7), .ref (ad 8), .ref (ad 9), .ref (ad 10)])), (nh, .inr (7, [.int sd, .int sw, .int sl, .ref (na 0), .ref (na 1), .ref (na 2), .ref (na 3), .ref (na 4), .ref (na 5), .ref (na 6)])), (na 0, .inl (y 0, 9, .inl f0))]) [5, 6] [0, 1, 2, 3, 4] rfl rfl (by decide +kernel) (by decide +kernel) (by decide +kernel) (As := [.int (f0 iz)]) (rest := []) rfl (nb rfl) rfl d_Nine_image_79 (fun _ _ => ?_)
    refine j_ws (ws' := [(x, .inr (9, [.ref tp, .ref pi, .ref nh, .ref th, .ref ps, .ref (ad 0), .ref (ae 0), .ref rd, .ref pl, .int dr])), (ad 0, .inr (2, [.int (d.1 0), .int (d.1 1), .int (d.1 2), .int (d.1 3), .ref (ad 1), .int (d.1 4), .ref (ad 11), .ref (ad 12), .ref (ad 2), .ref (ad 3), .int (d.1 5), .int (d.1 6), .int (d.1 7), .int (d.1 8)])), (ad 1, .inr (1, [.int (d.1 9), .ref (ad 4), .ref (ad 5), .ref (ad 6), .ref (ad 7), .ref (ad 8), .ref (ad 9), .ref (ad 10)])), (nh, .inr (7, [.int sd, .int sw, .int sl, .ref (na 0), .ref (na 1), .ref (na 2), .ref (na 3), .ref (na 4), .ref (na 5), .ref (na 6)])), (na 0, .inl (y 0, 9, .inl f0)), (pi, .inr (0, [.ref pd, .int (nI (kz + 1))])), (pd, .inl (y 0, 15, .inl (p1T z3 kz (f0 iz))))]) rfl ?_
    refine j_iinc (pc := 82) C (v := nI (iz + 1)) (lv' := [(1, .int (nI (iz + 1))), (0, .ref x)]) d_Nine_image_82 0 rfl (nI_add _ _) (by decide) rfl ?_
    refine j_goto (pc := 85) C (tgt := 52) d_Nine_image_85 (by decide) ?_
    exact ih7 ((iz + 1), (kz + 1), (p1T z3 kz (f0 iz))) ⟨(show (iz + 1) ≤ n9 by omega), (show (kz + 1) = 5 + (iz + 1) by omega)⟩ (show n9 - (iz + 1) < n9 - iz by omega)
