theorem d_Model_rest_0 : decode prog_13_method_82_code 0 = .ok (.iload_n 1, 1) := by decide +kernel
theorem d_Model_rest_1 : decode prog_13_method_82_code 1 = .ok (.i2l, 1) := by decide +kernel
theorem d_Model_rest_2 : decode prog_13_method_82_code 2 = .ok (.lconst 1, 1) := by decide +kernel
theorem d_Model_rest_3 : decode prog_13_method_82_code 3 = .ok (.ldc2_w 491, 3) := by decide +kernel
theorem d_Model_rest_6 : decode prog_13_method_82_code 6 = .ok (.invokestatic 240, 3) := by decide +kernel
theorem d_Model_rest_9 : decode prog_13_method_82_code 9 = .ok (.ifCond .ne 5, 3) := by decide +kernel
theorem d_Model_rest_12 : decode prog_13_method_82_code 12 = .ok (.iconst (-1), 1) := by decide +kernel
theorem d_Model_rest_13 : decode prog_13_method_82_code 13 = .ok (.ireturn, 1) := by decide +kernel
theorem d_Model_rest_14 : decode prog_13_method_82_code 14 = .ok (.iconst 0, 1) := by decide +kernel
theorem d_Model_rest_15 : decode prog_13_method_82_code 15 = .ok (.istore_n 2, 1) := by decide +kernel
theorem d_Model_rest_16 : decode prog_13_method_82_code 16 = .ok (.iload_n 2, 1) := by decide +kernel
theorem d_Model_rest_17 : decode prog_13_method_82_code 17 = .ok (.iload_n 1, 1) := by decide +kernel
theorem d_Model_rest_18 : decode prog_13_method_82_code 18 = .ok (.if_icmp .ge 30, 3) := by decide +kernel
theorem d_Model_rest_48 : decode prog_13_method_82_code 48 = .ok (.iload_n 2, 1) := by decide +kernel
theorem d_Model_rest_49 : decode prog_13_method_82_code 49 = .ok (.ireturn, 1) := by decide +kernel
theorem d_Model_rest_21 : decode prog_13_method_82_code 21 = .ok (.aload_n 0, 1) := by decide +kernel
theorem d_Model_rest_22 : decode prog_13_method_82_code 22 = .ok (.getfield 158, 3) := by decide +kernel
theorem d_Model_rest_25 : decode prog_13_method_82_code 25 = .ok (.iconst 0, 1) := by decide +kernel
theorem d_Model_rest_26 : decode prog_13_method_82_code 26 = .ok (.iaload, 1) := by decide +kernel
theorem d_Model_rest_27 : decode prog_13_method_82_code 27 = .ok (.sipush 999, 3) := by decide +kernel
theorem d_Model_rest_30 : decode prog_13_method_82_code 30 = .ok (.if_icmp .ge 18, 3) := by decide +kernel
theorem d_Model_rest_33 : decode prog_13_method_82_code 33 = .ok (.aload_n 0, 1) := by decide +kernel
theorem d_Model_rest_34 : decode prog_13_method_82_code 34 = .ok (.invokevirtual 482, 3) := by decide +kernel
theorem d_Model_rest_37 : decode prog_13_method_82_code 37 = .ok (.aload_n 0, 1) := by decide +kernel
theorem d_Model_rest_38 : decode prog_13_method_82_code 38 = .ok (.iconst 0, 1) := by decide +kernel
theorem d_Model_rest_39 : decode prog_13_method_82_code 39 = .ok (.invokevirtual 488, 3) := by decide +kernel
theorem d_Model_rest_42 : decode prog_13_method_82_code 42 = .ok (.iinc 2 1, 3) := by decide +kernel
theorem d_Model_rest_45 : decode prog_13_method_82_code 45 = .ok (.goto (-29), 3) := by decide +kernel
set_option maxHeartbeats 4000000 in
set_option maxRecDepth 100000 in
theorem c_M_rest (l : Launch) (D : va_G) (y : Nat → ClassId) (mo : Nat) (ma : Nat → Nat) (t1 : Nat) (i2 : Int32) (i3 : Int32) (i4 : Int32) (i5 : Int32) (i6 : Int32) (i7 : Int32) (i8 : Int32) (i42 : Int32) (i49 : Int32) (i51 : Int32) (i53 : Int32) (i54 : Int32) (i59 : Int32) (i61 : Int32) (i64 : Int32) (i66 : Int32) (t67 : Nat) (i76 : Int64) (i78 : Int32) (g43 : Nat → Int32) (g45 : Nat → Int32) (g46 : Nat → Int32) (g48 : Nat → Int32) (g50 : Nat → Int32) (g55 : Nat → Int32) (g56 : Nat → Int32) (g57 : Nat → Int32) (g58 : Nat → Int32) (g60 : Nat → Int64) (g62 : Nat → Int32) (g63 : Nat → Int32) (g65 : Nat → Int32) (v : Int32) (c0 : Nat) (c1 : Nat) (c2 : Nat) (c3 : Nat) (dy : Nat) (hc0 : g43 4 = nI c0) (bc0 : c0 ≤ 9) (hc1 : g43 5 = nI c1) (bc1 : c1 ≤ 6) (hc2 : g43 6 = nI c2) (bc2 : c2 ≤ 16) (hc3 : g43 7 = nI c3) (bc3 : c3 ≤ 8) (hL : ¬ g45 7 = 0) (hS : ∀ j, j < 9 → g46 (54 + 6 * j) = 2 → ¬ g46 (54 + 6 * j + 1) = 0) (hTh : ∀ j, j < 16 → (∃ q, q < 6 ∧ g48 (112 + 7 * j) = nI q) ∧ ∃ q, q < 9 ∧ g48 (112 + 7 * j + 1) = nI q) (hC : ∀ k, 8 ≤ k → k < 8 + c3 → ∃ a b c, g56 k = nI a ∧ g57 k = nI b ∧ g58 k = nI c ∧ a ≤ b ∧ b ≤ c ∧ c ≤ 1600 ∧ (∃ q, dp g50 (1600 + a) (b - a) = some q) ∧ (∃ q, dp g50 (1600 + b) (c - b) = some q)) (hD : g62 0 = nI dy) (bD : dy ≤ 999) (hDS : ∀ j, j < 30 → ∃ q, q ≤ 999 ∧ g65 (63 * j) = nI q) (hN : t67 < 30) : CT l D y ⟨"NineBoardsModel", "rest", "(I)I"⟩ prog_13_method_82_code 3 (some .int) ({ frames := 5, cells := 0, slots := 0, locals := 129 } : Room) [.ref mo, .int v] [MB mo ma (nI t1) i2 i3 i4 i5 i6 i7 i8 i42 i49 i51 i53 i54 i59 i61 i64 i66 (nI t67) i76 i78, (ma 43, .inl (y 0, 8, .inl g43)), (ma 45, .inl (y 0, 14, .inl g45)), (ma 46, .inl (y 0, 108, .inl g46)), (ma 48, .inl (y 0, 224, .inl g48)), (ma 50, .inl (y 0, 3200, .inl g50)), (ma 55, .inl (y 2, 16, .inl g55)), (ma 56, .inl (y 0, 16, .inl g56)), (ma 57, .inl (y 0, 16, .inl g57)), (ma 58, .inl (y 0, 16, .inl g58)), (ma 60, .inl (y 1, 1700, .inr (.inl g60))), (ma 62, .inl (y 0, 63, .inl g62)), (ma 63, .inl (y 0, 9, .inl g63)), (ma 65, .inl (y 0, 1890, .inl g65))] (QI D [MB mo ma (nI t1) i2 i3 i4 i5 i6 i7 i8 i42 i49 i51 i53 i54 i59 i61 i64 i66 (nI t67) i76 i78, (ma 43, .inl (y 0, 8, .inl g43)), (ma 45, .inl (y 0, 14, .inl g45)), (ma 46, .inl (y 0, 108, .inl g46)), (ma 48, .inl (y 0, 224, .inl g48)), (ma 50, .inl (y 0, 3200, .inl g50)), (ma 55, .inl (y 2, 16, .inl g55)), (ma 56, .inl (y 0, 16, .inl g56)), (ma 57, .inl (y 0, 16, .inl g57)), (ma 58, .inl (y 0, 16, .inl g58)), (ma 60, .inl (y 1, 1700, .inr (.inl g60))), (ma 62, .inl (y 0, 63, .inl g62)), (ma 63, .inl (y 0, 9, .inl g63)), (ma 65, .inl (y 0, 1890, .inl g65))] (fun (r : Int32) (u : Int32 × Int32 × Int32 × Nat × (Nat → Int64) × (Nat → Int32) × (Nat → Int32) × (Nat → Int32)) => (∃ q, q ≤ 999 ∧ u.2.2.2.2.2.1 0 = nI q) ∧ u.2.2.2.1 < 30 ∧ ∀ j, j < 30 → ∃ q, q ≤ 999 ∧ u.2.2.2.2.2.2.2 (63 * j) = nI q) (fun u => [MB mo ma (nI t1) i2 i3 i4 i5 i6 i7 i8 i42 i49 i51 i53 i54 i59 u.1 u.2.1 u.2.2.1 (nI u.2.2.2.1) i76 i78, (ma 43, .inl (y 0, 8, .inl g43)), (ma 45, .inl (y 0, 14, .inl g45)), (ma 46, .inl (y 0, 108, .inl g46)), (ma 48, .inl (y 0, 224, .inl g48)), (ma 50, .inl (y 0, 3200, .inl g50)), (ma 55, .inl (y 2, 16, .inl g55)), (ma 56, .inl (y 0, 16, .inl g56)), (ma 57, .inl (y 0, 16, .inl g57)), (ma 58, .inl (y 0, 16, .inl g58)), (ma 60, .inl (y 1, 1700, .inr (.inl u.2.2.2.2.1))), (ma 62, .inl (y 0, 63, .inl u.2.2.2.2.2.1)), (ma 63, .inl (y 0, 9, .inl u.2.2.2.2.2.2.1)), (ma 65, .inl (y 0, 1890, .inl u.2.2.2.2.2.2.2))])) := by
  refine CT.of (by decide) (nb rfl) ?_
  intro p e s m args below meth c C hr
  refine j_lv (lv' := [(0, .ref mo), (1, .int v)]) rfl ?_
  refine j_iload_n (pc := 0) C d_Model_rest_0 rfl 1 rfl ?_
  refine j_i2l (pc := 1) C (v := v.toInt64) d_Model_rest_1 rfl ?_
  refine j_lconst (pc := 2) C (v := 1) d_Model_rest_2 (by decide) ?_
  refine j_ldc2 (pc := 3) C (v := 99) (mt_7 (List.mem_of_getElem? (i := 171) rfl) rfl) d_Model_rest_3 ?_
  refine j_callSi (pc := 6) C (c_isIn_1_99 l D y v) kw_Model_240 ks_Model_isIn ⟨by decide, by decide⟩ ⟨by decide, by decide⟩ (wr := [MB mo ma (nI t1) i2 i3 i4 i5 i6 i7 i8 i42 i49 i51 i53 i54 i59 i61 i64 i66 (nI t67) i76 i78, (ma 43, .inl (y 0, 8, .inl g43)), (ma 45, .inl (y 0, 14, .inl g45)), (ma 46, .inl (y 0, 108, .inl g46)), (ma 48, .inl (y 0, 224, .inl g48)), (ma 50, .inl (y 0, 3200, .inl g50)), (ma 55, .inl (y 2, 16, .inl g55)), (ma 56, .inl (y 0, 16, .inl g56)), (ma 57, .inl (y 0, 16, .inl g57)), (ma 58, .inl (y 0, 16, .inl g58)), (ma 60, .inl (y 1, 1700, .inr (.inl g60))), (ma 62, .inl (y 0, 63, .inl g62)), (ma 63, .inl (y 0, 9, .inl g63)), (ma 65, .inl (y 0, 1890, .inl g65))]) [] [0, 1, 2, 3, 4, 5, 6, 7, 8, 9, 10, 11, 12, 13] rfl rfl (by decide) (by decide) (by decide) (As := [.long v.toInt64, .long 1, .long 99]) (rest := []) rfl (nb rfl) rfl d_Model_rest_6 (fun r1 _ hr1 => ?_)
  refine j_ws (ws' := [MB mo ma (nI t1) i2 i3 i4 i5 i6 i7 i8 i42 i49 i51 i53 i54 i59 i61 i64 i66 (nI t67) i76 i78, (ma 43, .inl (y 0, 8, .inl g43)), (ma 45, .inl (y 0, 14, .inl g45)), (ma 46, .inl (y 0, 108, .inl g46)), (ma 48, .inl (y 0, 224, .inl g48)), (ma 50, .inl (y 0, 3200, .inl g50)), (ma 55, .inl (y 2, 16, .inl g55)), (ma 56, .inl (y 0, 16, .inl g56)), (ma 57, .inl (y 0, 16, .inl g57)), (ma 58, .inl (y 0, 16, .inl g58)), (ma 60, .inl (y 1, 1700, .inr (.inl g60))), (ma 62, .inl (y 0, 63, .inl g62)), (ma 63, .inl (y 0, 9, .inl g63)), (ma 65, .inl (y 0, 1890, .inl g65))]) rfl ?_
  rcases hr1 with rfl | ⟨rfl, j2, xh3, rfl⟩
  · refine j_if_neF (pc := 9) C (tgt := 14) d_Model_rest_9 (by decide) (by decide) ?_
    refine j_iconst (pc := 12) C (v := (-1)) d_Model_rest_12 (by decide) ?_
    exact j_iret (pc := 13) C hr rfl (i61, i64, i66, t67, g60, g62, g63, g65) ⟨⟨dy, by omega, hD⟩, (show t67 < 30 by omega), hDS⟩ [0, 1, 2, 3, 4, 5, 6, 7, 8, 9, 10, 11, 12, 13] rfl (by decide) (by decide) (by decide) d_Model_rest_13
  · refine j_if_neT (pc := 9) C (tgt := 14) d_Model_rest_9 (by decide) (by decide) ?_
    refine j_iconst (pc := 14) C (v := 0) d_Model_rest_14 (by decide) ?_
    refine j_istore_n (pc := 15) C (lv' := [(2, .int 0), (0, .ref mo), (1, .int (nI j2))]) d_Model_rest_15 rfl (by decide) rfl ?_
    refine j_loop (α := Nat × (Nat → Int32) × Nat × (Nat → Int32) × Int32 × Int32 × Int32 × (Nat → Int64) × (Nat → Int32) × Nat) (fun a => j2 - a.1) (fun a => (a.1 ≤ j2) ∧ (a.2.1 0 = nI a.2.2.2.2.2.2.2.2.2) ∧ (a.2.2.2.2.2.2.2.2.2 ≤ 999) ∧ (a.2.2.1 < 30) ∧ (∀ j, j < 30 → ∃ q, q ≤ 999 ∧ a.2.2.2.1 (63 * j) = nI q)) (fun a => [MB mo ma (nI t1) i2 i3 i4 i5 i6 i7 i8 i42 i49 i51 i53 i54 i59 a.2.2.2.2.1 a.2.2.2.2.2.1 a.2.2.2.2.2.2.1 (nI a.2.2.1) i76 i78, (ma 43, .inl (y 0, 8, .inl g43)), (ma 45, .inl (y 0, 14, .inl g45)), (ma 46, .inl (y 0, 108, .inl g46)), (ma 48, .inl (y 0, 224, .inl g48)), (ma 50, .inl (y 0, 3200, .inl g50)), (ma 55, .inl (y 2, 16, .inl g55)), (ma 56, .inl (y 0, 16, .inl g56)), (ma 57, .inl (y 0, 16, .inl g57)), (ma 58, .inl (y 0, 16, .inl g58)), (ma 60, .inl (y 1, 1700, .inr (.inl a.2.2.2.2.2.2.2.1))), (ma 62, .inl (y 0, 63, .inl a.2.1)), (ma 63, .inl (y 0, 9, .inl a.2.2.2.2.2.2.2.2.1)), (ma 65, .inl (y 0, 1890, .inl a.2.2.2.1))]) (fun a => [(2, .int (nI a.1)), (0, .ref mo), (1, .int (nI j2))]) (0, g62, t67, g65, i61, i64, i66, g60, g63, dy) rfl rfl ⟨(show 0 ≤ j2 by omega), hD, bD, hN, hDS⟩ ?_
    rintro ⟨iz, nz, ez, sz, z13, z14, z15, z16, z17, qd⟩ hP27 ih28
    obtain ⟨hi__, hn__, hq__, he__, hs__⟩ := hP27
    have hi_ : iz ≤ j2 := hi__
    have hn_ : nz 0 = nI qd := hn__
    have hq_ : qd ≤ 999 := hq__
    have he_ : ez < 30 := he__
    have hs_ : ∀ j, j < 30 → ∃ q, q ≤ 999 ∧ sz (63 * j) = nI q := hs__
    refine j_ws (ws' := [MB mo ma (nI t1) i2 i3 i4 i5 i6 i7 i8 i42 i49 i51 i53 i54 i59 z13 z14 z15 (nI ez) i76 i78, (ma 43, .inl (y 0, 8, .inl g43)), (ma 45, .inl (y 0, 14, .inl g45)), (ma 46, .inl (y 0, 108, .inl g46)), (ma 48, .inl (y 0, 224, .inl g48)), (ma 50, .inl (y 0, 3200, .inl g50)), (ma 55, .inl (y 2, 16, .inl g55)), (ma 56, .inl (y 0, 16, .inl g56)), (ma 57, .inl (y 0, 16, .inl g57)), (ma 58, .inl (y 0, 16, .inl g58)), (ma 60, .inl (y 1, 1700, .inr (.inl z16))), (ma 62, .inl (y 0, 63, .inl nz)), (ma 63, .inl (y 0, 9, .inl z17)), (ma 65, .inl (y 0, 1890, .inl sz))]) rfl ?_
    refine j_lv (lv' := [(2, .int (nI iz)), (0, .ref mo), (1, .int (nI j2))]) rfl ?_
    refine j_iload_n (pc := 16) C d_Model_rest_16 rfl 0 rfl ?_
    refine j_iload_n (pc := 17) C d_Model_rest_17 rfl 2 rfl ?_
    by_cases c29 : j2 ≤ iz
    · refine j_icmp_geT (pc := 18) C (tgt := 48) d_Model_rest_18 (by decide) (show nI j2 ≤ nI iz from nI_le (by omega) (by omega)) ?_
      refine j_iload_n (pc := 48) C d_Model_rest_48 rfl 0 rfl ?_
      exact j_iret (pc := 49) C hr rfl (z13, z14, z15, ez, z16, nz, z17, sz) ⟨⟨qd, by omega, hn_⟩, (show ez < 30 by omega), hs_⟩ [0, 1, 2, 3, 4, 5, 6, 7, 8, 9, 10, 11, 12, 13] rfl (by decide) (by decide) (by decide) d_Model_rest_49
    · refine j_icmp_geF (pc := 18) C (tgt := 48) d_Model_rest_18 (by decide) (show ¬ nI j2 ≤ nI iz from nI_ge (by omega) (by omega)) ?_
      refine j_aload_n (pc := 21) C d_Model_rest_21 rfl 1 rfl ?_
      refine j_get (pc := 22) C gf_Model_158 0 rfl rfl d_Model_rest_22 ?_
      refine j_iconst (pc := 25) C (v := 0) d_Model_rest_25 (by decide) ?_
      refine j_iald (pc := 26) C 11 rfl (v := nI qd) (vin (by decide)) (by exact hn_) d_Model_rest_26 ?_
      refine j_sipush (pc := 27) C (v := 999) d_Model_rest_27 (by decide) ?_
      by_cases c30 : 999 ≤ qd
      · refine j_icmp_geT (pc := 30) C (tgt := 48) d_Model_rest_30 (by decide) (show nI 999 ≤ nI qd from nI_le (by omega) (by omega)) ?_
        refine j_iload_n (pc := 48) C d_Model_rest_48 rfl 0 rfl ?_
        exact j_iret (pc := 49) C hr rfl (z13, z14, z15, ez, z16, nz, z17, sz) ⟨⟨qd, by omega, hn_⟩, (show ez < 30 by omega), hs_⟩ [0, 1, 2, 3, 4, 5, 6, 7, 8, 9, 10, 11, 12, 13] rfl (by decide) (by decide) (by decide) d_Model_rest_49
      · refine j_icmp_geF (pc := 30) C (tgt := 48) d_Model_rest_30 (by decide) (show ¬ nI 999 ≤ nI qd from nI_ge (by omega) (by omega)) ?_
        refine j_aload_n (pc := 33) C d_Model_rest_33 rfl 1 rfl ?_
        refine j_callVv (pc := 34) C (c_M_keepsDay l D y mo ma t1 i2 i3 i4 i5 i6 i7 i8 i42 i49 i51 i53 i54 i59 z13 z14 z15 ez i76 i78 nz sz qd hn_ hq_ hs_ he_) kw_Model_482 kv_Model_keepsDay 0 10 rfl rfl ⟨by decide, by decide⟩ ⟨by decide, by decide⟩ (wr := [(ma 43, .inl (y 0, 8, .inl g43)), (ma 45, .inl (y 0, 14, .inl g45)), (ma 46, .inl (y 0, 108, .inl g46)), (ma 48, .inl (y 0, 224, .inl g48)), (ma 50, .inl (y 0, 3200, .inl g50)), (ma 55, .inl (y 2, 16, .inl g55)), (ma 56, .inl (y 0, 16, .inl g56)), (ma 57, .inl (y 0, 16, .inl g57)), (ma 58, .inl (y 0, 16, .inl g58)), (ma 60, .inl (y 1, 1700, .inr (.inl z16))), (ma 63, .inl (y 0, 9, .inl z17))]) [0, 11, 13] [1, 2, 3, 4, 5, 6, 7, 8, 9, 10, 12] rfl rfl (by decide) (by decide) (by decide) (As := []) (rest := []) rfl (nb rfl) rfl d_Model_rest_34 (fun u31 hu32 => ?_)
        obtain ⟨xh33, xh34⟩ := hu32
        refine j_ws (ws' := [(ma 43, .inl (y 0, 8, .inl g43)), (ma 45, .inl (y 0, 14, .inl g45)), (ma 46, .inl (y 0, 108, .inl g46)), (ma 48, .inl (y 0, 224, .inl g48)), (ma 50, .inl (y 0, 3200, .inl g50)), (ma 55, .inl (y 2, 16, .inl g55)), (ma 56, .inl (y 0, 16, .inl g56)), (ma 57, .inl (y 0, 16, .inl g57)), (ma 58, .inl (y 0, 16, .inl g58)), (ma 60, .inl (y 1, 1700, .inr (.inl z16))), (ma 63, .inl (y 0, 9, .inl z17)), MB mo ma (nI t1) i2 i3 i4 i5 i6 i7 i8 i42 i49 i51 i53 i54 i59 z13 z14 u31.1 (nI u31.2.1) i76 i78, (ma 62, .inl (y 0, 63, .inl nz)), (ma 65, .inl (y 0, 1890, .inl u31.2.2))]) rfl ?_
        refine j_aload_n (pc := 37) C d_Model_rest_37 rfl 1 rfl ?_
        refine j_iconst (pc := 38) C (v := 0) d_Model_rest_38 (by decide) ?_
        refine j_callVv (pc := 39) C (c_M_goesBy l D y mo ma t1 i2 i3 i4 i5 i6 i7 i8 i42 i49 i51 i53 i54 i59 z13 z14 u31.1 u31.2.1 i76 i78 g43 g45 g46 g48 g50 g55 g56 g57 g58 z16 nz z17 0 c0 c1 c2 c3 qd hc0 bc0 hc1 bc1 hc2 bc2 hc3 bc3 hL hS hTh hC hn_ (by omega)) kw_Model_488 kv_Model_goesBy 0 10 rfl rfl ⟨by decide, by decide⟩ ⟨by decide, by decide⟩ (wr := [(ma 65, .inl (y 0, 1890, .inl u31.2.2))]) [11, 0, 1, 2, 3, 4, 5, 6, 7, 8, 9, 12, 10] [13] rfl rfl (by decide) (by decide) (by decide) (As := [.int 0]) (rest := []) rfl (nb rfl) rfl d_Model_rest_39 (fun u35 hu36 => ?_)
        have xh37 := hu36
        refine j_ws (ws' := [(ma 65, .inl (y 0, 1890, .inl u31.2.2)), MB mo ma (nI t1) i2 i3 i4 i5 i6 i7 i8 i42 i49 i51 i53 i54 i59 u35.1 u35.2.1 u31.1 (nI u31.2.1) i76 i78, (ma 43, .inl (y 0, 8, .inl g43)), (ma 45, .inl (y 0, 14, .inl g45)), (ma 46, .inl (y 0, 108, .inl g46)), (ma 48, .inl (y 0, 224, .inl g48)), (ma 50, .inl (y 0, 3200, .inl g50)), (ma 55, .inl (y 2, 16, .inl g55)), (ma 56, .inl (y 0, 16, .inl g56)), (ma 57, .inl (y 0, 16, .inl g57)), (ma 58, .inl (y 0, 16, .inl g58)), (ma 60, .inl (y 1, 1700, .inr (.inl u35.2.2.1))), (ma 62, .inl (y 0, 63, .inl u35.2.2.2.1)), (ma 63, .inl (y 0, 9, .inl u35.2.2.2.2))]) rfl ?_
        refine j_iinc (pc := 42) C (v := nI (iz + 1)) (lv' := [(2, .int (nI (iz + 1))), (0, .ref mo), (1, .int (nI j2))]) d_Model_rest_42 0 rfl (nI_add _ _) (by decide) rfl ?_
        refine j_goto (pc := 45) C (tgt := 16) d_Model_rest_45 (by decide) ?_
        refine j_sub (ws' := [MB mo ma (nI t1) i2 i3 i4 i5 i6 i7 i8 i42 i49 i51 i53 i54 i59 u35.1 u35.2.1 u31.1 (nI u31.2.1) i76 i78, (ma 43, .inl (y 0, 8, .inl g43)), (ma 45, .inl (y 0, 14, .inl g45)), (ma 46, .inl (y 0, 108, .inl g46)), (ma 48, .inl (y 0, 224, .inl g48)), (ma 50, .inl (y 0, 3200, .inl g50)), (ma 55, .inl (y 2, 16, .inl g55)), (ma 56, .inl (y 0, 16, .inl g56)), (ma 57, .inl (y 0, 16, .inl g57)), (ma 58, .inl (y 0, 16, .inl g58)), (ma 60, .inl (y 1, 1700, .inr (.inl u35.2.2.1))), (ma 62, .inl (y 0, 63, .inl u35.2.2.2.1)), (ma 63, .inl (y 0, 9, .inl u35.2.2.2.2)), (ma 65, .inl (y 0, 1890, .inl u31.2.2))]) [1, 2, 3, 4, 5, 6, 7, 8, 9, 10, 11, 12, 13, 0] rfl (by decide) ?_
        exact ih28 ((iz + 1), u35.2.2.2.1, u31.2.1, u31.2.2, u35.1, u35.2.1, u31.1, u35.2.2.1, u35.2.2.2.2, (qd + 1)) ⟨(show (iz + 1) ≤ j2 by omega), xh37, (show (qd + 1) ≤ 999 by omega), xh33, xh34⟩ (show j2 - (iz + 1) < j2 - iz by omega)
theorem d_Model_isGate_0 : decode prog_13_method_74_code 0 = .ok (.iload_n 1, 1) := by decide +kernel
theorem d_Model_isGate_1 : decode prog_13_method_74_code 1 = .ok (.i2l, 1) := by decide +kernel
theorem d_Model_isGate_2 : decode prog_13_method_74_code 2 = .ok (.lconst 0, 1) := by decide +kernel
theorem d_Model_isGate_3 : decode prog_13_method_74_code 3 = .ok (.aload_n 0, 1) := by decide +kernel
theorem d_Model_isGate_4 : decode prog_13_method_74_code 4 = .ok (.invokevirtual 341, 3) := by decide +kernel
theorem d_Model_isGate_7 : decode prog_13_method_74_code 7 = .ok (.iconst 1, 1) := by decide +kernel
theorem d_Model_isGate_8 : decode prog_13_method_74_code 8 = .ok (.isub, 1) := by decide +kernel
theorem d_Model_isGate_9 : decode prog_13_method_74_code 9 = .ok (.i2l, 1) := by decide +kernel
theorem d_Model_isGate_10 : decode prog_13_method_74_code 10 = .ok (.invokestatic 240, 3) := by decide +kernel
theorem d_Model_isGate_13 : decode prog_13_method_74_code 13 = .ok (.ireturn, 1) := by decide +kernel
set_option maxHeartbeats 4000000 in
set_option maxRecDepth 100000 in
theorem c_M_isGate (l : Launch) (D : va_G) (y : Nat → ClassId) (mo : Nat) (ma : Nat → Nat) (t1 : Nat) (i2 : Int32) (i3 : Int32) (i4 : Int32) (i5 : Int32) (i6 : Int32) (i7 : Int32) (i8 : Int32) (i42 : Int32) (i49 : Int32) (i51 : Int32) (i53 : Int32) (i54 : Int32) (i59 : Int32) (i61 : Int32) (i64 : Int32) (i66 : Int32) (t67 : Nat) (i76 : Int64) (i78 : Int32) (g43 : Nat → Int32) (v : Int32) (c0 : Nat) (hc0 : g43 4 = nI c0) (bc0 : c0 ≤ 9) : CT l D y ⟨"NineBoardsModel", "isGate", "(I)Z"⟩ prog_13_method_74_code 2 (some .boolean) ({ frames := 1, cells := 0, slots := 0, locals := 25 } : Room) [.ref mo, .int v] [MB mo ma (nI t1) i2 i3 i4 i5 i6 i7 i8 i42 i49 i51 i53 i54 i59 i61 i64 i66 (nI t67) i76 i78, (ma 43, .inl (y 0, 8, .inl g43))] (QI D [MB mo ma (nI t1) i2 i3 i4 i5 i6 i7 i8 i42 i49 i51 i53 i54 i59 i61 i64 i66 (nI t67) i76 i78, (ma 43, .inl (y 0, 8, .inl g43))] (fun (r : Int32) (u : Unit) => (r = 0 ∨ (r = 1 ∧ ∃ j : Nat, j < c0 ∧ v = nI j))) (fun _ => [MB mo ma (nI t1) i2 i3 i4 i5 i6 i7 i8 i42 i49 i51 i53 i54 i59 i61 i64 i66 (nI t67) i76 i78, (ma 43, .inl (y 0, 8, .inl g43))])) := by
  refine CT.of (by decide) (nb rfl) ?_
  intro p e s m args below meth c C hr
  refine j_lv (lv' := [(0, .ref mo), (1, .int v)]) rfl ?_
  refine j_iload_n (pc := 0) C d_Model_isGate_0 rfl 1 rfl ?_
  refine j_i2l (pc := 1) C (v := v.toInt64) d_Model_isGate_1 rfl ?_
  refine j_lconst (pc := 2) C (v := 0) d_Model_isGate_2 (by decide) ?_
  refine j_aload_n (pc := 3) C d_Model_isGate_3 rfl 0 rfl ?_
  refine j_callVi (pc := 4) C (c_M_gateMany l D y mo ma t1 i2 i3 i4 i5 i6 i7 i8 i42 i49 i51 i53 i54 i59 i61 i64 i66 t67 i76 i78 g43 c0 hc0 bc0) kw_Model_341 kv_Model_gateMany 0 10 rfl rfl ⟨by decide, by decide⟩ ⟨by decide, by decide⟩ (wr := []) [0, 1] [] rfl rfl (by decide) (by decide) (by decide) (As := []) (rest := [.long 0, .long v.toInt64]) rfl (nb rfl) rfl d_Model_isGate_4 (fun r1 _ hr1 => ?_)
  obtain rfl := hr1
  refine j_ws (ws' := [MB mo ma (nI t1) i2 i3 i4 i5 i6 i7 i8 i42 i49 i51 i53 i54 i59 i61 i64 i66 (nI t67) i76 i78, (ma 43, .inl (y 0, 8, .inl g43))]) rfl ?_
  refine j_iconst (pc := 7) C (v := 1) d_Model_isGate_7 (by decide) ?_
  refine j_isub (pc := 8) C (v := nI c0 - 1) d_Model_isGate_8 rfl ?_
  refine j_i2l (pc := 9) C (v := (nI c0 - 1).toInt64) d_Model_isGate_9 rfl ?_
  refine j_callSi (pc := 10) C (c_isIn_ix l D y v c0 (by omega)) kw_Model_240 ks_Model_isIn ⟨by decide, by decide⟩ ⟨by decide, by decide⟩ (wr := [MB mo ma (nI t1) i2 i3 i4 i5 i6 i7 i8 i42 i49 i51 i53 i54 i59 i61 i64 i66 (nI t67) i76 i78, (ma 43, .inl (y 0, 8, .inl g43))]) [] [0, 1] rfl rfl (by decide) (by decide) (by decide) (As := [.long v.toInt64, .long 0, .long ((nI c0 - 1).toInt64)]) (rest := []) rfl (nb rfl) rfl d_Model_isGate_10 (fun r2 _ hr2 => ?_)
  refine j_ws (ws' := [MB mo ma (nI t1) i2 i3 i4 i5 i6 i7 i8 i42 i49 i51 i53 i54 i59 i61 i64 i66 (nI t67) i76 i78, (ma 43, .inl (y 0, 8, .inl g43))]) rfl ?_
  rcases hr2 with rfl | ⟨rfl, j3, xh4, rfl⟩
  · exact j_iret (pc := 13) C hr (by decide) () (Or.inl rfl) [0, 1] rfl (by decide) (by decide) (by decide) d_Model_isGate_13
  · exact j_iret (pc := 13) C hr (by decide) () (Or.inr ⟨rfl, j3, xh4, rfl⟩) [0, 1] rfl (by decide) (by decide) (by decide) d_Model_isGate_13
theorem d_Model_isVillage_0 : decode prog_13_method_75_code 0 = .ok (.iload_n 1, 1) := by decide +kernel
theorem d_Model_isVillage_1 : decode prog_13_method_75_code 1 = .ok (.i2l, 1) := by decide +kernel
theorem d_Model_isVillage_2 : decode prog_13_method_75_code 2 = .ok (.lconst 0, 1) := by decide +kernel
theorem d_Model_isVillage_3 : decode prog_13_method_75_code 3 = .ok (.aload_n 0, 1) := by decide +kernel
theorem d_Model_isVillage_4 : decode prog_13_method_75_code 4 = .ok (.invokevirtual 448, 3) := by decide +kernel
theorem d_Model_isVillage_7 : decode prog_13_method_75_code 7 = .ok (.iconst 1, 1) := by decide +kernel
theorem d_Model_isVillage_8 : decode prog_13_method_75_code 8 = .ok (.isub, 1) := by decide +kernel
theorem d_Model_isVillage_9 : decode prog_13_method_75_code 9 = .ok (.i2l, 1) := by decide +kernel
theorem d_Model_isVillage_10 : decode prog_13_method_75_code 10 = .ok (.invokestatic 240, 3) := by decide +kernel
theorem d_Model_isVillage_13 : decode prog_13_method_75_code 13 = .ok (.ireturn, 1) := by decide +kernel
set_option maxHeartbeats 4000000 in
set_option maxRecDepth 100000 in
theorem c_M_isVillage (l : Launch) (D : va_G) (y : Nat → ClassId) (mo : Nat) (ma : Nat → Nat) (t1 : Nat) (i2 : Int32) (i3 : Int32) (i4 : Int32) (i5 : Int32) (i6 : Int32) (i7 : Int32) (i8 : Int32) (i42 : Int32) (i49 : Int32) (i51 : Int32) (i53 : Int32) (i54 : Int32) (i59 : Int32) (i61 : Int32) (i64 : Int32) (i66 : Int32) (t67 : Nat) (i76 : Int64) (i78 : Int32) (g43 : Nat → Int32) (v : Int32) (c1 : Nat) (hc1 : g43 5 = nI c1) (bc1 : c1 ≤ 6) : CT l D y ⟨"NineBoardsModel", "isVillage", "(I)Z"⟩ prog_13_method_75_code 2 (some .boolean) ({ frames := 1, cells := 0, slots := 0, locals := 25 } : Room) [.ref mo, .int v] [MB mo ma (nI t1) i2 i3 i4 i5 i6 i7 i8 i42 i49 i51 i53 i54 i59 i61 i64 i66 (nI t67) i76 i78, (ma 43, .inl (y 0, 8, .inl g43))] (QI D [MB mo ma (nI t1) i2 i3 i4 i5 i6 i7 i8 i42 i49 i51 i53 i54 i59 i61 i64 i66 (nI t67) i76 i78, (ma 43, .inl (y 0, 8, .inl g43))] (fun (r : Int32) (u : Unit) => (r = 0 ∨ (r = 1 ∧ ∃ j : Nat, j < c1 ∧ v = nI j))) (fun _ => [MB mo ma (nI t1) i2 i3 i4 i5 i6 i7 i8 i42 i49 i51 i53 i54 i59 i61 i64 i66 (nI t67) i76 i78, (ma 43, .inl (y 0, 8, .inl g43))])) := by
  refine CT.of (by decide) (nb rfl) ?_
  intro p e s m args below meth c C hr
  refine j_lv (lv' := [(0, .ref mo), (1, .int v)]) rfl ?_
  refine j_iload_n (pc := 0) C d_Model_isVillage_0 rfl 1 rfl ?_
  refine j_i2l (pc := 1) C (v := v.toInt64) d_Model_isVillage_1 rfl ?_
  refine j_lconst (pc := 2) C (v := 0) d_Model_isVillage_2 (by decide) ?_
  refine j_aload_n (pc := 3) C d_Model_isVillage_3 rfl 0 rfl ?_
  refine j_callVi (pc := 4) C (c_M_villages l D y mo ma t1 i2 i3 i4 i5 i6 i7 i8 i42 i49 i51 i53 i54 i59 i61 i64 i66 t67 i76 i78 g43 c1 hc1 bc1) kw_Model_448 kv_Model_villages 0 10 rfl rfl ⟨by decide, by decide⟩ ⟨by decide, by decide⟩ (wr := []) [0, 1] [] rfl rfl (by decide) (by decide) (by decide) (As := []) (rest := [.long 0, .long v.toInt64]) rfl (nb rfl) rfl d_Model_isVillage_4 (fun r1 _ hr1 => ?_)
  obtain rfl := hr1
  refine j_ws (ws' := [MB mo ma (nI t1) i2 i3 i4 i5 i6 i7 i8 i42 i49 i51 i53 i54 i59 i61 i64 i66 (nI t67) i76 i78, (ma 43, .inl (y 0, 8, .inl g43))]) rfl ?_
  refine j_iconst (pc := 7) C (v := 1) d_Model_isVillage_7 (by decide) ?_
  refine j_isub (pc := 8) C (v := nI c1 - 1) d_Model_isVillage_8 rfl ?_
  refine j_i2l (pc := 9) C (v := (nI c1 - 1).toInt64) d_Model_isVillage_9 rfl ?_
  refine j_callSi (pc := 10) C (c_isIn_ix l D y v c1 (by omega)) kw_Model_240 ks_Model_isIn ⟨by decide, by decide⟩ ⟨by decide, by decide⟩ (wr := [MB mo ma (nI t1) i2 i3 i4 i5 i6 i7 i8 i42 i49 i51 i53 i54 i59 i61 i64 i66 (nI t67) i76 i78, (ma 43, .inl (y 0, 8, .inl g43))]) [] [0, 1] rfl rfl (by decide) (by decide) (by decide) (As := [.long v.toInt64, .long 0, .long ((nI c1 - 1).toInt64)]) (rest := []) rfl (nb rfl) rfl d_Model_isVillage_10 (fun r2 _ hr2 => ?_)
  refine j_ws (ws' := [MB mo ma (nI t1) i2 i3 i4 i5 i6 i7 i8 i42 i49 i51 i53 i54 i59 i61 i64 i66 (nI t67) i76 i78, (ma 43, .inl (y 0, 8, .inl g43))]) rfl ?_
  rcases hr2 with rfl | ⟨rfl, j3, xh4, rfl⟩
  · exact j_iret (pc := 13) C hr (by decide) () (Or.inl rfl) [0, 1] rfl (by decide) (by decide) (by decide) d_Model_isVillage_13
  · exact j_iret (pc := 13) C hr (by decide) () (Or.inr ⟨rfl, j3, xh4, rfl⟩) [0, 1] rfl (by decide) (by decide) (by decide) d_Model_isVillage_13
theorem d_Model_isThing_0 : decode prog_13_method_102_code 0 = .ok (.iload_n 1, 1) := by decide +kernel
theorem d_Model_isThing_1 : decode prog_13_method_102_code 1 = .ok (.i2l, 1) := by decide +kernel
theorem d_Model_isThing_2 : decode prog_13_method_102_code 2 = .ok (.lconst 0, 1) := by decide +kernel
theorem d_Model_isThing_3 : decode prog_13_method_102_code 3 = .ok (.aload_n 0, 1) := by decide +kernel
theorem d_Model_isThing_4 : decode prog_13_method_102_code 4 = .ok (.getfield 117, 3) := by decide +kernel
theorem d_Model_isThing_7 : decode prog_13_method_102_code 7 = .ok (.bipush 6, 2) := by decide +kernel
theorem d_Model_isThing_9 : decode prog_13_method_102_code 9 = .ok (.iaload, 1) := by decide +kernel
theorem d_Model_isThing_10 : decode prog_13_method_102_code 10 = .ok (.iconst 1, 1) := by decide +kernel
theorem d_Model_isThing_11 : decode prog_13_method_102_code 11 = .ok (.isub, 1) := by decide +kernel
theorem d_Model_isThing_12 : decode prog_13_method_102_code 12 = .ok (.i2l, 1) := by decide +kernel
theorem d_Model_isThing_13 : decode prog_13_method_102_code 13 = .ok (.invokestatic 240, 3) := by decide +kernel
theorem d_Model_isThing_16 : decode prog_13_method_102_code 16 = .ok (.ireturn, 1) := by decide +kernel
set_option maxHeartbeats 4000000 in
set_option maxRecDepth 100000 in
theorem c_M_isThing (l : Launch) (D : va_G) (y : Nat → ClassId) (mo : Nat) (ma : Nat → Nat) (t1 : Nat) (i2 : Int32) (i3 : Int32) (i4 : Int32) (i5 : Int32) (i6 : Int32) (i7 : Int32) (i8 : Int32) (i42 : Int32) (i49 : Int32) (i51 : Int32) (i53 : Int32) (i54 : Int32) (i59 : Int32) (i61 : Int32) (i64 : Int32) (i66 : Int32) (t67 : Nat) (i76 : Int64) (i78 : Int32) (g43 : Nat → Int32) (v : Int32) (c2 : Nat) (hc2 : g43 6 = nI c2) (bc2 : c2 ≤ 16) : CT l D y ⟨"NineBoardsModel", "isThing", "(I)Z"⟩ prog_13_method_102_code 2 (some .boolean) ({ frames := 1, cells := 0, slots := 0, locals := 25 } : Room) [.ref mo, .int v] [MB mo ma (nI t1) i2 i3 i4 i5 i6 i7 i8 i42 i49 i51 i53 i54 i59 i61 i64 i66 (nI t67) i76 i78, (ma 43, .inl (y 0, 8, .inl g43))] (QI D [MB mo ma (nI t1) i2 i3 i4 i5 i6 i7 i8 i42 i49 i51 i53 i54 i59 i61 i64 i66 (nI t67) i76 i78, (ma 43, .inl (y 0, 8, .inl g43))] (fun (r : Int32) (u : Unit) => (r = 0 ∨ (r = 1 ∧ ∃ j : Nat, j < c2 ∧ v = nI j))) (fun _ => [MB mo ma (nI t1) i2 i3 i4 i5 i6 i7 i8 i42 i49 i51 i53 i54 i59 i61 i64 i66 (nI t67) i76 i78, (ma 43, .inl (y 0, 8, .inl g43))])) := by
  refine CT.of (by decide) (nb rfl) ?_
  intro p e s m args below meth c C hr
  refine j_lv (lv' := [(0, .ref mo), (1, .int v)]) rfl ?_
  refine j_iload_n (pc := 0) C d_Model_isThing_0 rfl 1 rfl ?_
  refine j_i2l (pc := 1) C (v := v.toInt64) d_Model_isThing_1 rfl ?_
  refine j_lconst (pc := 2) C (v := 0) d_Model_isThing_2 (by decide) ?_
  refine j_aload_n (pc := 3) C d_Model_isThing_3 rfl 0 rfl ?_
  refine j_get (pc := 4) C gf_Model_117 0 rfl rfl d_Model_isThing_4 ?_
  refine j_bipush (pc := 7) C (v := 6) d_Model_isThing_7 (by decide) ?_
  refine j_iald (pc := 9) C 1 rfl (v := nI c2) (vin (by decide)) (by exact hc2) d_Model_isThing_9 ?_
  refine j_iconst (pc := 10) C (v := 1) d_Model_isThing_10 (by decide) ?_
  refine j_isub (pc := 11) C (v := nI c2 - 1) d_Model_isThing_11 rfl ?_
  refine j_i2l (pc := 12) C (v := (nI c2 - 1).toInt64) d_Model_isThing_12 rfl ?_
  refine j_callSi (pc := 13) C (c_isIn_ix l D y v c2 (by omega)) kw_Model_240 ks_Model_isIn ⟨by decide, by decide⟩ ⟨by decide, by decide⟩ (wr := [MB mo ma (nI t1) i2 i3 i4 i5 i6 i7 i8 i42 i49 i51 i53 i54 i59 i61 i64 i66 (nI t67) i76 i78, (ma 43, .inl (y 0, 8, .inl g43))]) [] [0, 1] rfl rfl (by decide) (by decide) (by decide) (As := [.long v.toInt64, .long 0, .long ((nI c2 - 1).toInt64)]) (rest := []) rfl (nb rfl) rfl d_Model_isThing_13 (fun r1 _ hr1 => ?_)
  refine j_ws (ws' := [MB mo ma (nI t1) i2 i3 i4 i5 i6 i7 i8 i42 i49 i51 i53 i54 i59 i61 i64 i66 (nI t67) i76 i78, (ma 43, .inl (y 0, 8, .inl g43))]) rfl ?_
  rcases hr1 with rfl | ⟨rfl, j2, xh3, rfl⟩
  · exact j_iret (pc := 16) C hr (by decide) () (Or.inl rfl) [0, 1] rfl (by decide) (by decide) (by decide) d_Model_isThing_16
  · exact j_iret (pc := 16) C hr (by decide) () (Or.inr ⟨rfl, j2, xh3, rfl⟩) [0, 1] rfl (by decide) (by decide) (by decide) d_Model_isThing_16
